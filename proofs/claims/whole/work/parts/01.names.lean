def RX0 : String := "ForgottenFeast$Dawn"
def TX0 : u_T := fun k => match k with
  | 0 => ("ForgottenFeast$Dawn", "year", "I", false)
  | 1 => ("ForgottenFeast$Dawn", "day", "I", false)
  | 2 => ("ForgottenFeast$Dawn", "feastSoFar", "I", false)
  | 3 => ("ForgottenFeast$Dawn", "awake", "I", false)
  | 4 => ("ForgottenFeast$Dawn", "ofThemselves", "I", false)
  | 5 => ("ForgottenFeast$Dawn", "thinkers", "I", false)
  | 6 => ("ForgottenFeast$Dawn", "isFeast", "Z", false)
  | 7 => ("ForgottenFeast$Dawn", "coming", "Z", false)
  | 8 => ("ForgottenFeast$Dawn", "town", "LForgottenFeast$Town;", false)
  | 9 => ("ForgottenFeast$Dawn", "life", "LForgottenFeast$Life;", false)
  | 10 => ("ForgottenFeast$Dawn", "parts", "[I", true)
  | 11 => ("ForgottenFeast$Dawn", "stack", "[I", true)
  | 12 => ("ForgottenFeast$Dawn", "tried", "[I", true)
  | _ => ("ForgottenFeast$Dawn", "heard", "[I", true)
def tyX0 : Nat → FieldType := fun k => match k with
  | 0 => .int
  | 1 => .int
  | 2 => .int
  | 3 => .int
  | 4 => .int
  | 5 => .int
  | 6 => .boolean
  | 7 => .boolean
  | 8 => .object "ForgottenFeast$Town"
  | 9 => .object "ForgottenFeast$Life"
  | 10 => .array .int
  | 11 => .array .int
  | 12 => .array .int
  | _ => .array .int
theorem nmX0 : ∀ a, a < 14 → ∀ b, b < 14 → a ≠ b → (TX0 a).2.1 ≠ (TX0 b).2.1 := by decide +kernel
theorem tyX0_ok : ∀ k, k < 14 → parseFieldDescriptor (TX0 k).2.2.1 = some (tyX0 k) := by decide +kernel
abbrev cX0_init : ByteArray := prog_2_method_1_code
def yX0_init : MethodName := ⟨RX0, "<init>", "(LForgottenFeast$Town;LForgottenFeast$Life;)V"⟩
abbrev cX0_lookAt : ByteArray := prog_2_method_2_code
def yX0_lookAt : MethodName := ⟨RX0, "lookAt", "(LForgottenFeast$Town;LForgottenFeast$Life;)Z"⟩
abbrev cX0_settle : ByteArray := prog_2_method_3_code
def yX0_settle : MethodName := ⟨RX0, "settle", "()V"⟩
abbrev cX0_ofThemselves : ByteArray := prog_2_method_4_code
def yX0_ofThemselves : MethodName := ⟨RX0, "ofThemselves", "(II)I"⟩
abbrev cX0_spread : ByteArray := prog_2_method_5_code
def yX0_spread : MethodName := ⟨RX0, "spread", "(II)I"⟩
abbrev cX0_wouldHear : ByteArray := prog_2_method_6_code
def yX0_wouldHear : MethodName := ⟨RX0, "wouldHear", "(II)Z"⟩
abbrev cX0_setPerson : ByteArray := prog_2_method_7_code
def yX0_setPerson : MethodName := ⟨RX0, "setPerson", "(II)V"⟩
abbrev cX0_valueFor : ByteArray := prog_2_method_8_code
def yX0_valueFor : MethodName := ⟨RX0, "valueFor", "(LForgottenFeast$Rule;LForgottenFeast$Life;I)I"⟩
def RX1 : String := "ForgottenFeast$Life"
def TX1 : u_T := fun k => match k with
  | 0 => ("ForgottenFeast$Life", "year", "I", false)
  | 1 => ("ForgottenFeast$Life", "day", "I", false)
  | 2 => ("ForgottenFeast$Life", "feast", "I", false)
  | 3 => ("ForgottenFeast$Life", "coins", "I", false)
  | 4 => ("ForgottenFeast$Life", "dead", "I", false)
  | 5 => ("ForgottenFeast$Life", "ago", "[I", true)
  | 6 => ("ForgottenFeast$Life", "told", "[I", true)
  | 7 => ("ForgottenFeast$Life", "bribed", "[I", true)
  | 8 => ("ForgottenFeast$Life", "rows", "[I", true)
  | 9 => ("ForgottenFeast$Life", "rowFrom", "I", false)
  | _ => ("ForgottenFeast$Life", "rowCount", "I", false)
def tyX1 : Nat → FieldType := fun k => match k with
  | 0 => .int
  | 1 => .int
  | 2 => .int
  | 3 => .int
  | 4 => .int
  | 5 => .array .int
  | 6 => .array .int
  | 7 => .array .int
  | 8 => .array .int
  | 9 => .int
  | _ => .int
theorem nmX1 : ∀ a, a < 11 → ∀ b, b < 11 → a ≠ b → (TX1 a).2.1 ≠ (TX1 b).2.1 := by decide +kernel
theorem tyX1_ok : ∀ k, k < 11 → parseFieldDescriptor (TX1 k).2.2.1 = some (tyX1 k) := by decide +kernel
abbrev cX1_init : ByteArray := prog_3_method_1_code
def yX1_init : MethodName := ⟨RX1, "<init>", "()V"⟩
abbrev cX1_begin : ByteArray := prog_3_method_2_code
def yX1_begin : MethodName := ⟨RX1, "begin", "(LForgottenFeast$Town;)V"⟩
abbrev cX1_copyFrom : ByteArray := prog_3_method_3_code
def yX1_copyFrom : MethodName := ⟨RX1, "copyFrom", "(LForgottenFeast$Life;)V"⟩
abbrev cX1_toldOn : ByteArray := prog_3_method_4_code
def yX1_toldOn : MethodName := ⟨RX1, "toldOn", "(I)I"⟩
abbrev cX1_daysLeft : ByteArray := prog_3_method_5_code
def yX1_daysLeft : MethodName := ⟨RX1, "daysLeft", "(LForgottenFeast$Town;)I"⟩
abbrev cX1_addRow : ByteArray := prog_3_method_6_code
def yX1_addRow : MethodName := ⟨RX1, "addRow", "(IZ)V"⟩
abbrev cX1_rowAt : ByteArray := prog_3_method_7_code
def yX1_rowAt : MethodName := ⟨RX1, "rowAt", "(I)I"⟩
abbrev cX1_rowYear : ByteArray := prog_3_method_8_code
def yX1_rowYear : MethodName := ⟨RX1, "rowYear", "(I)I"⟩
abbrev cX1_rowDay : ByteArray := prog_3_method_9_code
def yX1_rowDay : MethodName := ⟨RX1, "rowDay", "(I)I"⟩
abbrev cX1_rowThinkers : ByteArray := prog_3_method_10_code
def yX1_rowThinkers : MethodName := ⟨RX1, "rowThinkers", "(I)I"⟩
abbrev cX1_rowFeast : ByteArray := prog_3_method_11_code
def yX1_rowFeast : MethodName := ⟨RX1, "rowFeast", "(I)I"⟩
def RX2 : String := "ForgottenFeast$Past"
def TX2 : u_T := fun k => match k with
  | 0 => ("ForgottenFeast$Past", "lives", "[LForgottenFeast$Life;", true)
  | 1 => ("ForgottenFeast$Past", "from", "I", false)
  | _ => ("ForgottenFeast$Past", "count", "I", false)
def tyX2 : Nat → FieldType := fun k => match k with
  | 0 => .array (.object "ForgottenFeast$Life")
  | 1 => .int
  | _ => .int
theorem nmX2 : ∀ a, a < 3 → ∀ b, b < 3 → a ≠ b → (TX2 a).2.1 ≠ (TX2 b).2.1 := by decide +kernel
theorem tyX2_ok : ∀ k, k < 3 → parseFieldDescriptor (TX2 k).2.2.1 = some (tyX2 k) := by decide +kernel
abbrev cX2_init : ByteArray := prog_4_method_1_code
def yX2_init : MethodName := ⟨RX2, "<init>", "()V"⟩
abbrev cX2_forget : ByteArray := prog_4_method_2_code
def yX2_forget : MethodName := ⟨RX2, "forget", "()V"⟩
abbrev cX2_remember : ByteArray := prog_4_method_3_code
def yX2_remember : MethodName := ⟨RX2, "remember", "(LForgottenFeast$Life;)V"⟩
abbrev cX2_bringBack : ByteArray := prog_4_method_4_code
def yX2_bringBack : MethodName := ⟨RX2, "bringBack", "(LForgottenFeast$Life;)V"⟩
def RX3 : String := "ForgottenFeast$Picture"
def TX3 : u_T := fun k => match k with
  | 0 => ("ForgottenFeast$Picture", "bytes", "[I", true)
  | _ => ("ForgottenFeast$Picture", "size", "I", false)
def tyX3 : Nat → FieldType := fun k => match k with
  | 0 => .array .int
  | _ => .int
theorem nmX3 : ∀ a, a < 2 → ∀ b, b < 2 → a ≠ b → (TX3 a).2.1 ≠ (TX3 b).2.1 := by decide +kernel
theorem tyX3_ok : ∀ k, k < 2 → parseFieldDescriptor (TX3 k).2.2.1 = some (tyX3 k) := by decide +kernel
abbrev cX3_init : ByteArray := prog_5_method_1_code
def yX3_init : MethodName := ⟨RX3, "<init>", "()V"⟩
abbrev cX3_paint : ByteArray := prog_5_method_2_code
def yX3_paint : MethodName := ⟨RX3, "paint", "(LForgottenFeast$Town;LForgottenFeast$Life;)V"⟩
abbrev cX3_add : ByteArray := prog_5_method_3_code
def yX3_add : MethodName := ⟨RX3, "add", "(I)V"⟩
abbrev cX3_addList : ByteArray := prog_5_method_4_code
def yX3_addList : MethodName := ⟨RX3, "addList", "([I)V"⟩
abbrev cX3_checkOf : ByteArray := prog_5_method_5_code
def yX3_checkOf : MethodName := ⟨RX3, "checkOf", "([II)I"⟩
abbrev cX3_readInto : ByteArray := prog_5_method_6_code
def yX3_readInto : MethodName := ⟨RX3, "readInto", "(LForgottenFeast$Tape;LForgottenFeast$Town;LForgottenFeast$Life;)Z"⟩
abbrev cX3_readHead : ByteArray := prog_5_method_7_code
def yX3_readHead : MethodName := ⟨RX3, "readHead", "([ILForgottenFeast$Town;LForgottenFeast$Life;)Z"⟩
abbrev cX3_readPeople : ByteArray := prog_5_method_8_code
def yX3_readPeople : MethodName := ⟨RX3, "readPeople", "([ILForgottenFeast$Town;LForgottenFeast$Life;)Z"⟩
abbrev cX3_readList : ByteArray := prog_5_method_9_code
def yX3_readList : MethodName := ⟨RX3, "readList", "(LForgottenFeast$Tape;ILForgottenFeast$Town;[II)I"⟩
def RX4 : String := "ForgottenFeast$Reader"
def TX4 : u_T := fun k => match k with
  | 0 => ("ForgottenFeast$Reader", "tokens", "LForgottenFeast$Tokens;", true)
  | 1 => ("ForgottenFeast$Reader", "rule", "LForgottenFeast$Rule;", true)
  | 2 => ("ForgottenFeast$Reader", "town", "LForgottenFeast$Town;", false)
  | 3 => ("ForgottenFeast$Reader", "at", "I", false)
  | 4 => ("ForgottenFeast$Reader", "kind", "I", false)
  | 5 => ("ForgottenFeast$Reader", "spot", "I", false)
  | 6 => ("ForgottenFeast$Reader", "value", "I", false)
  | 7 => ("ForgottenFeast$Reader", "opened", "I", false)
  | 8 => ("ForgottenFeast$Reader", "fault", "I", false)
  | 9 => ("ForgottenFeast$Reader", "place", "I", false)
  | 10 => ("ForgottenFeast$Reader", "asked", "I", false)
  | 11 => ("ForgottenFeast$Reader", "asking", "Z", false)
  | _ => ("ForgottenFeast$Reader", "hearing", "Z", false)
def tyX4 : Nat → FieldType := fun k => match k with
  | 0 => .object "ForgottenFeast$Tokens"
  | 1 => .object "ForgottenFeast$Rule"
  | 2 => .object "ForgottenFeast$Town"
  | 3 => .int
  | 4 => .int
  | 5 => .int
  | 6 => .int
  | 7 => .int
  | 8 => .int
  | 9 => .int
  | 10 => .int
  | 11 => .boolean
  | _ => .boolean
theorem nmX4 : ∀ a, a < 13 → ∀ b, b < 13 → a ≠ b → (TX4 a).2.1 ≠ (TX4 b).2.1 := by decide +kernel
theorem tyX4_ok : ∀ k, k < 13 → parseFieldDescriptor (TX4 k).2.2.1 = some (tyX4 k) := by decide +kernel
abbrev cX4_init : ByteArray := prog_6_method_1_code
def yX4_init : MethodName := ⟨RX4, "<init>", "(LForgottenFeast$Tape;LForgottenFeast$Town;)V"⟩
abbrev cX4_readTown : ByteArray := prog_6_method_2_code
def yX4_readTown : MethodName := ⟨RX4, "readTown", "(LForgottenFeast$Town;)Z"⟩
abbrev cX4_readQuestion : ByteArray := prog_6_method_3_code
def yX4_readQuestion : MethodName := ⟨RX4, "readQuestion", "()Z"⟩
abbrev cX4_begin : ByteArray := prog_6_method_4_code
def yX4_begin : MethodName := ⟨RX4, "begin", "()V"⟩
abbrev cX4_pass : ByteArray := prog_6_method_5_code
def yX4_pass : MethodName := ⟨RX4, "pass", "(ZI)V"⟩
abbrev cX4_fail : ByteArray := prog_6_method_6_code
def yX4_fail : MethodName := ⟨RX4, "fail", "(II)V"⟩
abbrev cX4_readStatement : ByteArray := prog_6_method_7_code
def yX4_readStatement : MethodName := ⟨RX4, "readStatement", "()V"⟩
abbrev cX4_readPerson : ByteArray := prog_6_method_8_code
def yX4_readPerson : MethodName := ⟨RX4, "readPerson", "()V"⟩
abbrev cX4_readTold : ByteArray := prog_6_method_9_code
def yX4_readTold : MethodName := ⟨RX4, "readTold", "()V"⟩
abbrev cX4_readReminds : ByteArray := prog_6_method_10_code
def yX4_readReminds : MethodName := ⟨RX4, "readReminds", "()V"⟩
abbrev cX4_readFrost : ByteArray := prog_6_method_11_code
def yX4_readFrost : MethodName := ⟨RX4, "readFrost", "()V"⟩
abbrev cX4_readNumber : ByteArray := prog_6_method_12_code
def yX4_readNumber : MethodName := ⟨RX4, "readNumber", "(II)I"⟩
abbrev cX4_readName : ByteArray := prog_6_method_13_code
def yX4_readName : MethodName := ⟨RX4, "readName", "(Z)V"⟩
abbrev cX4_open : ByteArray := prog_6_method_14_code
def yX4_open : MethodName := ⟨RX4, "open", "()Z"⟩
abbrev cX4_readTest : ByteArray := prog_6_method_15_code
def yX4_readTest : MethodName := ⟨RX4, "readTest", "()V"⟩
abbrev cX4_readFact : ByteArray := prog_6_method_16_code
def yX4_readFact : MethodName := ⟨RX4, "readFact", "()V"⟩
abbrev cX4_readSum : ByteArray := prog_6_method_17_code
def yX4_readSum : MethodName := ⟨RX4, "readSum", "()V"⟩
abbrev cX4_isSumSign : ByteArray := prog_6_method_18_code
def yX4_isSumSign : MethodName := ⟨RX4, "isSumSign", "(I)Z"⟩
abbrev cX4_readPart : ByteArray := prog_6_method_19_code
def yX4_readPart : MethodName := ⟨RX4, "readPart", "()V"⟩
abbrev cX4_readSumsInside : ByteArray := prog_6_method_20_code
def yX4_readSumsInside : MethodName := ⟨RX4, "readSumsInside", "(Z)V"⟩
abbrev cX4_isPartWord : ByteArray := prog_6_method_21_code
def yX4_isPartWord : MethodName := ⟨RX4, "isPartWord", "(I)Z"⟩
def RX5 : String := "ForgottenFeast$Rule"
def TX5 : u_T := fun k => match k with
  | 0 => ("ForgottenFeast$Rule", "codes", "[I", false)
  | _ => ("ForgottenFeast$Rule", "size", "I", false)
def tyX5 : Nat → FieldType := fun k => match k with
  | 0 => .array .int
  | _ => .int
theorem nmX5 : ∀ a, a < 2 → ∀ b, b < 2 → a ≠ b → (TX5 a).2.1 ≠ (TX5 b).2.1 := by decide +kernel
theorem tyX5_ok : ∀ k, k < 2 → parseFieldDescriptor (TX5 k).2.2.1 = some (tyX5 k) := by decide +kernel
abbrev cX5_init : ByteArray := prog_7_method_1_code
def yX5_init : MethodName := ⟨RX5, "<init>", "(I)V"⟩
abbrev cX5_add : ByteArray := prog_7_method_2_code
def yX5_add : MethodName := ⟨RX5, "add", "(I)V"⟩
abbrev cX5_copyFrom : ByteArray := prog_7_method_3_code
def yX5_copyFrom : MethodName := ⟨RX5, "copyFrom", "(LForgottenFeast$Rule;)V"⟩
abbrev cX5_valueOf : ByteArray := prog_7_method_4_code
def yX5_valueOf : MethodName := ⟨RX5, "valueOf", "([I[I)I"⟩
abbrev cX5_partAt : ByteArray := prog_7_method_5_code
def yX5_partAt : MethodName := ⟨RX5, "partAt", "([II)I"⟩
abbrev cX5_isRemindedBy : ByteArray := prog_7_method_6_code
def yX5_isRemindedBy : MethodName := ⟨RX5, "isRemindedBy", "(I[I)I"⟩
abbrev cX5_pairUp : ByteArray := prog_7_method_7_code
def yX5_pairUp : MethodName := ⟨RX5, "pairUp", "(III)I"⟩
def RX6 : String := "ForgottenFeast$Tape"
def TX6 : u_T := fun k => match k with
  | 0 => ("ForgottenFeast$Tape", "bytes", "[I", true)
  | _ => ("ForgottenFeast$Tape", "length", "I", false)
def tyX6 : Nat → FieldType := fun k => match k with
  | 0 => .array .int
  | _ => .int
theorem nmX6 : ∀ a, a < 2 → ∀ b, b < 2 → a ≠ b → (TX6 a).2.1 ≠ (TX6 b).2.1 := by decide +kernel
theorem tyX6_ok : ∀ k, k < 2 → parseFieldDescriptor (TX6 k).2.2.1 = some (tyX6 k) := by decide +kernel
abbrev cX6_init : ByteArray := prog_8_method_1_code
def yX6_init : MethodName := ⟨RX6, "<init>", "()V"⟩
abbrev cX6_addNumber : ByteArray := prog_8_method_2_code
def yX6_addNumber : MethodName := ⟨RX6, "addNumber", "(I)V"⟩
def RX7 : String := "ForgottenFeast$Tokens"
def TX7 : u_T := fun k => match k with
  | 0 => ("ForgottenFeast$Tokens", "tape", "LForgottenFeast$Tape;", true)
  | 1 => ("ForgottenFeast$Tokens", "marks", "[J", true)
  | _ => ("ForgottenFeast$Tokens", "count", "I", false)
def tyX7 : Nat → FieldType := fun k => match k with
  | 0 => .object "ForgottenFeast$Tape"
  | 1 => .array .long
  | _ => .int
theorem nmX7 : ∀ a, a < 3 → ∀ b, b < 3 → a ≠ b → (TX7 a).2.1 ≠ (TX7 b).2.1 := by decide +kernel
theorem tyX7_ok : ∀ k, k < 3 → parseFieldDescriptor (TX7 k).2.2.1 = some (tyX7 k) := by decide +kernel
abbrev cX7_init : ByteArray := prog_9_method_1_code
def yX7_init : MethodName := ⟨RX7, "<init>", "(LForgottenFeast$Tape;)V"⟩
abbrev cX7_cut : ByteArray := prog_9_method_2_code
def yX7_cut : MethodName := ⟨RX7, "cut", "()V"⟩
abbrev cX7_add : ByteArray := prog_9_method_3_code
def yX7_add : MethodName := ⟨RX7, "add", "(III)V"⟩
abbrev cX7_runFrom : ByteArray := prog_9_method_4_code
def yX7_runFrom : MethodName := ⟨RX7, "runFrom", "(I)I"⟩
abbrev cX7_wordKind : ByteArray := prog_9_method_5_code
def yX7_wordKind : MethodName := ⟨RX7, "wordKind", "(II)I"⟩
abbrev cX7_isWord : ByteArray := prog_9_method_6_code
def yX7_isWord : MethodName := ⟨RX7, "isWord", "(III)Z"⟩
abbrev cX7_lettersOf : ByteArray := prog_9_method_7_code
def yX7_lettersOf : MethodName := ⟨RX7, "lettersOf", "(II)I"⟩
abbrev cX7_numberOf : ByteArray := prog_9_method_8_code
def yX7_numberOf : MethodName := ⟨RX7, "numberOf", "(II)I"⟩
abbrev cX7_isLetter : ByteArray := prog_9_method_9_code
def yX7_isLetter : MethodName := ⟨RX7, "isLetter", "(I)Z"⟩
abbrev cX7_isDigit : ByteArray := prog_9_method_10_code
def yX7_isDigit : MethodName := ⟨RX7, "isDigit", "(I)Z"⟩
def RX8 : String := "ForgottenFeast$Town"
def TX8 : u_T := fun k => match k with
  | 0 => ("ForgottenFeast$Town", "days", "I", false)
  | 1 => ("ForgottenFeast$Town", "statements", "I", false)
  | 2 => ("ForgottenFeast$Town", "people", "I", false)
  | 3 => ("ForgottenFeast$Town", "toldCount", "I", false)
  | 4 => ("ForgottenFeast$Town", "remindsCount", "I", false)
  | 5 => ("ForgottenFeast$Town", "frostCount", "I", false)
  | 6 => ("ForgottenFeast$Town", "slips", "I", false)
  | 7 => ("ForgottenFeast$Town", "mortal", "I", false)
  | 8 => ("ForgottenFeast$Town", "names", "[I", true)
  | 9 => ("ForgottenFeast$Town", "minds", "[I", true)
  | 10 => ("ForgottenFeast$Town", "asks", "[I", true)
  | 11 => ("ForgottenFeast$Town", "reminds", "[I", true)
  | 12 => ("ForgottenFeast$Town", "remindedBy", "[I", true)
  | 13 => ("ForgottenFeast$Town", "told", "[I", true)
  | 14 => ("ForgottenFeast$Town", "frost", "[I", true)
  | 15 => ("ForgottenFeast$Town", "thinks", "LForgottenFeast$Rule;", true)
  | _ => ("ForgottenFeast$Town", "hears", "LForgottenFeast$Rule;", true)
def tyX8 : Nat → FieldType := fun k => match k with
  | 0 => .int
  | 1 => .int
  | 2 => .int
  | 3 => .int
  | 4 => .int
  | 5 => .int
  | 6 => .int
  | 7 => .int
  | 8 => .array .int
  | 9 => .array .int
  | 10 => .array .int
  | 11 => .array .int
  | 12 => .array .int
  | 13 => .array .int
  | 14 => .array .int
  | 15 => .object "ForgottenFeast$Rule"
  | _ => .object "ForgottenFeast$Rule"
theorem nmX8 : ∀ a, a < 17 → ∀ b, b < 17 → a ≠ b → (TX8 a).2.1 ≠ (TX8 b).2.1 := by decide +kernel
theorem tyX8_ok : ∀ k, k < 17 → parseFieldDescriptor (TX8 k).2.2.1 = some (tyX8 k) := by decide +kernel
abbrev cX8_init : ByteArray := prog_10_method_1_code
def yX8_init : MethodName := ⟨RX8, "<init>", "()V"⟩
abbrev cX8_clear : ByteArray := prog_10_method_2_code
def yX8_clear : MethodName := ⟨RX8, "clear", "()V"⟩
abbrev cX8_everybody : ByteArray := prog_10_method_3_code
def yX8_everybody : MethodName := ⟨RX8, "everybody", "()I"⟩
abbrev cX8_find : ByteArray := prog_10_method_4_code
def yX8_find : MethodName := ⟨RX8, "find", "(I)I"⟩
abbrev cX8_ruleOf : ByteArray := prog_10_method_5_code
def yX8_ruleOf : MethodName := ⟨RX8, "ruleOf", "(I)LForgottenFeast$Rule;"⟩
abbrev cX8_isFull : ByteArray := prog_10_method_6_code
def yX8_isFull : MethodName := ⟨RX8, "isFull", "(I)Z"⟩
abbrev cX8_addPerson : ByteArray := prog_10_method_7_code
def yX8_addPerson : MethodName := ⟨RX8, "addPerson", "(III)V"⟩
abbrev cX8_addTold : ByteArray := prog_10_method_8_code
def yX8_addTold : MethodName := ⟨RX8, "addTold", "(II)Z"⟩
abbrev cX8_addReminds : ByteArray := prog_10_method_9_code
def yX8_addReminds : MethodName := ⟨RX8, "addReminds", "(II)Z"⟩
abbrev cX8_addFrost : ByteArray := prog_10_method_10_code
def yX8_addFrost : MethodName := ⟨RX8, "addFrost", "(II)V"⟩
def RX9 : String := "ForgottenFeast"
def TX9 : u_T := fun k => match k with
  | 0 => ("ForgottenFeast", "tape", "LForgottenFeast$Tape;", true)
  | 1 => ("ForgottenFeast", "reader", "LForgottenFeast$Reader;", true)
  | 2 => ("ForgottenFeast", "town", "LForgottenFeast$Town;", false)
  | 3 => ("ForgottenFeast", "spareTown", "LForgottenFeast$Town;", false)
  | 4 => ("ForgottenFeast", "life", "LForgottenFeast$Life;", true)
  | 5 => ("ForgottenFeast", "ahead", "LForgottenFeast$Life;", true)
  | 6 => ("ForgottenFeast", "past", "LForgottenFeast$Past;", true)
  | 7 => ("ForgottenFeast", "dawn", "LForgottenFeast$Dawn;", true)
  | 8 => ("ForgottenFeast", "picture", "LForgottenFeast$Picture;", true)
  | 9 => ("ForgottenFeast", "seenPerson", "[I", true)
  | 10 => ("ForgottenFeast", "seenThinking", "[I", true)
  | 11 => ("ForgottenFeast", "seenCount", "I", false)
  | 12 => ("ForgottenFeast", "quietFor", "[I", true)
  | 13 => ("ForgottenFeast", "refused", "[I", true)
  | 14 => ("ForgottenFeast", "faultKind", "I", false)
  | 15 => ("ForgottenFeast", "faultPlace", "I", false)
  | _ => ("ForgottenFeast", "draw", "J", false)
def tyX9 : Nat → FieldType := fun k => match k with
  | 0 => .object "ForgottenFeast$Tape"
  | 1 => .object "ForgottenFeast$Reader"
  | 2 => .object "ForgottenFeast$Town"
  | 3 => .object "ForgottenFeast$Town"
  | 4 => .object "ForgottenFeast$Life"
  | 5 => .object "ForgottenFeast$Life"
  | 6 => .object "ForgottenFeast$Past"
  | 7 => .object "ForgottenFeast$Dawn"
  | 8 => .object "ForgottenFeast$Picture"
  | 9 => .array .int
  | 10 => .array .int
  | 11 => .int
  | 12 => .array .int
  | 13 => .array .int
  | 14 => .int
  | 15 => .int
  | _ => .long
theorem nmX9 : ∀ a, a < 17 → ∀ b, b < 17 → a ≠ b → (TX9 a).2.1 ≠ (TX9 b).2.1 := by decide +kernel
theorem tyX9_ok : ∀ k, k < 17 → parseFieldDescriptor (TX9 k).2.2.1 = some (tyX9 k) := by decide +kernel
abbrev cX9_init : ByteArray := prog_1_method_1_code
def yX9_init : MethodName := ⟨RX9, "<init>", "()V"⟩
abbrev cX9_feed : ByteArray := prog_1_method_2_code
def yX9_feed : MethodName := ⟨RX9, "feed", "(IIIII)I"⟩
abbrev cX9_end : ByteArray := prog_1_method_3_code
def yX9_end : MethodName := ⟨RX9, "end", "(I)Z"⟩
abbrev cX9_town : ByteArray := prog_1_method_4_code
def yX9_town : MethodName := ⟨RX9, "town", "()I"⟩
abbrev cX9_fault : ByteArray := prog_1_method_5_code
def yX9_fault : MethodName := ⟨RX9, "fault", "(I)I"⟩
abbrev cX9_has : ByteArray := prog_1_method_6_code
def yX9_has : MethodName := ⟨RX9, "has", "(I)I"⟩
abbrev cX9_letter : ByteArray := prog_1_method_7_code
def yX9_letter : MethodName := ⟨RX9, "letter", "(II)I"⟩
abbrev cX9_person : ByteArray := prog_1_method_8_code
def yX9_person : MethodName := ⟨RX9, "person", "(II)I"⟩
abbrev cX9_day : ByteArray := prog_1_method_9_code
def yX9_day : MethodName := ⟨RX9, "day", "(II)I"⟩
abbrev cX9_kept : ByteArray := prog_1_method_10_code
def yX9_kept : MethodName := ⟨RX9, "kept", "(II)I"⟩
abbrev cX9_later : ByteArray := prog_1_method_11_code
def yX9_later : MethodName := ⟨RX9, "later", "(II)I"⟩
abbrev cX9_first : ByteArray := prog_1_method_12_code
def yX9_first : MethodName := ⟨RX9, "first", "(I)I"⟩
abbrev cX9_hangs : ByteArray := prog_1_method_13_code
def yX9_hangs : MethodName := ⟨RX9, "hangs", "(I)I"⟩
abbrev cX9_sure : ByteArray := prog_1_method_14_code
def yX9_sure : MethodName := ⟨RX9, "sure", "(I)I"⟩
abbrev cX9_slips : ByteArray := prog_1_method_15_code
def yX9_slips : MethodName := ⟨RX9, "slips", "(I)I"⟩
abbrev cX9_costs : ByteArray := prog_1_method_16_code
def yX9_costs : MethodName := ⟨RX9, "costs", "(I)I"⟩
abbrev cX9_cheapest : ByteArray := prog_1_method_17_code
def yX9_cheapest : MethodName := ⟨RX9, "cheapest", "(I)I"⟩
abbrev cX9_enough : ByteArray := prog_1_method_18_code
def yX9_enough : MethodName := ⟨RX9, "enough", "(I)I"⟩
abbrev cX9_turnsOf : ByteArray := prog_1_method_19_code
def yX9_turnsOf : MethodName := ⟨RX9, "turnsOf", "(I)I"⟩
abbrev cX9_see : ByteArray := prog_1_method_20_code
def yX9_see : MethodName := ⟨RX9, "see", "()I"⟩
abbrev cX9_thought : ByteArray := prog_1_method_21_code
def yX9_thought : MethodName := ⟨RX9, "thought", "(I)I"⟩
abbrev cX9_hours : ByteArray := prog_1_method_22_code
def yX9_hours : MethodName := ⟨RX9, "hours", "(I)I"⟩
abbrev cX9_law : ByteArray := prog_1_method_23_code
def yX9_law : MethodName := ⟨RX9, "law", "(I)I"⟩
abbrev cX9_go : ByteArray := prog_1_method_24_code
def yX9_go : MethodName := ⟨RX9, "go", "(I)I"⟩
abbrev cX9_tell : ByteArray := prog_1_method_25_code
def yX9_tell : MethodName := ⟨RX9, "tell", "(II)I"⟩
abbrev cX9_bribe : ByteArray := prog_1_method_26_code
def yX9_bribe : MethodName := ⟨RX9, "bribe", "(II)I"⟩
abbrev cX9_dies : ByteArray := prog_1_method_27_code
def yX9_dies : MethodName := ⟨RX9, "dies", "(I)Z"⟩
abbrev cX9_chance : ByteArray := prog_1_method_28_code
def yX9_chance : MethodName := ⟨RX9, "chance", "(I)I"⟩
abbrev cX9_undo : ByteArray := prog_1_method_29_code
def yX9_undo : MethodName := ⟨RX9, "undo", "()Z"⟩
abbrev cX9_seed : ByteArray := prog_1_method_30_code
def yX9_seed : MethodName := ⟨RX9, "seed", "(I)Z"⟩
abbrev cX9_ask : ByteArray := prog_1_method_31_code
def yX9_ask : MethodName := ⟨RX9, "ask", "(I)J"⟩
abbrev cX9_image : ByteArray := prog_1_method_32_code
def yX9_image : MethodName := ⟨RX9, "image", "()I"⟩
abbrev cX9_octet : ByteArray := prog_1_method_33_code
def yX9_octet : MethodName := ⟨RX9, "octet", "(I)I"⟩
abbrev cX9_on : ByteArray := prog_1_method_34_code
def yX9_on : MethodName := ⟨RX9, "on", "()Z"⟩
abbrev cX9_status : ByteArray := prog_1_method_35_code
def yX9_status : MethodName := ⟨RX9, "status", "(I)I"⟩
abbrev cX9_refuse : ByteArray := prog_1_method_36_code
def yX9_refuse : MethodName := ⟨RX9, "refuse", "(I)I"⟩
abbrev cX9_noteFault : ByteArray := prog_1_method_37_code
def yX9_noteFault : MethodName := ⟨RX9, "noteFault", "()V"⟩
abbrev cX9_bit : ByteArray := prog_1_method_38_code
def yX9_bit : MethodName := ⟨RX9, "bit", "(II)I"⟩
abbrev cX9_countBits : ByteArray := prog_1_method_39_code
def yX9_countBits : MethodName := ⟨RX9, "countBits", "([I)I"⟩
abbrev cX9_isPerson : ByteArray := prog_1_method_40_code
def yX9_isPerson : MethodName := ⟨RX9, "isPerson", "(I)Z"⟩
abbrev cX9_isDay : ByteArray := prog_1_method_41_code
def yX9_isDay : MethodName := ⟨RX9, "isDay", "(I)Z"⟩
abbrev cX9_living : ByteArray := prog_1_method_42_code
def yX9_living : MethodName := ⟨RX9, "living", "()I"⟩
abbrev cX9_daysToldOff : ByteArray := prog_1_method_43_code
def yX9_daysToldOff : MethodName := ⟨RX9, "daysToldOff", "(I)I"⟩
abbrev cX9_isAhead : ByteArray := prog_1_method_44_code
def yX9_isAhead : MethodName := ⟨RX9, "isAhead", "(I)Z"⟩
abbrev cX9_foresee : ByteArray := prog_1_method_45_code
def yX9_foresee : MethodName := ⟨RX9, "foresee", "(I)Z"⟩
abbrev cX9_hangsOn : ByteArray := prog_1_method_46_code
def yX9_hangsOn : MethodName := ⟨RX9, "hangsOn", "()I"⟩
abbrev cX9_chanceOfNobody : ByteArray := prog_1_method_47_code
def yX9_chanceOfNobody : MethodName := ⟨RX9, "chanceOfNobody", "(I)I"⟩
abbrev cX9_priceOf : ByteArray := prog_1_method_48_code
def yX9_priceOf : MethodName := ⟨RX9, "priceOf", "(I)I"⟩
abbrev cX9_somebodyByTurns : ByteArray := prog_1_method_49_code
def yX9_somebodyByTurns : MethodName := ⟨RX9, "somebodyByTurns", "(IIIII)Z"⟩
abbrev cX9_canBeSilenced : ByteArray := prog_1_method_50_code
def yX9_canBeSilenced : MethodName := ⟨RX9, "canBeSilenced", "(IIIII)Z"⟩
abbrev cX9_isSight : ByteArray := prog_1_method_51_code
def yX9_isSight : MethodName := ⟨RX9, "isSight", "()Z"⟩
abbrev cX9_isAsSeen : ByteArray := prog_1_method_52_code
def yX9_isAsSeen : MethodName := ⟨RX9, "isAsSeen", "(I)Z"⟩
abbrev cX9_hoursFrom : ByteArray := prog_1_method_53_code
def yX9_hoursFrom : MethodName := ⟨RX9, "hoursFrom", "(II)I"⟩
abbrev cX9_isLaw : ByteArray := prog_1_method_54_code
def yX9_isLaw : MethodName := ⟨RX9, "isLaw", "(I)Z"⟩
abbrev cX9_liveOneDay : ByteArray := prog_1_method_55_code
def yX9_liveOneDay : MethodName := ⟨RX9, "liveOneDay", "()I"⟩
abbrev cX9_drawDeaths : ByteArray := prog_1_method_56_code
def yX9_drawDeaths : MethodName := ⟨RX9, "drawDeaths", "()V"⟩
abbrev cX9_answerOf : ByteArray := prog_1_method_57_code
def yX9_answerOf : MethodName := ⟨RX9, "answerOf", "(I)J"⟩
def RX10 : String := "ForgottenFeastModel"
def TX10 : u_T := fun k => match k with
  | 0 => ("ForgottenFeastModel", "tape", "[I", true)
  | 1 => ("ForgottenFeastModel", "taped", "I", false)
  | 2 => ("ForgottenFeastModel", "at", "I", false)
  | 3 => ("ForgottenFeastModel", "end", "I", false)
  | 4 => ("ForgottenFeastModel", "ended", "I", false)
  | 5 => ("ForgottenFeastModel", "bad", "I", false)
  | 6 => ("ForgottenFeastModel", "badPlace", "I", false)
  | 7 => ("ForgottenFeastModel", "fault", "I", false)
  | 8 => ("ForgottenFeastModel", "faultPlace", "I", false)
  | 9 => ("ForgottenFeastModel", "refused", "[I", true)
  | 10 => ("ForgottenFeastModel", "numberPlace", "I", false)
  | 11 => ("ForgottenFeastModel", "daysWord", "[C", true)
  | 12 => ("ForgottenFeastModel", "personWord", "[C", true)
  | 13 => ("ForgottenFeastModel", "mindWord", "[C", true)
  | 14 => ("ForgottenFeastModel", "asksWord", "[C", true)
  | 15 => ("ForgottenFeastModel", "toldWord", "[C", true)
  | 16 => ("ForgottenFeastModel", "onWord", "[C", true)
  | 17 => ("ForgottenFeastModel", "remindsWord", "[C", true)
  | 18 => ("ForgottenFeastModel", "frostWord", "[C", true)
  | 19 => ("ForgottenFeastModel", "forWord", "[C", true)
  | 20 => ("ForgottenFeastModel", "thinksWord", "[C", true)
  | 21 => ("ForgottenFeastModel", "hearsWord", "[C", true)
  | 22 => ("ForgottenFeastModel", "slipsWord", "[C", true)
  | 23 => ("ForgottenFeastModel", "mortalWord", "[C", true)
  | 24 => ("ForgottenFeastModel", "dayWord", "[C", true)
  | 25 => ("ForgottenFeastModel", "yearWord", "[C", true)
  | 26 => ("ForgottenFeastModel", "agoWord", "[C", true)
  | 27 => ("ForgottenFeastModel", "feastWord", "[C", true)
  | 28 => ("ForgottenFeastModel", "otherWord", "[C", true)
  | 29 => ("ForgottenFeastModel", "numberWord", "[C", true)
  | 30 => ("ForgottenFeastModel", "deadWord", "[C", true)
  | 31 => ("ForgottenFeastModel", "knowsWord", "[C", true)
  | 32 => ("ForgottenFeastModel", "orWord", "[C", true)
  | 33 => ("ForgottenFeastModel", "andWord", "[C", true)
  | 34 => ("ForgottenFeastModel", "notWord", "[C", true)
  | 35 => ("ForgottenFeastModel", "allWord", "[C", true)
  | 36 => ("ForgottenFeastModel", "minWord", "[C", true)
  | 37 => ("ForgottenFeastModel", "maxWord", "[C", true)
  | 38 => ("ForgottenFeastModel", "namePlace", "I", false)
  | 39 => ("ForgottenFeastModel", "many", "[I", true)
  | 40 => ("ForgottenFeastModel", "names", "[J", true)
  | 41 => ("ForgottenFeastModel", "minds", "[I", true)
  | 42 => ("ForgottenFeastModel", "asked", "[I", true)
  | 43 => ("ForgottenFeastModel", "remind", "[I", true)
  | 44 => ("ForgottenFeastModel", "toldFor", "[I", true)
  | 45 => ("ForgottenFeastModel", "frosts", "[I", true)
  | 46 => ("ForgottenFeastModel", "settings", "[I", true)
  | 47 => ("ForgottenFeastModel", "codeFrom", "[I", true)
  | 48 => ("ForgottenFeastModel", "codeEnd", "[I", true)
  | 49 => ("ForgottenFeastModel", "codes", "[I", true)
  | 50 => ("ForgottenFeastModel", "coded", "I", false)
  | 51 => ("ForgottenFeastModel", "statements", "I", false)
  | 52 => ("ForgottenFeastModel", "isTown", "Z", false)
  | 53 => ("ForgottenFeastModel", "textKind", "I", false)
  | 54 => ("ForgottenFeastModel", "now", "[I", true)
  | 55 => ("ForgottenFeastModel", "aside", "[I", true)
  | 56 => ("ForgottenFeastModel", "askToldSet", "I", false)
  | 57 => ("ForgottenFeastModel", "askFeast", "J", false)
  | 58 => ("ForgottenFeastModel", "askFrost", "J", false)
  | 59 => ("ForgottenFeastModel", "askOther", "J", false)
  | 60 => ("ForgottenFeastModel", "selfSet", "I", false)
  | 61 => ("ForgottenFeastModel", "thinkSet", "I", false)
  | 62 => ("ForgottenFeastModel", "feastToday", "Z", false)
  | 63 => ("ForgottenFeastModel", "before", "[I", true)
  | 64 => ("ForgottenFeastModel", "after", "[I", true)
  | 65 => ("ForgottenFeastModel", "rowMany", "I", false)
  | 66 => ("ForgottenFeastModel", "rows", "[I", true)
  | 67 => ("ForgottenFeastModel", "ago", "[I", true)
  | 68 => ("ForgottenFeastModel", "kept0", "[I", true)
  | 69 => ("ForgottenFeastModel", "undoable", "I", false)
  | 70 => ("ForgottenFeastModel", "newest", "I", false)
  | 71 => ("ForgottenFeastModel", "seeded", "J", false)
  | 72 => ("ForgottenFeastModel", "firstAsked", "[C", true)
  | 73 => ("ForgottenFeastModel", "lastAsked", "[C", true)
  | 74 => ("ForgottenFeastModel", "oftenAsked", "[C", true)
  | 75 => ("ForgottenFeastModel", "totalAsked", "[C", true)
  | 76 => ("ForgottenFeastModel", "mostAsked", "[C", true)
  | 77 => ("ForgottenFeastModel", "leastAsked", "[C", true)
  | 78 => ("ForgottenFeastModel", "notAsked", "[C", true)
  | 79 => ("ForgottenFeastModel", "andAsked", "[C", true)
  | 80 => ("ForgottenFeastModel", "orAsked", "[C", true)
  | 81 => ("ForgottenFeastModel", "allAsked", "[C", true)
  | 82 => ("ForgottenFeastModel", "minAsked", "[C", true)
  | 83 => ("ForgottenFeastModel", "maxAsked", "[C", true)
  | 84 => ("ForgottenFeastModel", "dayAsked", "[C", true)
  | 85 => ("ForgottenFeastModel", "toldAsked", "[C", true)
  | 86 => ("ForgottenFeastModel", "agoAsked", "[C", true)
  | 87 => ("ForgottenFeastModel", "mindAsked", "[C", true)
  | 88 => ("ForgottenFeastModel", "feastAsked", "[C", true)
  | 89 => ("ForgottenFeastModel", "yearAsked", "[C", true)
  | 90 => ("ForgottenFeastModel", "frostAsked", "[C", true)
  | 91 => ("ForgottenFeastModel", "otherAsked", "[C", true)
  | 92 => ("ForgottenFeastModel", "numberAsked", "[C", true)
  | 93 => ("ForgottenFeastModel", "deadAsked", "[C", true)
  | 94 => ("ForgottenFeastModel", "thinksAsked", "[C", true)
  | 95 => ("ForgottenFeastModel", "knowsAsked", "[C", true)
  | 96 => ("ForgottenFeastModel", "qCodes", "[I", true)
  | 97 => ("ForgottenFeastModel", "qCoded", "I", false)
  | 98 => ("ForgottenFeastModel", "qWait", "[I", true)
  | 99 => ("ForgottenFeastModel", "qWaits", "I", false)
  | 100 => ("ForgottenFeastModel", "qOpened", "I", false)
  | 101 => ("ForgottenFeastModel", "qBase", "I", false)
  | 102 => ("ForgottenFeastModel", "qPile", "[J", true)
  | 103 => ("ForgottenFeastModel", "qPiled", "I", false)
  | 104 => ("ForgottenFeastModel", "qAnswer", "J", false)
  | 105 => ("ForgottenFeastModel", "qIsNew", "Z", false)
  | 106 => ("ForgottenFeastModel", "octet", "[I", true)
  | _ => ("ForgottenFeastModel", "octets", "I", false)
def tyX10 : Nat → FieldType := fun k => match k with
  | 0 => .array .int
  | 1 => .int
  | 2 => .int
  | 3 => .int
  | 4 => .int
  | 5 => .int
  | 6 => .int
  | 7 => .int
  | 8 => .int
  | 9 => .array .int
  | 10 => .int
  | 11 => .array .char
  | 12 => .array .char
  | 13 => .array .char
  | 14 => .array .char
  | 15 => .array .char
  | 16 => .array .char
  | 17 => .array .char
  | 18 => .array .char
  | 19 => .array .char
  | 20 => .array .char
  | 21 => .array .char
  | 22 => .array .char
  | 23 => .array .char
  | 24 => .array .char
  | 25 => .array .char
  | 26 => .array .char
  | 27 => .array .char
  | 28 => .array .char
  | 29 => .array .char
  | 30 => .array .char
  | 31 => .array .char
  | 32 => .array .char
  | 33 => .array .char
  | 34 => .array .char
  | 35 => .array .char
  | 36 => .array .char
  | 37 => .array .char
  | 38 => .int
  | 39 => .array .int
  | 40 => .array .long
  | 41 => .array .int
  | 42 => .array .int
  | 43 => .array .int
  | 44 => .array .int
  | 45 => .array .int
  | 46 => .array .int
  | 47 => .array .int
  | 48 => .array .int
  | 49 => .array .int
  | 50 => .int
  | 51 => .int
  | 52 => .boolean
  | 53 => .int
  | 54 => .array .int
  | 55 => .array .int
  | 56 => .int
  | 57 => .long
  | 58 => .long
  | 59 => .long
  | 60 => .int
  | 61 => .int
  | 62 => .boolean
  | 63 => .array .int
  | 64 => .array .int
  | 65 => .int
  | 66 => .array .int
  | 67 => .array .int
  | 68 => .array .int
  | 69 => .int
  | 70 => .int
  | 71 => .long
  | 72 => .array .char
  | 73 => .array .char
  | 74 => .array .char
  | 75 => .array .char
  | 76 => .array .char
  | 77 => .array .char
  | 78 => .array .char
  | 79 => .array .char
  | 80 => .array .char
  | 81 => .array .char
  | 82 => .array .char
  | 83 => .array .char
  | 84 => .array .char
  | 85 => .array .char
  | 86 => .array .char
  | 87 => .array .char
  | 88 => .array .char
  | 89 => .array .char
  | 90 => .array .char
  | 91 => .array .char
  | 92 => .array .char
  | 93 => .array .char
  | 94 => .array .char
  | 95 => .array .char
  | 96 => .array .int
  | 97 => .int
  | 98 => .array .int
  | 99 => .int
  | 100 => .int
  | 101 => .int
  | 102 => .array .long
  | 103 => .int
  | 104 => .long
  | 105 => .boolean
  | 106 => .array .int
  | _ => .int
theorem nmX10 : ∀ a, a < 108 → ∀ b, b < 108 → a ≠ b → (TX10 a).2.1 ≠ (TX10 b).2.1 := by decide +kernel
theorem tyX10_ok : ∀ k, k < 108 → parseFieldDescriptor (TX10 k).2.2.1 = some (tyX10 k) := by decide +kernel
abbrev cX10_init : ByteArray := prog_12_method_1_code
def yX10_init : MethodName := ⟨RX10, "<init>", "()V"⟩
abbrev cX10_isIn : ByteArray := prog_12_method_2_code
def yX10_isIn : MethodName := ⟨RX10, "isIn", "(JJJ)Z"⟩
abbrev cX10_feed : ByteArray := prog_12_method_3_code
def yX10_feed : MethodName := ⟨RX10, "feed", "(IIIII)I"⟩
abbrev cX10_end : ByteArray := prog_12_method_4_code
def yX10_end : MethodName := ⟨RX10, "end", "(I)Z"⟩
abbrev cX10_fail : ByteArray := prog_12_method_5_code
def yX10_fail : MethodName := ⟨RX10, "fail", "(II)V"⟩
abbrev cX10_isLetter : ByteArray := prog_12_method_6_code
def yX10_isLetter : MethodName := ⟨RX10, "isLetter", "(I)Z"⟩
abbrev cX10_isDigit : ByteArray := prog_12_method_7_code
def yX10_isDigit : MethodName := ⟨RX10, "isDigit", "(I)Z"⟩
abbrev cX10_look : ByteArray := prog_12_method_8_code
def yX10_look : MethodName := ⟨RX10, "look", "()I"⟩
abbrev cX10_isHere : ByteArray := prog_12_method_9_code
def yX10_isHere : MethodName := ⟨RX10, "isHere", "([C)Z"⟩
abbrev cX10_takes : ByteArray := prog_12_method_10_code
def yX10_takes : MethodName := ⟨RX10, "takes", "([C)Z"⟩
abbrev cX10_asks : ByteArray := prog_12_method_11_code
def yX10_asks : MethodName := ⟨RX10, "asks", "([C)V"⟩
abbrev cX10_takesSign : ByteArray := prog_12_method_12_code
def yX10_takesSign : MethodName := ⟨RX10, "takesSign", "(I)Z"⟩
abbrev cX10_asksSign : ByteArray := prog_12_method_13_code
def yX10_asksSign : MethodName := ⟨RX10, "asksSign", "(I)V"⟩
abbrev cX10_number : ByteArray := prog_12_method_14_code
def yX10_number : MethodName := ⟨RX10, "number", "(II)I"⟩
abbrev cX10_isOwnHere : ByteArray := prog_12_method_15_code
def yX10_isOwnHere : MethodName := ⟨RX10, "isOwnHere", "()Z"⟩
abbrev cX10_name : ByteArray := prog_12_method_16_code
def yX10_name : MethodName := ⟨RX10, "name", "()J"⟩
abbrev cX10_isAllowed : ByteArray := prog_12_method_17_code
def yX10_isAllowed : MethodName := ⟨RX10, "isAllowed", "(I)Z"⟩
abbrev cX10_isFull : ByteArray := prog_12_method_18_code
def yX10_isFull : MethodName := ⟨RX10, "isFull", "(III)Z"⟩
abbrev cX10_personOf : ByteArray := prog_12_method_19_code
def yX10_personOf : MethodName := ⟨RX10, "personOf", "(J)I"⟩
abbrev cX10_personHere : ByteArray := prog_12_method_20_code
def yX10_personHere : MethodName := ⟨RX10, "personHere", "()I"⟩
abbrev cX10_daysTold : ByteArray := prog_12_method_21_code
def yX10_daysTold : MethodName := ⟨RX10, "daysTold", "()V"⟩
abbrev cX10_personTold : ByteArray := prog_12_method_22_code
def yX10_personTold : MethodName := ⟨RX10, "personTold", "(I)V"⟩
abbrev cX10_isToldOff : ByteArray := prog_12_method_23_code
def yX10_isToldOff : MethodName := ⟨RX10, "isToldOff", "(I)V"⟩
abbrev cX10_remindsTold : ByteArray := prog_12_method_24_code
def yX10_remindsTold : MethodName := ⟨RX10, "remindsTold", "(I)V"⟩
abbrev cX10_frostTold : ByteArray := prog_12_method_25_code
def yX10_frostTold : MethodName := ⟨RX10, "frostTold", "(I)V"⟩
abbrev cX10_codesTold : ByteArray := prog_12_method_26_code
def yX10_codesTold : MethodName := ⟨RX10, "codesTold", "(II)V"⟩
abbrev cX10_statementTold : ByteArray := prog_12_method_27_code
def yX10_statementTold : MethodName := ⟨RX10, "statementTold", "()V"⟩
abbrev cX10_town : ByteArray := prog_12_method_28_code
def yX10_town : MethodName := ⟨RX10, "town", "()I"⟩
abbrev cX10_stands : ByteArray := prog_12_method_29_code
def yX10_stands : MethodName := ⟨RX10, "stands", "()V"⟩
abbrev cX10_fault : ByteArray := prog_12_method_30_code
def yX10_fault : MethodName := ⟨RX10, "fault", "(I)I"⟩
abbrev cX10_peopleMany : ByteArray := prog_12_method_31_code
def yX10_peopleMany : MethodName := ⟨RX10, "peopleMany", "()I"⟩
abbrev cX10_yearDays : ByteArray := prog_12_method_32_code
def yX10_yearDays : MethodName := ⟨RX10, "yearDays", "()I"⟩
abbrev cX10_isPerson : ByteArray := prog_12_method_33_code
def yX10_isPerson : MethodName := ⟨RX10, "isPerson", "(I)Z"⟩
abbrev cX10_isDay : ByteArray := prog_12_method_34_code
def yX10_isDay : MethodName := ⟨RX10, "isDay", "(I)Z"⟩
abbrev cX10_mindOf : ByteArray := prog_12_method_35_code
def yX10_mindOf : MethodName := ⟨RX10, "mindOf", "(I)I"⟩
abbrev cX10_askedBy : ByteArray := prog_12_method_36_code
def yX10_askedBy : MethodName := ⟨RX10, "askedBy", "(I)I"⟩
abbrev cX10_agoOf : ByteArray := prog_12_method_37_code
def yX10_agoOf : MethodName := ⟨RX10, "agoOf", "(I)I"⟩
abbrev cX10_isDead : ByteArray := prog_12_method_38_code
def yX10_isDead : MethodName := ⟨RX10, "isDead", "(I)Z"⟩
abbrev cX10_living : ByteArray := prog_12_method_39_code
def yX10_living : MethodName := ⟨RX10, "living", "()I"⟩
abbrev cX10_isFrost : ByteArray := prog_12_method_40_code
def yX10_isFrost : MethodName := ⟨RX10, "isFrost", "(I)Z"⟩
abbrev cX10_bits : ByteArray := prog_12_method_41_code
def yX10_bits : MethodName := ⟨RX10, "bits", "(I)I"⟩
abbrev cX10_isTold : ByteArray := prog_12_method_42_code
def yX10_isTold : MethodName := ⟨RX10, "isTold", "(II)Z"⟩
abbrev cX10_asksDay : ByteArray := prog_12_method_43_code
def yX10_asksDay : MethodName := ⟨RX10, "asksDay", "(I)V"⟩
abbrev cX10_selves : ByteArray := prog_12_method_44_code
def yX10_selves : MethodName := ⟨RX10, "selves", "(II)I"⟩
abbrev cX10_reminderOf : ByteArray := prog_12_method_45_code
def yX10_reminderOf : MethodName := ⟨RX10, "reminderOf", "(II)I"⟩
abbrev cX10_isReminded : ByteArray := prog_12_method_46_code
def yX10_isReminded : MethodName := ⟨RX10, "isReminded", "(II)Z"⟩
abbrev cX10_reminded : ByteArray := prog_12_method_47_code
def yX10_reminded : MethodName := ⟨RX10, "reminded", "(II)I"⟩
abbrev cX10_canCome : ByteArray := prog_12_method_48_code
def yX10_canCome : MethodName := ⟨RX10, "canCome", "()Z"⟩
abbrev cX10_begins : ByteArray := prog_12_method_49_code
def yX10_begins : MethodName := ⟨RX10, "begins", "()V"⟩
abbrev cX10_dayGoes : ByteArray := prog_12_method_50_code
def yX10_dayGoes : MethodName := ⟨RX10, "dayGoes", "()V"⟩
abbrev cX10_isKept : ByteArray := prog_12_method_51_code
def yX10_isKept : MethodName := ⟨RX10, "isKept", "()V"⟩
abbrev cX10_daysGo : ByteArray := prog_12_method_52_code
def yX10_daysGo : MethodName := ⟨RX10, "daysGo", "(I)V"⟩
abbrev cX10_putsAside : ByteArray := prog_12_method_53_code
def yX10_putsAside : MethodName := ⟨RX10, "putsAside", "()V"⟩
abbrev cX10_takesBack : ByteArray := prog_12_method_54_code
def yX10_takesBack : MethodName := ⟨RX10, "takesBack", "()V"⟩
abbrev cX10_daysLeft : ByteArray := prog_12_method_55_code
def yX10_daysLeft : MethodName := ⟨RX10, "daysLeft", "()I"⟩
abbrev cX10_isAhead : ByteArray := prog_12_method_56_code
def yX10_isAhead : MethodName := ⟨RX10, "isAhead", "(I)Z"⟩
abbrev cX10_setsOf : ByteArray := prog_12_method_57_code
def yX10_setsOf : MethodName := ⟨RX10, "setsOf", "(I)I"⟩
abbrev cX10_has : ByteArray := prog_12_method_58_code
def yX10_has : MethodName := ⟨RX10, "has", "(I)I"⟩
abbrev cX10_letter : ByteArray := prog_12_method_59_code
def yX10_letter : MethodName := ⟨RX10, "letter", "(II)I"⟩
abbrev cX10_remindersOf : ByteArray := prog_12_method_60_code
def yX10_remindersOf : MethodName := ⟨RX10, "remindersOf", "(I)I"⟩
abbrev cX10_toldDays : ByteArray := prog_12_method_61_code
def yX10_toldDays : MethodName := ⟨RX10, "toldDays", "(I)I"⟩
abbrev cX10_person : ByteArray := prog_12_method_62_code
def yX10_person : MethodName := ⟨RX10, "person", "(II)I"⟩
abbrev cX10_day : ByteArray := prog_12_method_63_code
def yX10_day : MethodName := ⟨RX10, "day", "(II)I"⟩
abbrev cX10_kept : ByteArray := prog_12_method_64_code
def yX10_kept : MethodName := ⟨RX10, "kept", "(II)I"⟩
abbrev cX10_later : ByteArray := prog_12_method_65_code
def yX10_later : MethodName := ⟨RX10, "later", "(II)I"⟩
abbrev cX10_first : ByteArray := prog_12_method_66_code
def yX10_first : MethodName := ⟨RX10, "first", "(I)I"⟩
abbrev cX10_hangsNext : ByteArray := prog_12_method_67_code
def yX10_hangsNext : MethodName := ⟨RX10, "hangsNext", "()I"⟩
abbrev cX10_hangs : ByteArray := prog_12_method_68_code
def yX10_hangs : MethodName := ⟨RX10, "hangs", "(I)I"⟩
abbrev cX10_sure : ByteArray := prog_12_method_69_code
def yX10_sure : MethodName := ⟨RX10, "sure", "(I)I"⟩
abbrev cX10_slips : ByteArray := prog_12_method_70_code
def yX10_slips : MethodName := ⟨RX10, "slips", "(I)I"⟩
abbrev cX10_costOf : ByteArray := prog_12_method_71_code
def yX10_costOf : MethodName := ⟨RX10, "costOf", "(I)I"⟩
abbrev cX10_costs : ByteArray := prog_12_method_72_code
def yX10_costs : MethodName := ⟨RX10, "costs", "(I)I"⟩
abbrev cX10_cheapest : ByteArray := prog_12_method_73_code
def yX10_cheapest : MethodName := ⟨RX10, "cheapest", "(I)I"⟩
abbrev cX10_enough : ByteArray := prog_12_method_74_code
def yX10_enough : MethodName := ⟨RX10, "enough", "(I)I"⟩
abbrev cX10_anyThinks : ByteArray := prog_12_method_75_code
def yX10_anyThinks : MethodName := ⟨RX10, "anyThinks", "(II)Z"⟩
abbrev cX10_bribesLast : ByteArray := prog_12_method_76_code
def yX10_bribesLast : MethodName := ⟨RX10, "bribesLast", "(II)Z"⟩
abbrev cX10_tellsLast : ByteArray := prog_12_method_77_code
def yX10_tellsLast : MethodName := ⟨RX10, "tellsLast", "(II)Z"⟩
abbrev cX10_bribesFirst : ByteArray := prog_12_method_78_code
def yX10_bribesFirst : MethodName := ⟨RX10, "bribesFirst", "(I)Z"⟩
abbrev cX10_tellsFirst : ByteArray := prog_12_method_79_code
def yX10_tellsFirst : MethodName := ⟨RX10, "tellsFirst", "()Z"⟩
abbrev cX10_turnsOf : ByteArray := prog_12_method_80_code
def yX10_turnsOf : MethodName := ⟨RX10, "turnsOf", "(I)I"⟩
abbrev cX10_see : ByteArray := prog_12_method_81_code
def yX10_see : MethodName := ⟨RX10, "see", "()I"⟩
abbrev cX10_isAsSeen : ByteArray := prog_12_method_82_code
def yX10_isAsSeen : MethodName := ⟨RX10, "isAsSeen", "(I)Z"⟩
abbrev cX10_thought : ByteArray := prog_12_method_83_code
def yX10_thought : MethodName := ⟨RX10, "thought", "(I)I"⟩
abbrev cX10_hoursFrom : ByteArray := prog_12_method_84_code
def yX10_hoursFrom : MethodName := ⟨RX10, "hoursFrom", "(I)I"⟩
abbrev cX10_hours : ByteArray := prog_12_method_85_code
def yX10_hours : MethodName := ⟨RX10, "hours", "(I)I"⟩
abbrev cX10_isLaw : ByteArray := prog_12_method_86_code
def yX10_isLaw : MethodName := ⟨RX10, "isLaw", "(I)Z"⟩
abbrev cX10_law : ByteArray := prog_12_method_87_code
def yX10_law : MethodName := ⟨RX10, "law", "(I)I"⟩
abbrev cX10_keeps : ByteArray := prog_12_method_88_code
def yX10_keeps : MethodName := ⟨RX10, "keeps", "()V"⟩
abbrev cX10_undo : ByteArray := prog_12_method_89_code
def yX10_undo : MethodName := ⟨RX10, "undo", "()Z"⟩
abbrev cX10_refuses : ByteArray := prog_12_method_90_code
def yX10_refuses : MethodName := ⟨RX10, "refuses", "(I)I"⟩
abbrev cX10_go : ByteArray := prog_12_method_91_code
def yX10_go : MethodName := ⟨RX10, "go", "(I)I"⟩
abbrev cX10_tell : ByteArray := prog_12_method_92_code
def yX10_tell : MethodName := ⟨RX10, "tell", "(II)I"⟩
abbrev cX10_bribe : ByteArray := prog_12_method_93_code
def yX10_bribe : MethodName := ⟨RX10, "bribe", "(II)I"⟩
abbrev cX10_dies : ByteArray := prog_12_method_94_code
def yX10_dies : MethodName := ⟨RX10, "dies", "(I)Z"⟩
abbrev cX10_seed : ByteArray := prog_12_method_95_code
def yX10_seed : MethodName := ⟨RX10, "seed", "(I)Z"⟩
abbrev cX10_drawOf : ByteArray := prog_12_method_96_code
def yX10_drawOf : MethodName := ⟨RX10, "drawOf", "(I)I"⟩
abbrev cX10_chance : ByteArray := prog_12_method_97_code
def yX10_chance : MethodName := ⟨RX10, "chance", "(I)I"⟩
abbrev cX10_qCode : ByteArray := prog_12_method_98_code
def yX10_qCode : MethodName := ⟨RX10, "qCode", "(I)V"⟩
abbrev cX10_qOpens : ByteArray := prog_12_method_99_code
def yX10_qOpens : MethodName := ⟨RX10, "qOpens", "(II)V"⟩
abbrev cX10_qIsOn : ByteArray := prog_12_method_100_code
def yX10_qIsOn : MethodName := ⟨RX10, "qIsOn", "(I)Z"⟩
abbrev cX10_qDrops : ByteArray := prog_12_method_101_code
def yX10_qDrops : MethodName := ⟨RX10, "qDrops", "()V"⟩
abbrev cX10_qIsBracket : ByteArray := prog_12_method_102_code
def yX10_qIsBracket : MethodName := ⟨RX10, "qIsBracket", "(I)Z"⟩
abbrev cX10_qBracket : ByteArray := prog_12_method_103_code
def yX10_qBracket : MethodName := ⟨RX10, "qBracket", "()I"⟩
abbrev cX10_qDropsToBracket : ByteArray := prog_12_method_104_code
def yX10_qDropsToBracket : MethodName := ⟨RX10, "qDropsToBracket", "()V"⟩
abbrev cX10_qWordHere : ByteArray := prog_12_method_105_code
def yX10_qWordHere : MethodName := ⟨RX10, "qWordHere", "()I"⟩
abbrev cX10_qWordOf : ByteArray := prog_12_method_106_code
def yX10_qWordOf : MethodName := ⟨RX10, "qWordOf", "(II)I"⟩
abbrev cX10_qAsksWord : ByteArray := prog_12_method_107_code
def yX10_qAsksWord : MethodName := ⟨RX10, "qAsksWord", "(I)V"⟩
abbrev cX10_qEndsPart : ByteArray := prog_12_method_108_code
def yX10_qEndsPart : MethodName := ⟨RX10, "qEndsPart", "()V"⟩
abbrev cX10_qPartTold : ByteArray := prog_12_method_109_code
def yX10_qPartTold : MethodName := ⟨RX10, "qPartTold", "()V"⟩
abbrev cX10_qGoesOn : ByteArray := prog_12_method_110_code
def yX10_qGoesOn : MethodName := ⟨RX10, "qGoesOn", "()Z"⟩
abbrev cX10_qSums : ByteArray := prog_12_method_111_code
def yX10_qSums : MethodName := ⟨RX10, "qSums", "()V"⟩
abbrev cX10_qFact : ByteArray := prog_12_method_112_code
def yX10_qFact : MethodName := ⟨RX10, "qFact", "()V"⟩
abbrev cX10_qHasSquare : ByteArray := prog_12_method_113_code
def yX10_qHasSquare : MethodName := ⟨RX10, "qHasSquare", "()Z"⟩
abbrev cX10_qDropsNots : ByteArray := prog_12_method_114_code
def yX10_qDropsNots : MethodName := ⟨RX10, "qDropsNots", "()V"⟩
abbrev cX10_qTest : ByteArray := prog_12_method_115_code
def yX10_qTest : MethodName := ⟨RX10, "qTest", "()V"⟩
abbrev cX10_qGoesOnTest : ByteArray := prog_12_method_116_code
def yX10_qGoesOnTest : MethodName := ⟨RX10, "qGoesOnTest", "()Z"⟩
abbrev cX10_qClip : ByteArray := prog_12_method_117_code
def yX10_qClip : MethodName := ⟨RX10, "qClip", "(J)J"⟩
abbrev cX10_qFloor : ByteArray := prog_12_method_118_code
def yX10_qFloor : MethodName := ⟨RX10, "qFloor", "(JJ)J"⟩
abbrev cX10_qPuts : ByteArray := prog_12_method_119_code
def yX10_qPuts : MethodName := ⟨RX10, "qPuts", "(J)V"⟩
abbrev cX10_qJoins : ByteArray := prog_12_method_120_code
def yX10_qJoins : MethodName := ⟨RX10, "qJoins", "(I)V"⟩
abbrev cX10_qPartOf : ByteArray := prog_12_method_121_code
def yX10_qPartOf : MethodName := ⟨RX10, "qPartOf", "(II)J"⟩
abbrev cX10_qOf : ByteArray := prog_12_method_122_code
def yX10_qOf : MethodName := ⟨RX10, "qOf", "(IJI)J"⟩
abbrev cX10_qTold : ByteArray := prog_12_method_123_code
def yX10_qTold : MethodName := ⟨RX10, "qTold", "(I)J"⟩
abbrev cX10_qKind : ByteArray := prog_12_method_124_code
def yX10_qKind : MethodName := ⟨RX10, "qKind", "()I"⟩
abbrev cX10_qTakes : ByteArray := prog_12_method_125_code
def yX10_qTakes : MethodName := ⟨RX10, "qTakes", "(IJI)V"⟩
abbrev cX10_ask : ByteArray := prog_12_method_126_code
def yX10_ask : MethodName := ⟨RX10, "ask", "(I)J"⟩
abbrev cX10_checked : ByteArray := prog_12_method_127_code
def yX10_checked : MethodName := ⟨RX10, "checked", "([II)I"⟩
abbrev cX10_writes : ByteArray := prog_12_method_128_code
def yX10_writes : MethodName := ⟨RX10, "writes", "(I)V"⟩
abbrev cX10_writesSets : ByteArray := prog_12_method_129_code
def yX10_writesSets : MethodName := ⟨RX10, "writesSets", "(I)V"⟩
abbrev cX10_image : ByteArray := prog_12_method_130_code
def yX10_image : MethodName := ⟨RX10, "image", "()I"⟩
abbrev cX10_octet : ByteArray := prog_12_method_131_code
def yX10_octet : MethodName := ⟨RX10, "octet", "(I)I"⟩
abbrev cX10_coinsTold : ByteArray := prog_12_method_132_code
def yX10_coinsTold : MethodName := ⟨RX10, "coinsTold", "()I"⟩
abbrev cX10_setsFrom : ByteArray := prog_12_method_133_code
def yX10_setsFrom : MethodName := ⟨RX10, "setsFrom", "()I"⟩
abbrev cX10_areSetsTold : ByteArray := prog_12_method_134_code
def yX10_areSetsTold : MethodName := ⟨RX10, "areSetsTold", "(III)Z"⟩
abbrev cX10_isHeadTold : ByteArray := prog_12_method_135_code
def yX10_isHeadTold : MethodName := ⟨RX10, "isHeadTold", "()Z"⟩
abbrev cX10_isImage : ByteArray := prog_12_method_136_code
def yX10_isImage : MethodName := ⟨RX10, "isImage", "(I)Z"⟩
abbrev cX10_takesSets : ByteArray := prog_12_method_137_code
def yX10_takesSets : MethodName := ⟨RX10, "takesSets", "(II)V"⟩
abbrev cX10_on : ByteArray := prog_12_method_138_code
def yX10_on : MethodName := ⟨RX10, "on", "()Z"⟩
abbrev cX10_status : ByteArray := prog_12_method_139_code
def yX10_status : MethodName := ⟨RX10, "status", "(I)I"⟩
def RJ11 : String := "java/lang/Character"
abbrev cJ11_isValidCodePoint_9a6ad : ByteArray := prog_13_method_11_code
def yJ11_isValidCodePoint_9a6ad : MethodName := ⟨RJ11, "isValidCodePoint", "(I)Z"⟩
abbrev cJ11_highSurrogate_5068e : ByteArray := prog_13_method_28_code
def yJ11_highSurrogate_5068e : MethodName := ⟨RJ11, "highSurrogate", "(I)C"⟩
abbrev cJ11_lowSurrogate_5068e : ByteArray := prog_13_method_29_code
def yJ11_lowSurrogate_5068e : MethodName := ⟨RJ11, "lowSurrogate", "(I)C"⟩
def RJ6 : String := "java/lang/Integer"
abbrev cJ6_numberOfTrailingZeros_0f7a4 : ByteArray := prog_14_method_48_code
def yJ6_numberOfTrailingZeros_0f7a4 : MethodName := ⟨RJ6, "numberOfTrailingZeros", "(I)I"⟩
abbrev cJ6_bitCount_0f7a4 : ByteArray := prog_14_method_49_code
def yJ6_bitCount_0f7a4 : MethodName := ⟨RJ6, "bitCount", "(I)I"⟩
def RJ9 : String := "java/lang/Math"
abbrev cJ9_floorDiv_7cf53 : ByteArray := prog_15_method_47_code
def yJ9_floorDiv_7cf53 : MethodName := ⟨RJ9, "floorDiv", "(II)I"⟩
abbrev cJ9_max_7cf53 : ByteArray := prog_15_method_65_code
def yJ9_max_7cf53 : MethodName := ⟨RJ9, "max", "(II)I"⟩
abbrev cJ9_max_f86c9 : ByteArray := prog_15_method_66_code
def yJ9_max_f86c9 : MethodName := ⟨RJ9, "max", "(JJ)J"⟩
abbrev cJ9_min_7cf53 : ByteArray := prog_15_method_69_code
def yJ9_min_7cf53 : MethodName := ⟨RJ9, "min", "(II)I"⟩
abbrev cJ9_min_f86c9 : ByteArray := prog_15_method_70_code
def yJ9_min_f86c9 : MethodName := ⟨RJ9, "min", "(JJ)J"⟩
def RJ0 : String := "java/lang/String"
abbrev cJ0_length_8abf5 : ByteArray := prog_16_method_54_code
def yJ0_length_8abf5 : MethodName := ⟨RJ0, "length", "()I"⟩
abbrev cJ0_charAt_5068e : ByteArray := prog_16_method_56_code
def yJ0_charAt_5068e : MethodName := ⟨RJ0, "charAt", "(I)C"⟩
abbrev cJ0_indexOf_0f7a4 : ByteArray := prog_16_method_79_code
def yJ0_indexOf_0f7a4 : MethodName := ⟨RJ0, "indexOf", "(I)I"⟩
abbrev cJ0_indexOf_7cf53 : ByteArray := prog_16_method_80_code
def yJ0_indexOf_7cf53 : MethodName := ⟨RJ0, "indexOf", "(II)I"⟩
abbrev cJ0_coder_7d493 : ByteArray := prog_16_method_152_code
def yJ0_coder_7d493 : MethodName := ⟨RJ0, "coder", "()B"⟩
abbrev cJ0_isLatin1_aae02 : ByteArray := prog_16_method_154_code
def yJ0_isLatin1_aae02 : MethodName := ⟨RJ0, "isLatin1", "()Z"⟩
abbrev cJ0_checkIndex_df160 : ByteArray := prog_16_method_155_code
def yJ0_checkIndex_df160 : MethodName := ⟨RJ0, "checkIndex", "(II)V"⟩
abbrev cJ0_checkBoundsBeginEnd_23922 : ByteArray := prog_16_method_158_code
def yJ0_checkBoundsBeginEnd_23922 : MethodName := ⟨RJ0, "checkBoundsBeginEnd", "(III)V"⟩
def RJ1 : String := "java/lang/StringLatin1"
abbrev cJ1_charAt_3b067 : ByteArray := prog_17_method_2_code
def yJ1_charAt_3b067 : MethodName := ⟨RJ1, "charAt", "([BI)C"⟩
abbrev cJ1_canEncode_9a6ad : ByteArray := prog_17_method_4_code
def yJ1_canEncode_9a6ad : MethodName := ⟨RJ1, "canEncode", "(I)Z"⟩
abbrev cJ1_indexOf_4cfef : ByteArray := prog_17_method_22_code
def yJ1_indexOf_4cfef : MethodName := ⟨RJ1, "indexOf", "([BIII)I"⟩
abbrev cJ1_indexOfChar_4cfef : ByteArray := prog_17_method_23_code
def yJ1_indexOfChar_4cfef : MethodName := ⟨RJ1, "indexOfChar", "([BIII)I"⟩
def RJ2 : String := "java/lang/StringUTF16"
abbrev cJ2_getChar_3b067 : ByteArray := prog_18_method_5_code
def yJ2_getChar_3b067 : MethodName := ⟨RJ2, "getChar", "([BI)C"⟩
abbrev cJ2_length_9d52b : ByteArray := prog_18_method_6_code
def yJ2_length_9d52b : MethodName := ⟨RJ2, "length", "([B)I"⟩
abbrev cJ2_indexOf_4cfef : ByteArray := prog_18_method_40_code
def yJ2_indexOf_4cfef : MethodName := ⟨RJ2, "indexOf", "([BIII)I"⟩
abbrev cJ2_indexOfChar_4cfef : ByteArray := prog_18_method_47_code
def yJ2_indexOfChar_4cfef : MethodName := ⟨RJ2, "indexOfChar", "([BIII)I"⟩
abbrev cJ2_indexOfCharUnsafe_4cfef : ByteArray := prog_18_method_48_code
def yJ2_indexOfCharUnsafe_4cfef : MethodName := ⟨RJ2, "indexOfCharUnsafe", "([BIII)I"⟩
abbrev cJ2_indexOfSupplementary_4cfef : ByteArray := prog_18_method_49_code
def yJ2_indexOfSupplementary_4cfef : MethodName := ⟨RJ2, "indexOfSupplementary", "([BIII)I"⟩
abbrev cJ2_charAt_3b067 : ByteArray := prog_18_method_83_code
def yJ2_charAt_3b067 : MethodName := ⟨RJ2, "charAt", "([BI)C"⟩
abbrev cJ2_checkIndex_2214a : ByteArray := prog_18_method_91_code
def yJ2_checkIndex_2214a : MethodName := ⟨RJ2, "checkIndex", "(I[B)V"⟩
abbrev cJ2_checkBoundsBeginEnd_d044e : ByteArray := prog_18_method_93_code
def yJ2_checkBoundsBeginEnd_d044e : MethodName := ⟨RJ2, "checkBoundsBeginEnd", "(II[B)V"⟩
def RJ10 : String := "java/lang/System"
def RJ7 : String := "java/util/Arrays"
abbrev cJ7_fill_53178 : ByteArray := prog_20_method_103_code
def yJ7_fill_53178 : MethodName := ⟨RJ7, "fill", "([II)V"⟩
def RJ3 : String := "jdk/internal/util/Preconditions"
abbrev cJ3_checkIndex_8e157 : ByteArray := prog_21_method_11_code
def yJ3_checkIndex_8e157 : MethodName := ⟨RJ3, "checkIndex", "(IILjava/util/function/BiFunction;)I"⟩
abbrev cJ3_checkFromToIndex_8c36e : ByteArray := prog_21_method_12_code
def yJ3_checkFromToIndex_8c36e : MethodName := ⟨RJ3, "checkFromToIndex", "(IIILjava/util/function/BiFunction;)I"⟩
abbrev vwCl : List vw_C := [(RX0, TX0, 14), (RX1, TX1, 11), (RX2, TX2, 3), (RX3, TX3, 2), (RX4, TX4, 13), (RX5, TX5, 2), (RX6, TX6, 2), (RX7, TX7, 3), (RX8, TX8, 17), (RX9, TX9, 17), (RX10, TX10, 108)]
def tw_1 : List Cond := [Cond.initialized "ForgottenFeastLaw", Cond.initialized RX9, Cond.initialized RX6, Cond.initialized RX8, Cond.initialized RX5, Cond.initialized RJ9, Cond.initialized RX4, Cond.initialized RX7, Cond.initialized RX1, Cond.initialized RX2, Cond.initialized RX0, Cond.initialized RX3, Cond.initialized RX10, Cond.initialized RJ0, Cond.initialized RJ1, Cond.initialized RJ3, Cond.initialized RJ2, Cond.initialized RJ11, Cond.initialized RJ7, Cond.initialized RJ10, Cond.initialized RJ6, Cond.classLink "ForgottenFeastLaw" 7 RX9, Cond.instantiable RX9 17, Cond.methodLink "ForgottenFeastLaw" 9 yX9_init, Cond.instanceMethod yX9_init, Cond.code yX9_init cX9_init 1 none, Cond.methodLink RX9 3 objectInit, Cond.instanceMethod objectInit, Cond.code objectInit ⟨#[0xb1]⟩ 1 none, Cond.classLink RX9 9 RX6, Cond.instantiable RX6 2, Cond.methodLinkNest RX9 11 yX6_init RX9, Cond.instanceMethod yX6_init, Cond.code yX6_init cX6_init 1 none, Cond.methodLink RX6 3 objectInit, Cond.fieldLink RX6 9 "ForgottenFeast$Tape" "bytes" "[I", Cond.fieldLinkNest RX7 28 "ForgottenFeast$Tape" "bytes" "[I" RX9, Cond.fieldLinkNest RX3 76 "ForgottenFeast$Tape" "bytes" "[I" RX9, Cond.fieldLinkNest RX9 279 "ForgottenFeast$Tape" "bytes" "[I" RX9, Cond.fieldLinkNest RX9 89 "ForgottenFeast$Tape" "length" "I" RX9, Cond.fieldLink RX6 15 "ForgottenFeast$Tape" "length" "I", Cond.fieldLinkNest RX7 23 "ForgottenFeast$Tape" "length" "I" RX9, Cond.fieldLinkNest RX3 71 "ForgottenFeast$Tape" "length" "I" RX9, Jvm.Cond.laysFinal "ForgottenFeast$Tape" "ForgottenFeast$Tape" "bytes" "[I", Jvm.Cond.soleField "ForgottenFeast$Tape" "bytes", Jvm.Cond.lays "ForgottenFeast$Tape" "ForgottenFeast$Tape" "length" "I", Jvm.Cond.soleField "ForgottenFeast$Tape" "length", Jvm.Cond.superclass "ForgottenFeast$Tape" "java/lang/Object", Jvm.Cond.arrayClass Jvm.ClassFile.FieldType.int, Cond.classLink RX9 16 RX8, Cond.instantiable RX8 17, Cond.methodLinkNest RX9 18 yX8_init RX9, Cond.instanceMethod yX8_init, Cond.code yX8_init cX8_init 1 none, Cond.methodLink RX8 3 objectInit, Cond.classLink RX8 33 RX5, Cond.instantiable RX5 2, Cond.methodLinkNest RX8 35 yX5_init RX9, Cond.instanceMethod yX5_init, Cond.code yX5_init cX5_init 2 none, Cond.methodLink RX5 3 objectInit, Cond.methodLink RX5 9 yJ9_max_7cf53, Cond.static yJ9_max_7cf53, Cond.code yJ9_max_7cf53 cJ9_max_7cf53 2 (some .int), Cond.fieldLink RX5 15 "ForgottenFeast$Rule" "codes" "[I", Cond.fieldLink RX5 21 "ForgottenFeast$Rule" "size" "I", Cond.fieldLinkNest RX8 76 "ForgottenFeast$Rule" "size" "I" RX9, Cond.fieldLinkNest RX4 65 "ForgottenFeast$Rule" "size" "I" RX9, Cond.fieldLinkNest RX0 120 "ForgottenFeast$Rule" "size" "I" RX9, Jvm.Cond.lays "ForgottenFeast$Rule" "ForgottenFeast$Rule" "codes" "[I", Jvm.Cond.soleField "ForgottenFeast$Rule" "codes", Jvm.Cond.lays "ForgottenFeast$Rule" "ForgottenFeast$Rule" "size" "I", Jvm.Cond.soleField "ForgottenFeast$Rule" "size", Jvm.Cond.superclass "ForgottenFeast$Rule" "java/lang/Object", Cond.fieldLink RX8 45 "ForgottenFeast$Town" "days" "I", Cond.fieldLinkNest RX0 46 "ForgottenFeast$Town" "days" "I" RX9, Cond.fieldLinkNest RX1 61 "ForgottenFeast$Town" "days" "I" RX9, Cond.fieldLinkNest RX9 123 "ForgottenFeast$Town" "days" "I" RX9, Cond.fieldLinkNest RX3 98 "ForgottenFeast$Town" "days" "I" RX9, Cond.fieldLinkNest RX4 115 "ForgottenFeast$Town" "days" "I" RX9, Cond.fieldLink RX8 49 "ForgottenFeast$Town" "statements" "I", Cond.fieldLinkNest RX4 52 "ForgottenFeast$Town" "statements" "I" RX9, Cond.fieldLinkNest RX9 117 "ForgottenFeast$Town" "statements" "I" RX9, Cond.fieldLink RX8 52 "ForgottenFeast$Town" "people" "I", Cond.fieldLinkNest RX3 38 "ForgottenFeast$Town" "people" "I" RX9, Cond.fieldLinkNest RX0 102 "ForgottenFeast$Town" "people" "I" RX9, Cond.fieldLinkNest RX9 126 "ForgottenFeast$Town" "people" "I" RX9, Cond.fieldLink RX8 55 "ForgottenFeast$Town" "toldCount" "I", Cond.fieldLink RX8 58 "ForgottenFeast$Town" "remindsCount" "I", Cond.fieldLink RX8 61 "ForgottenFeast$Town" "frostCount" "I", Cond.fieldLink RX8 64 "ForgottenFeast$Town" "slips" "I", Cond.fieldLinkNest RX4 141 "ForgottenFeast$Town" "slips" "I" RX9, Cond.fieldLinkNest RX9 343 "ForgottenFeast$Town" "slips" "I" RX9, Cond.fieldLink RX8 67 "ForgottenFeast$Town" "mortal" "I", Cond.fieldLinkNest RX4 144 "ForgottenFeast$Town" "mortal" "I" RX9, Cond.fieldLinkNest RX9 374 "ForgottenFeast$Town" "mortal" "I" RX9, Cond.fieldLink RX8 9 "ForgottenFeast$Town" "names" "[I", Cond.fieldLinkNest RX9 170 "ForgottenFeast$Town" "names" "[I" RX9, Cond.fieldLink RX8 15 "ForgottenFeast$Town" "minds" "[I", Cond.fieldLinkNest RX0 149 "ForgottenFeast$Town" "minds" "[I" RX9, Cond.fieldLinkNest RX9 173 "ForgottenFeast$Town" "minds" "[I" RX9, Cond.fieldLink RX8 18 "ForgottenFeast$Town" "asks" "[I", Cond.fieldLinkNest RX9 176 "ForgottenFeast$Town" "asks" "[I" RX9, Cond.fieldLink RX8 21 "ForgottenFeast$Town" "reminds" "[I", Cond.fieldLinkNest RX9 189 "ForgottenFeast$Town" "reminds" "[I" RX9, Cond.fieldLink RX8 24 "ForgottenFeast$Town" "remindedBy" "[I", Cond.fieldLinkNest RX0 133 "ForgottenFeast$Town" "remindedBy" "[I" RX9, Cond.fieldLinkNest RX9 192 "ForgottenFeast$Town" "remindedBy" "[I" RX9, Cond.fieldLink RX8 27 "ForgottenFeast$Town" "told" "[I", Cond.fieldLinkNest RX1 46 "ForgottenFeast$Town" "told" "[I" RX9, Cond.fieldLink RX8 30 "ForgottenFeast$Town" "frost" "[I", Cond.fieldLinkNest RX0 62 "ForgottenFeast$Town" "frost" "[I" RX9, Cond.fieldLinkNest RX9 201 "ForgottenFeast$Town" "frost" "[I" RX9, Cond.fieldLink RX8 38 "ForgottenFeast$Town" "thinks" "LForgottenFeast$Rule;", Cond.fieldLinkNest RX0 116 "ForgottenFeast$Town" "thinks" "LForgottenFeast$Rule;" RX9, Cond.fieldLink RX8 42 "ForgottenFeast$Town" "hears" "LForgottenFeast$Rule;", Cond.fieldLinkNest RX0 146 "ForgottenFeast$Town" "hears" "LForgottenFeast$Rule;" RX9, Jvm.Cond.lays "ForgottenFeast$Town" "ForgottenFeast$Town" "days" "I", Jvm.Cond.soleField "ForgottenFeast$Town" "days", Jvm.Cond.lays "ForgottenFeast$Town" "ForgottenFeast$Town" "statements" "I", Jvm.Cond.soleField "ForgottenFeast$Town" "statements", Jvm.Cond.lays "ForgottenFeast$Town" "ForgottenFeast$Town" "people" "I", Jvm.Cond.soleField "ForgottenFeast$Town" "people", Jvm.Cond.lays "ForgottenFeast$Town" "ForgottenFeast$Town" "toldCount" "I", Jvm.Cond.soleField "ForgottenFeast$Town" "toldCount", Jvm.Cond.lays "ForgottenFeast$Town" "ForgottenFeast$Town" "remindsCount" "I", Jvm.Cond.soleField "ForgottenFeast$Town" "remindsCount", Jvm.Cond.lays "ForgottenFeast$Town" "ForgottenFeast$Town" "frostCount" "I", Jvm.Cond.soleField "ForgottenFeast$Town" "frostCount", Jvm.Cond.lays "ForgottenFeast$Town" "ForgottenFeast$Town" "slips" "I", Jvm.Cond.soleField "ForgottenFeast$Town" "slips", Jvm.Cond.lays "ForgottenFeast$Town" "ForgottenFeast$Town" "mortal" "I", Jvm.Cond.soleField "ForgottenFeast$Town" "mortal", Jvm.Cond.laysFinal "ForgottenFeast$Town" "ForgottenFeast$Town" "names" "[I", Jvm.Cond.soleField "ForgottenFeast$Town" "names", Jvm.Cond.laysFinal "ForgottenFeast$Town" "ForgottenFeast$Town" "minds" "[I", Jvm.Cond.soleField "ForgottenFeast$Town" "minds", Jvm.Cond.laysFinal "ForgottenFeast$Town" "ForgottenFeast$Town" "asks" "[I", Jvm.Cond.soleField "ForgottenFeast$Town" "asks", Jvm.Cond.laysFinal "ForgottenFeast$Town" "ForgottenFeast$Town" "reminds" "[I", Jvm.Cond.soleField "ForgottenFeast$Town" "reminds", Jvm.Cond.laysFinal "ForgottenFeast$Town" "ForgottenFeast$Town" "remindedBy" "[I", Jvm.Cond.soleField "ForgottenFeast$Town" "remindedBy", Jvm.Cond.laysFinal "ForgottenFeast$Town" "ForgottenFeast$Town" "told" "[I", Jvm.Cond.soleField "ForgottenFeast$Town" "told", Jvm.Cond.laysFinal "ForgottenFeast$Town" "ForgottenFeast$Town" "frost" "[I", Jvm.Cond.soleField "ForgottenFeast$Town" "frost", Jvm.Cond.laysFinal "ForgottenFeast$Town" "ForgottenFeast$Town" "thinks" "LForgottenFeast$Rule;", Jvm.Cond.soleField "ForgottenFeast$Town" "thinks", Jvm.Cond.laysFinal "ForgottenFeast$Town" "ForgottenFeast$Town" "hears" "LForgottenFeast$Rule;", Jvm.Cond.soleField "ForgottenFeast$Town" "hears", Jvm.Cond.superclass "ForgottenFeast$Town" "java/lang/Object", Cond.classLink RX9 26 RX4, Cond.instantiable RX4 13, Cond.methodLinkNest RX9 28 yX4_init RX9, Cond.instanceMethod yX4_init, Cond.code yX4_init cX4_init 3 none, Cond.methodLink RX4 3 objectInit, Cond.classLink RX4 9 RX5, Cond.methodLinkNest RX4 11 yX5_init RX9, Cond.classLink RX4 20 RX7, Cond.instantiable RX7 3, Cond.methodLinkNest RX4 22 yX7_init RX9, Cond.instanceMethod yX7_init, Cond.code yX7_init cX7_init 2 none, Cond.methodLink RX7 3 objectInit, Cond.fieldLink RX7 15 "ForgottenFeast$Tokens" "tape" "LForgottenFeast$Tape;", Cond.fieldLink RX7 9 "ForgottenFeast$Tokens" "marks" "[J", Cond.fieldLinkNest RX4 96 "ForgottenFeast$Tokens" "marks" "[J" RX9, Cond.fieldLink RX7 19 "ForgottenFeast$Tokens" "count" "I", Cond.fieldLinkNest RX4 93 "ForgottenFeast$Tokens" "count" "I" RX9, Jvm.Cond.laysFinal "ForgottenFeast$Tokens" "ForgottenFeast$Tokens" "tape" "LForgottenFeast$Tape;", Jvm.Cond.soleField "ForgottenFeast$Tokens" "tape", Jvm.Cond.laysFinal "ForgottenFeast$Tokens" "ForgottenFeast$Tokens" "marks" "[J", Jvm.Cond.soleField "ForgottenFeast$Tokens" "marks", Jvm.Cond.lays "ForgottenFeast$Tokens" "ForgottenFeast$Tokens" "count" "I", Jvm.Cond.soleField "ForgottenFeast$Tokens" "count", Jvm.Cond.superclass "ForgottenFeast$Tokens" "java/lang/Object", Jvm.Cond.arrayClass Jvm.ClassFile.FieldType.long, Cond.fieldLink RX4 25 "ForgottenFeast$Reader" "tokens" "LForgottenFeast$Tokens;", Cond.fieldLink RX4 14 "ForgottenFeast$Reader" "rule" "LForgottenFeast$Rule;", Cond.fieldLinkNest RX9 379 "ForgottenFeast$Reader" "rule" "LForgottenFeast$Rule;" RX9, Cond.fieldLink RX4 29 "ForgottenFeast$Reader" "town" "LForgottenFeast$Town;", Cond.fieldLink RX4 90 "ForgottenFeast$Reader" "at" "I", Cond.fieldLink RX4 45 "ForgottenFeast$Reader" "kind" "I", Cond.fieldLink RX4 55 "ForgottenFeast$Reader" "spot" "I", Cond.fieldLink RX4 104 "ForgottenFeast$Reader" "value" "I", Cond.fieldLink RX4 84 "ForgottenFeast$Reader" "opened" "I", Cond.fieldLink RX4 62 "ForgottenFeast$Reader" "fault" "I", Cond.fieldLinkNest RX9 333 "ForgottenFeast$Reader" "fault" "I" RX9, Cond.fieldLink RX4 87 "ForgottenFeast$Reader" "place" "I", Cond.fieldLinkNest RX9 336 "ForgottenFeast$Reader" "place" "I" RX9, Cond.fieldLink RX4 68 "ForgottenFeast$Reader" "asked" "I", Cond.fieldLinkNest RX9 315 "ForgottenFeast$Reader" "asked" "I" RX9, Cond.fieldLink RX4 36 "ForgottenFeast$Reader" "asking" "Z", Cond.fieldLink RX4 130 "ForgottenFeast$Reader" "hearing" "Z", Jvm.Cond.laysFinal "ForgottenFeast$Reader" "ForgottenFeast$Reader" "tokens" "LForgottenFeast$Tokens;", Jvm.Cond.soleField "ForgottenFeast$Reader" "tokens", Jvm.Cond.laysFinal "ForgottenFeast$Reader" "ForgottenFeast$Reader" "rule" "LForgottenFeast$Rule;", Jvm.Cond.soleField "ForgottenFeast$Reader" "rule", Jvm.Cond.lays "ForgottenFeast$Reader" "ForgottenFeast$Reader" "town" "LForgottenFeast$Town;", Jvm.Cond.soleField "ForgottenFeast$Reader" "town", Jvm.Cond.lays "ForgottenFeast$Reader" "ForgottenFeast$Reader" "at" "I", Jvm.Cond.soleField "ForgottenFeast$Reader" "at", Jvm.Cond.lays "ForgottenFeast$Reader" "ForgottenFeast$Reader" "kind" "I", Jvm.Cond.soleField "ForgottenFeast$Reader" "kind", Jvm.Cond.lays "ForgottenFeast$Reader" "ForgottenFeast$Reader" "spot" "I", Jvm.Cond.soleField "ForgottenFeast$Reader" "spot", Jvm.Cond.lays "ForgottenFeast$Reader" "ForgottenFeast$Reader" "value" "I", Jvm.Cond.soleField "ForgottenFeast$Reader" "value", Jvm.Cond.lays "ForgottenFeast$Reader" "ForgottenFeast$Reader" "opened" "I", Jvm.Cond.soleField "ForgottenFeast$Reader" "opened", Jvm.Cond.lays "ForgottenFeast$Reader" "ForgottenFeast$Reader" "fault" "I", Jvm.Cond.soleField "ForgottenFeast$Reader" "fault", Jvm.Cond.lays "ForgottenFeast$Reader" "ForgottenFeast$Reader" "place" "I", Jvm.Cond.soleField "ForgottenFeast$Reader" "place", Jvm.Cond.lays "ForgottenFeast$Reader" "ForgottenFeast$Reader" "asked" "I", Jvm.Cond.soleField "ForgottenFeast$Reader" "asked", Jvm.Cond.lays "ForgottenFeast$Reader" "ForgottenFeast$Reader" "asking" "Z", Jvm.Cond.soleField "ForgottenFeast$Reader" "asking", Jvm.Cond.lays "ForgottenFeast$Reader" "ForgottenFeast$Reader" "hearing" "Z", Jvm.Cond.soleField "ForgottenFeast$Reader" "hearing", Jvm.Cond.superclass "ForgottenFeast$Reader" "java/lang/Object", Cond.classLink RX9 35 RX1, Cond.instantiable RX1 11, Cond.methodLinkNest RX9 37 yX1_init RX9, Cond.instanceMethod yX1_init, Cond.code yX1_init cX1_init 1 none, Cond.methodLink RX1 3 objectInit, Cond.fieldLink RX1 9 "ForgottenFeast$Life" "year" "I", Cond.fieldLinkNest RX3 19 "ForgottenFeast$Life" "year" "I" RX9, Cond.fieldLinkNest RX0 51 "ForgottenFeast$Life" "year" "I" RX9, Cond.fieldLinkNest RX9 138 "ForgottenFeast$Life" "year" "I" RX9, Cond.fieldLink RX1 28 "ForgottenFeast$Life" "day" "I", Cond.fieldLinkNest RX3 28 "ForgottenFeast$Life" "day" "I" RX9, Cond.fieldLinkNest RX0 42 "ForgottenFeast$Life" "day" "I" RX9, Cond.fieldLinkNest RX9 141 "ForgottenFeast$Life" "day" "I" RX9, Cond.fieldLink RX1 31 "ForgottenFeast$Life" "feast" "I", Cond.fieldLinkNest RX3 31 "ForgottenFeast$Life" "feast" "I" RX9, Cond.fieldLinkNest RX0 56 "ForgottenFeast$Life" "feast" "I" RX9]
set_option maxRecDepth 100000 in
theorem tw_1_eq : tw_1 = tables_1_1 := rfl
theorem tw_m1 {w : Cond} (j : Nat) (hj : tw_1[j]? = some w) : w ∈ tables_1 := by
  have h : w ∈ tables_1_1 := by rw [← tw_1_eq]; exact List.mem_of_getElem? hj
  exact List.mem_append_left _ h
def tw_2 : List Cond := [Cond.fieldLinkNest RX9 144 "ForgottenFeast$Life" "feast" "I" RX9, Cond.fieldLink RX1 34 "ForgottenFeast$Life" "coins" "I", Cond.fieldLinkNest RX3 34 "ForgottenFeast$Life" "coins" "I" RX9, Cond.fieldLinkNest RX9 157 "ForgottenFeast$Life" "coins" "I" RX9, Cond.fieldLink RX1 37 "ForgottenFeast$Life" "dead" "I", Cond.fieldLinkNest RX3 46 "ForgottenFeast$Life" "dead" "I" RX9, Cond.fieldLinkNest RX0 75 "ForgottenFeast$Life" "dead" "I" RX9, Cond.fieldLinkNest RX9 182 "ForgottenFeast$Life" "dead" "I" RX9, Cond.fieldLink RX1 15 "ForgottenFeast$Life" "ago" "[I", Cond.fieldLinkNest RX3 43 "ForgottenFeast$Life" "ago" "[I" RX9, Cond.fieldLinkNest RX0 108 "ForgottenFeast$Life" "ago" "[I" RX9, Cond.fieldLinkNest RX9 179 "ForgottenFeast$Life" "ago" "[I" RX9, Cond.fieldLink RX1 19 "ForgottenFeast$Life" "told" "[I", Cond.fieldLinkNest RX3 53 "ForgottenFeast$Life" "told" "[I" RX9, Cond.fieldLinkNest RX0 84 "ForgottenFeast$Life" "told" "[I" RX9, Cond.fieldLinkNest RX9 147 "ForgottenFeast$Life" "told" "[I" RX9, Cond.fieldLink RX1 22 "ForgottenFeast$Life" "bribed" "[I", Cond.fieldLinkNest RX3 60 "ForgottenFeast$Life" "bribed" "[I" RX9, Cond.fieldLinkNest RX0 78 "ForgottenFeast$Life" "bribed" "[I" RX9, Cond.fieldLinkNest RX9 154 "ForgottenFeast$Life" "bribed" "[I" RX9, Cond.fieldLink RX1 25 "ForgottenFeast$Life" "rows" "[I", Cond.fieldLink RX1 55 "ForgottenFeast$Life" "rowFrom" "I", Cond.fieldLink RX1 58 "ForgottenFeast$Life" "rowCount" "I", Cond.fieldLinkNest RX9 160 "ForgottenFeast$Life" "rowCount" "I" RX9, Jvm.Cond.lays "ForgottenFeast$Life" "ForgottenFeast$Life" "year" "I", Jvm.Cond.soleField "ForgottenFeast$Life" "year", Jvm.Cond.lays "ForgottenFeast$Life" "ForgottenFeast$Life" "day" "I", Jvm.Cond.soleField "ForgottenFeast$Life" "day", Jvm.Cond.lays "ForgottenFeast$Life" "ForgottenFeast$Life" "feast" "I", Jvm.Cond.soleField "ForgottenFeast$Life" "feast", Jvm.Cond.lays "ForgottenFeast$Life" "ForgottenFeast$Life" "coins" "I", Jvm.Cond.soleField "ForgottenFeast$Life" "coins", Jvm.Cond.lays "ForgottenFeast$Life" "ForgottenFeast$Life" "dead" "I", Jvm.Cond.soleField "ForgottenFeast$Life" "dead", Jvm.Cond.laysFinal "ForgottenFeast$Life" "ForgottenFeast$Life" "ago" "[I", Jvm.Cond.soleField "ForgottenFeast$Life" "ago", Jvm.Cond.laysFinal "ForgottenFeast$Life" "ForgottenFeast$Life" "told" "[I", Jvm.Cond.soleField "ForgottenFeast$Life" "told", Jvm.Cond.laysFinal "ForgottenFeast$Life" "ForgottenFeast$Life" "bribed" "[I", Jvm.Cond.soleField "ForgottenFeast$Life" "bribed", Jvm.Cond.laysFinal "ForgottenFeast$Life" "ForgottenFeast$Life" "rows" "[I", Jvm.Cond.soleField "ForgottenFeast$Life" "rows", Jvm.Cond.lays "ForgottenFeast$Life" "ForgottenFeast$Life" "rowFrom" "I", Jvm.Cond.soleField "ForgottenFeast$Life" "rowFrom", Jvm.Cond.lays "ForgottenFeast$Life" "ForgottenFeast$Life" "rowCount" "I", Jvm.Cond.soleField "ForgottenFeast$Life" "rowCount", Jvm.Cond.superclass "ForgottenFeast$Life" "java/lang/Object", Cond.classLink RX9 45 RX2, Cond.instantiable RX2 3, Cond.methodLinkNest RX9 47 yX2_init RX9, Cond.instanceMethod yX2_init, Cond.code yX2_init cX2_init 1 none, Cond.methodLink RX2 3 objectInit, Cond.classLink RX2 9 RX1, Jvm.Cond.arrayOver (Jvm.ClassFile.FieldType.object "ForgottenFeast$Life"), Cond.fieldLink RX2 11 "ForgottenFeast$Past" "lives" "[LForgottenFeast$Life;", Cond.fieldLink RX2 21 "ForgottenFeast$Past" "from" "I", Cond.fieldLink RX2 17 "ForgottenFeast$Past" "count" "I", Cond.fieldLinkNest RX9 163 "ForgottenFeast$Past" "count" "I" RX9, Jvm.Cond.laysFinal "ForgottenFeast$Past" "ForgottenFeast$Past" "lives" "[LForgottenFeast$Life;", Jvm.Cond.soleField "ForgottenFeast$Past" "lives", Jvm.Cond.lays "ForgottenFeast$Past" "ForgottenFeast$Past" "from" "I", Jvm.Cond.soleField "ForgottenFeast$Past" "from", Jvm.Cond.lays "ForgottenFeast$Past" "ForgottenFeast$Past" "count" "I", Jvm.Cond.soleField "ForgottenFeast$Past" "count", Jvm.Cond.superclass "ForgottenFeast$Past" "java/lang/Object", Cond.classLink RX9 52 RX0, Cond.instantiable RX0 14, Cond.methodLinkNest RX9 54 yX0_init RX9, Cond.instanceMethod yX0_init, Cond.code yX0_init cX0_init 3 none, Cond.methodLink RX0 3 objectInit, Cond.fieldLink RX0 54 "ForgottenFeast$Dawn" "year" "I", Cond.fieldLinkNest RX9 228 "ForgottenFeast$Dawn" "year" "I" RX9, Cond.fieldLink RX0 55 "ForgottenFeast$Dawn" "day" "I", Cond.fieldLinkNest RX9 229 "ForgottenFeast$Dawn" "day" "I" RX9, Cond.fieldLink RX0 59 "ForgottenFeast$Dawn" "feastSoFar" "I", Cond.fieldLink RX0 81 "ForgottenFeast$Dawn" "awake" "I", Cond.fieldLinkNest RX9 282 "ForgottenFeast$Dawn" "awake" "I" RX9, Cond.fieldLink RX0 91 "ForgottenFeast$Dawn" "ofThemselves" "I", Cond.fieldLinkNest RX9 222 "ForgottenFeast$Dawn" "ofThemselves" "I" RX9, Cond.fieldLink RX0 96 "ForgottenFeast$Dawn" "thinkers" "I", Cond.fieldLinkNest RX9 225 "ForgottenFeast$Dawn" "thinkers" "I" RX9, Cond.fieldLink RX0 99 "ForgottenFeast$Dawn" "isFeast" "Z", Cond.fieldLinkNest RX9 230 "ForgottenFeast$Dawn" "isFeast" "Z" RX9, Cond.fieldLink RX0 38 "ForgottenFeast$Dawn" "coming" "Z", Cond.fieldLink RX0 24 "ForgottenFeast$Dawn" "town" "LForgottenFeast$Town;", Cond.fieldLink RX0 28 "ForgottenFeast$Dawn" "life" "LForgottenFeast$Life;", Cond.fieldLink RX0 9 "ForgottenFeast$Dawn" "parts" "[I", Cond.fieldLink RX0 15 "ForgottenFeast$Dawn" "stack" "[I", Cond.fieldLink RX0 18 "ForgottenFeast$Dawn" "tried" "[I", Cond.fieldLink RX0 21 "ForgottenFeast$Dawn" "heard" "[I", Jvm.Cond.lays "ForgottenFeast$Dawn" "ForgottenFeast$Dawn" "year" "I", Jvm.Cond.soleField "ForgottenFeast$Dawn" "year", Jvm.Cond.lays "ForgottenFeast$Dawn" "ForgottenFeast$Dawn" "day" "I", Jvm.Cond.soleField "ForgottenFeast$Dawn" "day", Jvm.Cond.lays "ForgottenFeast$Dawn" "ForgottenFeast$Dawn" "feastSoFar" "I", Jvm.Cond.soleField "ForgottenFeast$Dawn" "feastSoFar", Jvm.Cond.lays "ForgottenFeast$Dawn" "ForgottenFeast$Dawn" "awake" "I", Jvm.Cond.soleField "ForgottenFeast$Dawn" "awake", Jvm.Cond.lays "ForgottenFeast$Dawn" "ForgottenFeast$Dawn" "ofThemselves" "I", Jvm.Cond.soleField "ForgottenFeast$Dawn" "ofThemselves", Jvm.Cond.lays "ForgottenFeast$Dawn" "ForgottenFeast$Dawn" "thinkers" "I", Jvm.Cond.soleField "ForgottenFeast$Dawn" "thinkers", Jvm.Cond.lays "ForgottenFeast$Dawn" "ForgottenFeast$Dawn" "isFeast" "Z", Jvm.Cond.soleField "ForgottenFeast$Dawn" "isFeast", Jvm.Cond.lays "ForgottenFeast$Dawn" "ForgottenFeast$Dawn" "coming" "Z", Jvm.Cond.soleField "ForgottenFeast$Dawn" "coming", Jvm.Cond.lays "ForgottenFeast$Dawn" "ForgottenFeast$Dawn" "town" "LForgottenFeast$Town;", Jvm.Cond.soleField "ForgottenFeast$Dawn" "town", Jvm.Cond.lays "ForgottenFeast$Dawn" "ForgottenFeast$Dawn" "life" "LForgottenFeast$Life;", Jvm.Cond.soleField "ForgottenFeast$Dawn" "life", Jvm.Cond.laysFinal "ForgottenFeast$Dawn" "ForgottenFeast$Dawn" "parts" "[I", Jvm.Cond.soleField "ForgottenFeast$Dawn" "parts", Jvm.Cond.laysFinal "ForgottenFeast$Dawn" "ForgottenFeast$Dawn" "stack" "[I", Jvm.Cond.soleField "ForgottenFeast$Dawn" "stack", Jvm.Cond.laysFinal "ForgottenFeast$Dawn" "ForgottenFeast$Dawn" "tried" "[I", Jvm.Cond.soleField "ForgottenFeast$Dawn" "tried", Jvm.Cond.laysFinal "ForgottenFeast$Dawn" "ForgottenFeast$Dawn" "heard" "[I", Jvm.Cond.soleField "ForgottenFeast$Dawn" "heard", Jvm.Cond.superclass "ForgottenFeast$Dawn" "java/lang/Object", Cond.classLink RX9 61 RX3, Cond.instantiable RX3 2, Cond.methodLinkNest RX9 63 yX3_init RX9, Cond.instanceMethod yX3_init, Cond.code yX3_init cX3_init 1 none, Cond.methodLink RX3 3 objectInit, Cond.fieldLink RX3 11 "ForgottenFeast$Picture" "bytes" "[I", Cond.fieldLinkNest RX9 328 "ForgottenFeast$Picture" "bytes" "[I" RX9, Cond.fieldLink RX3 15 "ForgottenFeast$Picture" "size" "I", Cond.fieldLinkNest RX9 325 "ForgottenFeast$Picture" "size" "I" RX9, Jvm.Cond.laysFinal "ForgottenFeast$Picture" "ForgottenFeast$Picture" "bytes" "[I", Jvm.Cond.soleField "ForgottenFeast$Picture" "bytes", Jvm.Cond.lays "ForgottenFeast$Picture" "ForgottenFeast$Picture" "size" "I", Jvm.Cond.soleField "ForgottenFeast$Picture" "size", Jvm.Cond.superclass "ForgottenFeast$Picture" "java/lang/Object", Cond.fieldLink RX9 12 "ForgottenFeast" "tape" "LForgottenFeast$Tape;", Cond.fieldLink RX9 31 "ForgottenFeast" "reader" "LForgottenFeast$Reader;", Cond.fieldLink RX9 19 "ForgottenFeast" "town" "LForgottenFeast$Town;", Cond.fieldLink RX9 23 "ForgottenFeast" "spareTown" "LForgottenFeast$Town;", Cond.fieldLink RX9 38 "ForgottenFeast" "life" "LForgottenFeast$Life;", Cond.fieldLink RX9 42 "ForgottenFeast" "ahead" "LForgottenFeast$Life;", Cond.fieldLink RX9 48 "ForgottenFeast" "past" "LForgottenFeast$Past;", Cond.fieldLink RX9 57 "ForgottenFeast" "dawn" "LForgottenFeast$Dawn;", Cond.fieldLink RX9 64 "ForgottenFeast" "picture" "LForgottenFeast$Picture;", Cond.fieldLink RX9 68 "ForgottenFeast" "seenPerson" "[I", Cond.fieldLink RX9 72 "ForgottenFeast" "seenThinking" "[I", Cond.fieldLink RX9 114 "ForgottenFeast" "seenCount" "I", Cond.fieldLink RX9 75 "ForgottenFeast" "quietFor" "[I", Cond.fieldLink RX9 78 "ForgottenFeast" "refused" "[I", Cond.fieldLink RX9 120 "ForgottenFeast" "faultKind" "I", Cond.fieldLink RX9 81 "ForgottenFeast" "faultPlace" "I", Cond.fieldLink RX9 85 "ForgottenFeast" "draw" "J", Jvm.Cond.laysFinal "ForgottenFeast" "ForgottenFeast" "tape" "LForgottenFeast$Tape;", Jvm.Cond.soleField "ForgottenFeast" "tape", Jvm.Cond.laysFinal "ForgottenFeast" "ForgottenFeast" "reader" "LForgottenFeast$Reader;", Jvm.Cond.soleField "ForgottenFeast" "reader", Jvm.Cond.lays "ForgottenFeast" "ForgottenFeast" "town" "LForgottenFeast$Town;", Jvm.Cond.soleField "ForgottenFeast" "town", Jvm.Cond.lays "ForgottenFeast" "ForgottenFeast" "spareTown" "LForgottenFeast$Town;", Jvm.Cond.soleField "ForgottenFeast" "spareTown", Jvm.Cond.laysFinal "ForgottenFeast" "ForgottenFeast" "life" "LForgottenFeast$Life;", Jvm.Cond.soleField "ForgottenFeast" "life", Jvm.Cond.laysFinal "ForgottenFeast" "ForgottenFeast" "ahead" "LForgottenFeast$Life;", Jvm.Cond.soleField "ForgottenFeast" "ahead", Jvm.Cond.laysFinal "ForgottenFeast" "ForgottenFeast" "past" "LForgottenFeast$Past;", Jvm.Cond.soleField "ForgottenFeast" "past", Jvm.Cond.laysFinal "ForgottenFeast" "ForgottenFeast" "dawn" "LForgottenFeast$Dawn;", Jvm.Cond.soleField "ForgottenFeast" "dawn", Jvm.Cond.laysFinal "ForgottenFeast" "ForgottenFeast" "picture" "LForgottenFeast$Picture;", Jvm.Cond.soleField "ForgottenFeast" "picture", Jvm.Cond.laysFinal "ForgottenFeast" "ForgottenFeast" "seenPerson" "[I", Jvm.Cond.soleField "ForgottenFeast" "seenPerson", Jvm.Cond.laysFinal "ForgottenFeast" "ForgottenFeast" "seenThinking" "[I", Jvm.Cond.soleField "ForgottenFeast" "seenThinking", Jvm.Cond.lays "ForgottenFeast" "ForgottenFeast" "seenCount" "I", Jvm.Cond.soleField "ForgottenFeast" "seenCount", Jvm.Cond.laysFinal "ForgottenFeast" "ForgottenFeast" "quietFor" "[I", Jvm.Cond.soleField "ForgottenFeast" "quietFor", Jvm.Cond.laysFinal "ForgottenFeast" "ForgottenFeast" "refused" "[I", Jvm.Cond.soleField "ForgottenFeast" "refused", Jvm.Cond.lays "ForgottenFeast" "ForgottenFeast" "faultKind" "I", Jvm.Cond.soleField "ForgottenFeast" "faultKind", Jvm.Cond.lays "ForgottenFeast" "ForgottenFeast" "faultPlace" "I", Jvm.Cond.soleField "ForgottenFeast" "faultPlace", Jvm.Cond.lays "ForgottenFeast" "ForgottenFeast" "draw" "J", Jvm.Cond.soleField "ForgottenFeast" "draw", Jvm.Cond.superclass "ForgottenFeast" "java/lang/Object", Cond.methodLink "ForgottenFeastLaw" 13 yX9_feed, Cond.instanceMethod yX9_feed, Cond.selects RX9 yX9_feed yX9_feed, Cond.code yX9_feed cX9_feed 6 (some .int), Cond.methodLink RX9 92 yX9_refuse, Cond.privateMethod yX9_refuse, Cond.instanceMethod yX9_refuse, Cond.code yX9_refuse cX9_refuse 2 (some .int), Cond.methodLinkNest RX9 96 yX6_addNumber RX9, Cond.privateMethod yX6_addNumber, Cond.instanceMethod yX6_addNumber, Cond.code yX6_addNumber cX6_addNumber 3 none, Cond.methodLink "ForgottenFeastLaw" 18 yX9_end, Cond.instanceMethod yX9_end, Cond.selects RX9 yX9_end yX9_end, Cond.code yX9_end cX9_end 2 (some .boolean), Cond.methodLink "ForgottenFeastLaw" 23 yX9_town, Cond.instanceMethod yX9_town, Cond.selects RX9 yX9_town yX9_town, Cond.code yX9_town cX9_town 3 (some .int), Cond.methodLinkNest RX9 100 yX4_readTown RX9, Cond.privateMethod yX4_readTown, Cond.instanceMethod yX4_readTown, Cond.code yX4_readTown cX4_readTown 3 (some .boolean), Cond.methodLink RX4 33 yX4_begin, Cond.privateMethod yX4_begin, Cond.instanceMethod yX4_begin, Cond.code yX4_begin cX4_begin 1 none, Cond.methodLinkNest RX4 81 yX7_cut RX9, Cond.privateMethod yX7_cut, Cond.instanceMethod yX7_cut, Cond.code yX7_cut cX7_cut 6 none, Cond.methodLink RX7 32 yX7_runFrom, Cond.privateMethod yX7_runFrom, Cond.instanceMethod yX7_runFrom, Cond.code yX7_runFrom cX7_runFrom 4 (some .int), Cond.methodLink RX7 36 yX7_isLetter, Cond.static yX7_isLetter, Cond.code yX7_isLetter cX7_isLetter 1 (some .boolean), Cond.methodLink RX7 66 yX7_isDigit, Cond.static yX7_isDigit, Cond.code yX7_isDigit cX7_isDigit 1 (some .boolean), Cond.methodLink RX7 40 yX7_wordKind, Cond.privateMethod yX7_wordKind, Cond.instanceMethod yX7_wordKind, Cond.code yX7_wordKind cX7_wordKind 4 (some .int), Cond.methodLink RX7 69 yX7_isWord, Cond.privateMethod yX7_isWord, Cond.instanceMethod yX7_isWord, Cond.code yX7_isWord cX7_isWord 6 (some .boolean), Jvm.Cond.stringRef "ForgottenFeast$Tokens" (73 : Nat) "days    person  mind    asks    told    on      reminds frost   for     thinks  hears   slips   mortal  day     year    ago     feast   other   number  dead    knows   or      and     not     all     min     max     first   last    often   total   most    least   ", Cond.methodLink RX7 75 yJ0_charAt_5068e]
set_option maxRecDepth 100000 in
theorem tw_2_eq : tw_2 = tables_1_2 := rfl
theorem tw_m2 {w : Cond} (j : Nat) (hj : tw_2[j]? = some w) : w ∈ tables_1 := by
  have h : w ∈ tables_1_2 := by rw [← tw_2_eq]; exact List.mem_of_getElem? hj
  exact List.mem_append_right _ (List.mem_append_left _ h)
def tw_3 : List Cond := [Cond.instanceMethod yJ0_charAt_5068e, Cond.selects RJ0 yJ0_charAt_5068e yJ0_charAt_5068e, Cond.code yJ0_charAt_5068e cJ0_charAt_5068e 2 (some .char), Cond.methodLink RJ0 492 yJ0_isLatin1_aae02, Cond.instanceMethod yJ0_isLatin1_aae02, Cond.selects RJ0 yJ0_isLatin1_aae02 yJ0_isLatin1_aae02, Cond.code yJ0_isLatin1_aae02 cJ0_isLatin1_aae02 1 (some .boolean), Cond.fieldLink RJ0 38 "java/lang/String" "COMPACT_STRINGS" "Z", Jvm.Cond.laysStatic "java/lang/String" "COMPACT_STRINGS" "Z", Cond.methodLink RJ0 495 yJ1_charAt_3b067, Cond.static yJ1_charAt_3b067, Cond.code yJ1_charAt_3b067 cJ1_charAt_3b067 2 (some .char), Cond.methodLink RJ1 9 yJ0_checkIndex_df160, Cond.static yJ0_checkIndex_df160, Cond.code yJ0_checkIndex_df160 cJ0_checkIndex_df160 2 none, Cond.fieldLink RJ0 1053 "jdk/internal/util/Preconditions" "SIOOBE_FORMATTER" "Ljava/util/function/BiFunction;", Jvm.Cond.laysStatic "jdk/internal/util/Preconditions" "SIOOBE_FORMATTER" "Ljava/util/function/BiFunction;", Cond.methodLink RJ0 1059 yJ3_checkIndex_8e157, Cond.static yJ3_checkIndex_8e157, Cond.code yJ3_checkIndex_8e157 cJ3_checkIndex_8e157 3 (some .int), Cond.methodLink RJ0 498 yJ2_charAt_3b067, Cond.static yJ2_charAt_3b067, Cond.code yJ2_charAt_3b067 cJ2_charAt_3b067 2 (some .char), Cond.methodLink RJ2 67 yJ2_checkIndex_2214a, Cond.static yJ2_checkIndex_2214a, Cond.code yJ2_checkIndex_2214a cJ2_checkIndex_2214a 2 none, Cond.methodLink RJ2 48 yJ2_length_9d52b, Cond.static yJ2_length_9d52b, Cond.code yJ2_length_9d52b cJ2_length_9d52b 1 (some .int), Cond.methodLink RJ2 414 yJ0_checkIndex_df160, Cond.methodLink RJ2 71 yJ2_getChar_3b067, Cond.static yJ2_getChar_3b067, Cond.code yJ2_getChar_3b067 cJ2_getChar_3b067 2 (some .char), Cond.fieldLink RJ2 44 "java/lang/StringUTF16" "$assertionsDisabled" "Z", Jvm.Cond.laysStatic "java/lang/StringUTF16" "$assertionsDisabled" "Z", Cond.fieldLink RJ2 59 "java/lang/StringUTF16" "HI_BYTE_SHIFT" "I", Jvm.Cond.laysStatic "java/lang/StringUTF16" "HI_BYTE_SHIFT" "I", Cond.fieldLink RJ2 63 "java/lang/StringUTF16" "LO_BYTE_SHIFT" "I", Jvm.Cond.laysStatic "java/lang/StringUTF16" "LO_BYTE_SHIFT" "I", Cond.methodLink RX7 44 yX7_lettersOf, Cond.privateMethod yX7_lettersOf, Cond.instanceMethod yX7_lettersOf, Cond.code yX7_lettersOf cX7_lettersOf 5 (some .int), Cond.methodLink RX7 47 yX7_numberOf, Cond.privateMethod yX7_numberOf, Cond.instanceMethod yX7_numberOf, Cond.code yX7_numberOf cX7_numberOf 5 (some .int), Cond.methodLink RX7 50 yX7_add, Cond.privateMethod yX7_add, Cond.instanceMethod yX7_add, Cond.code yX7_add cX7_add 4 none, Jvm.Cond.stringRef "ForgottenFeast$Tokens" (54 : Nat) "()*+,-/;<=>[]", Cond.methodLink RX7 56 yJ0_indexOf_0f7a4, Cond.instanceMethod yJ0_indexOf_0f7a4, Cond.selects RJ0 yJ0_indexOf_0f7a4 yJ0_indexOf_0f7a4, Cond.code yJ0_indexOf_0f7a4 cJ0_indexOf_0f7a4 2 (some .int), Cond.methodLink RJ0 633 yJ0_indexOf_7cf53, Cond.instanceMethod yJ0_indexOf_7cf53, Cond.selects RJ0 yJ0_indexOf_7cf53 yJ0_indexOf_7cf53, Cond.code yJ0_indexOf_7cf53 cJ0_indexOf_7cf53 3 (some .int), Cond.methodLink RJ0 505 yJ0_length_8abf5, Cond.instanceMethod yJ0_length_8abf5, Cond.selects RJ0 yJ0_length_8abf5 yJ0_length_8abf5, Cond.code yJ0_length_8abf5 cJ0_length_8abf5 1 (some .int), Cond.methodLink RJ0 335 yJ0_coder_7d493, Cond.instanceMethod yJ0_coder_7d493, Cond.selects RJ0 yJ0_coder_7d493 yJ0_coder_7d493, Cond.code yJ0_coder_7d493 cJ0_coder_7d493 1 (some .byte), Cond.methodLink RJ0 637 yJ1_indexOf_4cfef, Cond.static yJ1_indexOf_4cfef, Cond.code yJ1_indexOf_4cfef cJ1_indexOf_4cfef 4 (some .int), Cond.methodLink RJ1 88 yJ1_canEncode_9a6ad, Cond.static yJ1_canEncode_9a6ad, Cond.code yJ1_canEncode_9a6ad cJ1_canEncode_9a6ad 1 (some .boolean), Cond.methodLink RJ1 92 yJ9_max_7cf53, Cond.methodLink RJ1 38 yJ9_min_7cf53, Cond.static yJ9_min_7cf53, Cond.code yJ9_min_7cf53 cJ9_min_7cf53 2 (some .int), Cond.methodLink RJ1 95 yJ1_indexOfChar_4cfef, Cond.static yJ1_indexOfChar_4cfef, Cond.code yJ1_indexOfChar_4cfef cJ1_indexOfChar_4cfef 6 (some .int), Cond.methodLink RJ0 640 yJ2_indexOf_4cfef, Cond.static yJ2_indexOf_4cfef, Cond.code yJ2_indexOf_4cfef cJ2_indexOf_4cfef 4 (some .int), Cond.methodLink RJ2 224 yJ9_max_7cf53, Cond.methodLink RJ2 183 yJ9_min_7cf53, Cond.constant RJ2 227 (Int32.ofInt (65536)), Cond.methodLink RJ2 228 yJ2_indexOfChar_4cfef, Cond.static yJ2_indexOfChar_4cfef, Cond.code yJ2_indexOfChar_4cfef cJ2_indexOfChar_4cfef 4 (some .int), Cond.methodLink RJ2 96 yJ2_checkBoundsBeginEnd_d044e, Cond.static yJ2_checkBoundsBeginEnd_d044e, Cond.code yJ2_checkBoundsBeginEnd_d044e cJ2_checkBoundsBeginEnd_d044e 3 none, Cond.methodLink RJ2 241 yJ0_checkBoundsBeginEnd_23922, Cond.static yJ0_checkBoundsBeginEnd_23922, Cond.code yJ0_checkBoundsBeginEnd_23922 cJ0_checkBoundsBeginEnd_23922 3 none, Cond.methodLink RJ0 1062 yJ3_checkFromToIndex_8c36e, Cond.static yJ3_checkFromToIndex_8c36e, Cond.code yJ3_checkFromToIndex_8c36e cJ3_checkFromToIndex_8c36e 4 (some .int), Cond.methodLink RJ2 244 yJ2_indexOfCharUnsafe_4cfef, Cond.static yJ2_indexOfCharUnsafe_4cfef, Cond.code yJ2_indexOfCharUnsafe_4cfef cJ2_indexOfCharUnsafe_4cfef 5 (some .int), Cond.methodLink RJ2 232 yJ2_indexOfSupplementary_4cfef, Cond.static yJ2_indexOfSupplementary_4cfef, Cond.code yJ2_indexOfSupplementary_4cfef cJ2_indexOfSupplementary_4cfef 7 (some .int), Cond.methodLink RJ2 164 yJ11_isValidCodePoint_9a6ad, Cond.static yJ11_isValidCodePoint_9a6ad, Cond.code yJ11_isValidCodePoint_9a6ad cJ11_isValidCodePoint_9a6ad 2 (some .boolean), Cond.methodLink RJ2 157 yJ11_highSurrogate_5068e, Cond.static yJ11_highSurrogate_5068e, Cond.code yJ11_highSurrogate_5068e cJ11_highSurrogate_5068e 1 (some .char), Cond.constant RJ11 110 (Int32.ofInt (55232)), Cond.methodLink RJ2 161 yJ11_lowSurrogate_5068e, Cond.static yJ11_lowSurrogate_5068e, Cond.code yJ11_lowSurrogate_5068e cJ11_lowSurrogate_5068e 1 (some .char), Cond.constant RJ11 76 (Int32.ofInt (56320)), Cond.methodLink RX7 61 yJ9_max_7cf53, Cond.methodLink RX4 71 yX4_pass, Cond.privateMethod yX4_pass, Cond.instanceMethod yX4_pass, Cond.code yX4_pass cX4_pass 5 none, Cond.constantLong RX4 100 (Int64.ofInt (255)), Cond.constantLong RX4 102 (Int64.ofInt (16777215)), Cond.methodLinkNest RX4 40 yX8_clear RX9, Cond.privateMethod yX8_clear, Cond.instanceMethod yX8_clear, Cond.code yX8_clear cX8_clear 1 none, Cond.methodLink RX8 70 yJ7_fill_53178, Cond.static yJ7_fill_53178, Cond.code yJ7_fill_53178 cJ7_fill_53178 4 none, Cond.methodLink RX4 49 yX4_readStatement, Cond.privateMethod yX4_readStatement, Cond.instanceMethod yX4_readStatement, Cond.code yX4_readStatement cX4_readStatement 3 none, Cond.methodLinkNest RX4 107 yX8_isFull RX9, Cond.privateMethod yX8_isFull, Cond.instanceMethod yX8_isFull, Cond.code yX8_isFull cX8_isFull 2 (some .boolean), Cond.methodLink RX4 58 yX4_fail, Cond.privateMethod yX4_fail, Cond.instanceMethod yX4_fail, Cond.code yX4_fail cX4_fail 3 none, Cond.methodLink RX4 111 yX4_readNumber, Cond.privateMethod yX4_readNumber, Cond.instanceMethod yX4_readNumber, Cond.code yX4_readNumber cX4_readNumber 4 (some .int), Cond.methodLink RX4 118 yX4_readPerson, Cond.privateMethod yX4_readPerson, Cond.instanceMethod yX4_readPerson, Cond.code yX4_readPerson cX4_readPerson 5 none, Cond.methodLinkNest RX4 147 yX8_find RX9, Cond.privateMethod yX8_find, Cond.instanceMethod yX8_find, Cond.code yX8_find cX8_find 3 (some .int), Cond.methodLink RX4 151 yX4_readName, Cond.privateMethod yX4_readName, Cond.instanceMethod yX4_readName, Cond.code yX4_readName cX4_readName 2 none, Cond.methodLinkNest RX4 155 yX8_addPerson RX9, Cond.privateMethod yX8_addPerson, Cond.instanceMethod yX8_addPerson, Cond.code yX8_addPerson cX8_addPerson 4 none, Cond.methodLink RX4 121 yX4_readTold, Cond.privateMethod yX4_readTold, Cond.instanceMethod yX4_readTold, Cond.code yX4_readTold cX4_readTold 4 none, Cond.methodLinkNest RX4 159 yX8_addTold RX9, Cond.privateMethod yX8_addTold, Cond.instanceMethod yX8_addTold, Cond.code yX8_addTold cX8_addTold 3 (some .boolean), Cond.methodLinkNest RX8 79 yX9_bit RX9, Cond.static yX9_bit, Cond.code yX9_bit cX9_bit 2 (some .int), Cond.methodLink RX4 124 yX4_readReminds, Cond.privateMethod yX4_readReminds, Cond.instanceMethod yX4_readReminds, Cond.code yX4_readReminds cX4_readReminds 4 none, Cond.methodLinkNest RX4 163 yX8_addReminds RX9, Cond.privateMethod yX8_addReminds, Cond.instanceMethod yX8_addReminds, Cond.code yX8_addReminds cX8_addReminds 3 (some .boolean), Cond.methodLink RX4 127 yX4_readFrost, Cond.privateMethod yX4_readFrost, Cond.instanceMethod yX4_readFrost, Cond.code yX4_readFrost cX4_readFrost 3 none, Cond.methodLinkNest RX4 166 yX8_addFrost RX9, Cond.privateMethod yX8_addFrost, Cond.instanceMethod yX8_addFrost, Cond.code yX8_addFrost cX8_addFrost 4 none, Cond.methodLink RX4 75 yX4_readTest, Cond.privateMethod yX4_readTest, Cond.instanceMethod yX4_readTest, Cond.code yX4_readTest cX4_readTest 4 none, Cond.methodLink RX4 169 yX4_readFact, Cond.privateMethod yX4_readFact, Cond.instanceMethod yX4_readFact, Cond.code yX4_readFact cX4_readFact 2 none, Cond.methodLink RX4 175 yX4_open, Cond.privateMethod yX4_open, Cond.instanceMethod yX4_open, Cond.code yX4_open cX4_open 1 (some .boolean), Cond.methodLinkNest RX4 172 yX5_add RX9, Cond.privateMethod yX5_add, Cond.instanceMethod yX5_add, Cond.code yX5_add cX5_add 2 none, Cond.methodLink RX4 78 yX4_readSum, Cond.privateMethod yX4_readSum, Cond.instanceMethod yX4_readSum, Cond.code yX4_readSum cX4_readSum 5 none, Cond.methodLink RX4 179 yX4_readPart, Cond.privateMethod yX4_readPart, Cond.instanceMethod yX4_readPart, Cond.code yX4_readPart cX4_readPart 2 none, Cond.methodLink RX4 185 yX4_readSumsInside, Cond.privateMethod yX4_readSumsInside, Cond.instanceMethod yX4_readSumsInside, Cond.code yX4_readSumsInside cX4_readSumsInside 2 none, Cond.methodLink RX4 188 yX4_isPartWord, Cond.privateMethod yX4_isPartWord, Cond.instanceMethod yX4_isPartWord, Cond.code yX4_isPartWord cX4_isPartWord 2 (some .boolean), Cond.methodLink RX4 182 yX4_isSumSign, Cond.static yX4_isSumSign, Cond.code yX4_isSumSign cX4_isSumSign 1 (some .boolean), Cond.methodLinkNest RX4 133 yX8_ruleOf RX9, Cond.privateMethod yX8_ruleOf, Cond.instanceMethod yX8_ruleOf, Cond.code yX8_ruleOf cX8_ruleOf 2 (some (.object "ForgottenFeast$Rule")), Cond.methodLinkNest RX4 137 yX5_copyFrom RX9, Cond.privateMethod yX5_copyFrom, Cond.instanceMethod yX5_copyFrom, Cond.code yX5_copyFrom cX5_copyFrom 2 none, Cond.methodLink RX5 25 arraycopyName, Cond.static arraycopyName, Cond.native arraycopyName, Cond.methodLink RX9 104 yX9_noteFault, Cond.privateMethod yX9_noteFault, Cond.instanceMethod yX9_noteFault, Cond.code yX9_noteFault cX9_noteFault 1 none, Cond.methodLinkNest RX9 107 yX1_begin RX9]
set_option maxRecDepth 100000 in
theorem tw_3_eq : tw_3 = tables_1_3 := rfl
theorem tw_m3 {w : Cond} (j : Nat) (hj : tw_3[j]? = some w) : w ∈ tables_1 := by
  have h : w ∈ tables_1_3 := by rw [← tw_3_eq]; exact List.mem_of_getElem? hj
  exact List.mem_append_right _ (List.mem_append_right _ (List.mem_append_left _ h))
def tw_4 : List Cond := [Cond.privateMethod yX1_begin, Cond.instanceMethod yX1_begin, Cond.code yX1_begin cX1_begin 2 none, Cond.methodLink RX1 40 yJ7_fill_53178, Cond.methodLink RX1 49 arraycopyName, Cond.methodLinkNest RX9 111 yX2_forget RX9, Cond.privateMethod yX2_forget, Cond.instanceMethod yX2_forget, Cond.code yX2_forget cX2_forget 1 none, Jvm.Cond.arrayClass Jvm.ClassFile.FieldType.byte, Cond.methodLink "ForgottenFeastLaw" 28 yX9_fault, Cond.instanceMethod yX9_fault, Cond.selects RX9 yX9_fault yX9_fault, Cond.code yX9_fault cX9_fault 2 (some .int), Cond.methodLink "ForgottenFeastLaw" 33 yX9_has, Cond.instanceMethod yX9_has, Cond.selects RX9 yX9_has yX9_has, Cond.code yX9_has cX9_has 2 (some .int), Cond.methodLink RX9 129 yX9_living, Cond.privateMethod yX9_living, Cond.instanceMethod yX9_living, Cond.code yX9_living cX9_living 1 (some .int), Cond.methodLinkNest RX9 339 yX8_everybody RX9, Cond.privateMethod yX8_everybody, Cond.instanceMethod yX8_everybody, Cond.code yX8_everybody cX8_everybody 1 (some .int), Cond.methodLink RX9 133 yJ6_bitCount_0f7a4, Cond.static yJ6_bitCount_0f7a4, Cond.code yJ6_bitCount_0f7a4 cJ6_bitCount_0f7a4 1 (some .int), Cond.constant RJ6 265 (Int32.ofInt (1431655765)), Cond.constant RJ6 266 (Int32.ofInt (858993459)), Cond.constant RJ6 267 (Int32.ofInt (252645135)), Cond.methodLink RX9 150 yX9_countBits, Cond.static yX9_countBits, Cond.code yX9_countBits cX9_countBits 6 (some .int), Cond.methodLink "ForgottenFeastLaw" 37 yX9_letter, Cond.instanceMethod yX9_letter, Cond.selects RX9 yX9_letter yX9_letter, Cond.code yX9_letter cX9_letter 3 (some .int), Cond.methodLink RX9 166 yX9_isPerson, Cond.privateMethod yX9_isPerson, Cond.instanceMethod yX9_isPerson, Cond.code yX9_isPerson cX9_isPerson 2 (some .boolean), Cond.methodLink "ForgottenFeastLaw" 42 yX9_person, Cond.instanceMethod yX9_person, Cond.selects RX9 yX9_person yX9_person, Cond.code yX9_person cX9_person 3 (some .int), Cond.methodLink RX9 185 yX9_bit, Cond.methodLink RX9 195 yX9_daysToldOff, Cond.privateMethod yX9_daysToldOff, Cond.instanceMethod yX9_daysToldOff, Cond.code yX9_daysToldOff cX9_daysToldOff 4 (some .int), Cond.methodLink "ForgottenFeastLaw" 46 yX9_day, Cond.instanceMethod yX9_day, Cond.selects RX9 yX9_day yX9_day, Cond.code yX9_day cX9_day 3 (some .int), Cond.methodLink RX9 198 yX9_isDay, Cond.privateMethod yX9_isDay, Cond.instanceMethod yX9_isDay, Cond.code yX9_isDay cX9_isDay 2 (some .boolean), Cond.methodLink "ForgottenFeastLaw" 50 yX9_kept, Cond.instanceMethod yX9_kept, Cond.selects RX9 yX9_kept yX9_kept, Cond.code yX9_kept cX9_kept 4 (some .int), Cond.methodLinkNest RX9 204 yX1_rowAt RX9, Cond.privateMethod yX1_rowAt, Cond.instanceMethod yX1_rowAt, Cond.code yX1_rowAt cX1_rowAt 2 (some .int), Cond.methodLinkNest RX9 207 yX1_rowYear RX9, Cond.static yX1_rowYear, Cond.code yX1_rowYear cX1_rowYear 1 (some .int), Cond.methodLinkNest RX9 210 yX1_rowDay RX9, Cond.static yX1_rowDay, Cond.code yX1_rowDay cX1_rowDay 1 (some .int), Cond.methodLinkNest RX9 213 yX1_rowThinkers RX9, Cond.static yX1_rowThinkers, Cond.code yX1_rowThinkers cX1_rowThinkers 1 (some .int), Cond.methodLinkNest RX9 216 yX1_rowFeast RX9, Cond.static yX1_rowFeast, Cond.code yX1_rowFeast cX1_rowFeast 1 (some .int), Cond.methodLink "ForgottenFeastLaw" 54 yX9_later, Cond.instanceMethod yX9_later, Cond.selects RX9 yX9_later yX9_later, Cond.code yX9_later cX9_later 3 (some .int), Cond.methodLink RX9 219 yX9_foresee, Cond.privateMethod yX9_foresee, Cond.instanceMethod yX9_foresee, Cond.code yX9_foresee cX9_foresee 3 (some .boolean), Cond.methodLink RX9 257 yX9_isAhead, Cond.privateMethod yX9_isAhead, Cond.instanceMethod yX9_isAhead, Cond.code yX9_isAhead cX9_isAhead 2 (some .boolean), Cond.methodLinkNest RX9 234 yX1_daysLeft RX9, Cond.privateMethod yX1_daysLeft, Cond.instanceMethod yX1_daysLeft, Cond.code yX1_daysLeft cX1_daysLeft 2 (some .int), Cond.methodLinkNest RX9 243 yX1_copyFrom RX9, Cond.privateMethod yX1_copyFrom, Cond.instanceMethod yX1_copyFrom, Cond.code yX1_copyFrom cX1_copyFrom 2 none, Cond.methodLinkNest RX9 247 yX0_lookAt RX9, Cond.privateMethod yX0_lookAt, Cond.instanceMethod yX0_lookAt, Cond.code yX0_lookAt cX0_lookAt 4 (some .boolean), Cond.methodLinkNest RX0 32 yX1_daysLeft RX9, Cond.methodLink RX0 65 yJ7_fill_53178, Cond.methodLinkNest RX0 71 yX8_everybody RX9, Cond.methodLink RX0 87 yX0_ofThemselves, Cond.privateMethod yX0_ofThemselves, Cond.instanceMethod yX0_ofThemselves, Cond.code yX0_ofThemselves cX0_ofThemselves 5 (some .int), Cond.methodLinkNest RX0 105 yX9_bit RX9, Cond.methodLink RX0 125 yX0_setPerson, Cond.privateMethod yX0_setPerson, Cond.instanceMethod yX0_setPerson, Cond.code yX0_setPerson cX0_setPerson 3 none, Cond.methodLinkNest RX0 129 yX5_valueOf RX9, Cond.privateMethod yX5_valueOf, Cond.instanceMethod yX5_valueOf, Cond.code yX5_valueOf cX5_valueOf 6 (some .int), Cond.methodLink RX5 31 yX5_partAt, Cond.static yX5_partAt, Cond.code yX5_partAt cX5_partAt 2 (some .int), Cond.methodLink RX5 35 yX5_isRemindedBy, Cond.static yX5_isRemindedBy, Cond.code yX5_isRemindedBy cX5_isRemindedBy 3 (some .int), Cond.methodLink RX5 39 yX5_pairUp, Cond.static yX5_pairUp, Cond.code yX5_pairUp cX5_pairUp 5 (some .int), Cond.methodLink RX5 43 yJ9_floorDiv_7cf53, Cond.static yJ9_floorDiv_7cf53, Cond.code yJ9_floorDiv_7cf53 cJ9_floorDiv_7cf53 3 (some .int), Cond.methodLink RX5 46 yJ9_min_7cf53, Cond.constantLong RX5 49 (Int64.ofInt (-1000000)), Cond.constantLong RX5 51 (Int64.ofInt (1000000)), Cond.methodLink RX5 53 yJ9_min_f86c9, Cond.static yJ9_min_f86c9, Cond.code yJ9_min_f86c9 cJ9_min_f86c9 4 (some .long), Cond.methodLink RX5 56 yJ9_max_f86c9, Cond.static yJ9_max_f86c9, Cond.code yJ9_max_f86c9 cJ9_max_f86c9 4 (some .long), Cond.methodLink RX0 93 yX0_spread, Cond.privateMethod yX0_spread, Cond.instanceMethod yX0_spread, Cond.code yX0_spread cX0_spread 8 (some .int), Cond.methodLink RX0 136 yJ6_numberOfTrailingZeros_0f7a4, Cond.static yJ6_numberOfTrailingZeros_0f7a4, Cond.code yJ6_numberOfTrailingZeros_0f7a4 cJ6_numberOfTrailingZeros_0f7a4 2 (some .int), Cond.constant RJ6 264 (Int32.ofInt (65536)), Cond.methodLink RX0 142 yX0_wouldHear, Cond.privateMethod yX0_wouldHear, Cond.instanceMethod yX0_wouldHear, Cond.code yX0_wouldHear cX0_wouldHear 3 (some .boolean), Cond.methodLinkNest RX9 251 yX0_settle RX9, Cond.privateMethod yX0_settle, Cond.instanceMethod yX0_settle, Cond.code yX0_settle cX0_settle 3 none, Cond.methodLink RX0 111 yJ9_min_7cf53, Cond.methodLink "ForgottenFeastLaw" 58 yX9_first, Cond.instanceMethod yX9_first, Cond.selects RX9 yX9_first yX9_first, Cond.code yX9_first cX9_first 4 (some .int), Cond.methodLink RX9 238 yJ9_min_7cf53, Cond.methodLink "ForgottenFeastLaw" 62 yX9_hangs, Cond.instanceMethod yX9_hangs, Cond.selects RX9 yX9_hangs yX9_hangs, Cond.code yX9_hangs cX9_hangs 2 (some .int), Cond.methodLink RX9 254 yX9_hangsOn, Cond.privateMethod yX9_hangsOn, Cond.instanceMethod yX9_hangsOn, Cond.code yX9_hangsOn cX9_hangsOn 1 (some .int), Cond.methodLink "ForgottenFeastLaw" 66 yX9_sure, Cond.instanceMethod yX9_sure, Cond.selects RX9 yX9_sure yX9_sure, Cond.code yX9_sure cX9_sure 4 (some .int), Cond.methodLink "ForgottenFeastLaw" 70 yX9_slips, Cond.instanceMethod yX9_slips, Cond.selects RX9 yX9_slips yX9_slips, Cond.code yX9_slips cX9_slips 2 (some .int), Cond.methodLink RX9 260 yX9_chanceOfNobody, Cond.privateMethod yX9_chanceOfNobody, Cond.instanceMethod yX9_chanceOfNobody, Cond.code yX9_chanceOfNobody cX9_chanceOfNobody 8 (some .int), Cond.constant RX9 342 (Int32.ofInt (1000000)), Cond.constantLong RX9 346 (Int64.ofInt (100)), Cond.methodLink "ForgottenFeastLaw" 74 yX9_costs, Cond.instanceMethod yX9_costs, Cond.selects RX9 yX9_costs yX9_costs, Cond.code yX9_costs cX9_costs 2 (some .int), Cond.methodLink RX9 263 yX9_priceOf, Cond.privateMethod yX9_priceOf, Cond.instanceMethod yX9_priceOf, Cond.code yX9_priceOf cX9_priceOf 4 (some .int), Cond.methodLink "ForgottenFeastLaw" 78 yX9_cheapest, Cond.instanceMethod yX9_cheapest, Cond.selects RX9 yX9_cheapest yX9_cheapest, Cond.code yX9_cheapest cX9_cheapest 7 (some .int), Cond.methodLink "ForgottenFeastLaw" 82 yX9_enough, Cond.instanceMethod yX9_enough, Cond.selects RX9 yX9_enough yX9_enough, Cond.code yX9_enough cX9_enough 6 (some .int), Cond.methodLinkNest RX9 266 yX0_spread RX9, Cond.methodLink "ForgottenFeastLaw" 86 yX9_turnsOf, Cond.instanceMethod yX9_turnsOf, Cond.selects RX9 yX9_turnsOf yX9_turnsOf, Cond.code yX9_turnsOf cX9_turnsOf 5 (some .int), Cond.methodLinkNest RX9 269 yX0_ofThemselves RX9, Cond.methodLink RX9 271 yX9_somebodyByTurns, Cond.static yX9_somebodyByTurns, Cond.code yX9_somebodyByTurns cX9_somebodyByTurns 7 (some .boolean), Cond.methodLink RX9 348 yX9_canBeSilenced, Cond.static yX9_canBeSilenced, Cond.code yX9_canBeSilenced cX9_canBeSilenced 7 (some .boolean), Cond.methodLink "ForgottenFeastLaw" 90 yX9_see, Cond.instanceMethod yX9_see, Cond.selects RX9 yX9_see yX9_see, Cond.code yX9_see cX9_see 4 (some .int), Cond.methodLink RX9 275 yX9_isSight, Cond.privateMethod yX9_isSight, Cond.instanceMethod yX9_isSight, Cond.code yX9_isSight cX9_isSight 4 (some .boolean), Cond.methodLink "ForgottenFeastLaw" 94 yX9_thought, Cond.instanceMethod yX9_thought, Cond.selects RX9 yX9_thought yX9_thought, Cond.code yX9_thought cX9_thought 6 (some .int), Cond.methodLink RX9 285 yX9_isAsSeen, Cond.privateMethod yX9_isAsSeen, Cond.instanceMethod yX9_isAsSeen, Cond.code yX9_isAsSeen cX9_isAsSeen 3 (some .boolean), Cond.methodLink "ForgottenFeastLaw" 98 yX9_hours, Cond.instanceMethod yX9_hours, Cond.selects RX9 yX9_hours yX9_hours, Cond.code yX9_hours cX9_hours 6 (some .int), Cond.methodLink RX9 288 yX9_hoursFrom, Cond.privateMethod yX9_hoursFrom, Cond.instanceMethod yX9_hoursFrom, Cond.code yX9_hoursFrom cX9_hoursFrom 7 (some .int), Cond.methodLink RX9 291 yJ9_max_7cf53, Cond.methodLink "ForgottenFeastLaw" 102 yX9_law, Cond.instanceMethod yX9_law]
set_option maxRecDepth 100000 in
theorem tw_4_eq : tw_4 = tables_1_4 := rfl
theorem tw_m4 {w : Cond} (j : Nat) (hj : tw_4[j]? = some w) : w ∈ tables_1 := by
  have h : w ∈ tables_1_4 := by rw [← tw_4_eq]; exact List.mem_of_getElem? hj
  exact List.mem_append_right _ (List.mem_append_right _ (List.mem_append_right _ (List.mem_append_left _ h)))
def tw_5 : List Cond := [Cond.selects RX9 yX9_law yX9_law, Cond.code yX9_law cX9_law 6 (some .int), Cond.methodLink RX9 294 yX9_isLaw, Cond.privateMethod yX9_isLaw, Cond.instanceMethod yX9_isLaw, Cond.code yX9_isLaw cX9_isLaw 7 (some .boolean), Cond.methodLink RX9 351 yJ7_fill_53178, Cond.methodLinkNest RX9 357 yX1_toldOn RX9, Cond.privateMethod yX1_toldOn, Cond.instanceMethod yX1_toldOn, Cond.code yX1_toldOn cX1_toldOn 2 (some .int), Cond.methodLink "ForgottenFeastLaw" 106 yX9_go, Cond.instanceMethod yX9_go, Cond.selects RX9 yX9_go yX9_go, Cond.code yX9_go cX9_go 4 (some .int), Cond.methodLinkNest RX9 297 yX2_remember RX9, Cond.privateMethod yX2_remember, Cond.instanceMethod yX2_remember, Cond.code yX2_remember cX2_remember 3 none, Cond.methodLinkNest RX2 24 yX1_init RX9, Cond.methodLinkNest RX2 25 yX1_copyFrom RX9, Cond.methodLink RX9 300 yX9_liveOneDay, Cond.privateMethod yX9_liveOneDay, Cond.instanceMethod yX9_liveOneDay, Cond.code yX9_liveOneDay cX9_liveOneDay 1 (some .int), Cond.methodLinkNest RX9 360 yX1_addRow RX9, Cond.privateMethod yX1_addRow, Cond.instanceMethod yX1_addRow, Cond.code yX1_addRow cX1_addRow 4 none, Cond.methodLink "ForgottenFeastLaw" 110 yX9_tell, Cond.instanceMethod yX9_tell, Cond.selects RX9 yX9_tell yX9_tell, Cond.code yX9_tell cX9_tell 4 (some .int), Cond.methodLink "ForgottenFeastLaw" 114 yX9_bribe, Cond.instanceMethod yX9_bribe, Cond.selects RX9 yX9_bribe yX9_bribe, Cond.code yX9_bribe cX9_bribe 3 (some .int), Cond.constant RX9 303 (Int32.ofInt (999999)), Cond.methodLink "ForgottenFeastLaw" 118 yX9_dies, Cond.instanceMethod yX9_dies, Cond.selects RX9 yX9_dies yX9_dies, Cond.code yX9_dies cX9_dies 2 (some .boolean), Cond.methodLink "ForgottenFeastLaw" 122 yX9_chance, Cond.instanceMethod yX9_chance, Cond.selects RX9 yX9_chance yX9_chance, Cond.code yX9_chance cX9_chance 4 (some .int), Cond.methodLink RX9 304 yX9_drawDeaths, Cond.privateMethod yX9_drawDeaths, Cond.instanceMethod yX9_drawDeaths, Cond.code yX9_drawDeaths cX9_drawDeaths 2 none, Cond.constantLong RX9 364 (Int64.ofInt (1103515245)), Cond.constantLong RX9 366 (Int64.ofInt (12345)), Cond.constantLong RX9 368 (Int64.ofInt (2147483647)), Cond.constantLong RX9 370 (Int64.ofInt (64)), Cond.constantLong RX9 372 (Int64.ofInt (1000)), Cond.methodLink "ForgottenFeastLaw" 126 yX9_undo, Cond.instanceMethod yX9_undo, Cond.selects RX9 yX9_undo yX9_undo, Cond.code yX9_undo cX9_undo 1 (some .boolean), Cond.methodLinkNest RX9 307 yX2_bringBack RX9, Cond.privateMethod yX2_bringBack, Cond.instanceMethod yX2_bringBack, Cond.code yX2_bringBack cX2_bringBack 3 none, Cond.methodLink "ForgottenFeastLaw" 131 yX9_seed, Cond.instanceMethod yX9_seed, Cond.selects RX9 yX9_seed yX9_seed, Cond.code yX9_seed cX9_seed 2 (some .boolean), Cond.methodLink "ForgottenFeastLaw" 135 yX9_ask, Cond.instanceMethod yX9_ask, Cond.selects RX9 yX9_ask yX9_ask, Cond.code yX9_ask cX9_ask 3 (some .long), Cond.constantLong RX9 310 (Int64.ofInt (-1000000000000000)), Cond.methodLinkNest RX9 312 yX4_readQuestion RX9, Cond.privateMethod yX4_readQuestion, Cond.instanceMethod yX4_readQuestion, Cond.code yX4_readQuestion cX4_readQuestion 1 (some .boolean), Cond.methodLink RX9 318 yX9_answerOf, Cond.privateMethod yX9_answerOf, Cond.instanceMethod yX9_answerOf, Cond.code yX9_answerOf cX9_answerOf 6 (some .long), Cond.constantLong RX9 377 (Int64.ofInt (-1)), Cond.methodLinkNest RX9 383 yX0_valueFor RX9, Cond.privateMethod yX0_valueFor, Cond.instanceMethod yX0_valueFor, Cond.code yX0_valueFor cX0_valueFor 4 (some .int), Cond.methodLink RX9 387 yJ9_max_f86c9, Cond.methodLink RX9 390 yJ9_min_f86c9, Cond.methodLink "ForgottenFeastLaw" 140 yX9_image, Cond.instanceMethod yX9_image, Cond.selects RX9 yX9_image yX9_image, Cond.code yX9_image cX9_image 1 (some .int), Cond.methodLinkNest RX9 322 yX3_paint RX9, Cond.privateMethod yX3_paint, Cond.instanceMethod yX3_paint, Cond.code yX3_paint cX3_paint 4 none, Cond.methodLink RX3 24 yX3_add, Cond.privateMethod yX3_add, Cond.instanceMethod yX3_add, Cond.code yX3_add cX3_add 2 none, Cond.constant RX3 37 (Int32.ofInt (65536)), Cond.methodLinkNest RX3 49 yX9_bit RX9, Cond.methodLink RX3 56 yX3_addList, Cond.privateMethod yX3_addList, Cond.instanceMethod yX3_addList, Cond.code yX3_addList cX3_addList 4 none, Cond.methodLinkNest RX3 67 yX9_countBits RX9, Cond.methodLink RX3 63 yX3_checkOf, Cond.static yX3_checkOf, Cond.code yX3_checkOf cX3_checkOf 4 (some .int), Cond.methodLink "ForgottenFeastLaw" 144 yX9_octet, Cond.instanceMethod yX9_octet, Cond.selects RX9 yX9_octet yX9_octet, Cond.code yX9_octet cX9_octet 2 (some .int), Cond.methodLink "ForgottenFeastLaw" 148 yX9_on, Cond.instanceMethod yX9_on, Cond.selects RX9 yX9_on yX9_on, Cond.code yX9_on cX9_on 2 (some .boolean), Cond.methodLinkNest RX9 329 yX3_readInto RX9, Cond.static yX3_readInto, Cond.code yX3_readInto cX3_readInto 5 (some .boolean), Cond.methodLinkNest RX3 77 yX1_begin RX9, Cond.methodLink RX3 81 yJ7_fill_53178, Cond.methodLink RX3 87 yX3_readHead, Cond.static yX3_readHead, Cond.code yX3_readHead cX3_readHead 4 (some .boolean), Cond.constant RX3 101 (Int32.ofInt (999999)), Cond.methodLink RX3 91 yX3_readPeople, Cond.static yX3_readPeople, Cond.code yX3_readPeople cX3_readPeople 5 (some .boolean), Cond.methodLink RX3 94 yX3_readList, Cond.static yX3_readList, Cond.code yX3_readList cX3_readList 12 (some .int), Cond.methodLink "ForgottenFeastLaw" 152 yX9_status, Cond.instanceMethod yX9_status, Cond.selects RX9 yX9_status yX9_status, Cond.code yX9_status cX9_status 2 (some .int), Cond.classLink "ForgottenFeastLaw" 10 RX10, Cond.instantiable RX10 108, Cond.methodLink "ForgottenFeastLaw" 12 yX10_init, Cond.instanceMethod yX10_init, Cond.code yX10_init cX10_init 1 none, Cond.methodLink RX10 1 objectInit, Cond.fieldLink RX10 7 "ForgottenFeastModel" "tape" "[I", Cond.fieldLink RX10 245 "ForgottenFeastModel" "taped" "I", Cond.fieldLink RX10 254 "ForgottenFeastModel" "at" "I", Cond.fieldLink RX10 257 "ForgottenFeastModel" "end" "I", Cond.fieldLink RX10 268 "ForgottenFeastModel" "ended" "I", Cond.fieldLink RX10 248 "ForgottenFeastModel" "bad" "I", Cond.fieldLink RX10 251 "ForgottenFeastModel" "badPlace" "I", Cond.fieldLink RX10 378 "ForgottenFeastModel" "fault" "I", Cond.fieldLink RX10 13 "ForgottenFeastModel" "faultPlace" "I", Cond.fieldLink RX10 17 "ForgottenFeastModel" "refused" "[I", Cond.fieldLink RX10 288 "ForgottenFeastModel" "numberPlace" "I", Cond.fieldLink RX10 20 "ForgottenFeastModel" "daysWord" "[C", Cond.fieldLink RX10 24 "ForgottenFeastModel" "personWord" "[C", Cond.fieldLink RX10 27 "ForgottenFeastModel" "mindWord" "[C", Cond.fieldLink RX10 30 "ForgottenFeastModel" "asksWord" "[C", Cond.fieldLink RX10 33 "ForgottenFeastModel" "toldWord" "[C", Cond.fieldLink RX10 36 "ForgottenFeastModel" "onWord" "[C", Cond.fieldLink RX10 39 "ForgottenFeastModel" "remindsWord" "[C", Cond.fieldLink RX10 42 "ForgottenFeastModel" "frostWord" "[C", Cond.fieldLink RX10 45 "ForgottenFeastModel" "forWord" "[C", Cond.fieldLink RX10 48 "ForgottenFeastModel" "thinksWord" "[C", Cond.fieldLink RX10 51 "ForgottenFeastModel" "hearsWord" "[C", Cond.fieldLink RX10 54 "ForgottenFeastModel" "slipsWord" "[C", Cond.fieldLink RX10 57 "ForgottenFeastModel" "mortalWord" "[C", Cond.fieldLink RX10 60 "ForgottenFeastModel" "dayWord" "[C", Cond.fieldLink RX10 63 "ForgottenFeastModel" "yearWord" "[C", Cond.fieldLink RX10 66 "ForgottenFeastModel" "agoWord" "[C", Cond.fieldLink RX10 69 "ForgottenFeastModel" "feastWord" "[C", Cond.fieldLink RX10 72 "ForgottenFeastModel" "otherWord" "[C", Cond.fieldLink RX10 75 "ForgottenFeastModel" "numberWord" "[C", Cond.fieldLink RX10 78 "ForgottenFeastModel" "deadWord" "[C", Cond.fieldLink RX10 81 "ForgottenFeastModel" "knowsWord" "[C", Cond.fieldLink RX10 84 "ForgottenFeastModel" "orWord" "[C", Cond.fieldLink RX10 87 "ForgottenFeastModel" "andWord" "[C", Cond.fieldLink RX10 90 "ForgottenFeastModel" "notWord" "[C", Cond.fieldLink RX10 93 "ForgottenFeastModel" "allWord" "[C", Cond.fieldLink RX10 96 "ForgottenFeastModel" "minWord" "[C", Cond.fieldLink RX10 99 "ForgottenFeastModel" "maxWord" "[C", Cond.fieldLink RX10 299 "ForgottenFeastModel" "namePlace" "I", Cond.fieldLink RX10 102 "ForgottenFeastModel" "many" "[I", Cond.fieldLink RX10 105 "ForgottenFeastModel" "names" "[J", Cond.fieldLink RX10 109 "ForgottenFeastModel" "minds" "[I", Cond.fieldLink RX10 112 "ForgottenFeastModel" "asked" "[I", Cond.fieldLink RX10 115 "ForgottenFeastModel" "remind" "[I", Cond.fieldLink RX10 118 "ForgottenFeastModel" "toldFor" "[I", Cond.fieldLink RX10 121 "ForgottenFeastModel" "frosts" "[I", Cond.fieldLink RX10 124 "ForgottenFeastModel" "settings" "[I", Cond.fieldLink RX10 127 "ForgottenFeastModel" "codeFrom" "[I", Cond.fieldLink RX10 130 "ForgottenFeastModel" "codeEnd" "[I", Cond.fieldLink RX10 133 "ForgottenFeastModel" "codes" "[I", Cond.fieldLink RX10 351 "ForgottenFeastModel" "coded" "I", Cond.fieldLink RX10 354 "ForgottenFeastModel" "statements" "I", Cond.fieldLink RX10 384 "ForgottenFeastModel" "isTown" "Z", Cond.fieldLink RX10 306 "ForgottenFeastModel" "textKind" "I", Cond.fieldLink RX10 136 "ForgottenFeastModel" "now" "[I", Cond.fieldLink RX10 139 "ForgottenFeastModel" "aside" "[I", Cond.fieldLink RX10 417 "ForgottenFeastModel" "askToldSet" "I", Cond.fieldLink RX10 420 "ForgottenFeastModel" "askFeast" "J", Cond.fieldLink RX10 426 "ForgottenFeastModel" "askFrost" "J", Cond.fieldLink RX10 443 "ForgottenFeastModel" "askOther" "J", Cond.fieldLink RX10 455 "ForgottenFeastModel" "selfSet" "I", Cond.fieldLink RX10 461 "ForgottenFeastModel" "thinkSet" "I", Cond.fieldLink RX10 464 "ForgottenFeastModel" "feastToday" "Z", Cond.fieldLink RX10 142 "ForgottenFeastModel" "before" "[I", Cond.fieldLink RX10 145 "ForgottenFeastModel" "after" "[I", Cond.fieldLink RX10 391 "ForgottenFeastModel" "rowMany" "I", Cond.fieldLink RX10 148 "ForgottenFeastModel" "rows" "[I", Cond.fieldLink RX10 151 "ForgottenFeastModel" "ago" "[I", Cond.fieldLink RX10 154 "ForgottenFeastModel" "kept0" "[I", Cond.fieldLink RX10 388 "ForgottenFeastModel" "undoable" "I", Cond.fieldLink RX10 562 "ForgottenFeastModel" "newest" "I", Cond.fieldLink RX10 157 "ForgottenFeastModel" "seeded" "J", Cond.fieldLink RX10 161 "ForgottenFeastModel" "firstAsked" "[C", Cond.fieldLink RX10 164 "ForgottenFeastModel" "lastAsked" "[C", Cond.fieldLink RX10 167 "ForgottenFeastModel" "oftenAsked" "[C", Cond.fieldLink RX10 170 "ForgottenFeastModel" "totalAsked" "[C", Cond.fieldLink RX10 173 "ForgottenFeastModel" "mostAsked" "[C", Cond.fieldLink RX10 176 "ForgottenFeastModel" "leastAsked" "[C", Cond.fieldLink RX10 179 "ForgottenFeastModel" "notAsked" "[C", Cond.fieldLink RX10 182 "ForgottenFeastModel" "andAsked" "[C", Cond.fieldLink RX10 185 "ForgottenFeastModel" "orAsked" "[C", Cond.fieldLink RX10 188 "ForgottenFeastModel" "allAsked" "[C", Cond.fieldLink RX10 191 "ForgottenFeastModel" "minAsked" "[C", Cond.fieldLink RX10 194 "ForgottenFeastModel" "maxAsked" "[C", Cond.fieldLink RX10 197 "ForgottenFeastModel" "dayAsked" "[C", Cond.fieldLink RX10 200 "ForgottenFeastModel" "toldAsked" "[C", Cond.fieldLink RX10 203 "ForgottenFeastModel" "agoAsked" "[C", Cond.fieldLink RX10 206 "ForgottenFeastModel" "mindAsked" "[C", Cond.fieldLink RX10 209 "ForgottenFeastModel" "feastAsked" "[C", Cond.fieldLink RX10 212 "ForgottenFeastModel" "yearAsked" "[C", Cond.fieldLink RX10 215 "ForgottenFeastModel" "frostAsked" "[C", Cond.fieldLink RX10 218 "ForgottenFeastModel" "otherAsked" "[C", Cond.fieldLink RX10 221 "ForgottenFeastModel" "numberAsked" "[C", Cond.fieldLink RX10 224 "ForgottenFeastModel" "deadAsked" "[C", Cond.fieldLink RX10 227 "ForgottenFeastModel" "thinksAsked" "[C", Cond.fieldLink RX10 230 "ForgottenFeastModel" "knowsAsked" "[C", Cond.fieldLink RX10 233 "ForgottenFeastModel" "qCodes" "[I", Cond.fieldLink RX10 336 "ForgottenFeastModel" "qCoded" "I"]
set_option maxRecDepth 100000 in
theorem tw_5_eq : tw_5 = tables_1_5 := rfl
theorem tw_m5 {w : Cond} (j : Nat) (hj : tw_5[j]? = some w) : w ∈ tables_1 := by
  have h : w ∈ tables_1_5 := by rw [← tw_5_eq]; exact List.mem_of_getElem? hj
  exact List.mem_append_right _ (List.mem_append_right _ (List.mem_append_right _ (List.mem_append_right _ (List.mem_append_left _ h))))
def tw_6 : List Cond := [Cond.fieldLink RX10 236 "ForgottenFeastModel" "qWait" "[I", Cond.fieldLink RX10 339 "ForgottenFeastModel" "qWaits" "I", Cond.fieldLink RX10 342 "ForgottenFeastModel" "qOpened" "I", Cond.fieldLink RX10 345 "ForgottenFeastModel" "qBase" "I", Cond.fieldLink RX10 239 "ForgottenFeastModel" "qPile" "[J", Cond.fieldLink RX10 403 "ForgottenFeastModel" "qPiled" "I", Cond.fieldLink RX10 658 "ForgottenFeastModel" "qAnswer" "J", Cond.fieldLink RX10 663 "ForgottenFeastModel" "qIsNew" "Z", Cond.fieldLink RX10 242 "ForgottenFeastModel" "octet" "[I", Cond.fieldLink RX10 679 "ForgottenFeastModel" "octets" "I", Jvm.Cond.laysFinal "ForgottenFeastModel" "ForgottenFeastModel" "tape" "[I", Jvm.Cond.soleField "ForgottenFeastModel" "tape", Jvm.Cond.lays "ForgottenFeastModel" "ForgottenFeastModel" "taped" "I", Jvm.Cond.soleField "ForgottenFeastModel" "taped", Jvm.Cond.lays "ForgottenFeastModel" "ForgottenFeastModel" "at" "I", Jvm.Cond.soleField "ForgottenFeastModel" "at", Jvm.Cond.lays "ForgottenFeastModel" "ForgottenFeastModel" "end" "I", Jvm.Cond.soleField "ForgottenFeastModel" "end", Jvm.Cond.lays "ForgottenFeastModel" "ForgottenFeastModel" "ended" "I", Jvm.Cond.soleField "ForgottenFeastModel" "ended", Jvm.Cond.lays "ForgottenFeastModel" "ForgottenFeastModel" "bad" "I", Jvm.Cond.soleField "ForgottenFeastModel" "bad", Jvm.Cond.lays "ForgottenFeastModel" "ForgottenFeastModel" "badPlace" "I", Jvm.Cond.soleField "ForgottenFeastModel" "badPlace", Jvm.Cond.lays "ForgottenFeastModel" "ForgottenFeastModel" "fault" "I", Jvm.Cond.soleField "ForgottenFeastModel" "fault", Jvm.Cond.lays "ForgottenFeastModel" "ForgottenFeastModel" "faultPlace" "I", Jvm.Cond.soleField "ForgottenFeastModel" "faultPlace", Jvm.Cond.laysFinal "ForgottenFeastModel" "ForgottenFeastModel" "refused" "[I", Jvm.Cond.soleField "ForgottenFeastModel" "refused", Jvm.Cond.lays "ForgottenFeastModel" "ForgottenFeastModel" "numberPlace" "I", Jvm.Cond.soleField "ForgottenFeastModel" "numberPlace", Jvm.Cond.laysFinal "ForgottenFeastModel" "ForgottenFeastModel" "daysWord" "[C", Jvm.Cond.soleField "ForgottenFeastModel" "daysWord", Jvm.Cond.laysFinal "ForgottenFeastModel" "ForgottenFeastModel" "personWord" "[C", Jvm.Cond.soleField "ForgottenFeastModel" "personWord", Jvm.Cond.laysFinal "ForgottenFeastModel" "ForgottenFeastModel" "mindWord" "[C", Jvm.Cond.soleField "ForgottenFeastModel" "mindWord", Jvm.Cond.laysFinal "ForgottenFeastModel" "ForgottenFeastModel" "asksWord" "[C", Jvm.Cond.soleField "ForgottenFeastModel" "asksWord", Jvm.Cond.laysFinal "ForgottenFeastModel" "ForgottenFeastModel" "toldWord" "[C", Jvm.Cond.soleField "ForgottenFeastModel" "toldWord", Jvm.Cond.laysFinal "ForgottenFeastModel" "ForgottenFeastModel" "onWord" "[C", Jvm.Cond.soleField "ForgottenFeastModel" "onWord", Jvm.Cond.laysFinal "ForgottenFeastModel" "ForgottenFeastModel" "remindsWord" "[C", Jvm.Cond.soleField "ForgottenFeastModel" "remindsWord", Jvm.Cond.laysFinal "ForgottenFeastModel" "ForgottenFeastModel" "frostWord" "[C", Jvm.Cond.soleField "ForgottenFeastModel" "frostWord", Jvm.Cond.laysFinal "ForgottenFeastModel" "ForgottenFeastModel" "forWord" "[C", Jvm.Cond.soleField "ForgottenFeastModel" "forWord", Jvm.Cond.laysFinal "ForgottenFeastModel" "ForgottenFeastModel" "thinksWord" "[C", Jvm.Cond.soleField "ForgottenFeastModel" "thinksWord", Jvm.Cond.laysFinal "ForgottenFeastModel" "ForgottenFeastModel" "hearsWord" "[C", Jvm.Cond.soleField "ForgottenFeastModel" "hearsWord", Jvm.Cond.laysFinal "ForgottenFeastModel" "ForgottenFeastModel" "slipsWord" "[C", Jvm.Cond.soleField "ForgottenFeastModel" "slipsWord", Jvm.Cond.laysFinal "ForgottenFeastModel" "ForgottenFeastModel" "mortalWord" "[C", Jvm.Cond.soleField "ForgottenFeastModel" "mortalWord", Jvm.Cond.laysFinal "ForgottenFeastModel" "ForgottenFeastModel" "dayWord" "[C", Jvm.Cond.soleField "ForgottenFeastModel" "dayWord", Jvm.Cond.laysFinal "ForgottenFeastModel" "ForgottenFeastModel" "yearWord" "[C", Jvm.Cond.soleField "ForgottenFeastModel" "yearWord", Jvm.Cond.laysFinal "ForgottenFeastModel" "ForgottenFeastModel" "agoWord" "[C", Jvm.Cond.soleField "ForgottenFeastModel" "agoWord", Jvm.Cond.laysFinal "ForgottenFeastModel" "ForgottenFeastModel" "feastWord" "[C", Jvm.Cond.soleField "ForgottenFeastModel" "feastWord", Jvm.Cond.laysFinal "ForgottenFeastModel" "ForgottenFeastModel" "otherWord" "[C", Jvm.Cond.soleField "ForgottenFeastModel" "otherWord", Jvm.Cond.laysFinal "ForgottenFeastModel" "ForgottenFeastModel" "numberWord" "[C", Jvm.Cond.soleField "ForgottenFeastModel" "numberWord", Jvm.Cond.laysFinal "ForgottenFeastModel" "ForgottenFeastModel" "deadWord" "[C", Jvm.Cond.soleField "ForgottenFeastModel" "deadWord", Jvm.Cond.laysFinal "ForgottenFeastModel" "ForgottenFeastModel" "knowsWord" "[C", Jvm.Cond.soleField "ForgottenFeastModel" "knowsWord", Jvm.Cond.laysFinal "ForgottenFeastModel" "ForgottenFeastModel" "orWord" "[C", Jvm.Cond.soleField "ForgottenFeastModel" "orWord", Jvm.Cond.laysFinal "ForgottenFeastModel" "ForgottenFeastModel" "andWord" "[C", Jvm.Cond.soleField "ForgottenFeastModel" "andWord", Jvm.Cond.laysFinal "ForgottenFeastModel" "ForgottenFeastModel" "notWord" "[C", Jvm.Cond.soleField "ForgottenFeastModel" "notWord", Jvm.Cond.laysFinal "ForgottenFeastModel" "ForgottenFeastModel" "allWord" "[C", Jvm.Cond.soleField "ForgottenFeastModel" "allWord", Jvm.Cond.laysFinal "ForgottenFeastModel" "ForgottenFeastModel" "minWord" "[C", Jvm.Cond.soleField "ForgottenFeastModel" "minWord", Jvm.Cond.laysFinal "ForgottenFeastModel" "ForgottenFeastModel" "maxWord" "[C", Jvm.Cond.soleField "ForgottenFeastModel" "maxWord", Jvm.Cond.lays "ForgottenFeastModel" "ForgottenFeastModel" "namePlace" "I", Jvm.Cond.soleField "ForgottenFeastModel" "namePlace", Jvm.Cond.laysFinal "ForgottenFeastModel" "ForgottenFeastModel" "many" "[I", Jvm.Cond.soleField "ForgottenFeastModel" "many", Jvm.Cond.laysFinal "ForgottenFeastModel" "ForgottenFeastModel" "names" "[J", Jvm.Cond.soleField "ForgottenFeastModel" "names", Jvm.Cond.laysFinal "ForgottenFeastModel" "ForgottenFeastModel" "minds" "[I", Jvm.Cond.soleField "ForgottenFeastModel" "minds", Jvm.Cond.laysFinal "ForgottenFeastModel" "ForgottenFeastModel" "asked" "[I", Jvm.Cond.soleField "ForgottenFeastModel" "asked", Jvm.Cond.laysFinal "ForgottenFeastModel" "ForgottenFeastModel" "remind" "[I", Jvm.Cond.soleField "ForgottenFeastModel" "remind", Jvm.Cond.laysFinal "ForgottenFeastModel" "ForgottenFeastModel" "toldFor" "[I", Jvm.Cond.soleField "ForgottenFeastModel" "toldFor", Jvm.Cond.laysFinal "ForgottenFeastModel" "ForgottenFeastModel" "frosts" "[I", Jvm.Cond.soleField "ForgottenFeastModel" "frosts", Jvm.Cond.laysFinal "ForgottenFeastModel" "ForgottenFeastModel" "settings" "[I", Jvm.Cond.soleField "ForgottenFeastModel" "settings", Jvm.Cond.laysFinal "ForgottenFeastModel" "ForgottenFeastModel" "codeFrom" "[I", Jvm.Cond.soleField "ForgottenFeastModel" "codeFrom", Jvm.Cond.laysFinal "ForgottenFeastModel" "ForgottenFeastModel" "codeEnd" "[I", Jvm.Cond.soleField "ForgottenFeastModel" "codeEnd", Jvm.Cond.laysFinal "ForgottenFeastModel" "ForgottenFeastModel" "codes" "[I", Jvm.Cond.soleField "ForgottenFeastModel" "codes", Jvm.Cond.lays "ForgottenFeastModel" "ForgottenFeastModel" "coded" "I", Jvm.Cond.soleField "ForgottenFeastModel" "coded", Jvm.Cond.lays "ForgottenFeastModel" "ForgottenFeastModel" "statements" "I", Jvm.Cond.soleField "ForgottenFeastModel" "statements", Jvm.Cond.lays "ForgottenFeastModel" "ForgottenFeastModel" "isTown" "Z", Jvm.Cond.soleField "ForgottenFeastModel" "isTown", Jvm.Cond.lays "ForgottenFeastModel" "ForgottenFeastModel" "textKind" "I", Jvm.Cond.soleField "ForgottenFeastModel" "textKind", Jvm.Cond.laysFinal "ForgottenFeastModel" "ForgottenFeastModel" "now" "[I", Jvm.Cond.soleField "ForgottenFeastModel" "now", Jvm.Cond.laysFinal "ForgottenFeastModel" "ForgottenFeastModel" "aside" "[I", Jvm.Cond.soleField "ForgottenFeastModel" "aside", Jvm.Cond.lays "ForgottenFeastModel" "ForgottenFeastModel" "askToldSet" "I", Jvm.Cond.soleField "ForgottenFeastModel" "askToldSet", Jvm.Cond.lays "ForgottenFeastModel" "ForgottenFeastModel" "askFeast" "J", Jvm.Cond.soleField "ForgottenFeastModel" "askFeast", Jvm.Cond.lays "ForgottenFeastModel" "ForgottenFeastModel" "askFrost" "J", Jvm.Cond.soleField "ForgottenFeastModel" "askFrost", Jvm.Cond.lays "ForgottenFeastModel" "ForgottenFeastModel" "askOther" "J", Jvm.Cond.soleField "ForgottenFeastModel" "askOther", Jvm.Cond.lays "ForgottenFeastModel" "ForgottenFeastModel" "selfSet" "I", Jvm.Cond.soleField "ForgottenFeastModel" "selfSet", Jvm.Cond.lays "ForgottenFeastModel" "ForgottenFeastModel" "thinkSet" "I", Jvm.Cond.soleField "ForgottenFeastModel" "thinkSet", Jvm.Cond.lays "ForgottenFeastModel" "ForgottenFeastModel" "feastToday" "Z", Jvm.Cond.soleField "ForgottenFeastModel" "feastToday", Jvm.Cond.laysFinal "ForgottenFeastModel" "ForgottenFeastModel" "before" "[I", Jvm.Cond.soleField "ForgottenFeastModel" "before", Jvm.Cond.laysFinal "ForgottenFeastModel" "ForgottenFeastModel" "after" "[I", Jvm.Cond.soleField "ForgottenFeastModel" "after", Jvm.Cond.lays "ForgottenFeastModel" "ForgottenFeastModel" "rowMany" "I", Jvm.Cond.soleField "ForgottenFeastModel" "rowMany", Jvm.Cond.laysFinal "ForgottenFeastModel" "ForgottenFeastModel" "rows" "[I", Jvm.Cond.soleField "ForgottenFeastModel" "rows", Jvm.Cond.laysFinal "ForgottenFeastModel" "ForgottenFeastModel" "ago" "[I", Jvm.Cond.soleField "ForgottenFeastModel" "ago", Jvm.Cond.laysFinal "ForgottenFeastModel" "ForgottenFeastModel" "kept0" "[I", Jvm.Cond.soleField "ForgottenFeastModel" "kept0", Jvm.Cond.lays "ForgottenFeastModel" "ForgottenFeastModel" "undoable" "I", Jvm.Cond.soleField "ForgottenFeastModel" "undoable", Jvm.Cond.lays "ForgottenFeastModel" "ForgottenFeastModel" "newest" "I", Jvm.Cond.soleField "ForgottenFeastModel" "newest", Jvm.Cond.lays "ForgottenFeastModel" "ForgottenFeastModel" "seeded" "J", Jvm.Cond.soleField "ForgottenFeastModel" "seeded", Jvm.Cond.laysFinal "ForgottenFeastModel" "ForgottenFeastModel" "firstAsked" "[C", Jvm.Cond.soleField "ForgottenFeastModel" "firstAsked", Jvm.Cond.laysFinal "ForgottenFeastModel" "ForgottenFeastModel" "lastAsked" "[C", Jvm.Cond.soleField "ForgottenFeastModel" "lastAsked", Jvm.Cond.laysFinal "ForgottenFeastModel" "ForgottenFeastModel" "oftenAsked" "[C", Jvm.Cond.soleField "ForgottenFeastModel" "oftenAsked", Jvm.Cond.laysFinal "ForgottenFeastModel" "ForgottenFeastModel" "totalAsked" "[C", Jvm.Cond.soleField "ForgottenFeastModel" "totalAsked", Jvm.Cond.laysFinal "ForgottenFeastModel" "ForgottenFeastModel" "mostAsked" "[C", Jvm.Cond.soleField "ForgottenFeastModel" "mostAsked", Jvm.Cond.laysFinal "ForgottenFeastModel" "ForgottenFeastModel" "leastAsked" "[C", Jvm.Cond.soleField "ForgottenFeastModel" "leastAsked", Jvm.Cond.laysFinal "ForgottenFeastModel" "ForgottenFeastModel" "notAsked" "[C", Jvm.Cond.soleField "ForgottenFeastModel" "notAsked", Jvm.Cond.laysFinal "ForgottenFeastModel" "ForgottenFeastModel" "andAsked" "[C", Jvm.Cond.soleField "ForgottenFeastModel" "andAsked", Jvm.Cond.laysFinal "ForgottenFeastModel" "ForgottenFeastModel" "orAsked" "[C", Jvm.Cond.soleField "ForgottenFeastModel" "orAsked", Jvm.Cond.laysFinal "ForgottenFeastModel" "ForgottenFeastModel" "allAsked" "[C", Jvm.Cond.soleField "ForgottenFeastModel" "allAsked", Jvm.Cond.laysFinal "ForgottenFeastModel" "ForgottenFeastModel" "minAsked" "[C", Jvm.Cond.soleField "ForgottenFeastModel" "minAsked", Jvm.Cond.laysFinal "ForgottenFeastModel" "ForgottenFeastModel" "maxAsked" "[C", Jvm.Cond.soleField "ForgottenFeastModel" "maxAsked", Jvm.Cond.laysFinal "ForgottenFeastModel" "ForgottenFeastModel" "dayAsked" "[C", Jvm.Cond.soleField "ForgottenFeastModel" "dayAsked", Jvm.Cond.laysFinal "ForgottenFeastModel" "ForgottenFeastModel" "toldAsked" "[C", Jvm.Cond.soleField "ForgottenFeastModel" "toldAsked", Jvm.Cond.laysFinal "ForgottenFeastModel" "ForgottenFeastModel" "agoAsked" "[C", Jvm.Cond.soleField "ForgottenFeastModel" "agoAsked", Jvm.Cond.laysFinal "ForgottenFeastModel" "ForgottenFeastModel" "mindAsked" "[C", Jvm.Cond.soleField "ForgottenFeastModel" "mindAsked", Jvm.Cond.laysFinal "ForgottenFeastModel" "ForgottenFeastModel" "feastAsked" "[C", Jvm.Cond.soleField "ForgottenFeastModel" "feastAsked", Jvm.Cond.laysFinal "ForgottenFeastModel" "ForgottenFeastModel" "yearAsked" "[C", Jvm.Cond.soleField "ForgottenFeastModel" "yearAsked", Jvm.Cond.laysFinal "ForgottenFeastModel" "ForgottenFeastModel" "frostAsked" "[C", Jvm.Cond.soleField "ForgottenFeastModel" "frostAsked", Jvm.Cond.laysFinal "ForgottenFeastModel" "ForgottenFeastModel" "otherAsked" "[C", Jvm.Cond.soleField "ForgottenFeastModel" "otherAsked", Jvm.Cond.laysFinal "ForgottenFeastModel" "ForgottenFeastModel" "numberAsked" "[C", Jvm.Cond.soleField "ForgottenFeastModel" "numberAsked", Jvm.Cond.laysFinal "ForgottenFeastModel" "ForgottenFeastModel" "deadAsked" "[C", Jvm.Cond.soleField "ForgottenFeastModel" "deadAsked", Jvm.Cond.laysFinal "ForgottenFeastModel" "ForgottenFeastModel" "thinksAsked" "[C", Jvm.Cond.soleField "ForgottenFeastModel" "thinksAsked", Jvm.Cond.laysFinal "ForgottenFeastModel" "ForgottenFeastModel" "knowsAsked" "[C", Jvm.Cond.soleField "ForgottenFeastModel" "knowsAsked", Jvm.Cond.laysFinal "ForgottenFeastModel" "ForgottenFeastModel" "qCodes" "[I", Jvm.Cond.soleField "ForgottenFeastModel" "qCodes", Jvm.Cond.lays "ForgottenFeastModel" "ForgottenFeastModel" "qCoded" "I", Jvm.Cond.soleField "ForgottenFeastModel" "qCoded", Jvm.Cond.laysFinal "ForgottenFeastModel" "ForgottenFeastModel" "qWait" "[I", Jvm.Cond.soleField "ForgottenFeastModel" "qWait", Jvm.Cond.lays "ForgottenFeastModel" "ForgottenFeastModel" "qWaits" "I", Jvm.Cond.soleField "ForgottenFeastModel" "qWaits", Jvm.Cond.lays "ForgottenFeastModel" "ForgottenFeastModel" "qOpened" "I", Jvm.Cond.soleField "ForgottenFeastModel" "qOpened", Jvm.Cond.lays "ForgottenFeastModel" "ForgottenFeastModel" "qBase" "I", Jvm.Cond.soleField "ForgottenFeastModel" "qBase", Jvm.Cond.laysFinal "ForgottenFeastModel" "ForgottenFeastModel" "qPile" "[J", Jvm.Cond.soleField "ForgottenFeastModel" "qPile", Jvm.Cond.lays "ForgottenFeastModel" "ForgottenFeastModel" "qPiled" "I", Jvm.Cond.soleField "ForgottenFeastModel" "qPiled", Jvm.Cond.lays "ForgottenFeastModel" "ForgottenFeastModel" "qAnswer" "J", Jvm.Cond.soleField "ForgottenFeastModel" "qAnswer", Jvm.Cond.lays "ForgottenFeastModel" "ForgottenFeastModel" "qIsNew" "Z", Jvm.Cond.soleField "ForgottenFeastModel" "qIsNew", Jvm.Cond.laysFinal "ForgottenFeastModel" "ForgottenFeastModel" "octet" "[I", Jvm.Cond.soleField "ForgottenFeastModel" "octet", Jvm.Cond.lays "ForgottenFeastModel" "ForgottenFeastModel" "octets" "I", Jvm.Cond.soleField "ForgottenFeastModel" "octets", Jvm.Cond.superclass "ForgottenFeastModel" "java/lang/Object", Jvm.Cond.arrayClass Jvm.ClassFile.FieldType.char, Cond.methodLink "ForgottenFeastLaw" 17 yX10_feed, Cond.instanceMethod yX10_feed, Cond.selects RX10 yX10_feed yX10_feed, Cond.code yX10_feed cX10_feed 8 (some .int), Cond.methodLink "ForgottenFeastLaw" 22 yX10_end, Cond.instanceMethod yX10_end, Cond.selects RX10 yX10_end yX10_end, Cond.code yX10_end cX10_end 2 (some .boolean), Cond.methodLink "ForgottenFeastLaw" 27 yX10_town, Cond.instanceMethod yX10_town, Cond.selects RX10 yX10_town yX10_town, Cond.code yX10_town cX10_town 2 (some .int)]
set_option maxRecDepth 100000 in
theorem tw_6_eq : tw_6 = tables_1_6 := rfl
theorem tw_m6 {w : Cond} (j : Nat) (hj : tw_6[j]? = some w) : w ∈ tables_1 := by
  have h : w ∈ tables_1_6 := by rw [← tw_6_eq]; exact List.mem_of_getElem? hj
  exact List.mem_append_right _ (List.mem_append_right _ (List.mem_append_right _ (List.mem_append_right _ (List.mem_append_right _ (List.mem_append_left _ h)))))
def tw_7 : List Cond := [Cond.methodLink RX10 372 yX10_daysTold, Cond.privateMethod yX10_daysTold, Cond.instanceMethod yX10_daysTold, Cond.code yX10_daysTold cX10_daysTold 1 none, Cond.methodLink RX10 317 yX10_asks, Cond.privateMethod yX10_asks, Cond.instanceMethod yX10_asks, Cond.code yX10_asks cX10_asks 2 none, Cond.methodLink RX10 275 yX10_takes, Cond.privateMethod yX10_takes, Cond.instanceMethod yX10_takes, Cond.code yX10_takes cX10_takes 2 (some .boolean), Cond.methodLink RX10 271 yX10_isHere, Cond.privateMethod yX10_isHere, Cond.instanceMethod yX10_isHere, Cond.code yX10_isHere cX10_isHere 4 (some .boolean), Cond.methodLink RX10 260 yX10_look, Cond.privateMethod yX10_look, Cond.instanceMethod yX10_look, Cond.code yX10_look cX10_look 1 (some .int), Cond.methodLink RX10 264 yX10_isLetter, Cond.static yX10_isLetter, Cond.code yX10_isLetter cX10_isLetter 1 (some .boolean), Cond.methodLink RX10 278 yX10_fail, Cond.privateMethod yX10_fail, Cond.instanceMethod yX10_fail, Cond.code yX10_fail cX10_fail 3 none, Cond.methodLink RX10 321 yX10_number, Cond.privateMethod yX10_number, Cond.instanceMethod yX10_number, Cond.code yX10_number cX10_number 5 (some .int), Cond.methodLink RX10 285 yX10_isDigit, Cond.static yX10_isDigit, Cond.code yX10_isDigit cX10_isDigit 1 (some .boolean), Cond.methodLink RX10 291 yX10_isIn, Cond.static yX10_isIn, Cond.code yX10_isIn cX10_isIn 6 (some .boolean), Cond.methodLink RX10 325 yX10_asksSign, Cond.privateMethod yX10_asksSign, Cond.instanceMethod yX10_asksSign, Cond.code yX10_asksSign cX10_asksSign 2 none, Cond.methodLink RX10 282 yX10_takesSign, Cond.privateMethod yX10_takesSign, Cond.instanceMethod yX10_takesSign, Cond.code yX10_takesSign cX10_takesSign 2 (some .boolean), Cond.methodLink RX10 375 yX10_statementTold, Cond.privateMethod yX10_statementTold, Cond.instanceMethod yX10_statementTold, Cond.code yX10_statementTold cX10_statementTold 2 none, Cond.methodLink RX10 357 yX10_personTold, Cond.privateMethod yX10_personTold, Cond.instanceMethod yX10_personTold, Cond.code yX10_personTold cX10_personTold 7 none, Cond.methodLink RX10 329 yX10_isFull, Cond.privateMethod yX10_isFull, Cond.instanceMethod yX10_isFull, Cond.code yX10_isFull cX10_isFull 4 (some .boolean), Cond.methodLink RX10 309 yX10_name, Cond.privateMethod yX10_name, Cond.instanceMethod yX10_name, Cond.code yX10_name cX10_name 3 (some .long), Cond.methodLink RX10 295 yX10_isOwnHere, Cond.privateMethod yX10_isOwnHere, Cond.instanceMethod yX10_isOwnHere, Cond.code yX10_isOwnHere cX10_isOwnHere 2 (some .boolean), Cond.constantLong RX10 302 (Int64.ofInt (27)), Cond.constantLong RX10 304 (Int64.ofInt (97)), Cond.methodLink RX10 313 yX10_personOf, Cond.privateMethod yX10_personOf, Cond.instanceMethod yX10_personOf, Cond.code yX10_personOf cX10_personOf 4 (some .int), Cond.methodLink RX10 360 yX10_isToldOff, Cond.privateMethod yX10_isToldOff, Cond.instanceMethod yX10_isToldOff, Cond.code yX10_isToldOff cX10_isToldOff 4 none, Cond.methodLink RX10 333 yX10_personHere, Cond.privateMethod yX10_personHere, Cond.instanceMethod yX10_personHere, Cond.code yX10_personHere cX10_personHere 4 (some .int), Cond.methodLink RX10 363 yX10_remindsTold, Cond.privateMethod yX10_remindsTold, Cond.instanceMethod yX10_remindsTold, Cond.code yX10_remindsTold cX10_remindsTold 4 none, Cond.methodLink RX10 366 yX10_frostTold, Cond.privateMethod yX10_frostTold, Cond.instanceMethod yX10_frostTold, Cond.code yX10_frostTold cX10_frostTold 4 none, Cond.methodLink RX10 369 yX10_codesTold, Cond.privateMethod yX10_codesTold, Cond.instanceMethod yX10_codesTold, Cond.code yX10_codesTold cX10_codesTold 4 none, Cond.methodLink RX10 348 yX10_qTest, Cond.privateMethod yX10_qTest, Cond.instanceMethod yX10_qTest, Cond.code yX10_qTest cX10_qTest 3 none, Cond.methodLink RX10 603 yX10_qOpens, Cond.privateMethod yX10_qOpens, Cond.instanceMethod yX10_qOpens, Cond.code yX10_qOpens cX10_qOpens 3 none, Cond.methodLink RX10 630 yX10_qFact, Cond.privateMethod yX10_qFact, Cond.instanceMethod yX10_qFact, Cond.code yX10_qFact cX10_qFact 2 none, Cond.methodLink RX10 585 yX10_qCode, Cond.privateMethod yX10_qCode, Cond.instanceMethod yX10_qCode, Cond.code yX10_qCode cX10_qCode 2 none, Cond.methodLink RX10 627 yX10_qSums, Cond.privateMethod yX10_qSums, Cond.instanceMethod yX10_qSums, Cond.code yX10_qSums cX10_qSums 3 none, Cond.methodLink RX10 621 yX10_qPartTold, Cond.privateMethod yX10_qPartTold, Cond.instanceMethod yX10_qPartTold, Cond.code yX10_qPartTold cX10_qPartTold 6 none, Cond.methodLink RX10 600 yX10_qWordOf, Cond.privateMethod yX10_qWordOf, Cond.instanceMethod yX10_qWordOf, Cond.code yX10_qWordOf cX10_qWordOf 4 (some .int), Cond.methodLink RX10 594 yX10_qWordHere, Cond.privateMethod yX10_qWordHere, Cond.instanceMethod yX10_qWordHere, Cond.code yX10_qWordHere cX10_qWordHere 1 (some .int), Cond.methodLink RX10 597 yX10_isAllowed, Cond.privateMethod yX10_isAllowed, Cond.instanceMethod yX10_isAllowed, Cond.code yX10_isAllowed cX10_isAllowed 2 (some .boolean), Cond.methodLink RX10 606 yX10_qAsksWord, Cond.privateMethod yX10_qAsksWord, Cond.instanceMethod yX10_qAsksWord, Cond.code yX10_qAsksWord cX10_qAsksWord 2 none, Cond.methodLink RX10 609 yX10_qEndsPart, Cond.privateMethod yX10_qEndsPart, Cond.instanceMethod yX10_qEndsPart, Cond.code yX10_qEndsPart cX10_qEndsPart 1 none, Cond.methodLink RX10 591 yX10_qDrops, Cond.privateMethod yX10_qDrops, Cond.instanceMethod yX10_qDrops, Cond.code yX10_qDrops cX10_qDrops 1 none, Cond.methodLink RX10 624 yX10_qGoesOn, Cond.privateMethod yX10_qGoesOn, Cond.instanceMethod yX10_qGoesOn, Cond.code yX10_qGoesOn cX10_qGoesOn 2 (some .boolean), Cond.methodLink RX10 612 yX10_qBracket, Cond.privateMethod yX10_qBracket, Cond.instanceMethod yX10_qBracket, Cond.code yX10_qBracket cX10_qBracket 2 (some .int), Cond.methodLink RX10 588 yX10_qIsBracket, Cond.static yX10_qIsBracket, Cond.code yX10_qIsBracket cX10_qIsBracket 1 (some .boolean), Cond.methodLink RX10 615 yX10_qDropsToBracket, Cond.privateMethod yX10_qDropsToBracket, Cond.instanceMethod yX10_qDropsToBracket, Cond.code yX10_qDropsToBracket cX10_qDropsToBracket 1 none, Cond.methodLink RX10 618 yX10_qIsOn, Cond.privateMethod yX10_qIsOn, Cond.instanceMethod yX10_qIsOn, Cond.code yX10_qIsOn cX10_qIsOn 2 (some .boolean), Cond.methodLink RX10 633 yX10_qDropsNots, Cond.privateMethod yX10_qDropsNots, Cond.instanceMethod yX10_qDropsNots, Cond.code yX10_qDropsNots cX10_qDropsNots 1 none, Cond.methodLink RX10 636 yX10_qGoesOnTest, Cond.privateMethod yX10_qGoesOnTest, Cond.instanceMethod yX10_qGoesOnTest, Cond.code yX10_qGoesOnTest cX10_qGoesOnTest 1 (some .boolean), Cond.methodLink RX10 639 yX10_qHasSquare, Cond.privateMethod yX10_qHasSquare, Cond.instanceMethod yX10_qHasSquare, Cond.code yX10_qHasSquare cX10_qHasSquare 2 (some .boolean), Cond.methodLink RX10 381 yX10_stands, Cond.privateMethod yX10_stands, Cond.instanceMethod yX10_stands, Cond.code yX10_stands cX10_stands 2 none, Cond.methodLink "ForgottenFeastLaw" 32 yX10_fault, Cond.instanceMethod yX10_fault, Cond.selects RX10 yX10_fault yX10_fault, Cond.code yX10_fault cX10_fault 2 (some .int), Cond.methodLink "ForgottenFeastLaw" 36 yX10_has, Cond.instanceMethod yX10_has, Cond.selects RX10 yX10_has yX10_has, Cond.code yX10_has cX10_has 2 (some .int), Cond.methodLink RX10 397 yX10_yearDays, Cond.privateMethod yX10_yearDays, Cond.instanceMethod yX10_yearDays, Cond.code yX10_yearDays cX10_yearDays 1 (some .int), Cond.methodLink RX10 394 yX10_peopleMany, Cond.privateMethod yX10_peopleMany, Cond.instanceMethod yX10_peopleMany, Cond.code yX10_peopleMany cX10_peopleMany 1 (some .int), Cond.methodLink RX10 484 yX10_living, Cond.privateMethod yX10_living, Cond.instanceMethod yX10_living, Cond.code yX10_living cX10_living 3 (some .int), Cond.methodLink RX10 400 yX10_isDead, Cond.privateMethod yX10_isDead, Cond.instanceMethod yX10_isDead, Cond.code yX10_isDead cX10_isDead 2 (some .boolean), Cond.methodLink RX10 473 yX10_bits, Cond.static yX10_bits, Cond.code yX10_bits cX10_bits 3 (some .int), Cond.methodLink RX10 487 yX10_setsOf, Cond.privateMethod yX10_setsOf, Cond.instanceMethod yX10_setsOf, Cond.code yX10_setsOf cX10_setsOf 4 (some .int), Cond.methodLink "ForgottenFeastLaw" 41 yX10_letter, Cond.instanceMethod yX10_letter, Cond.selects RX10 yX10_letter yX10_letter, Cond.code yX10_letter cX10_letter 8 (some .int), Cond.methodLink RX10 490 yX10_isPerson, Cond.privateMethod yX10_isPerson, Cond.instanceMethod yX10_isPerson, Cond.code yX10_isPerson cX10_isPerson 2 (some .boolean), Cond.constantLong RX10 493 (Int64.ofInt (5)), Cond.methodLink "ForgottenFeastLaw" 45 yX10_person, Cond.instanceMethod yX10_person, Cond.selects RX10 yX10_person yX10_person, Cond.code yX10_person cX10_person 3 (some .int), Cond.methodLink RX10 439 yX10_mindOf, Cond.privateMethod yX10_mindOf, Cond.instanceMethod yX10_mindOf, Cond.code yX10_mindOf cX10_mindOf 2 (some .int), Cond.methodLink RX10 495 yX10_askedBy, Cond.privateMethod yX10_askedBy, Cond.instanceMethod yX10_askedBy, Cond.code yX10_askedBy cX10_askedBy 2 (some .int), Cond.methodLink RX10 467 yX10_agoOf, Cond.privateMethod yX10_agoOf, Cond.instanceMethod yX10_agoOf, Cond.code yX10_agoOf cX10_agoOf 2 (some .int), Cond.methodLink RX10 498 yX10_remindersOf, Cond.privateMethod yX10_remindersOf, Cond.instanceMethod yX10_remindersOf, Cond.code yX10_remindersOf cX10_remindersOf 4 (some .int), Cond.methodLink RX10 501 yX10_toldDays, Cond.privateMethod yX10_toldDays, Cond.instanceMethod yX10_toldDays, Cond.code yX10_toldDays cX10_toldDays 4 (some .int), Cond.methodLink "ForgottenFeastLaw" 49 yX10_day, Cond.instanceMethod yX10_day]
set_option maxRecDepth 100000 in
theorem tw_7_eq : tw_7 = tables_1_7 := rfl
theorem tw_m7 {w : Cond} (j : Nat) (hj : tw_7[j]? = some w) : w ∈ tables_1 := by
  have h : w ∈ tables_1_7 := by rw [← tw_7_eq]; exact List.mem_of_getElem? hj
  exact List.mem_append_right _ (List.mem_append_right _ (List.mem_append_right _ (List.mem_append_right _ (List.mem_append_right _ (List.mem_append_right _ (List.mem_append_left _ h))))))
def tw_8 : List Cond := [Cond.selects RX10 yX10_day yX10_day, Cond.code yX10_day cX10_day 3 (some .int), Cond.methodLink RX10 504 yX10_isDay, Cond.privateMethod yX10_isDay, Cond.instanceMethod yX10_isDay, Cond.code yX10_isDay cX10_isDay 2 (some .boolean), Cond.methodLink RX10 423 yX10_isFrost, Cond.privateMethod yX10_isFrost, Cond.instanceMethod yX10_isFrost, Cond.code yX10_isFrost cX10_isFrost 3 (some .boolean), Cond.methodLink "ForgottenFeastLaw" 53 yX10_kept, Cond.instanceMethod yX10_kept, Cond.selects RX10 yX10_kept yX10_kept, Cond.code yX10_kept cX10_kept 3 (some .int), Cond.constantLong RX10 507 (Int64.ofInt (3)), Cond.methodLink "ForgottenFeastLaw" 57 yX10_later, Cond.instanceMethod yX10_later, Cond.selects RX10 yX10_later yX10_later, Cond.code yX10_later cX10_later 4 (some .int), Cond.methodLink RX10 509 yX10_isAhead, Cond.privateMethod yX10_isAhead, Cond.instanceMethod yX10_isAhead, Cond.code yX10_isAhead cX10_isAhead 2 (some .boolean), Cond.constantLong RX10 479 (Int64.ofInt (120)), Cond.methodLink RX10 481 yX10_daysLeft, Cond.privateMethod yX10_daysLeft, Cond.instanceMethod yX10_daysLeft, Cond.code yX10_daysLeft cX10_daysLeft 1 (some .int), Cond.constantLong RX10 512 (Int64.ofInt (4)), Cond.methodLink RX10 514 yX10_putsAside, Cond.privateMethod yX10_putsAside, Cond.instanceMethod yX10_putsAside, Cond.code yX10_putsAside cX10_putsAside 2 none, Cond.methodLink RX10 517 yX10_daysGo, Cond.privateMethod yX10_daysGo, Cond.instanceMethod yX10_daysGo, Cond.code yX10_daysGo cX10_daysGo 3 none, Cond.methodLink RX10 476 yX10_dayGoes, Cond.privateMethod yX10_dayGoes, Cond.instanceMethod yX10_dayGoes, Cond.code yX10_dayGoes cX10_dayGoes 3 none, Cond.methodLink RX10 449 yX10_begins, Cond.privateMethod yX10_begins, Cond.instanceMethod yX10_begins, Cond.code yX10_begins cX10_begins 1 none, Cond.methodLink RX10 452 yX10_selves, Cond.privateMethod yX10_selves, Cond.instanceMethod yX10_selves, Cond.code yX10_selves cX10_selves 5 (some .int), Cond.methodLink RX10 429 yX10_asksDay, Cond.privateMethod yX10_asksDay, Cond.instanceMethod yX10_asksDay, Cond.code yX10_asksDay cX10_asksDay 2 none, Cond.methodLink RX10 432 yX10_isTold, Cond.privateMethod yX10_isTold, Cond.instanceMethod yX10_isTold, Cond.code yX10_isTold cX10_isTold 5 (some .boolean), Cond.methodLink RX10 406 yX10_qPuts, Cond.privateMethod yX10_qPuts, Cond.instanceMethod yX10_qPuts, Cond.code yX10_qPuts cX10_qPuts 3 none, Cond.methodLink RX10 410 yX10_qPartOf, Cond.privateMethod yX10_qPartOf, Cond.instanceMethod yX10_qPartOf, Cond.code yX10_qPartOf cX10_qPartOf 3 (some .long), Cond.methodLink RX10 414 yX10_qJoins, Cond.privateMethod yX10_qJoins, Cond.instanceMethod yX10_qJoins, Cond.code yX10_qJoins cX10_qJoins 6 none, Cond.methodLink RX10 646 yX10_qClip, Cond.static yX10_qClip, Cond.code yX10_qClip cX10_qClip 2 (some .long), Cond.constantLong RX10 642 (Int64.ofInt (1000000)), Cond.constantLong RX10 644 (Int64.ofInt (-1000000)), Cond.methodLink RX10 650 yX10_qFloor, Cond.static yX10_qFloor, Cond.code yX10_qFloor cX10_qFloor 6 (some .long), Cond.methodLink RX10 458 yX10_reminded, Cond.privateMethod yX10_reminded, Cond.instanceMethod yX10_reminded, Cond.code yX10_reminded cX10_reminded 6 (some .int), Cond.methodLink RX10 446 yX10_isReminded, Cond.privateMethod yX10_isReminded, Cond.instanceMethod yX10_isReminded, Cond.code yX10_isReminded cX10_isReminded 4 (some .boolean), Cond.methodLink RX10 436 yX10_reminderOf, Cond.privateMethod yX10_reminderOf, Cond.instanceMethod yX10_reminderOf, Cond.code yX10_reminderOf cX10_reminderOf 4 (some .int), Cond.methodLink RX10 470 yX10_isKept, Cond.privateMethod yX10_isKept, Cond.instanceMethod yX10_isKept, Cond.code yX10_isKept cX10_isKept 2 none, Cond.methodLink RX10 520 yX10_takesBack, Cond.privateMethod yX10_takesBack, Cond.instanceMethod yX10_takesBack, Cond.code yX10_takesBack cX10_takesBack 2 none, Cond.methodLink "ForgottenFeastLaw" 61 yX10_first, Cond.instanceMethod yX10_first, Cond.selects RX10 yX10_first yX10_first, Cond.code yX10_first cX10_first 5 (some .int), Cond.methodLink "ForgottenFeastLaw" 65 yX10_hangs, Cond.instanceMethod yX10_hangs, Cond.selects RX10 yX10_hangs yX10_hangs, Cond.code yX10_hangs cX10_hangs 3 (some .int), Cond.methodLink RX10 523 yX10_hangsNext, Cond.privateMethod yX10_hangsNext, Cond.instanceMethod yX10_hangsNext, Cond.code yX10_hangsNext cX10_hangsNext 11 (some .int), Cond.methodLink "ForgottenFeastLaw" 69 yX10_sure, Cond.instanceMethod yX10_sure, Cond.selects RX10 yX10_sure yX10_sure, Cond.code yX10_sure cX10_sure 4 (some .int), Cond.methodLink "ForgottenFeastLaw" 73 yX10_slips, Cond.instanceMethod yX10_slips, Cond.selects RX10 yX10_slips yX10_slips, Cond.code yX10_slips cX10_slips 6 (some .int), Cond.constantLong RX10 526 (Int64.ofInt (100)), Cond.methodLink "ForgottenFeastLaw" 77 yX10_costs, Cond.instanceMethod yX10_costs, Cond.selects RX10 yX10_costs yX10_costs, Cond.code yX10_costs cX10_costs 3 (some .int), Cond.methodLink RX10 528 yX10_costOf, Cond.privateMethod yX10_costOf, Cond.instanceMethod yX10_costOf, Cond.code yX10_costOf cX10_costOf 4 (some .int), Cond.methodLink "ForgottenFeastLaw" 81 yX10_cheapest, Cond.instanceMethod yX10_cheapest, Cond.selects RX10 yX10_cheapest yX10_cheapest, Cond.code yX10_cheapest cX10_cheapest 7 (some .int), Cond.methodLink "ForgottenFeastLaw" 85 yX10_enough, Cond.instanceMethod yX10_enough, Cond.selects RX10 yX10_enough yX10_enough, Cond.code yX10_enough cX10_enough 5 (some .int), Cond.methodLink RX10 531 yX10_canCome, Cond.privateMethod yX10_canCome, Cond.instanceMethod yX10_canCome, Cond.code yX10_canCome cX10_canCome 1 (some .boolean), Cond.methodLink "ForgottenFeastLaw" 89 yX10_turnsOf, Cond.instanceMethod yX10_turnsOf, Cond.selects RX10 yX10_turnsOf yX10_turnsOf, Cond.code yX10_turnsOf cX10_turnsOf 3 (some .int), Cond.constantLong RX10 546 (Int64.ofInt (2)), Cond.methodLink RX10 534 yX10_anyThinks, Cond.privateMethod yX10_anyThinks, Cond.instanceMethod yX10_anyThinks, Cond.code yX10_anyThinks cX10_anyThinks 3 (some .boolean), Cond.methodLink RX10 540 yX10_tellsLast, Cond.privateMethod yX10_tellsLast, Cond.instanceMethod yX10_tellsLast, Cond.code yX10_tellsLast cX10_tellsLast 5 (some .boolean), Cond.methodLink RX10 537 yX10_bribesLast, Cond.privateMethod yX10_bribesLast, Cond.instanceMethod yX10_bribesLast, Cond.code yX10_bribesLast cX10_bribesLast 5 (some .boolean), Cond.methodLink RX10 548 yX10_tellsFirst, Cond.privateMethod yX10_tellsFirst, Cond.instanceMethod yX10_tellsFirst, Cond.code yX10_tellsFirst cX10_tellsFirst 3 (some .boolean), Cond.methodLink RX10 543 yX10_bribesFirst, Cond.privateMethod yX10_bribesFirst, Cond.instanceMethod yX10_bribesFirst, Cond.code yX10_bribesFirst cX10_bribesFirst 4 (some .boolean), Cond.methodLink "ForgottenFeastLaw" 93 yX10_see, Cond.instanceMethod yX10_see, Cond.selects RX10 yX10_see yX10_see, Cond.code yX10_see cX10_see 4 (some .int), Cond.methodLink "ForgottenFeastLaw" 97 yX10_thought, Cond.instanceMethod yX10_thought, Cond.selects RX10 yX10_thought yX10_thought, Cond.code yX10_thought cX10_thought 8 (some .int), Cond.methodLink RX10 551 yX10_isAsSeen, Cond.privateMethod yX10_isAsSeen, Cond.instanceMethod yX10_isAsSeen, Cond.code yX10_isAsSeen cX10_isAsSeen 3 (some .boolean), Cond.methodLink "ForgottenFeastLaw" 101 yX10_hours, Cond.instanceMethod yX10_hours, Cond.selects RX10 yX10_hours yX10_hours, Cond.code yX10_hours cX10_hours 5 (some .int), Cond.constantLong RX10 554 (Int64.ofInt (20)), Cond.methodLink RX10 556 yX10_hoursFrom, Cond.privateMethod yX10_hoursFrom, Cond.instanceMethod yX10_hoursFrom, Cond.code yX10_hoursFrom cX10_hoursFrom 7 (some .int), Cond.methodLink "ForgottenFeastLaw" 105 yX10_law, Cond.instanceMethod yX10_law, Cond.selects RX10 yX10_law yX10_law, Cond.code yX10_law cX10_law 6 (some .int), Cond.methodLink RX10 559 yX10_isLaw, Cond.privateMethod yX10_isLaw, Cond.instanceMethod yX10_isLaw, Cond.code yX10_isLaw cX10_isLaw 7 (some .boolean), Cond.methodLink "ForgottenFeastLaw" 130 yX10_undo, Cond.instanceMethod yX10_undo, Cond.selects RX10 yX10_undo yX10_undo, Cond.code yX10_undo cX10_undo 2 (some .boolean), Cond.methodLink "ForgottenFeastLaw" 109 yX10_go, Cond.instanceMethod yX10_go, Cond.selects RX10 yX10_go yX10_go, Cond.code yX10_go cX10_go 4 (some .int), Cond.constantLong RX10 565 (Int64.ofInt (200)), Cond.methodLink RX10 567 yX10_refuses, Cond.privateMethod yX10_refuses, Cond.instanceMethod yX10_refuses, Cond.code yX10_refuses cX10_refuses 2 (some .int), Cond.methodLink RX10 570 yX10_keeps, Cond.privateMethod yX10_keeps, Cond.instanceMethod yX10_keeps, Cond.code yX10_keeps cX10_keeps 2 none, Cond.methodLink "ForgottenFeastLaw" 113 yX10_tell, Cond.instanceMethod yX10_tell, Cond.selects RX10 yX10_tell yX10_tell, Cond.code yX10_tell cX10_tell 4 (some .int), Cond.methodLink "ForgottenFeastLaw" 117 yX10_bribe, Cond.instanceMethod yX10_bribe, Cond.selects RX10 yX10_bribe yX10_bribe, Cond.code yX10_bribe cX10_bribe 4 (some .int), Cond.constant RX10 573 (Int32.ofInt (999999)), Cond.methodLink "ForgottenFeastLaw" 121 yX10_dies, Cond.instanceMethod yX10_dies, Cond.selects RX10 yX10_dies yX10_dies, Cond.code yX10_dies cX10_dies 2 (some .boolean), Cond.methodLink "ForgottenFeastLaw" 134 yX10_seed, Cond.instanceMethod yX10_seed, Cond.selects RX10 yX10_seed yX10_seed, Cond.code yX10_seed cX10_seed 2 (some .boolean), Cond.methodLink "ForgottenFeastLaw" 125 yX10_chance, Cond.instanceMethod yX10_chance, Cond.selects RX10 yX10_chance yX10_chance, Cond.code yX10_chance cX10_chance 5 (some .int), Cond.methodLink RX10 582 yX10_drawOf, Cond.privateMethod yX10_drawOf, Cond.instanceMethod yX10_drawOf, Cond.code yX10_drawOf cX10_drawOf 2 (some .int), Cond.constantLong RX10 574 (Int64.ofInt (1103515245)), Cond.constantLong RX10 576 (Int64.ofInt (12345)), Cond.constantLong RX10 578 (Int64.ofInt (2147483648)), Cond.constantLong RX10 580 (Int64.ofInt (64)), Cond.methodLink "ForgottenFeastLaw" 139 yX10_ask, Cond.instanceMethod yX10_ask]
set_option maxRecDepth 100000 in
theorem tw_8_eq : tw_8 = tables_1_8 := rfl
theorem tw_m8 {w : Cond} (j : Nat) (hj : tw_8[j]? = some w) : w ∈ tables_1 := by
  have h : w ∈ tables_1_8 := by rw [← tw_8_eq]; exact List.mem_of_getElem? hj
  exact List.mem_append_right _ (List.mem_append_right _ (List.mem_append_right _ (List.mem_append_right _ (List.mem_append_right _ (List.mem_append_right _ (List.mem_append_right _ (List.mem_append_left _ h)))))))
def tw_9 : List Cond := [Cond.selects RX10 yX10_ask yX10_ask, Cond.code yX10_ask cX10_ask 4 (some .long), Cond.constantLong RX10 666 (Int64.ofInt (-1000000000000000)), Cond.methodLink RX10 668 yX10_qKind, Cond.privateMethod yX10_qKind, Cond.instanceMethod yX10_qKind, Cond.code yX10_qKind cX10_qKind 2 (some .int), Cond.constantLong RX10 661 (Int64.ofInt (-1)), Cond.methodLink RX10 671 yX10_qTold, Cond.privateMethod yX10_qTold, Cond.instanceMethod yX10_qTold, Cond.code yX10_qTold cX10_qTold 4 (some .long), Cond.methodLink RX10 654 yX10_qOf, Cond.privateMethod yX10_qOf, Cond.instanceMethod yX10_qOf, Cond.code yX10_qOf cX10_qOf 5 (some .long), Cond.methodLink RX10 675 yX10_qTakes, Cond.privateMethod yX10_qTakes, Cond.instanceMethod yX10_qTakes, Cond.code yX10_qTakes cX10_qTakes 6 none, Cond.methodLink "ForgottenFeastLaw" 143 yX10_image, Cond.instanceMethod yX10_image, Cond.selects RX10 yX10_image yX10_image, Cond.code yX10_image cX10_image 2 (some .int), Cond.methodLink RX10 682 yX10_writes, Cond.privateMethod yX10_writes, Cond.instanceMethod yX10_writes, Cond.code yX10_writes cX10_writes 2 none, Cond.constant RX10 685 (Int32.ofInt (65536)), Cond.methodLink RX10 686 yX10_writesSets, Cond.privateMethod yX10_writesSets, Cond.instanceMethod yX10_writesSets, Cond.code yX10_writesSets cX10_writesSets 4 none, Cond.methodLink RX10 689 yX10_checked, Cond.static yX10_checked, Cond.code yX10_checked cX10_checked 4 (some .int), Cond.methodLink "ForgottenFeastLaw" 147 yX10_octet, Cond.instanceMethod yX10_octet, Cond.selects RX10 yX10_octet yX10_octet, Cond.code yX10_octet cX10_octet 2 (some .int), Cond.methodLink "ForgottenFeastLaw" 151 yX10_on, Cond.instanceMethod yX10_on, Cond.selects RX10 yX10_on yX10_on, Cond.code yX10_on cX10_on 3 (some .boolean), Cond.methodLink RX10 707 yX10_isImage, Cond.privateMethod yX10_isImage, Cond.instanceMethod yX10_isImage, Cond.code yX10_isImage cX10_isImage 3 (some .boolean), Cond.methodLink RX10 698 yX10_setsFrom, Cond.privateMethod yX10_setsFrom, Cond.instanceMethod yX10_setsFrom, Cond.code yX10_setsFrom cX10_setsFrom 1 (some .int), Cond.methodLink RX10 701 yX10_isHeadTold, Cond.privateMethod yX10_isHeadTold, Cond.instanceMethod yX10_isHeadTold, Cond.code yX10_isHeadTold cX10_isHeadTold 3 (some .boolean), Cond.constantLong RX10 693 (Int64.ofInt (999)), Cond.methodLink RX10 695 yX10_coinsTold, Cond.privateMethod yX10_coinsTold, Cond.instanceMethod yX10_coinsTold, Cond.code yX10_coinsTold cX10_coinsTold 1 (some .int), Cond.methodLink RX10 704 yX10_areSetsTold, Cond.privateMethod yX10_areSetsTold, Cond.instanceMethod yX10_areSetsTold, Cond.code yX10_areSetsTold cX10_areSetsTold 7 (some .boolean), Cond.methodLink RX10 710 yX10_takesSets, Cond.privateMethod yX10_takesSets, Cond.instanceMethod yX10_takesSets, Cond.code yX10_takesSets cX10_takesSets 4 none, Cond.methodLink "ForgottenFeastLaw" 155 yX10_status, Cond.instanceMethod yX10_status, Cond.selects RX10 yX10_status yX10_status, Cond.code yX10_status cX10_status 2 (some .int), Cond.fieldLink RJ0 15 "java/lang/String" "coder" "B", Cond.fieldLink RJ0 9 "java/lang/String" "value" "[B"]
set_option maxRecDepth 100000 in
theorem tw_9_eq : tw_9 = tables_1_9 := rfl
theorem tw_m9 {w : Cond} (j : Nat) (hj : tw_9[j]? = some w) : w ∈ tables_1 := by
  have h : w ∈ tables_1_9 := by rw [← tw_9_eq]; exact List.mem_of_getElem? hj
  exact List.mem_append_right _ (List.mem_append_right _ (List.mem_append_right _ (List.mem_append_right _ (List.mem_append_right _ (List.mem_append_right _ (List.mem_append_right _ (List.mem_append_right _ (h))))))))
-- ===== PART A: goes FIRST, ahead of the names: the tables' words, and 'selects' of the private methods out of them =====
/-- a private method of a class that the tables say can be made, by its rows of tables_1 -/
def lw_okq (q : MethodName × Nat) : Prop := (q.1.cls ≠ "java/lang/invoke/MethodHandle" ∧ q.1.cls ≠ "java/lang/invoke/VarHandle") ∧ Cond.instantiable q.1.cls q.2 ∈ tables_1 ∧ Cond.privateMethod q.1 ∈ tables_1 ∧ Cond.instanceMethod q.1 ∈ tables_1
theorem lw_p0 : lw_okq (⟨"ForgottenFeast", "refuse", "(I)I"⟩, 17) := ⟨⟨by decide +kernel, by decide +kernel⟩, (tw_m1 22 rfl), (tw_m2 193 rfl), (tw_m2 194 rfl)⟩
theorem lw_p1 : lw_okq (⟨"ForgottenFeast$Tape", "addNumber", "(I)V"⟩, 2) := ⟨⟨by decide +kernel, by decide +kernel⟩, (tw_m1 30 rfl), (tw_m2 197 rfl), (tw_m2 198 rfl)⟩
theorem lw_p2 : lw_okq (⟨"ForgottenFeast$Reader", "readTown", "(LForgottenFeast$Town;)Z"⟩, 13) := ⟨⟨by decide +kernel, by decide +kernel⟩, (tw_m1 153 rfl), (tw_m2 209 rfl), (tw_m2 210 rfl)⟩
theorem lw_p3 : lw_okq (⟨"ForgottenFeast$Reader", "begin", "()V"⟩, 13) := ⟨⟨by decide +kernel, by decide +kernel⟩, (tw_m1 153 rfl), (tw_m2 213 rfl), (tw_m2 214 rfl)⟩
theorem lw_p4 : lw_okq (⟨"ForgottenFeast$Tokens", "cut", "()V"⟩, 3) := ⟨⟨by decide +kernel, by decide +kernel⟩, (tw_m1 161 rfl), (tw_m2 217 rfl), (tw_m2 218 rfl)⟩
theorem lw_p5 : lw_okq (⟨"ForgottenFeast$Tokens", "runFrom", "(I)I"⟩, 3) := ⟨⟨by decide +kernel, by decide +kernel⟩, (tw_m1 161 rfl), (tw_m2 221 rfl), (tw_m2 222 rfl)⟩
theorem lw_p6 : lw_okq (⟨"ForgottenFeast$Tokens", "wordKind", "(II)I"⟩, 3) := ⟨⟨by decide +kernel, by decide +kernel⟩, (tw_m1 161 rfl), (tw_m2 231 rfl), (tw_m2 232 rfl)⟩
theorem lw_p7 : lw_okq (⟨"ForgottenFeast$Tokens", "isWord", "(III)Z"⟩, 3) := ⟨⟨by decide +kernel, by decide +kernel⟩, (tw_m1 161 rfl), (tw_m2 235 rfl), (tw_m2 236 rfl)⟩
theorem lw_p8 : lw_okq (⟨"ForgottenFeast$Tokens", "lettersOf", "(II)I"⟩, 3) := ⟨⟨by decide +kernel, by decide +kernel⟩, (tw_m1 161 rfl), (tw_m3 40 rfl), (tw_m3 41 rfl)⟩
theorem lw_p9 : lw_okq (⟨"ForgottenFeast$Tokens", "numberOf", "(II)I"⟩, 3) := ⟨⟨by decide +kernel, by decide +kernel⟩, (tw_m1 161 rfl), (tw_m3 44 rfl), (tw_m3 45 rfl)⟩
theorem lw_p10 : lw_okq (⟨"ForgottenFeast$Tokens", "add", "(III)V"⟩, 3) := ⟨⟨by decide +kernel, by decide +kernel⟩, (tw_m1 161 rfl), (tw_m3 48 rfl), (tw_m3 49 rfl)⟩
theorem lw_p11 : lw_okq (⟨"ForgottenFeast$Reader", "pass", "(ZI)V"⟩, 13) := ⟨⟨by decide +kernel, by decide +kernel⟩, (tw_m1 153 rfl), (tw_m3 118 rfl), (tw_m3 119 rfl)⟩
theorem lw_p12 : lw_okq (⟨"ForgottenFeast$Town", "clear", "()V"⟩, 17) := ⟨⟨by decide +kernel, by decide +kernel⟩, (tw_m1 50 rfl), (tw_m3 124 rfl), (tw_m3 125 rfl)⟩
theorem lw_p13 : lw_okq (⟨"ForgottenFeast$Reader", "readStatement", "()V"⟩, 13) := ⟨⟨by decide +kernel, by decide +kernel⟩, (tw_m1 153 rfl), (tw_m3 131 rfl), (tw_m3 132 rfl)⟩
theorem lw_p14 : lw_okq (⟨"ForgottenFeast$Town", "isFull", "(I)Z"⟩, 17) := ⟨⟨by decide +kernel, by decide +kernel⟩, (tw_m1 50 rfl), (tw_m3 135 rfl), (tw_m3 136 rfl)⟩
theorem lw_p15 : lw_okq (⟨"ForgottenFeast$Reader", "fail", "(II)V"⟩, 13) := ⟨⟨by decide +kernel, by decide +kernel⟩, (tw_m1 153 rfl), (tw_m3 139 rfl), (tw_m3 140 rfl)⟩
def lw_privs_1 : List (MethodName × Nat) := [(⟨"ForgottenFeast", "refuse", "(I)I"⟩, 17), (⟨"ForgottenFeast$Tape", "addNumber", "(I)V"⟩, 2), (⟨"ForgottenFeast$Reader", "readTown", "(LForgottenFeast$Town;)Z"⟩, 13), (⟨"ForgottenFeast$Reader", "begin", "()V"⟩, 13), (⟨"ForgottenFeast$Tokens", "cut", "()V"⟩, 3), (⟨"ForgottenFeast$Tokens", "runFrom", "(I)I"⟩, 3), (⟨"ForgottenFeast$Tokens", "wordKind", "(II)I"⟩, 3), (⟨"ForgottenFeast$Tokens", "isWord", "(III)Z"⟩, 3), (⟨"ForgottenFeast$Tokens", "lettersOf", "(II)I"⟩, 3), (⟨"ForgottenFeast$Tokens", "numberOf", "(II)I"⟩, 3), (⟨"ForgottenFeast$Tokens", "add", "(III)V"⟩, 3), (⟨"ForgottenFeast$Reader", "pass", "(ZI)V"⟩, 13), (⟨"ForgottenFeast$Town", "clear", "()V"⟩, 17), (⟨"ForgottenFeast$Reader", "readStatement", "()V"⟩, 13), (⟨"ForgottenFeast$Town", "isFull", "(I)Z"⟩, 17), (⟨"ForgottenFeast$Reader", "fail", "(II)V"⟩, 13)]
theorem lw_r1 : ∀ q ∈ lw_privs_1, lw_okq q := List.forall_mem_cons.mpr ⟨lw_p0, List.forall_mem_cons.mpr ⟨lw_p1, List.forall_mem_cons.mpr ⟨lw_p2, List.forall_mem_cons.mpr ⟨lw_p3, List.forall_mem_cons.mpr ⟨lw_p4, List.forall_mem_cons.mpr ⟨lw_p5, List.forall_mem_cons.mpr ⟨lw_p6, List.forall_mem_cons.mpr ⟨lw_p7, List.forall_mem_cons.mpr ⟨lw_p8, List.forall_mem_cons.mpr ⟨lw_p9, List.forall_mem_cons.mpr ⟨lw_p10, List.forall_mem_cons.mpr ⟨lw_p11, List.forall_mem_cons.mpr ⟨lw_p12, List.forall_mem_cons.mpr ⟨lw_p13, List.forall_mem_cons.mpr ⟨lw_p14, List.forall_mem_cons.mpr ⟨lw_p15, fun _ h => absurd h List.not_mem_nil⟩⟩⟩⟩⟩⟩⟩⟩⟩⟩⟩⟩⟩⟩⟩⟩
theorem lw_p16 : lw_okq (⟨"ForgottenFeast$Reader", "readNumber", "(II)I"⟩, 13) := ⟨⟨by decide +kernel, by decide +kernel⟩, (tw_m1 153 rfl), (tw_m3 143 rfl), (tw_m3 144 rfl)⟩
theorem lw_p17 : lw_okq (⟨"ForgottenFeast$Reader", "readPerson", "()V"⟩, 13) := ⟨⟨by decide +kernel, by decide +kernel⟩, (tw_m1 153 rfl), (tw_m3 147 rfl), (tw_m3 148 rfl)⟩
theorem lw_p18 : lw_okq (⟨"ForgottenFeast$Town", "find", "(I)I"⟩, 17) := ⟨⟨by decide +kernel, by decide +kernel⟩, (tw_m1 50 rfl), (tw_m3 151 rfl), (tw_m3 152 rfl)⟩
theorem lw_p19 : lw_okq (⟨"ForgottenFeast$Reader", "readName", "(Z)V"⟩, 13) := ⟨⟨by decide +kernel, by decide +kernel⟩, (tw_m1 153 rfl), (tw_m3 155 rfl), (tw_m3 156 rfl)⟩
theorem lw_p20 : lw_okq (⟨"ForgottenFeast$Town", "addPerson", "(III)V"⟩, 17) := ⟨⟨by decide +kernel, by decide +kernel⟩, (tw_m1 50 rfl), (tw_m3 159 rfl), (tw_m3 160 rfl)⟩
theorem lw_p21 : lw_okq (⟨"ForgottenFeast$Reader", "readTold", "()V"⟩, 13) := ⟨⟨by decide +kernel, by decide +kernel⟩, (tw_m1 153 rfl), (tw_m3 163 rfl), (tw_m3 164 rfl)⟩
theorem lw_p22 : lw_okq (⟨"ForgottenFeast$Town", "addTold", "(II)Z"⟩, 17) := ⟨⟨by decide +kernel, by decide +kernel⟩, (tw_m1 50 rfl), (tw_m3 167 rfl), (tw_m3 168 rfl)⟩
theorem lw_p23 : lw_okq (⟨"ForgottenFeast$Reader", "readReminds", "()V"⟩, 13) := ⟨⟨by decide +kernel, by decide +kernel⟩, (tw_m1 153 rfl), (tw_m3 174 rfl), (tw_m3 175 rfl)⟩
theorem lw_p24 : lw_okq (⟨"ForgottenFeast$Town", "addReminds", "(II)Z"⟩, 17) := ⟨⟨by decide +kernel, by decide +kernel⟩, (tw_m1 50 rfl), (tw_m3 178 rfl), (tw_m3 179 rfl)⟩
theorem lw_p25 : lw_okq (⟨"ForgottenFeast$Reader", "readFrost", "()V"⟩, 13) := ⟨⟨by decide +kernel, by decide +kernel⟩, (tw_m1 153 rfl), (tw_m3 182 rfl), (tw_m3 183 rfl)⟩
theorem lw_p26 : lw_okq (⟨"ForgottenFeast$Town", "addFrost", "(II)V"⟩, 17) := ⟨⟨by decide +kernel, by decide +kernel⟩, (tw_m1 50 rfl), (tw_m3 186 rfl), (tw_m3 187 rfl)⟩
theorem lw_p27 : lw_okq (⟨"ForgottenFeast$Reader", "readTest", "()V"⟩, 13) := ⟨⟨by decide +kernel, by decide +kernel⟩, (tw_m1 153 rfl), (tw_m3 190 rfl), (tw_m3 191 rfl)⟩
theorem lw_p28 : lw_okq (⟨"ForgottenFeast$Reader", "readFact", "()V"⟩, 13) := ⟨⟨by decide +kernel, by decide +kernel⟩, (tw_m1 153 rfl), (tw_m3 194 rfl), (tw_m3 195 rfl)⟩
theorem lw_p29 : lw_okq (⟨"ForgottenFeast$Reader", "open", "()Z"⟩, 13) := ⟨⟨by decide +kernel, by decide +kernel⟩, (tw_m1 153 rfl), (tw_m3 198 rfl), (tw_m3 199 rfl)⟩
theorem lw_p30 : lw_okq (⟨"ForgottenFeast$Rule", "add", "(I)V"⟩, 2) := ⟨⟨by decide +kernel, by decide +kernel⟩, (tw_m1 56 rfl), (tw_m3 202 rfl), (tw_m3 203 rfl)⟩
theorem lw_p31 : lw_okq (⟨"ForgottenFeast$Reader", "readSum", "()V"⟩, 13) := ⟨⟨by decide +kernel, by decide +kernel⟩, (tw_m1 153 rfl), (tw_m3 206 rfl), (tw_m3 207 rfl)⟩
def lw_privs_2 : List (MethodName × Nat) := [(⟨"ForgottenFeast$Reader", "readNumber", "(II)I"⟩, 13), (⟨"ForgottenFeast$Reader", "readPerson", "()V"⟩, 13), (⟨"ForgottenFeast$Town", "find", "(I)I"⟩, 17), (⟨"ForgottenFeast$Reader", "readName", "(Z)V"⟩, 13), (⟨"ForgottenFeast$Town", "addPerson", "(III)V"⟩, 17), (⟨"ForgottenFeast$Reader", "readTold", "()V"⟩, 13), (⟨"ForgottenFeast$Town", "addTold", "(II)Z"⟩, 17), (⟨"ForgottenFeast$Reader", "readReminds", "()V"⟩, 13), (⟨"ForgottenFeast$Town", "addReminds", "(II)Z"⟩, 17), (⟨"ForgottenFeast$Reader", "readFrost", "()V"⟩, 13), (⟨"ForgottenFeast$Town", "addFrost", "(II)V"⟩, 17), (⟨"ForgottenFeast$Reader", "readTest", "()V"⟩, 13), (⟨"ForgottenFeast$Reader", "readFact", "()V"⟩, 13), (⟨"ForgottenFeast$Reader", "open", "()Z"⟩, 13), (⟨"ForgottenFeast$Rule", "add", "(I)V"⟩, 2), (⟨"ForgottenFeast$Reader", "readSum", "()V"⟩, 13)]
theorem lw_r2 : ∀ q ∈ lw_privs_2, lw_okq q := List.forall_mem_cons.mpr ⟨lw_p16, List.forall_mem_cons.mpr ⟨lw_p17, List.forall_mem_cons.mpr ⟨lw_p18, List.forall_mem_cons.mpr ⟨lw_p19, List.forall_mem_cons.mpr ⟨lw_p20, List.forall_mem_cons.mpr ⟨lw_p21, List.forall_mem_cons.mpr ⟨lw_p22, List.forall_mem_cons.mpr ⟨lw_p23, List.forall_mem_cons.mpr ⟨lw_p24, List.forall_mem_cons.mpr ⟨lw_p25, List.forall_mem_cons.mpr ⟨lw_p26, List.forall_mem_cons.mpr ⟨lw_p27, List.forall_mem_cons.mpr ⟨lw_p28, List.forall_mem_cons.mpr ⟨lw_p29, List.forall_mem_cons.mpr ⟨lw_p30, List.forall_mem_cons.mpr ⟨lw_p31, fun _ h => absurd h List.not_mem_nil⟩⟩⟩⟩⟩⟩⟩⟩⟩⟩⟩⟩⟩⟩⟩⟩
theorem lw_p32 : lw_okq (⟨"ForgottenFeast$Reader", "readPart", "()V"⟩, 13) := ⟨⟨by decide +kernel, by decide +kernel⟩, (tw_m1 153 rfl), (tw_m3 210 rfl), (tw_m3 211 rfl)⟩
theorem lw_p33 : lw_okq (⟨"ForgottenFeast$Reader", "readSumsInside", "(Z)V"⟩, 13) := ⟨⟨by decide +kernel, by decide +kernel⟩, (tw_m1 153 rfl), (tw_m3 214 rfl), (tw_m3 215 rfl)⟩
theorem lw_p34 : lw_okq (⟨"ForgottenFeast$Reader", "isPartWord", "(I)Z"⟩, 13) := ⟨⟨by decide +kernel, by decide +kernel⟩, (tw_m1 153 rfl), (tw_m3 218 rfl), (tw_m3 219 rfl)⟩
theorem lw_p35 : lw_okq (⟨"ForgottenFeast$Town", "ruleOf", "(I)LForgottenFeast$Rule;"⟩, 17) := ⟨⟨by decide +kernel, by decide +kernel⟩, (tw_m1 50 rfl), (tw_m3 225 rfl), (tw_m3 226 rfl)⟩
theorem lw_p36 : lw_okq (⟨"ForgottenFeast$Rule", "copyFrom", "(LForgottenFeast$Rule;)V"⟩, 2) := ⟨⟨by decide +kernel, by decide +kernel⟩, (tw_m1 56 rfl), (tw_m3 229 rfl), (tw_m3 230 rfl)⟩
theorem lw_p37 : lw_okq (⟨"ForgottenFeast", "noteFault", "()V"⟩, 17) := ⟨⟨by decide +kernel, by decide +kernel⟩, (tw_m1 22 rfl), (tw_m3 236 rfl), (tw_m3 237 rfl)⟩
theorem lw_p38 : lw_okq (⟨"ForgottenFeast$Life", "begin", "(LForgottenFeast$Town;)V"⟩, 11) := ⟨⟨by decide +kernel, by decide +kernel⟩, (tw_m1 224 rfl), (tw_m4 0 rfl), (tw_m4 1 rfl)⟩
theorem lw_p39 : lw_okq (⟨"ForgottenFeast$Past", "forget", "()V"⟩, 3) := ⟨⟨by decide +kernel, by decide +kernel⟩, (tw_m2 48 rfl), (tw_m4 6 rfl), (tw_m4 7 rfl)⟩
theorem lw_p40 : lw_okq (⟨"ForgottenFeast", "living", "()I"⟩, 17) := ⟨⟨by decide +kernel, by decide +kernel⟩, (tw_m1 22 rfl), (tw_m4 19 rfl), (tw_m4 20 rfl)⟩
theorem lw_p41 : lw_okq (⟨"ForgottenFeast$Town", "everybody", "()I"⟩, 17) := ⟨⟨by decide +kernel, by decide +kernel⟩, (tw_m1 50 rfl), (tw_m4 23 rfl), (tw_m4 24 rfl)⟩
theorem lw_p42 : lw_okq (⟨"ForgottenFeast", "isPerson", "(I)Z"⟩, 17) := ⟨⟨by decide +kernel, by decide +kernel⟩, (tw_m1 22 rfl), (tw_m4 40 rfl), (tw_m4 41 rfl)⟩
theorem lw_p43 : lw_okq (⟨"ForgottenFeast", "daysToldOff", "(I)I"⟩, 17) := ⟨⟨by decide +kernel, by decide +kernel⟩, (tw_m1 22 rfl), (tw_m4 49 rfl), (tw_m4 50 rfl)⟩
theorem lw_p44 : lw_okq (⟨"ForgottenFeast", "isDay", "(I)Z"⟩, 17) := ⟨⟨by decide +kernel, by decide +kernel⟩, (tw_m1 22 rfl), (tw_m4 57 rfl), (tw_m4 58 rfl)⟩
theorem lw_p45 : lw_okq (⟨"ForgottenFeast$Life", "rowAt", "(I)I"⟩, 11) := ⟨⟨by decide +kernel, by decide +kernel⟩, (tw_m1 224 rfl), (tw_m4 65 rfl), (tw_m4 66 rfl)⟩
theorem lw_p46 : lw_okq (⟨"ForgottenFeast", "foresee", "(I)Z"⟩, 17) := ⟨⟨by decide +kernel, by decide +kernel⟩, (tw_m1 22 rfl), (tw_m4 85 rfl), (tw_m4 86 rfl)⟩
theorem lw_p47 : lw_okq (⟨"ForgottenFeast", "isAhead", "(I)Z"⟩, 17) := ⟨⟨by decide +kernel, by decide +kernel⟩, (tw_m1 22 rfl), (tw_m4 89 rfl), (tw_m4 90 rfl)⟩
def lw_privs_3 : List (MethodName × Nat) := [(⟨"ForgottenFeast$Reader", "readPart", "()V"⟩, 13), (⟨"ForgottenFeast$Reader", "readSumsInside", "(Z)V"⟩, 13), (⟨"ForgottenFeast$Reader", "isPartWord", "(I)Z"⟩, 13), (⟨"ForgottenFeast$Town", "ruleOf", "(I)LForgottenFeast$Rule;"⟩, 17), (⟨"ForgottenFeast$Rule", "copyFrom", "(LForgottenFeast$Rule;)V"⟩, 2), (⟨"ForgottenFeast", "noteFault", "()V"⟩, 17), (⟨"ForgottenFeast$Life", "begin", "(LForgottenFeast$Town;)V"⟩, 11), (⟨"ForgottenFeast$Past", "forget", "()V"⟩, 3), (⟨"ForgottenFeast", "living", "()I"⟩, 17), (⟨"ForgottenFeast$Town", "everybody", "()I"⟩, 17), (⟨"ForgottenFeast", "isPerson", "(I)Z"⟩, 17), (⟨"ForgottenFeast", "daysToldOff", "(I)I"⟩, 17), (⟨"ForgottenFeast", "isDay", "(I)Z"⟩, 17), (⟨"ForgottenFeast$Life", "rowAt", "(I)I"⟩, 11), (⟨"ForgottenFeast", "foresee", "(I)Z"⟩, 17), (⟨"ForgottenFeast", "isAhead", "(I)Z"⟩, 17)]
theorem lw_r3 : ∀ q ∈ lw_privs_3, lw_okq q := List.forall_mem_cons.mpr ⟨lw_p32, List.forall_mem_cons.mpr ⟨lw_p33, List.forall_mem_cons.mpr ⟨lw_p34, List.forall_mem_cons.mpr ⟨lw_p35, List.forall_mem_cons.mpr ⟨lw_p36, List.forall_mem_cons.mpr ⟨lw_p37, List.forall_mem_cons.mpr ⟨lw_p38, List.forall_mem_cons.mpr ⟨lw_p39, List.forall_mem_cons.mpr ⟨lw_p40, List.forall_mem_cons.mpr ⟨lw_p41, List.forall_mem_cons.mpr ⟨lw_p42, List.forall_mem_cons.mpr ⟨lw_p43, List.forall_mem_cons.mpr ⟨lw_p44, List.forall_mem_cons.mpr ⟨lw_p45, List.forall_mem_cons.mpr ⟨lw_p46, List.forall_mem_cons.mpr ⟨lw_p47, fun _ h => absurd h List.not_mem_nil⟩⟩⟩⟩⟩⟩⟩⟩⟩⟩⟩⟩⟩⟩⟩⟩
theorem lw_p48 : lw_okq (⟨"ForgottenFeast$Life", "daysLeft", "(LForgottenFeast$Town;)I"⟩, 11) := ⟨⟨by decide +kernel, by decide +kernel⟩, (tw_m1 224 rfl), (tw_m4 93 rfl), (tw_m4 94 rfl)⟩
theorem lw_p49 : lw_okq (⟨"ForgottenFeast$Life", "copyFrom", "(LForgottenFeast$Life;)V"⟩, 11) := ⟨⟨by decide +kernel, by decide +kernel⟩, (tw_m1 224 rfl), (tw_m4 97 rfl), (tw_m4 98 rfl)⟩
theorem lw_p50 : lw_okq (⟨"ForgottenFeast$Dawn", "lookAt", "(LForgottenFeast$Town;LForgottenFeast$Life;)Z"⟩, 14) := ⟨⟨by decide +kernel, by decide +kernel⟩, (tw_m2 67 rfl), (tw_m4 101 rfl), (tw_m4 102 rfl)⟩
theorem lw_p51 : lw_okq (⟨"ForgottenFeast$Dawn", "ofThemselves", "(II)I"⟩, 14) := ⟨⟨by decide +kernel, by decide +kernel⟩, (tw_m2 67 rfl), (tw_m4 108 rfl), (tw_m4 109 rfl)⟩
theorem lw_p52 : lw_okq (⟨"ForgottenFeast$Dawn", "setPerson", "(II)V"⟩, 14) := ⟨⟨by decide +kernel, by decide +kernel⟩, (tw_m2 67 rfl), (tw_m4 113 rfl), (tw_m4 114 rfl)⟩
theorem lw_p53 : lw_okq (⟨"ForgottenFeast$Rule", "valueOf", "([I[I)I"⟩, 2) := ⟨⟨by decide +kernel, by decide +kernel⟩, (tw_m1 56 rfl), (tw_m4 117 rfl), (tw_m4 118 rfl)⟩
theorem lw_p54 : lw_okq (⟨"ForgottenFeast$Dawn", "spread", "(II)I"⟩, 14) := ⟨⟨by decide +kernel, by decide +kernel⟩, (tw_m2 67 rfl), (tw_m4 142 rfl), (tw_m4 143 rfl)⟩
theorem lw_p55 : lw_okq (⟨"ForgottenFeast$Dawn", "wouldHear", "(II)Z"⟩, 14) := ⟨⟨by decide +kernel, by decide +kernel⟩, (tw_m2 67 rfl), (tw_m4 150 rfl), (tw_m4 151 rfl)⟩
theorem lw_p56 : lw_okq (⟨"ForgottenFeast$Dawn", "settle", "()V"⟩, 14) := ⟨⟨by decide +kernel, by decide +kernel⟩, (tw_m2 67 rfl), (tw_m4 154 rfl), (tw_m4 155 rfl)⟩
theorem lw_p57 : lw_okq (⟨"ForgottenFeast", "hangsOn", "()I"⟩, 17) := ⟨⟨by decide +kernel, by decide +kernel⟩, (tw_m1 22 rfl), (tw_m4 168 rfl), (tw_m4 169 rfl)⟩
theorem lw_p58 : lw_okq (⟨"ForgottenFeast", "chanceOfNobody", "(I)I"⟩, 17) := ⟨⟨by decide +kernel, by decide +kernel⟩, (tw_m1 22 rfl), (tw_m4 180 rfl), (tw_m4 181 rfl)⟩
theorem lw_p59 : lw_okq (⟨"ForgottenFeast", "priceOf", "(I)I"⟩, 17) := ⟨⟨by decide +kernel, by decide +kernel⟩, (tw_m1 22 rfl), (tw_m4 190 rfl), (tw_m4 191 rfl)⟩
theorem lw_p60 : lw_okq (⟨"ForgottenFeast", "isSight", "()Z"⟩, 17) := ⟨⟨by decide +kernel, by decide +kernel⟩, (tw_m1 22 rfl), (tw_m4 218 rfl), (tw_m4 219 rfl)⟩
theorem lw_p61 : lw_okq (⟨"ForgottenFeast", "isAsSeen", "(I)Z"⟩, 17) := ⟨⟨by decide +kernel, by decide +kernel⟩, (tw_m1 22 rfl), (tw_m4 226 rfl), (tw_m4 227 rfl)⟩
theorem lw_p62 : lw_okq (⟨"ForgottenFeast", "hoursFrom", "(II)I"⟩, 17) := ⟨⟨by decide +kernel, by decide +kernel⟩, (tw_m1 22 rfl), (tw_m4 234 rfl), (tw_m4 235 rfl)⟩
theorem lw_p63 : lw_okq (⟨"ForgottenFeast", "isLaw", "(I)Z"⟩, 17) := ⟨⟨by decide +kernel, by decide +kernel⟩, (tw_m1 22 rfl), (tw_m5 3 rfl), (tw_m5 4 rfl)⟩
def lw_privs_4 : List (MethodName × Nat) := [(⟨"ForgottenFeast$Life", "daysLeft", "(LForgottenFeast$Town;)I"⟩, 11), (⟨"ForgottenFeast$Life", "copyFrom", "(LForgottenFeast$Life;)V"⟩, 11), (⟨"ForgottenFeast$Dawn", "lookAt", "(LForgottenFeast$Town;LForgottenFeast$Life;)Z"⟩, 14), (⟨"ForgottenFeast$Dawn", "ofThemselves", "(II)I"⟩, 14), (⟨"ForgottenFeast$Dawn", "setPerson", "(II)V"⟩, 14), (⟨"ForgottenFeast$Rule", "valueOf", "([I[I)I"⟩, 2), (⟨"ForgottenFeast$Dawn", "spread", "(II)I"⟩, 14), (⟨"ForgottenFeast$Dawn", "wouldHear", "(II)Z"⟩, 14), (⟨"ForgottenFeast$Dawn", "settle", "()V"⟩, 14), (⟨"ForgottenFeast", "hangsOn", "()I"⟩, 17), (⟨"ForgottenFeast", "chanceOfNobody", "(I)I"⟩, 17), (⟨"ForgottenFeast", "priceOf", "(I)I"⟩, 17), (⟨"ForgottenFeast", "isSight", "()Z"⟩, 17), (⟨"ForgottenFeast", "isAsSeen", "(I)Z"⟩, 17), (⟨"ForgottenFeast", "hoursFrom", "(II)I"⟩, 17), (⟨"ForgottenFeast", "isLaw", "(I)Z"⟩, 17)]
theorem lw_r4 : ∀ q ∈ lw_privs_4, lw_okq q := List.forall_mem_cons.mpr ⟨lw_p48, List.forall_mem_cons.mpr ⟨lw_p49, List.forall_mem_cons.mpr ⟨lw_p50, List.forall_mem_cons.mpr ⟨lw_p51, List.forall_mem_cons.mpr ⟨lw_p52, List.forall_mem_cons.mpr ⟨lw_p53, List.forall_mem_cons.mpr ⟨lw_p54, List.forall_mem_cons.mpr ⟨lw_p55, List.forall_mem_cons.mpr ⟨lw_p56, List.forall_mem_cons.mpr ⟨lw_p57, List.forall_mem_cons.mpr ⟨lw_p58, List.forall_mem_cons.mpr ⟨lw_p59, List.forall_mem_cons.mpr ⟨lw_p60, List.forall_mem_cons.mpr ⟨lw_p61, List.forall_mem_cons.mpr ⟨lw_p62, List.forall_mem_cons.mpr ⟨lw_p63, fun _ h => absurd h List.not_mem_nil⟩⟩⟩⟩⟩⟩⟩⟩⟩⟩⟩⟩⟩⟩⟩⟩
theorem lw_p64 : lw_okq (⟨"ForgottenFeast$Life", "toldOn", "(I)I"⟩, 11) := ⟨⟨by decide +kernel, by decide +kernel⟩, (tw_m1 224 rfl), (tw_m5 8 rfl), (tw_m5 9 rfl)⟩
theorem lw_p65 : lw_okq (⟨"ForgottenFeast$Past", "remember", "(LForgottenFeast$Life;)V"⟩, 3) := ⟨⟨by decide +kernel, by decide +kernel⟩, (tw_m2 48 rfl), (tw_m5 16 rfl), (tw_m5 17 rfl)⟩
theorem lw_p66 : lw_okq (⟨"ForgottenFeast", "liveOneDay", "()I"⟩, 17) := ⟨⟨by decide +kernel, by decide +kernel⟩, (tw_m1 22 rfl), (tw_m5 22 rfl), (tw_m5 23 rfl)⟩
theorem lw_p67 : lw_okq (⟨"ForgottenFeast$Life", "addRow", "(IZ)V"⟩, 11) := ⟨⟨by decide +kernel, by decide +kernel⟩, (tw_m1 224 rfl), (tw_m5 26 rfl), (tw_m5 27 rfl)⟩
theorem lw_p68 : lw_okq (⟨"ForgottenFeast", "drawDeaths", "()V"⟩, 17) := ⟨⟨by decide +kernel, by decide +kernel⟩, (tw_m1 22 rfl), (tw_m5 47 rfl), (tw_m5 48 rfl)⟩
theorem lw_p69 : lw_okq (⟨"ForgottenFeast$Past", "bringBack", "(LForgottenFeast$Life;)V"⟩, 3) := ⟨⟨by decide +kernel, by decide +kernel⟩, (tw_m2 48 rfl), (tw_m5 60 rfl), (tw_m5 61 rfl)⟩
theorem lw_p70 : lw_okq (⟨"ForgottenFeast$Reader", "readQuestion", "()Z"⟩, 13) := ⟨⟨by decide +kernel, by decide +kernel⟩, (tw_m1 153 rfl), (tw_m5 73 rfl), (tw_m5 74 rfl)⟩
theorem lw_p71 : lw_okq (⟨"ForgottenFeast", "answerOf", "(I)J"⟩, 17) := ⟨⟨by decide +kernel, by decide +kernel⟩, (tw_m1 22 rfl), (tw_m5 77 rfl), (tw_m5 78 rfl)⟩
theorem lw_p72 : lw_okq (⟨"ForgottenFeast$Dawn", "valueFor", "(LForgottenFeast$Rule;LForgottenFeast$Life;I)I"⟩, 14) := ⟨⟨by decide +kernel, by decide +kernel⟩, (tw_m2 67 rfl), (tw_m5 82 rfl), (tw_m5 83 rfl)⟩
theorem lw_p73 : lw_okq (⟨"ForgottenFeast$Picture", "paint", "(LForgottenFeast$Town;LForgottenFeast$Life;)V"⟩, 2) := ⟨⟨by decide +kernel, by decide +kernel⟩, (tw_m2 122 rfl), (tw_m5 92 rfl), (tw_m5 93 rfl)⟩
theorem lw_p74 : lw_okq (⟨"ForgottenFeast$Picture", "add", "(I)V"⟩, 2) := ⟨⟨by decide +kernel, by decide +kernel⟩, (tw_m2 122 rfl), (tw_m5 96 rfl), (tw_m5 97 rfl)⟩
theorem lw_p75 : lw_okq (⟨"ForgottenFeast$Picture", "addList", "([I)V"⟩, 2) := ⟨⟨by decide +kernel, by decide +kernel⟩, (tw_m2 122 rfl), (tw_m5 102 rfl), (tw_m5 103 rfl)⟩
theorem lw_p76 : lw_okq (⟨"ForgottenFeastModel", "daysTold", "()V"⟩, 108) := ⟨⟨by decide +kernel, by decide +kernel⟩, (tw_m5 137 rfl), (tw_m7 1 rfl), (tw_m7 2 rfl)⟩
theorem lw_p77 : lw_okq (⟨"ForgottenFeastModel", "asks", "([C)V"⟩, 108) := ⟨⟨by decide +kernel, by decide +kernel⟩, (tw_m5 137 rfl), (tw_m7 5 rfl), (tw_m7 6 rfl)⟩
theorem lw_p78 : lw_okq (⟨"ForgottenFeastModel", "takes", "([C)Z"⟩, 108) := ⟨⟨by decide +kernel, by decide +kernel⟩, (tw_m5 137 rfl), (tw_m7 9 rfl), (tw_m7 10 rfl)⟩
theorem lw_p79 : lw_okq (⟨"ForgottenFeastModel", "isHere", "([C)Z"⟩, 108) := ⟨⟨by decide +kernel, by decide +kernel⟩, (tw_m5 137 rfl), (tw_m7 13 rfl), (tw_m7 14 rfl)⟩
def lw_privs_5 : List (MethodName × Nat) := [(⟨"ForgottenFeast$Life", "toldOn", "(I)I"⟩, 11), (⟨"ForgottenFeast$Past", "remember", "(LForgottenFeast$Life;)V"⟩, 3), (⟨"ForgottenFeast", "liveOneDay", "()I"⟩, 17), (⟨"ForgottenFeast$Life", "addRow", "(IZ)V"⟩, 11), (⟨"ForgottenFeast", "drawDeaths", "()V"⟩, 17), (⟨"ForgottenFeast$Past", "bringBack", "(LForgottenFeast$Life;)V"⟩, 3), (⟨"ForgottenFeast$Reader", "readQuestion", "()Z"⟩, 13), (⟨"ForgottenFeast", "answerOf", "(I)J"⟩, 17), (⟨"ForgottenFeast$Dawn", "valueFor", "(LForgottenFeast$Rule;LForgottenFeast$Life;I)I"⟩, 14), (⟨"ForgottenFeast$Picture", "paint", "(LForgottenFeast$Town;LForgottenFeast$Life;)V"⟩, 2), (⟨"ForgottenFeast$Picture", "add", "(I)V"⟩, 2), (⟨"ForgottenFeast$Picture", "addList", "([I)V"⟩, 2), (⟨"ForgottenFeastModel", "daysTold", "()V"⟩, 108), (⟨"ForgottenFeastModel", "asks", "([C)V"⟩, 108), (⟨"ForgottenFeastModel", "takes", "([C)Z"⟩, 108), (⟨"ForgottenFeastModel", "isHere", "([C)Z"⟩, 108)]
theorem lw_r5 : ∀ q ∈ lw_privs_5, lw_okq q := List.forall_mem_cons.mpr ⟨lw_p64, List.forall_mem_cons.mpr ⟨lw_p65, List.forall_mem_cons.mpr ⟨lw_p66, List.forall_mem_cons.mpr ⟨lw_p67, List.forall_mem_cons.mpr ⟨lw_p68, List.forall_mem_cons.mpr ⟨lw_p69, List.forall_mem_cons.mpr ⟨lw_p70, List.forall_mem_cons.mpr ⟨lw_p71, List.forall_mem_cons.mpr ⟨lw_p72, List.forall_mem_cons.mpr ⟨lw_p73, List.forall_mem_cons.mpr ⟨lw_p74, List.forall_mem_cons.mpr ⟨lw_p75, List.forall_mem_cons.mpr ⟨lw_p76, List.forall_mem_cons.mpr ⟨lw_p77, List.forall_mem_cons.mpr ⟨lw_p78, List.forall_mem_cons.mpr ⟨lw_p79, fun _ h => absurd h List.not_mem_nil⟩⟩⟩⟩⟩⟩⟩⟩⟩⟩⟩⟩⟩⟩⟩⟩
theorem lw_p80 : lw_okq (⟨"ForgottenFeastModel", "look", "()I"⟩, 108) := ⟨⟨by decide +kernel, by decide +kernel⟩, (tw_m5 137 rfl), (tw_m7 17 rfl), (tw_m7 18 rfl)⟩
theorem lw_p81 : lw_okq (⟨"ForgottenFeastModel", "fail", "(II)V"⟩, 108) := ⟨⟨by decide +kernel, by decide +kernel⟩, (tw_m5 137 rfl), (tw_m7 24 rfl), (tw_m7 25 rfl)⟩
theorem lw_p82 : lw_okq (⟨"ForgottenFeastModel", "number", "(II)I"⟩, 108) := ⟨⟨by decide +kernel, by decide +kernel⟩, (tw_m5 137 rfl), (tw_m7 28 rfl), (tw_m7 29 rfl)⟩
theorem lw_p83 : lw_okq (⟨"ForgottenFeastModel", "asksSign", "(I)V"⟩, 108) := ⟨⟨by decide +kernel, by decide +kernel⟩, (tw_m5 137 rfl), (tw_m7 38 rfl), (tw_m7 39 rfl)⟩
theorem lw_p84 : lw_okq (⟨"ForgottenFeastModel", "takesSign", "(I)Z"⟩, 108) := ⟨⟨by decide +kernel, by decide +kernel⟩, (tw_m5 137 rfl), (tw_m7 42 rfl), (tw_m7 43 rfl)⟩
theorem lw_p85 : lw_okq (⟨"ForgottenFeastModel", "statementTold", "()V"⟩, 108) := ⟨⟨by decide +kernel, by decide +kernel⟩, (tw_m5 137 rfl), (tw_m7 46 rfl), (tw_m7 47 rfl)⟩
theorem lw_p86 : lw_okq (⟨"ForgottenFeastModel", "personTold", "(I)V"⟩, 108) := ⟨⟨by decide +kernel, by decide +kernel⟩, (tw_m5 137 rfl), (tw_m7 50 rfl), (tw_m7 51 rfl)⟩
theorem lw_p87 : lw_okq (⟨"ForgottenFeastModel", "isFull", "(III)Z"⟩, 108) := ⟨⟨by decide +kernel, by decide +kernel⟩, (tw_m5 137 rfl), (tw_m7 54 rfl), (tw_m7 55 rfl)⟩
theorem lw_p88 : lw_okq (⟨"ForgottenFeastModel", "name", "()J"⟩, 108) := ⟨⟨by decide +kernel, by decide +kernel⟩, (tw_m5 137 rfl), (tw_m7 58 rfl), (tw_m7 59 rfl)⟩
theorem lw_p89 : lw_okq (⟨"ForgottenFeastModel", "isOwnHere", "()Z"⟩, 108) := ⟨⟨by decide +kernel, by decide +kernel⟩, (tw_m5 137 rfl), (tw_m7 62 rfl), (tw_m7 63 rfl)⟩
theorem lw_p90 : lw_okq (⟨"ForgottenFeastModel", "personOf", "(J)I"⟩, 108) := ⟨⟨by decide +kernel, by decide +kernel⟩, (tw_m5 137 rfl), (tw_m7 68 rfl), (tw_m7 69 rfl)⟩
theorem lw_p91 : lw_okq (⟨"ForgottenFeastModel", "isToldOff", "(I)V"⟩, 108) := ⟨⟨by decide +kernel, by decide +kernel⟩, (tw_m5 137 rfl), (tw_m7 72 rfl), (tw_m7 73 rfl)⟩
theorem lw_p92 : lw_okq (⟨"ForgottenFeastModel", "personHere", "()I"⟩, 108) := ⟨⟨by decide +kernel, by decide +kernel⟩, (tw_m5 137 rfl), (tw_m7 76 rfl), (tw_m7 77 rfl)⟩
theorem lw_p93 : lw_okq (⟨"ForgottenFeastModel", "remindsTold", "(I)V"⟩, 108) := ⟨⟨by decide +kernel, by decide +kernel⟩, (tw_m5 137 rfl), (tw_m7 80 rfl), (tw_m7 81 rfl)⟩
theorem lw_p94 : lw_okq (⟨"ForgottenFeastModel", "frostTold", "(I)V"⟩, 108) := ⟨⟨by decide +kernel, by decide +kernel⟩, (tw_m5 137 rfl), (tw_m7 84 rfl), (tw_m7 85 rfl)⟩
theorem lw_p95 : lw_okq (⟨"ForgottenFeastModel", "codesTold", "(II)V"⟩, 108) := ⟨⟨by decide +kernel, by decide +kernel⟩, (tw_m5 137 rfl), (tw_m7 88 rfl), (tw_m7 89 rfl)⟩
def lw_privs_6 : List (MethodName × Nat) := [(⟨"ForgottenFeastModel", "look", "()I"⟩, 108), (⟨"ForgottenFeastModel", "fail", "(II)V"⟩, 108), (⟨"ForgottenFeastModel", "number", "(II)I"⟩, 108), (⟨"ForgottenFeastModel", "asksSign", "(I)V"⟩, 108), (⟨"ForgottenFeastModel", "takesSign", "(I)Z"⟩, 108), (⟨"ForgottenFeastModel", "statementTold", "()V"⟩, 108), (⟨"ForgottenFeastModel", "personTold", "(I)V"⟩, 108), (⟨"ForgottenFeastModel", "isFull", "(III)Z"⟩, 108), (⟨"ForgottenFeastModel", "name", "()J"⟩, 108), (⟨"ForgottenFeastModel", "isOwnHere", "()Z"⟩, 108), (⟨"ForgottenFeastModel", "personOf", "(J)I"⟩, 108), (⟨"ForgottenFeastModel", "isToldOff", "(I)V"⟩, 108), (⟨"ForgottenFeastModel", "personHere", "()I"⟩, 108), (⟨"ForgottenFeastModel", "remindsTold", "(I)V"⟩, 108), (⟨"ForgottenFeastModel", "frostTold", "(I)V"⟩, 108), (⟨"ForgottenFeastModel", "codesTold", "(II)V"⟩, 108)]
theorem lw_r6 : ∀ q ∈ lw_privs_6, lw_okq q := List.forall_mem_cons.mpr ⟨lw_p80, List.forall_mem_cons.mpr ⟨lw_p81, List.forall_mem_cons.mpr ⟨lw_p82, List.forall_mem_cons.mpr ⟨lw_p83, List.forall_mem_cons.mpr ⟨lw_p84, List.forall_mem_cons.mpr ⟨lw_p85, List.forall_mem_cons.mpr ⟨lw_p86, List.forall_mem_cons.mpr ⟨lw_p87, List.forall_mem_cons.mpr ⟨lw_p88, List.forall_mem_cons.mpr ⟨lw_p89, List.forall_mem_cons.mpr ⟨lw_p90, List.forall_mem_cons.mpr ⟨lw_p91, List.forall_mem_cons.mpr ⟨lw_p92, List.forall_mem_cons.mpr ⟨lw_p93, List.forall_mem_cons.mpr ⟨lw_p94, List.forall_mem_cons.mpr ⟨lw_p95, fun _ h => absurd h List.not_mem_nil⟩⟩⟩⟩⟩⟩⟩⟩⟩⟩⟩⟩⟩⟩⟩⟩
theorem lw_p96 : lw_okq (⟨"ForgottenFeastModel", "qTest", "()V"⟩, 108) := ⟨⟨by decide +kernel, by decide +kernel⟩, (tw_m5 137 rfl), (tw_m7 92 rfl), (tw_m7 93 rfl)⟩
theorem lw_p97 : lw_okq (⟨"ForgottenFeastModel", "qOpens", "(II)V"⟩, 108) := ⟨⟨by decide +kernel, by decide +kernel⟩, (tw_m5 137 rfl), (tw_m7 96 rfl), (tw_m7 97 rfl)⟩
theorem lw_p98 : lw_okq (⟨"ForgottenFeastModel", "qFact", "()V"⟩, 108) := ⟨⟨by decide +kernel, by decide +kernel⟩, (tw_m5 137 rfl), (tw_m7 100 rfl), (tw_m7 101 rfl)⟩
theorem lw_p99 : lw_okq (⟨"ForgottenFeastModel", "qCode", "(I)V"⟩, 108) := ⟨⟨by decide +kernel, by decide +kernel⟩, (tw_m5 137 rfl), (tw_m7 104 rfl), (tw_m7 105 rfl)⟩
theorem lw_p100 : lw_okq (⟨"ForgottenFeastModel", "qSums", "()V"⟩, 108) := ⟨⟨by decide +kernel, by decide +kernel⟩, (tw_m5 137 rfl), (tw_m7 108 rfl), (tw_m7 109 rfl)⟩
theorem lw_p101 : lw_okq (⟨"ForgottenFeastModel", "qPartTold", "()V"⟩, 108) := ⟨⟨by decide +kernel, by decide +kernel⟩, (tw_m5 137 rfl), (tw_m7 112 rfl), (tw_m7 113 rfl)⟩
theorem lw_p102 : lw_okq (⟨"ForgottenFeastModel", "qWordOf", "(II)I"⟩, 108) := ⟨⟨by decide +kernel, by decide +kernel⟩, (tw_m5 137 rfl), (tw_m7 116 rfl), (tw_m7 117 rfl)⟩
theorem lw_p103 : lw_okq (⟨"ForgottenFeastModel", "qWordHere", "()I"⟩, 108) := ⟨⟨by decide +kernel, by decide +kernel⟩, (tw_m5 137 rfl), (tw_m7 120 rfl), (tw_m7 121 rfl)⟩
theorem lw_p104 : lw_okq (⟨"ForgottenFeastModel", "isAllowed", "(I)Z"⟩, 108) := ⟨⟨by decide +kernel, by decide +kernel⟩, (tw_m5 137 rfl), (tw_m7 124 rfl), (tw_m7 125 rfl)⟩
theorem lw_p105 : lw_okq (⟨"ForgottenFeastModel", "qAsksWord", "(I)V"⟩, 108) := ⟨⟨by decide +kernel, by decide +kernel⟩, (tw_m5 137 rfl), (tw_m7 128 rfl), (tw_m7 129 rfl)⟩
theorem lw_p106 : lw_okq (⟨"ForgottenFeastModel", "qEndsPart", "()V"⟩, 108) := ⟨⟨by decide +kernel, by decide +kernel⟩, (tw_m5 137 rfl), (tw_m7 132 rfl), (tw_m7 133 rfl)⟩
theorem lw_p107 : lw_okq (⟨"ForgottenFeastModel", "qDrops", "()V"⟩, 108) := ⟨⟨by decide +kernel, by decide +kernel⟩, (tw_m5 137 rfl), (tw_m7 136 rfl), (tw_m7 137 rfl)⟩
theorem lw_p108 : lw_okq (⟨"ForgottenFeastModel", "qGoesOn", "()Z"⟩, 108) := ⟨⟨by decide +kernel, by decide +kernel⟩, (tw_m5 137 rfl), (tw_m7 140 rfl), (tw_m7 141 rfl)⟩
theorem lw_p109 : lw_okq (⟨"ForgottenFeastModel", "qBracket", "()I"⟩, 108) := ⟨⟨by decide +kernel, by decide +kernel⟩, (tw_m5 137 rfl), (tw_m7 144 rfl), (tw_m7 145 rfl)⟩
theorem lw_p110 : lw_okq (⟨"ForgottenFeastModel", "qDropsToBracket", "()V"⟩, 108) := ⟨⟨by decide +kernel, by decide +kernel⟩, (tw_m5 137 rfl), (tw_m7 151 rfl), (tw_m7 152 rfl)⟩
theorem lw_p111 : lw_okq (⟨"ForgottenFeastModel", "qIsOn", "(I)Z"⟩, 108) := ⟨⟨by decide +kernel, by decide +kernel⟩, (tw_m5 137 rfl), (tw_m7 155 rfl), (tw_m7 156 rfl)⟩
def lw_privs_7 : List (MethodName × Nat) := [(⟨"ForgottenFeastModel", "qTest", "()V"⟩, 108), (⟨"ForgottenFeastModel", "qOpens", "(II)V"⟩, 108), (⟨"ForgottenFeastModel", "qFact", "()V"⟩, 108), (⟨"ForgottenFeastModel", "qCode", "(I)V"⟩, 108), (⟨"ForgottenFeastModel", "qSums", "()V"⟩, 108), (⟨"ForgottenFeastModel", "qPartTold", "()V"⟩, 108), (⟨"ForgottenFeastModel", "qWordOf", "(II)I"⟩, 108), (⟨"ForgottenFeastModel", "qWordHere", "()I"⟩, 108), (⟨"ForgottenFeastModel", "isAllowed", "(I)Z"⟩, 108), (⟨"ForgottenFeastModel", "qAsksWord", "(I)V"⟩, 108), (⟨"ForgottenFeastModel", "qEndsPart", "()V"⟩, 108), (⟨"ForgottenFeastModel", "qDrops", "()V"⟩, 108), (⟨"ForgottenFeastModel", "qGoesOn", "()Z"⟩, 108), (⟨"ForgottenFeastModel", "qBracket", "()I"⟩, 108), (⟨"ForgottenFeastModel", "qDropsToBracket", "()V"⟩, 108), (⟨"ForgottenFeastModel", "qIsOn", "(I)Z"⟩, 108)]
theorem lw_r7 : ∀ q ∈ lw_privs_7, lw_okq q := List.forall_mem_cons.mpr ⟨lw_p96, List.forall_mem_cons.mpr ⟨lw_p97, List.forall_mem_cons.mpr ⟨lw_p98, List.forall_mem_cons.mpr ⟨lw_p99, List.forall_mem_cons.mpr ⟨lw_p100, List.forall_mem_cons.mpr ⟨lw_p101, List.forall_mem_cons.mpr ⟨lw_p102, List.forall_mem_cons.mpr ⟨lw_p103, List.forall_mem_cons.mpr ⟨lw_p104, List.forall_mem_cons.mpr ⟨lw_p105, List.forall_mem_cons.mpr ⟨lw_p106, List.forall_mem_cons.mpr ⟨lw_p107, List.forall_mem_cons.mpr ⟨lw_p108, List.forall_mem_cons.mpr ⟨lw_p109, List.forall_mem_cons.mpr ⟨lw_p110, List.forall_mem_cons.mpr ⟨lw_p111, fun _ h => absurd h List.not_mem_nil⟩⟩⟩⟩⟩⟩⟩⟩⟩⟩⟩⟩⟩⟩⟩⟩
theorem lw_p112 : lw_okq (⟨"ForgottenFeastModel", "qDropsNots", "()V"⟩, 108) := ⟨⟨by decide +kernel, by decide +kernel⟩, (tw_m5 137 rfl), (tw_m7 159 rfl), (tw_m7 160 rfl)⟩
theorem lw_p113 : lw_okq (⟨"ForgottenFeastModel", "qGoesOnTest", "()Z"⟩, 108) := ⟨⟨by decide +kernel, by decide +kernel⟩, (tw_m5 137 rfl), (tw_m7 163 rfl), (tw_m7 164 rfl)⟩
theorem lw_p114 : lw_okq (⟨"ForgottenFeastModel", "qHasSquare", "()Z"⟩, 108) := ⟨⟨by decide +kernel, by decide +kernel⟩, (tw_m5 137 rfl), (tw_m7 167 rfl), (tw_m7 168 rfl)⟩
theorem lw_p115 : lw_okq (⟨"ForgottenFeastModel", "stands", "()V"⟩, 108) := ⟨⟨by decide +kernel, by decide +kernel⟩, (tw_m5 137 rfl), (tw_m7 171 rfl), (tw_m7 172 rfl)⟩
theorem lw_p116 : lw_okq (⟨"ForgottenFeastModel", "yearDays", "()I"⟩, 108) := ⟨⟨by decide +kernel, by decide +kernel⟩, (tw_m5 137 rfl), (tw_m7 183 rfl), (tw_m7 184 rfl)⟩
theorem lw_p117 : lw_okq (⟨"ForgottenFeastModel", "peopleMany", "()I"⟩, 108) := ⟨⟨by decide +kernel, by decide +kernel⟩, (tw_m5 137 rfl), (tw_m7 187 rfl), (tw_m7 188 rfl)⟩
theorem lw_p118 : lw_okq (⟨"ForgottenFeastModel", "living", "()I"⟩, 108) := ⟨⟨by decide +kernel, by decide +kernel⟩, (tw_m5 137 rfl), (tw_m7 191 rfl), (tw_m7 192 rfl)⟩
theorem lw_p119 : lw_okq (⟨"ForgottenFeastModel", "isDead", "(I)Z"⟩, 108) := ⟨⟨by decide +kernel, by decide +kernel⟩, (tw_m5 137 rfl), (tw_m7 195 rfl), (tw_m7 196 rfl)⟩
theorem lw_p120 : lw_okq (⟨"ForgottenFeastModel", "setsOf", "(I)I"⟩, 108) := ⟨⟨by decide +kernel, by decide +kernel⟩, (tw_m5 137 rfl), (tw_m7 202 rfl), (tw_m7 203 rfl)⟩
theorem lw_p121 : lw_okq (⟨"ForgottenFeastModel", "isPerson", "(I)Z"⟩, 108) := ⟨⟨by decide +kernel, by decide +kernel⟩, (tw_m5 137 rfl), (tw_m7 210 rfl), (tw_m7 211 rfl)⟩
theorem lw_p122 : lw_okq (⟨"ForgottenFeastModel", "mindOf", "(I)I"⟩, 108) := ⟨⟨by decide +kernel, by decide +kernel⟩, (tw_m5 137 rfl), (tw_m7 219 rfl), (tw_m7 220 rfl)⟩
theorem lw_p123 : lw_okq (⟨"ForgottenFeastModel", "askedBy", "(I)I"⟩, 108) := ⟨⟨by decide +kernel, by decide +kernel⟩, (tw_m5 137 rfl), (tw_m7 223 rfl), (tw_m7 224 rfl)⟩
theorem lw_p124 : lw_okq (⟨"ForgottenFeastModel", "agoOf", "(I)I"⟩, 108) := ⟨⟨by decide +kernel, by decide +kernel⟩, (tw_m5 137 rfl), (tw_m7 227 rfl), (tw_m7 228 rfl)⟩
theorem lw_p125 : lw_okq (⟨"ForgottenFeastModel", "remindersOf", "(I)I"⟩, 108) := ⟨⟨by decide +kernel, by decide +kernel⟩, (tw_m5 137 rfl), (tw_m7 231 rfl), (tw_m7 232 rfl)⟩
theorem lw_p126 : lw_okq (⟨"ForgottenFeastModel", "toldDays", "(I)I"⟩, 108) := ⟨⟨by decide +kernel, by decide +kernel⟩, (tw_m5 137 rfl), (tw_m7 235 rfl), (tw_m7 236 rfl)⟩
theorem lw_p127 : lw_okq (⟨"ForgottenFeastModel", "isDay", "(I)Z"⟩, 108) := ⟨⟨by decide +kernel, by decide +kernel⟩, (tw_m5 137 rfl), (tw_m8 3 rfl), (tw_m8 4 rfl)⟩
def lw_privs_8 : List (MethodName × Nat) := [(⟨"ForgottenFeastModel", "qDropsNots", "()V"⟩, 108), (⟨"ForgottenFeastModel", "qGoesOnTest", "()Z"⟩, 108), (⟨"ForgottenFeastModel", "qHasSquare", "()Z"⟩, 108), (⟨"ForgottenFeastModel", "stands", "()V"⟩, 108), (⟨"ForgottenFeastModel", "yearDays", "()I"⟩, 108), (⟨"ForgottenFeastModel", "peopleMany", "()I"⟩, 108), (⟨"ForgottenFeastModel", "living", "()I"⟩, 108), (⟨"ForgottenFeastModel", "isDead", "(I)Z"⟩, 108), (⟨"ForgottenFeastModel", "setsOf", "(I)I"⟩, 108), (⟨"ForgottenFeastModel", "isPerson", "(I)Z"⟩, 108), (⟨"ForgottenFeastModel", "mindOf", "(I)I"⟩, 108), (⟨"ForgottenFeastModel", "askedBy", "(I)I"⟩, 108), (⟨"ForgottenFeastModel", "agoOf", "(I)I"⟩, 108), (⟨"ForgottenFeastModel", "remindersOf", "(I)I"⟩, 108), (⟨"ForgottenFeastModel", "toldDays", "(I)I"⟩, 108), (⟨"ForgottenFeastModel", "isDay", "(I)Z"⟩, 108)]
theorem lw_r8 : ∀ q ∈ lw_privs_8, lw_okq q := List.forall_mem_cons.mpr ⟨lw_p112, List.forall_mem_cons.mpr ⟨lw_p113, List.forall_mem_cons.mpr ⟨lw_p114, List.forall_mem_cons.mpr ⟨lw_p115, List.forall_mem_cons.mpr ⟨lw_p116, List.forall_mem_cons.mpr ⟨lw_p117, List.forall_mem_cons.mpr ⟨lw_p118, List.forall_mem_cons.mpr ⟨lw_p119, List.forall_mem_cons.mpr ⟨lw_p120, List.forall_mem_cons.mpr ⟨lw_p121, List.forall_mem_cons.mpr ⟨lw_p122, List.forall_mem_cons.mpr ⟨lw_p123, List.forall_mem_cons.mpr ⟨lw_p124, List.forall_mem_cons.mpr ⟨lw_p125, List.forall_mem_cons.mpr ⟨lw_p126, List.forall_mem_cons.mpr ⟨lw_p127, fun _ h => absurd h List.not_mem_nil⟩⟩⟩⟩⟩⟩⟩⟩⟩⟩⟩⟩⟩⟩⟩⟩
theorem lw_p128 : lw_okq (⟨"ForgottenFeastModel", "isFrost", "(I)Z"⟩, 108) := ⟨⟨by decide +kernel, by decide +kernel⟩, (tw_m5 137 rfl), (tw_m8 7 rfl), (tw_m8 8 rfl)⟩
theorem lw_p129 : lw_okq (⟨"ForgottenFeastModel", "isAhead", "(I)Z"⟩, 108) := ⟨⟨by decide +kernel, by decide +kernel⟩, (tw_m5 137 rfl), (tw_m8 20 rfl), (tw_m8 21 rfl)⟩
theorem lw_p130 : lw_okq (⟨"ForgottenFeastModel", "daysLeft", "()I"⟩, 108) := ⟨⟨by decide +kernel, by decide +kernel⟩, (tw_m5 137 rfl), (tw_m8 25 rfl), (tw_m8 26 rfl)⟩
theorem lw_p131 : lw_okq (⟨"ForgottenFeastModel", "putsAside", "()V"⟩, 108) := ⟨⟨by decide +kernel, by decide +kernel⟩, (tw_m5 137 rfl), (tw_m8 30 rfl), (tw_m8 31 rfl)⟩
theorem lw_p132 : lw_okq (⟨"ForgottenFeastModel", "daysGo", "(I)V"⟩, 108) := ⟨⟨by decide +kernel, by decide +kernel⟩, (tw_m5 137 rfl), (tw_m8 34 rfl), (tw_m8 35 rfl)⟩
theorem lw_p133 : lw_okq (⟨"ForgottenFeastModel", "dayGoes", "()V"⟩, 108) := ⟨⟨by decide +kernel, by decide +kernel⟩, (tw_m5 137 rfl), (tw_m8 38 rfl), (tw_m8 39 rfl)⟩
theorem lw_p134 : lw_okq (⟨"ForgottenFeastModel", "begins", "()V"⟩, 108) := ⟨⟨by decide +kernel, by decide +kernel⟩, (tw_m5 137 rfl), (tw_m8 42 rfl), (tw_m8 43 rfl)⟩
theorem lw_p135 : lw_okq (⟨"ForgottenFeastModel", "selves", "(II)I"⟩, 108) := ⟨⟨by decide +kernel, by decide +kernel⟩, (tw_m5 137 rfl), (tw_m8 46 rfl), (tw_m8 47 rfl)⟩
theorem lw_p136 : lw_okq (⟨"ForgottenFeastModel", "asksDay", "(I)V"⟩, 108) := ⟨⟨by decide +kernel, by decide +kernel⟩, (tw_m5 137 rfl), (tw_m8 50 rfl), (tw_m8 51 rfl)⟩
theorem lw_p137 : lw_okq (⟨"ForgottenFeastModel", "isTold", "(II)Z"⟩, 108) := ⟨⟨by decide +kernel, by decide +kernel⟩, (tw_m5 137 rfl), (tw_m8 54 rfl), (tw_m8 55 rfl)⟩
theorem lw_p138 : lw_okq (⟨"ForgottenFeastModel", "qPuts", "(J)V"⟩, 108) := ⟨⟨by decide +kernel, by decide +kernel⟩, (tw_m5 137 rfl), (tw_m8 58 rfl), (tw_m8 59 rfl)⟩
theorem lw_p139 : lw_okq (⟨"ForgottenFeastModel", "qPartOf", "(II)J"⟩, 108) := ⟨⟨by decide +kernel, by decide +kernel⟩, (tw_m5 137 rfl), (tw_m8 62 rfl), (tw_m8 63 rfl)⟩
theorem lw_p140 : lw_okq (⟨"ForgottenFeastModel", "qJoins", "(I)V"⟩, 108) := ⟨⟨by decide +kernel, by decide +kernel⟩, (tw_m5 137 rfl), (tw_m8 66 rfl), (tw_m8 67 rfl)⟩
theorem lw_p141 : lw_okq (⟨"ForgottenFeastModel", "reminded", "(II)I"⟩, 108) := ⟨⟨by decide +kernel, by decide +kernel⟩, (tw_m5 137 rfl), (tw_m8 78 rfl), (tw_m8 79 rfl)⟩
theorem lw_p142 : lw_okq (⟨"ForgottenFeastModel", "isReminded", "(II)Z"⟩, 108) := ⟨⟨by decide +kernel, by decide +kernel⟩, (tw_m5 137 rfl), (tw_m8 82 rfl), (tw_m8 83 rfl)⟩
theorem lw_p143 : lw_okq (⟨"ForgottenFeastModel", "reminderOf", "(II)I"⟩, 108) := ⟨⟨by decide +kernel, by decide +kernel⟩, (tw_m5 137 rfl), (tw_m8 86 rfl), (tw_m8 87 rfl)⟩
def lw_privs_9 : List (MethodName × Nat) := [(⟨"ForgottenFeastModel", "isFrost", "(I)Z"⟩, 108), (⟨"ForgottenFeastModel", "isAhead", "(I)Z"⟩, 108), (⟨"ForgottenFeastModel", "daysLeft", "()I"⟩, 108), (⟨"ForgottenFeastModel", "putsAside", "()V"⟩, 108), (⟨"ForgottenFeastModel", "daysGo", "(I)V"⟩, 108), (⟨"ForgottenFeastModel", "dayGoes", "()V"⟩, 108), (⟨"ForgottenFeastModel", "begins", "()V"⟩, 108), (⟨"ForgottenFeastModel", "selves", "(II)I"⟩, 108), (⟨"ForgottenFeastModel", "asksDay", "(I)V"⟩, 108), (⟨"ForgottenFeastModel", "isTold", "(II)Z"⟩, 108), (⟨"ForgottenFeastModel", "qPuts", "(J)V"⟩, 108), (⟨"ForgottenFeastModel", "qPartOf", "(II)J"⟩, 108), (⟨"ForgottenFeastModel", "qJoins", "(I)V"⟩, 108), (⟨"ForgottenFeastModel", "reminded", "(II)I"⟩, 108), (⟨"ForgottenFeastModel", "isReminded", "(II)Z"⟩, 108), (⟨"ForgottenFeastModel", "reminderOf", "(II)I"⟩, 108)]
theorem lw_r9 : ∀ q ∈ lw_privs_9, lw_okq q := List.forall_mem_cons.mpr ⟨lw_p128, List.forall_mem_cons.mpr ⟨lw_p129, List.forall_mem_cons.mpr ⟨lw_p130, List.forall_mem_cons.mpr ⟨lw_p131, List.forall_mem_cons.mpr ⟨lw_p132, List.forall_mem_cons.mpr ⟨lw_p133, List.forall_mem_cons.mpr ⟨lw_p134, List.forall_mem_cons.mpr ⟨lw_p135, List.forall_mem_cons.mpr ⟨lw_p136, List.forall_mem_cons.mpr ⟨lw_p137, List.forall_mem_cons.mpr ⟨lw_p138, List.forall_mem_cons.mpr ⟨lw_p139, List.forall_mem_cons.mpr ⟨lw_p140, List.forall_mem_cons.mpr ⟨lw_p141, List.forall_mem_cons.mpr ⟨lw_p142, List.forall_mem_cons.mpr ⟨lw_p143, fun _ h => absurd h List.not_mem_nil⟩⟩⟩⟩⟩⟩⟩⟩⟩⟩⟩⟩⟩⟩⟩⟩
theorem lw_p144 : lw_okq (⟨"ForgottenFeastModel", "isKept", "()V"⟩, 108) := ⟨⟨by decide +kernel, by decide +kernel⟩, (tw_m5 137 rfl), (tw_m8 90 rfl), (tw_m8 91 rfl)⟩
theorem lw_p145 : lw_okq (⟨"ForgottenFeastModel", "takesBack", "()V"⟩, 108) := ⟨⟨by decide +kernel, by decide +kernel⟩, (tw_m5 137 rfl), (tw_m8 94 rfl), (tw_m8 95 rfl)⟩
theorem lw_p146 : lw_okq (⟨"ForgottenFeastModel", "hangsNext", "()I"⟩, 108) := ⟨⟨by decide +kernel, by decide +kernel⟩, (tw_m5 137 rfl), (tw_m8 106 rfl), (tw_m8 107 rfl)⟩
theorem lw_p147 : lw_okq (⟨"ForgottenFeastModel", "costOf", "(I)I"⟩, 108) := ⟨⟨by decide +kernel, by decide +kernel⟩, (tw_m5 137 rfl), (tw_m8 123 rfl), (tw_m8 124 rfl)⟩
theorem lw_p148 : lw_okq (⟨"ForgottenFeastModel", "canCome", "()Z"⟩, 108) := ⟨⟨by decide +kernel, by decide +kernel⟩, (tw_m5 137 rfl), (tw_m8 135 rfl), (tw_m8 136 rfl)⟩
theorem lw_p149 : lw_okq (⟨"ForgottenFeastModel", "anyThinks", "(II)Z"⟩, 108) := ⟨⟨by decide +kernel, by decide +kernel⟩, (tw_m5 137 rfl), (tw_m8 144 rfl), (tw_m8 145 rfl)⟩
theorem lw_p150 : lw_okq (⟨"ForgottenFeastModel", "tellsLast", "(II)Z"⟩, 108) := ⟨⟨by decide +kernel, by decide +kernel⟩, (tw_m5 137 rfl), (tw_m8 148 rfl), (tw_m8 149 rfl)⟩
theorem lw_p151 : lw_okq (⟨"ForgottenFeastModel", "bribesLast", "(II)Z"⟩, 108) := ⟨⟨by decide +kernel, by decide +kernel⟩, (tw_m5 137 rfl), (tw_m8 152 rfl), (tw_m8 153 rfl)⟩
theorem lw_p152 : lw_okq (⟨"ForgottenFeastModel", "tellsFirst", "()Z"⟩, 108) := ⟨⟨by decide +kernel, by decide +kernel⟩, (tw_m5 137 rfl), (tw_m8 156 rfl), (tw_m8 157 rfl)⟩
theorem lw_p153 : lw_okq (⟨"ForgottenFeastModel", "bribesFirst", "(I)Z"⟩, 108) := ⟨⟨by decide +kernel, by decide +kernel⟩, (tw_m5 137 rfl), (tw_m8 160 rfl), (tw_m8 161 rfl)⟩
theorem lw_p154 : lw_okq (⟨"ForgottenFeastModel", "isAsSeen", "(I)Z"⟩, 108) := ⟨⟨by decide +kernel, by decide +kernel⟩, (tw_m5 137 rfl), (tw_m8 172 rfl), (tw_m8 173 rfl)⟩
theorem lw_p155 : lw_okq (⟨"ForgottenFeastModel", "hoursFrom", "(I)I"⟩, 108) := ⟨⟨by decide +kernel, by decide +kernel⟩, (tw_m5 137 rfl), (tw_m8 181 rfl), (tw_m8 182 rfl)⟩
theorem lw_p156 : lw_okq (⟨"ForgottenFeastModel", "isLaw", "(I)Z"⟩, 108) := ⟨⟨by decide +kernel, by decide +kernel⟩, (tw_m5 137 rfl), (tw_m8 189 rfl), (tw_m8 190 rfl)⟩
theorem lw_p157 : lw_okq (⟨"ForgottenFeastModel", "refuses", "(I)I"⟩, 108) := ⟨⟨by decide +kernel, by decide +kernel⟩, (tw_m5 137 rfl), (tw_m8 202 rfl), (tw_m8 203 rfl)⟩
theorem lw_p158 : lw_okq (⟨"ForgottenFeastModel", "keeps", "()V"⟩, 108) := ⟨⟨by decide +kernel, by decide +kernel⟩, (tw_m5 137 rfl), (tw_m8 206 rfl), (tw_m8 207 rfl)⟩
theorem lw_p159 : lw_okq (⟨"ForgottenFeastModel", "drawOf", "(I)I"⟩, 108) := ⟨⟨by decide +kernel, by decide +kernel⟩, (tw_m5 137 rfl), (tw_m8 231 rfl), (tw_m8 232 rfl)⟩
def lw_privs_10 : List (MethodName × Nat) := [(⟨"ForgottenFeastModel", "isKept", "()V"⟩, 108), (⟨"ForgottenFeastModel", "takesBack", "()V"⟩, 108), (⟨"ForgottenFeastModel", "hangsNext", "()I"⟩, 108), (⟨"ForgottenFeastModel", "costOf", "(I)I"⟩, 108), (⟨"ForgottenFeastModel", "canCome", "()Z"⟩, 108), (⟨"ForgottenFeastModel", "anyThinks", "(II)Z"⟩, 108), (⟨"ForgottenFeastModel", "tellsLast", "(II)Z"⟩, 108), (⟨"ForgottenFeastModel", "bribesLast", "(II)Z"⟩, 108), (⟨"ForgottenFeastModel", "tellsFirst", "()Z"⟩, 108), (⟨"ForgottenFeastModel", "bribesFirst", "(I)Z"⟩, 108), (⟨"ForgottenFeastModel", "isAsSeen", "(I)Z"⟩, 108), (⟨"ForgottenFeastModel", "hoursFrom", "(I)I"⟩, 108), (⟨"ForgottenFeastModel", "isLaw", "(I)Z"⟩, 108), (⟨"ForgottenFeastModel", "refuses", "(I)I"⟩, 108), (⟨"ForgottenFeastModel", "keeps", "()V"⟩, 108), (⟨"ForgottenFeastModel", "drawOf", "(I)I"⟩, 108)]
theorem lw_r10 : ∀ q ∈ lw_privs_10, lw_okq q := List.forall_mem_cons.mpr ⟨lw_p144, List.forall_mem_cons.mpr ⟨lw_p145, List.forall_mem_cons.mpr ⟨lw_p146, List.forall_mem_cons.mpr ⟨lw_p147, List.forall_mem_cons.mpr ⟨lw_p148, List.forall_mem_cons.mpr ⟨lw_p149, List.forall_mem_cons.mpr ⟨lw_p150, List.forall_mem_cons.mpr ⟨lw_p151, List.forall_mem_cons.mpr ⟨lw_p152, List.forall_mem_cons.mpr ⟨lw_p153, List.forall_mem_cons.mpr ⟨lw_p154, List.forall_mem_cons.mpr ⟨lw_p155, List.forall_mem_cons.mpr ⟨lw_p156, List.forall_mem_cons.mpr ⟨lw_p157, List.forall_mem_cons.mpr ⟨lw_p158, List.forall_mem_cons.mpr ⟨lw_p159, fun _ h => absurd h List.not_mem_nil⟩⟩⟩⟩⟩⟩⟩⟩⟩⟩⟩⟩⟩⟩⟩⟩
theorem lw_p160 : lw_okq (⟨"ForgottenFeastModel", "qKind", "()I"⟩, 108) := ⟨⟨by decide +kernel, by decide +kernel⟩, (tw_m5 137 rfl), (tw_m9 4 rfl), (tw_m9 5 rfl)⟩
theorem lw_p161 : lw_okq (⟨"ForgottenFeastModel", "qTold", "(I)J"⟩, 108) := ⟨⟨by decide +kernel, by decide +kernel⟩, (tw_m5 137 rfl), (tw_m9 9 rfl), (tw_m9 10 rfl)⟩
theorem lw_p162 : lw_okq (⟨"ForgottenFeastModel", "qOf", "(IJI)J"⟩, 108) := ⟨⟨by decide +kernel, by decide +kernel⟩, (tw_m5 137 rfl), (tw_m9 13 rfl), (tw_m9 14 rfl)⟩
theorem lw_p163 : lw_okq (⟨"ForgottenFeastModel", "qTakes", "(IJI)V"⟩, 108) := ⟨⟨by decide +kernel, by decide +kernel⟩, (tw_m5 137 rfl), (tw_m9 17 rfl), (tw_m9 18 rfl)⟩
theorem lw_p164 : lw_okq (⟨"ForgottenFeastModel", "writes", "(I)V"⟩, 108) := ⟨⟨by decide +kernel, by decide +kernel⟩, (tw_m5 137 rfl), (tw_m9 25 rfl), (tw_m9 26 rfl)⟩
theorem lw_p165 : lw_okq (⟨"ForgottenFeastModel", "writesSets", "(I)V"⟩, 108) := ⟨⟨by decide +kernel, by decide +kernel⟩, (tw_m5 137 rfl), (tw_m9 30 rfl), (tw_m9 31 rfl)⟩
theorem lw_p166 : lw_okq (⟨"ForgottenFeastModel", "isImage", "(I)Z"⟩, 108) := ⟨⟨by decide +kernel, by decide +kernel⟩, (tw_m5 137 rfl), (tw_m9 45 rfl), (tw_m9 46 rfl)⟩
theorem lw_p167 : lw_okq (⟨"ForgottenFeastModel", "setsFrom", "()I"⟩, 108) := ⟨⟨by decide +kernel, by decide +kernel⟩, (tw_m5 137 rfl), (tw_m9 49 rfl), (tw_m9 50 rfl)⟩
theorem lw_p168 : lw_okq (⟨"ForgottenFeastModel", "isHeadTold", "()Z"⟩, 108) := ⟨⟨by decide +kernel, by decide +kernel⟩, (tw_m5 137 rfl), (tw_m9 53 rfl), (tw_m9 54 rfl)⟩
theorem lw_p169 : lw_okq (⟨"ForgottenFeastModel", "coinsTold", "()I"⟩, 108) := ⟨⟨by decide +kernel, by decide +kernel⟩, (tw_m5 137 rfl), (tw_m9 58 rfl), (tw_m9 59 rfl)⟩
theorem lw_p170 : lw_okq (⟨"ForgottenFeastModel", "areSetsTold", "(III)Z"⟩, 108) := ⟨⟨by decide +kernel, by decide +kernel⟩, (tw_m5 137 rfl), (tw_m9 62 rfl), (tw_m9 63 rfl)⟩
theorem lw_p171 : lw_okq (⟨"ForgottenFeastModel", "takesSets", "(II)V"⟩, 108) := ⟨⟨by decide +kernel, by decide +kernel⟩, (tw_m5 137 rfl), (tw_m9 66 rfl), (tw_m9 67 rfl)⟩
def lw_privs_11 : List (MethodName × Nat) := [(⟨"ForgottenFeastModel", "qKind", "()I"⟩, 108), (⟨"ForgottenFeastModel", "qTold", "(I)J"⟩, 108), (⟨"ForgottenFeastModel", "qOf", "(IJI)J"⟩, 108), (⟨"ForgottenFeastModel", "qTakes", "(IJI)V"⟩, 108), (⟨"ForgottenFeastModel", "writes", "(I)V"⟩, 108), (⟨"ForgottenFeastModel", "writesSets", "(I)V"⟩, 108), (⟨"ForgottenFeastModel", "isImage", "(I)Z"⟩, 108), (⟨"ForgottenFeastModel", "setsFrom", "()I"⟩, 108), (⟨"ForgottenFeastModel", "isHeadTold", "()Z"⟩, 108), (⟨"ForgottenFeastModel", "coinsTold", "()I"⟩, 108), (⟨"ForgottenFeastModel", "areSetsTold", "(III)Z"⟩, 108), (⟨"ForgottenFeastModel", "takesSets", "(II)V"⟩, 108)]
theorem lw_r11 : ∀ q ∈ lw_privs_11, lw_okq q := List.forall_mem_cons.mpr ⟨lw_p160, List.forall_mem_cons.mpr ⟨lw_p161, List.forall_mem_cons.mpr ⟨lw_p162, List.forall_mem_cons.mpr ⟨lw_p163, List.forall_mem_cons.mpr ⟨lw_p164, List.forall_mem_cons.mpr ⟨lw_p165, List.forall_mem_cons.mpr ⟨lw_p166, List.forall_mem_cons.mpr ⟨lw_p167, List.forall_mem_cons.mpr ⟨lw_p168, List.forall_mem_cons.mpr ⟨lw_p169, List.forall_mem_cons.mpr ⟨lw_p170, List.forall_mem_cons.mpr ⟨lw_p171, fun _ h => absurd h List.not_mem_nil⟩⟩⟩⟩⟩⟩⟩⟩⟩⟩⟩⟩
def lw_privs : List (MethodName × Nat) := lw_privs_1 ++ (lw_privs_2 ++ (lw_privs_3 ++ (lw_privs_4 ++ (lw_privs_5 ++ (lw_privs_6 ++ (lw_privs_7 ++ (lw_privs_8 ++ (lw_privs_9 ++ (lw_privs_10 ++ (lw_privs_11))))))))))
def lw_tbl : List Cond := k2_sels lw_privs ++ tables_1
theorem lw_privs_ok : ∀ q ∈ lw_privs, lw_okq q := by
  show ∀ q ∈ lw_privs_1 ++ (lw_privs_2 ++ (lw_privs_3 ++ (lw_privs_4 ++ (lw_privs_5 ++ (lw_privs_6 ++ (lw_privs_7 ++ (lw_privs_8 ++ (lw_privs_9 ++ (lw_privs_10 ++ (lw_privs_11)))))))))), lw_okq q
  exact List.forall_mem_append.mpr ⟨lw_r1, List.forall_mem_append.mpr ⟨lw_r2, List.forall_mem_append.mpr ⟨lw_r3, List.forall_mem_append.mpr ⟨lw_r4, List.forall_mem_append.mpr ⟨lw_r5, List.forall_mem_append.mpr ⟨lw_r6, List.forall_mem_append.mpr ⟨lw_r7, List.forall_mem_append.mpr ⟨lw_r8, List.forall_mem_append.mpr ⟨lw_r9, List.forall_mem_append.mpr ⟨lw_r10, lw_r11⟩⟩⟩⟩⟩⟩⟩⟩⟩⟩
-- ===== end of PART A; then your names; then what follows =====
def am_good (w : Cond) : Bool := match w with
  | .fieldLinkNest _ _ _ _ _ _ => true
  | .methodLinkNest _ _ _ _ => true
  | w => goodWord w
def am_tb : List Cond := lw_tbl.filter am_good
theorem am_in {w : Cond} (h : w ∈ tables_1) (hg : am_good w = true) : w ∈ am_tb := List.mem_filter.mpr ⟨List.mem_append_right _ h, hg⟩
def tw_p : List Cond := [Cond.selects RX9 yX9_refuse yX9_refuse, Cond.selects RX6 yX6_addNumber yX6_addNumber, Cond.selects RX4 yX4_readTown yX4_readTown, Cond.selects RX4 yX4_begin yX4_begin, Cond.selects RX7 yX7_cut yX7_cut, Cond.selects RX7 yX7_runFrom yX7_runFrom, Cond.selects RX7 yX7_wordKind yX7_wordKind, Cond.selects RX7 yX7_isWord yX7_isWord, Cond.selects RX7 yX7_lettersOf yX7_lettersOf, Cond.selects RX7 yX7_numberOf yX7_numberOf, Cond.selects RX7 yX7_add yX7_add, Cond.selects RX4 yX4_pass yX4_pass, Cond.selects RX8 yX8_clear yX8_clear, Cond.selects RX4 yX4_readStatement yX4_readStatement, Cond.selects RX8 yX8_isFull yX8_isFull, Cond.selects RX4 yX4_fail yX4_fail, Cond.selects RX4 yX4_readNumber yX4_readNumber, Cond.selects RX4 yX4_readPerson yX4_readPerson, Cond.selects RX8 yX8_find yX8_find, Cond.selects RX4 yX4_readName yX4_readName, Cond.selects RX8 yX8_addPerson yX8_addPerson, Cond.selects RX4 yX4_readTold yX4_readTold, Cond.selects RX8 yX8_addTold yX8_addTold, Cond.selects RX4 yX4_readReminds yX4_readReminds, Cond.selects RX8 yX8_addReminds yX8_addReminds, Cond.selects RX4 yX4_readFrost yX4_readFrost, Cond.selects RX8 yX8_addFrost yX8_addFrost, Cond.selects RX4 yX4_readTest yX4_readTest, Cond.selects RX4 yX4_readFact yX4_readFact, Cond.selects RX4 yX4_open yX4_open, Cond.selects RX5 yX5_add yX5_add, Cond.selects RX4 yX4_readSum yX4_readSum, Cond.selects RX4 yX4_readPart yX4_readPart, Cond.selects RX4 yX4_readSumsInside yX4_readSumsInside, Cond.selects RX4 yX4_isPartWord yX4_isPartWord, Cond.selects RX8 yX8_ruleOf yX8_ruleOf, Cond.selects RX5 yX5_copyFrom yX5_copyFrom, Cond.selects RX9 yX9_noteFault yX9_noteFault, Cond.selects RX1 yX1_begin yX1_begin, Cond.selects RX2 yX2_forget yX2_forget, Cond.selects RX9 yX9_living yX9_living, Cond.selects RX8 yX8_everybody yX8_everybody, Cond.selects RX9 yX9_isPerson yX9_isPerson, Cond.selects RX9 yX9_daysToldOff yX9_daysToldOff, Cond.selects RX9 yX9_isDay yX9_isDay, Cond.selects RX1 yX1_rowAt yX1_rowAt, Cond.selects RX9 yX9_foresee yX9_foresee, Cond.selects RX9 yX9_isAhead yX9_isAhead, Cond.selects RX1 yX1_daysLeft yX1_daysLeft, Cond.selects RX1 yX1_copyFrom yX1_copyFrom, Cond.selects RX0 yX0_lookAt yX0_lookAt, Cond.selects RX0 yX0_ofThemselves yX0_ofThemselves, Cond.selects RX0 yX0_setPerson yX0_setPerson, Cond.selects RX5 yX5_valueOf yX5_valueOf, Cond.selects RX0 yX0_spread yX0_spread, Cond.selects RX0 yX0_wouldHear yX0_wouldHear, Cond.selects RX0 yX0_settle yX0_settle, Cond.selects RX9 yX9_hangsOn yX9_hangsOn, Cond.selects RX9 yX9_chanceOfNobody yX9_chanceOfNobody, Cond.selects RX9 yX9_priceOf yX9_priceOf, Cond.selects RX9 yX9_isSight yX9_isSight, Cond.selects RX9 yX9_isAsSeen yX9_isAsSeen, Cond.selects RX9 yX9_hoursFrom yX9_hoursFrom, Cond.selects RX9 yX9_isLaw yX9_isLaw, Cond.selects RX1 yX1_toldOn yX1_toldOn, Cond.selects RX2 yX2_remember yX2_remember, Cond.selects RX9 yX9_liveOneDay yX9_liveOneDay, Cond.selects RX1 yX1_addRow yX1_addRow, Cond.selects RX9 yX9_drawDeaths yX9_drawDeaths, Cond.selects RX2 yX2_bringBack yX2_bringBack, Cond.selects RX4 yX4_readQuestion yX4_readQuestion, Cond.selects RX9 yX9_answerOf yX9_answerOf, Cond.selects RX0 yX0_valueFor yX0_valueFor, Cond.selects RX3 yX3_paint yX3_paint, Cond.selects RX3 yX3_add yX3_add, Cond.selects RX3 yX3_addList yX3_addList, Cond.selects RX10 yX10_daysTold yX10_daysTold, Cond.selects RX10 yX10_asks yX10_asks, Cond.selects RX10 yX10_takes yX10_takes, Cond.selects RX10 yX10_isHere yX10_isHere, Cond.selects RX10 yX10_look yX10_look, Cond.selects RX10 yX10_fail yX10_fail, Cond.selects RX10 yX10_number yX10_number, Cond.selects RX10 yX10_asksSign yX10_asksSign, Cond.selects RX10 yX10_takesSign yX10_takesSign, Cond.selects RX10 yX10_statementTold yX10_statementTold, Cond.selects RX10 yX10_personTold yX10_personTold, Cond.selects RX10 yX10_isFull yX10_isFull, Cond.selects RX10 yX10_name yX10_name, Cond.selects RX10 yX10_isOwnHere yX10_isOwnHere, Cond.selects RX10 yX10_personOf yX10_personOf, Cond.selects RX10 yX10_isToldOff yX10_isToldOff, Cond.selects RX10 yX10_personHere yX10_personHere, Cond.selects RX10 yX10_remindsTold yX10_remindsTold, Cond.selects RX10 yX10_frostTold yX10_frostTold, Cond.selects RX10 yX10_codesTold yX10_codesTold, Cond.selects RX10 yX10_qTest yX10_qTest, Cond.selects RX10 yX10_qOpens yX10_qOpens, Cond.selects RX10 yX10_qFact yX10_qFact, Cond.selects RX10 yX10_qCode yX10_qCode, Cond.selects RX10 yX10_qSums yX10_qSums, Cond.selects RX10 yX10_qPartTold yX10_qPartTold, Cond.selects RX10 yX10_qWordOf yX10_qWordOf, Cond.selects RX10 yX10_qWordHere yX10_qWordHere, Cond.selects RX10 yX10_isAllowed yX10_isAllowed, Cond.selects RX10 yX10_qAsksWord yX10_qAsksWord, Cond.selects RX10 yX10_qEndsPart yX10_qEndsPart, Cond.selects RX10 yX10_qDrops yX10_qDrops, Cond.selects RX10 yX10_qGoesOn yX10_qGoesOn, Cond.selects RX10 yX10_qBracket yX10_qBracket, Cond.selects RX10 yX10_qDropsToBracket yX10_qDropsToBracket, Cond.selects RX10 yX10_qIsOn yX10_qIsOn, Cond.selects RX10 yX10_qDropsNots yX10_qDropsNots, Cond.selects RX10 yX10_qGoesOnTest yX10_qGoesOnTest, Cond.selects RX10 yX10_qHasSquare yX10_qHasSquare, Cond.selects RX10 yX10_stands yX10_stands, Cond.selects RX10 yX10_yearDays yX10_yearDays, Cond.selects RX10 yX10_peopleMany yX10_peopleMany, Cond.selects RX10 yX10_living yX10_living, Cond.selects RX10 yX10_isDead yX10_isDead, Cond.selects RX10 yX10_setsOf yX10_setsOf, Cond.selects RX10 yX10_isPerson yX10_isPerson, Cond.selects RX10 yX10_mindOf yX10_mindOf, Cond.selects RX10 yX10_askedBy yX10_askedBy, Cond.selects RX10 yX10_agoOf yX10_agoOf, Cond.selects RX10 yX10_remindersOf yX10_remindersOf, Cond.selects RX10 yX10_toldDays yX10_toldDays, Cond.selects RX10 yX10_isDay yX10_isDay, Cond.selects RX10 yX10_isFrost yX10_isFrost, Cond.selects RX10 yX10_isAhead yX10_isAhead, Cond.selects RX10 yX10_daysLeft yX10_daysLeft, Cond.selects RX10 yX10_putsAside yX10_putsAside, Cond.selects RX10 yX10_daysGo yX10_daysGo, Cond.selects RX10 yX10_dayGoes yX10_dayGoes, Cond.selects RX10 yX10_begins yX10_begins, Cond.selects RX10 yX10_selves yX10_selves, Cond.selects RX10 yX10_asksDay yX10_asksDay, Cond.selects RX10 yX10_isTold yX10_isTold, Cond.selects RX10 yX10_qPuts yX10_qPuts, Cond.selects RX10 yX10_qPartOf yX10_qPartOf, Cond.selects RX10 yX10_qJoins yX10_qJoins, Cond.selects RX10 yX10_reminded yX10_reminded, Cond.selects RX10 yX10_isReminded yX10_isReminded, Cond.selects RX10 yX10_reminderOf yX10_reminderOf, Cond.selects RX10 yX10_isKept yX10_isKept, Cond.selects RX10 yX10_takesBack yX10_takesBack, Cond.selects RX10 yX10_hangsNext yX10_hangsNext, Cond.selects RX10 yX10_costOf yX10_costOf, Cond.selects RX10 yX10_canCome yX10_canCome, Cond.selects RX10 yX10_anyThinks yX10_anyThinks, Cond.selects RX10 yX10_tellsLast yX10_tellsLast, Cond.selects RX10 yX10_bribesLast yX10_bribesLast, Cond.selects RX10 yX10_tellsFirst yX10_tellsFirst, Cond.selects RX10 yX10_bribesFirst yX10_bribesFirst, Cond.selects RX10 yX10_isAsSeen yX10_isAsSeen, Cond.selects RX10 yX10_hoursFrom yX10_hoursFrom, Cond.selects RX10 yX10_isLaw yX10_isLaw, Cond.selects RX10 yX10_refuses yX10_refuses, Cond.selects RX10 yX10_keeps yX10_keeps, Cond.selects RX10 yX10_drawOf yX10_drawOf, Cond.selects RX10 yX10_qKind yX10_qKind, Cond.selects RX10 yX10_qTold yX10_qTold, Cond.selects RX10 yX10_qOf yX10_qOf, Cond.selects RX10 yX10_qTakes yX10_qTakes, Cond.selects RX10 yX10_writes yX10_writes, Cond.selects RX10 yX10_writesSets yX10_writesSets, Cond.selects RX10 yX10_isImage yX10_isImage, Cond.selects RX10 yX10_setsFrom yX10_setsFrom, Cond.selects RX10 yX10_isHeadTold yX10_isHeadTold, Cond.selects RX10 yX10_coinsTold yX10_coinsTold, Cond.selects RX10 yX10_areSetsTold yX10_areSetsTold, Cond.selects RX10 yX10_takesSets yX10_takesSets]
set_option maxRecDepth 100000 in
theorem tw_p_eq : tw_p = k2_sels lw_privs := rfl
theorem am_inS {w : Cond} (i : Nat) (h : tw_p[i]? = some w) (hg : am_good w = true) : w ∈ am_tb := List.mem_filter.mpr ⟨List.mem_append_left _ (by rw [← tw_p_eq]; exact List.mem_of_getElem? h), hg⟩
theorem am_lay_good {C : String} {T : u_T} {N : Nat} : ∀ w ∈ u_ws C T N, am_good w = true := by
  intro w hw
  obtain ⟨k, -, rfl⟩ := List.mem_map.mp hw
  unfold u_lay
  split <;> rfl
theorem am_inX0 : ∀ w ∈ u_ws RX0 TX0 14, w ∈ am_tb := by
  intro w hw
  have hg := am_lay_good w hw
  refine am_in ?_ hg
  obtain ⟨k, hk, rfl⟩ := List.mem_map.mp hw
  have hk := List.mem_range.mp hk
  rcases (show k = 0 ∨ k = 1 ∨ k = 2 ∨ k = 3 ∨ k = 4 ∨ k = 5 ∨ k = 6 ∨ k = 7 ∨ k = 8 ∨ k = 9 ∨ k = 10 ∨ k = 11 ∨ k = 12 ∨ k = 13 by omega) with rfl | rfl | rfl | rfl | rfl | rfl | rfl | rfl | rfl | rfl | rfl | rfl | rfl | rfl
  · exact tw_m2 92 rfl
  · exact tw_m2 94 rfl
  · exact tw_m2 96 rfl
  · exact tw_m2 98 rfl
  · exact tw_m2 100 rfl
  · exact tw_m2 102 rfl
  · exact tw_m2 104 rfl
  · exact tw_m2 106 rfl
  · exact tw_m2 108 rfl
  · exact tw_m2 110 rfl
  · exact tw_m2 112 rfl
  · exact tw_m2 114 rfl
  · exact tw_m2 116 rfl
  · exact tw_m2 118 rfl
theorem am_inX1 : ∀ w ∈ u_ws RX1 TX1 11, w ∈ am_tb := by
  intro w hw
  have hg := am_lay_good w hw
  refine am_in ?_ hg
  obtain ⟨k, hk, rfl⟩ := List.mem_map.mp hw
  have hk := List.mem_range.mp hk
  rcases (show k = 0 ∨ k = 1 ∨ k = 2 ∨ k = 3 ∨ k = 4 ∨ k = 5 ∨ k = 6 ∨ k = 7 ∨ k = 8 ∨ k = 9 ∨ k = 10 by omega) with rfl | rfl | rfl | rfl | rfl | rfl | rfl | rfl | rfl | rfl | rfl
  · exact tw_m2 24 rfl
  · exact tw_m2 26 rfl
  · exact tw_m2 28 rfl
  · exact tw_m2 30 rfl
  · exact tw_m2 32 rfl
  · exact tw_m2 34 rfl
  · exact tw_m2 36 rfl
  · exact tw_m2 38 rfl
  · exact tw_m2 40 rfl
  · exact tw_m2 42 rfl
  · exact tw_m2 44 rfl
theorem am_inX2 : ∀ w ∈ u_ws RX2 TX2 3, w ∈ am_tb := by
  intro w hw
  have hg := am_lay_good w hw
  refine am_in ?_ hg
  obtain ⟨k, hk, rfl⟩ := List.mem_map.mp hw
  have hk := List.mem_range.mp hk
  rcases (show k = 0 ∨ k = 1 ∨ k = 2 by omega) with rfl | rfl | rfl
  · exact tw_m2 59 rfl
  · exact tw_m2 61 rfl
  · exact tw_m2 63 rfl
theorem am_inX3 : ∀ w ∈ u_ws RX3 TX3 2, w ∈ am_tb := by
  intro w hw
  have hg := am_lay_good w hw
  refine am_in ?_ hg
  obtain ⟨k, hk, rfl⟩ := List.mem_map.mp hw
  have hk := List.mem_range.mp hk
  rcases (show k = 0 ∨ k = 1 by omega) with rfl | rfl
  · exact tw_m2 131 rfl
  · exact tw_m2 133 rfl
theorem am_inX4 : ∀ w ∈ u_ws RX4 TX4 13, w ∈ am_tb := by
  intro w hw
  have hg := am_lay_good w hw
  refine am_in ?_ hg
  obtain ⟨k, hk, rfl⟩ := List.mem_map.mp hw
  have hk := List.mem_range.mp hk
  rcases (show k = 0 ∨ k = 1 ∨ k = 2 ∨ k = 3 ∨ k = 4 ∨ k = 5 ∨ k = 6 ∨ k = 7 ∨ k = 8 ∨ k = 9 ∨ k = 10 ∨ k = 11 ∨ k = 12 by omega) with rfl | rfl | rfl | rfl | rfl | rfl | rfl | rfl | rfl | rfl | rfl | rfl | rfl
  · exact tw_m1 196 rfl
  · exact tw_m1 198 rfl
  · exact tw_m1 200 rfl
  · exact tw_m1 202 rfl
  · exact tw_m1 204 rfl
  · exact tw_m1 206 rfl
  · exact tw_m1 208 rfl
  · exact tw_m1 210 rfl
  · exact tw_m1 212 rfl
  · exact tw_m1 214 rfl
  · exact tw_m1 216 rfl
  · exact tw_m1 218 rfl
  · exact tw_m1 220 rfl
theorem am_inX5 : ∀ w ∈ u_ws RX5 TX5 2, w ∈ am_tb := by
  intro w hw
  have hg := am_lay_good w hw
  refine am_in ?_ hg
  obtain ⟨k, hk, rfl⟩ := List.mem_map.mp hw
  have hk := List.mem_range.mp hk
  rcases (show k = 0 ∨ k = 1 by omega) with rfl | rfl
  · exact tw_m1 69 rfl
  · exact tw_m1 71 rfl
theorem am_inX6 : ∀ w ∈ u_ws RX6 TX6 2, w ∈ am_tb := by
  intro w hw
  have hg := am_lay_good w hw
  refine am_in ?_ hg
  obtain ⟨k, hk, rfl⟩ := List.mem_map.mp hw
  have hk := List.mem_range.mp hk
  rcases (show k = 0 ∨ k = 1 by omega) with rfl | rfl
  · exact tw_m1 43 rfl
  · exact tw_m1 45 rfl
theorem am_inX7 : ∀ w ∈ u_ws RX7 TX7 3, w ∈ am_tb := by
  intro w hw
  have hg := am_lay_good w hw
  refine am_in ?_ hg
  obtain ⟨k, hk, rfl⟩ := List.mem_map.mp hw
  have hk := List.mem_range.mp hk
  rcases (show k = 0 ∨ k = 1 ∨ k = 2 by omega) with rfl | rfl | rfl
  · exact tw_m1 171 rfl
  · exact tw_m1 173 rfl
  · exact tw_m1 175 rfl
theorem am_inX8 : ∀ w ∈ u_ws RX8 TX8 17, w ∈ am_tb := by
  intro w hw
  have hg := am_lay_good w hw
  refine am_in ?_ hg
  obtain ⟨k, hk, rfl⟩ := List.mem_map.mp hw
  have hk := List.mem_range.mp hk
  rcases (show k = 0 ∨ k = 1 ∨ k = 2 ∨ k = 3 ∨ k = 4 ∨ k = 5 ∨ k = 6 ∨ k = 7 ∨ k = 8 ∨ k = 9 ∨ k = 10 ∨ k = 11 ∨ k = 12 ∨ k = 13 ∨ k = 14 ∨ k = 15 ∨ k = 16 by omega) with rfl | rfl | rfl | rfl | rfl | rfl | rfl | rfl | rfl | rfl | rfl | rfl | rfl | rfl | rfl | rfl | rfl
  · exact tw_m1 117 rfl
  · exact tw_m1 119 rfl
  · exact tw_m1 121 rfl
  · exact tw_m1 123 rfl
  · exact tw_m1 125 rfl
  · exact tw_m1 127 rfl
  · exact tw_m1 129 rfl
  · exact tw_m1 131 rfl
  · exact tw_m1 133 rfl
  · exact tw_m1 135 rfl
  · exact tw_m1 137 rfl
  · exact tw_m1 139 rfl
  · exact tw_m1 141 rfl
  · exact tw_m1 143 rfl
  · exact tw_m1 145 rfl
  · exact tw_m1 147 rfl
  · exact tw_m1 149 rfl
theorem am_inX9 : ∀ w ∈ u_ws RX9 TX9 17, w ∈ am_tb := by
  intro w hw
  have hg := am_lay_good w hw
  refine am_in ?_ hg
  obtain ⟨k, hk, rfl⟩ := List.mem_map.mp hw
  have hk := List.mem_range.mp hk
  rcases (show k = 0 ∨ k = 1 ∨ k = 2 ∨ k = 3 ∨ k = 4 ∨ k = 5 ∨ k = 6 ∨ k = 7 ∨ k = 8 ∨ k = 9 ∨ k = 10 ∨ k = 11 ∨ k = 12 ∨ k = 13 ∨ k = 14 ∨ k = 15 ∨ k = 16 by omega) with rfl | rfl | rfl | rfl | rfl | rfl | rfl | rfl | rfl | rfl | rfl | rfl | rfl | rfl | rfl | rfl | rfl
  · exact tw_m2 153 rfl
  · exact tw_m2 155 rfl
  · exact tw_m2 157 rfl
  · exact tw_m2 159 rfl
  · exact tw_m2 161 rfl
  · exact tw_m2 163 rfl
  · exact tw_m2 165 rfl
  · exact tw_m2 167 rfl
  · exact tw_m2 169 rfl
  · exact tw_m2 171 rfl
  · exact tw_m2 173 rfl
  · exact tw_m2 175 rfl
  · exact tw_m2 177 rfl
  · exact tw_m2 179 rfl
  · exact tw_m2 181 rfl
  · exact tw_m2 183 rfl
  · exact tw_m2 185 rfl
theorem am_inX10 : ∀ w ∈ u_ws RX10 TX10 108, w ∈ am_tb := by
  intro w hw
  have hg := am_lay_good w hw
  refine am_in ?_ hg
  obtain ⟨k, hk, rfl⟩ := List.mem_map.mp hw
  have hk := List.mem_range.mp hk
  rcases (show k = 0 ∨ k = 1 ∨ k = 2 ∨ k = 3 ∨ k = 4 ∨ k = 5 ∨ k = 6 ∨ k = 7 ∨ k = 8 ∨ k = 9 ∨ k = 10 ∨ k = 11 ∨ k = 12 ∨ k = 13 ∨ k = 14 ∨ k = 15 ∨ k = 16 ∨ k = 17 ∨ k = 18 ∨ k = 19 ∨ k = 20 ∨ k = 21 ∨ k = 22 ∨ k = 23 ∨ k = 24 ∨ k = 25 ∨ k = 26 ∨ k = 27 ∨ k = 28 ∨ k = 29 ∨ k = 30 ∨ k = 31 ∨ k = 32 ∨ k = 33 ∨ k = 34 ∨ k = 35 ∨ k = 36 ∨ k = 37 ∨ k = 38 ∨ k = 39 ∨ k = 40 ∨ k = 41 ∨ k = 42 ∨ k = 43 ∨ k = 44 ∨ k = 45 ∨ k = 46 ∨ k = 47 ∨ k = 48 ∨ k = 49 ∨ k = 50 ∨ k = 51 ∨ k = 52 ∨ k = 53 ∨ k = 54 ∨ k = 55 ∨ k = 56 ∨ k = 57 ∨ k = 58 ∨ k = 59 ∨ k = 60 ∨ k = 61 ∨ k = 62 ∨ k = 63 ∨ k = 64 ∨ k = 65 ∨ k = 66 ∨ k = 67 ∨ k = 68 ∨ k = 69 ∨ k = 70 ∨ k = 71 ∨ k = 72 ∨ k = 73 ∨ k = 74 ∨ k = 75 ∨ k = 76 ∨ k = 77 ∨ k = 78 ∨ k = 79 ∨ k = 80 ∨ k = 81 ∨ k = 82 ∨ k = 83 ∨ k = 84 ∨ k = 85 ∨ k = 86 ∨ k = 87 ∨ k = 88 ∨ k = 89 ∨ k = 90 ∨ k = 91 ∨ k = 92 ∨ k = 93 ∨ k = 94 ∨ k = 95 ∨ k = 96 ∨ k = 97 ∨ k = 98 ∨ k = 99 ∨ k = 100 ∨ k = 101 ∨ k = 102 ∨ k = 103 ∨ k = 104 ∨ k = 105 ∨ k = 106 ∨ k = 107 by omega) with rfl | rfl | rfl | rfl | rfl | rfl | rfl | rfl | rfl | rfl | rfl | rfl | rfl | rfl | rfl | rfl | rfl | rfl | rfl | rfl | rfl | rfl | rfl | rfl | rfl | rfl | rfl | rfl | rfl | rfl | rfl | rfl | rfl | rfl | rfl | rfl | rfl | rfl | rfl | rfl | rfl | rfl | rfl | rfl | rfl | rfl | rfl | rfl | rfl | rfl | rfl | rfl | rfl | rfl | rfl | rfl | rfl | rfl | rfl | rfl | rfl | rfl | rfl | rfl | rfl | rfl | rfl | rfl | rfl | rfl | rfl | rfl | rfl | rfl | rfl | rfl | rfl | rfl | rfl | rfl | rfl | rfl | rfl | rfl | rfl | rfl | rfl | rfl | rfl | rfl | rfl | rfl | rfl | rfl | rfl | rfl | rfl | rfl | rfl | rfl | rfl | rfl | rfl | rfl | rfl | rfl | rfl | rfl
  · exact tw_m6 10 rfl
  · exact tw_m6 12 rfl
  · exact tw_m6 14 rfl
  · exact tw_m6 16 rfl
  · exact tw_m6 18 rfl
  · exact tw_m6 20 rfl
  · exact tw_m6 22 rfl
  · exact tw_m6 24 rfl
  · exact tw_m6 26 rfl
  · exact tw_m6 28 rfl
  · exact tw_m6 30 rfl
  · exact tw_m6 32 rfl
  · exact tw_m6 34 rfl
  · exact tw_m6 36 rfl
  · exact tw_m6 38 rfl
  · exact tw_m6 40 rfl
  · exact tw_m6 42 rfl
  · exact tw_m6 44 rfl
  · exact tw_m6 46 rfl
  · exact tw_m6 48 rfl
  · exact tw_m6 50 rfl
  · exact tw_m6 52 rfl
  · exact tw_m6 54 rfl
  · exact tw_m6 56 rfl
  · exact tw_m6 58 rfl
  · exact tw_m6 60 rfl
  · exact tw_m6 62 rfl
  · exact tw_m6 64 rfl
  · exact tw_m6 66 rfl
  · exact tw_m6 68 rfl
  · exact tw_m6 70 rfl
  · exact tw_m6 72 rfl
  · exact tw_m6 74 rfl
  · exact tw_m6 76 rfl
  · exact tw_m6 78 rfl
  · exact tw_m6 80 rfl
  · exact tw_m6 82 rfl
  · exact tw_m6 84 rfl
  · exact tw_m6 86 rfl
  · exact tw_m6 88 rfl
  · exact tw_m6 90 rfl
  · exact tw_m6 92 rfl
  · exact tw_m6 94 rfl
  · exact tw_m6 96 rfl
  · exact tw_m6 98 rfl
  · exact tw_m6 100 rfl
  · exact tw_m6 102 rfl
  · exact tw_m6 104 rfl
  · exact tw_m6 106 rfl
  · exact tw_m6 108 rfl
  · exact tw_m6 110 rfl
  · exact tw_m6 112 rfl
  · exact tw_m6 114 rfl
  · exact tw_m6 116 rfl
  · exact tw_m6 118 rfl
  · exact tw_m6 120 rfl
  · exact tw_m6 122 rfl
  · exact tw_m6 124 rfl
  · exact tw_m6 126 rfl
  · exact tw_m6 128 rfl
  · exact tw_m6 130 rfl
  · exact tw_m6 132 rfl
  · exact tw_m6 134 rfl
  · exact tw_m6 136 rfl
  · exact tw_m6 138 rfl
  · exact tw_m6 140 rfl
  · exact tw_m6 142 rfl
  · exact tw_m6 144 rfl
  · exact tw_m6 146 rfl
  · exact tw_m6 148 rfl
  · exact tw_m6 150 rfl
  · exact tw_m6 152 rfl
  · exact tw_m6 154 rfl
  · exact tw_m6 156 rfl
  · exact tw_m6 158 rfl
  · exact tw_m6 160 rfl
  · exact tw_m6 162 rfl
  · exact tw_m6 164 rfl
  · exact tw_m6 166 rfl
  · exact tw_m6 168 rfl
  · exact tw_m6 170 rfl
  · exact tw_m6 172 rfl
  · exact tw_m6 174 rfl
  · exact tw_m6 176 rfl
  · exact tw_m6 178 rfl
  · exact tw_m6 180 rfl
  · exact tw_m6 182 rfl
  · exact tw_m6 184 rfl
  · exact tw_m6 186 rfl
  · exact tw_m6 188 rfl
  · exact tw_m6 190 rfl
  · exact tw_m6 192 rfl
  · exact tw_m6 194 rfl
  · exact tw_m6 196 rfl
  · exact tw_m6 198 rfl
  · exact tw_m6 200 rfl
  · exact tw_m6 202 rfl
  · exact tw_m6 204 rfl
  · exact tw_m6 206 rfl
  · exact tw_m6 208 rfl
  · exact tw_m6 210 rfl
  · exact tw_m6 212 rfl
  · exact tw_m6 214 rfl
  · exact tw_m6 216 rfl
  · exact tw_m6 218 rfl
  · exact tw_m6 220 rfl
  · exact tw_m6 222 rfl
  · exact tw_m6 224 rfl
