def am_byt : List (List Int32) := [[100, 97, 121, 115, 32, 32, 32, 32, 112, 101, 114, 115, 111, 110, 32, 32, 109, 105, 110, 100, 32, 32, 32, 32, 97, 115, 107, 115, 32, 32, 32, 32, 116, 111, 108, 100, 32, 32, 32, 32, 111, 110, 32, 32, 32, 32, 32, 32, 114, 101, 109, 105, 110, 100, 115, 32, 102, 114, 111, 115, 116, 32, 32, 32, 102, 111, 114, 32, 32, 32, 32, 32, 116, 104, 105, 110, 107, 115, 32, 32, 104, 101, 97, 114, 115, 32, 32, 32, 115, 108, 105, 112, 115, 32, 32, 32, 109, 111, 114, 116, 97, 108, 32, 32, 100, 97, 121, 32, 32, 32, 32, 32, 121, 101, 97, 114, 32, 32, 32, 32, 97, 103, 111, 32, 32, 32, 32, 32, 102, 101, 97, 115, 116, 32, 32, 32, 111, 116, 104, 101, 114, 32, 32, 32, 110, 117, 109, 98, 101, 114, 32, 32, 100, 101, 97, 100, 32, 32, 32, 32, 107, 110, 111, 119, 115, 32, 32, 32, 111, 114, 32, 32, 32, 32, 32, 32, 97, 110, 100, 32, 32, 32, 32, 32, 110, 111, 116, 32, 32, 32, 32, 32, 97, 108, 108, 32, 32, 32, 32, 32, 109, 105, 110, 32, 32, 32, 32, 32, 109, 97, 120, 32, 32, 32, 32, 32, 102, 105, 114, 115, 116, 32, 32, 32, 108, 97, 115, 116, 32, 32, 32, 32, 111, 102, 116, 101, 110, 32, 32, 32, 116, 111, 116, 97, 108, 32, 32, 32, 109, 111, 115, 116, 32, 32, 32, 32, 108, 101, 97, 115, 116, 32, 32, 32], [40, 41, 42, 43, 44, 45, 47, 59, 60, 61, 62, 91, 93]]
def am_len : List Nat := [264, 13]
def am_words : String := "days    person  mind    asks    told    on      reminds frost   for     thinks  hears   slips   mortal  day     year    ago     feast   other   number  dead    knows   or      and     not     all     min     max     first   last    often   total   most    least   "
def am_signs : String := "()*+,-/;<=>[]"
/-! THE ABSTRACT MACHINE: heaps of whole numbers and places; a judgement 'am_wp' over them; each row of it is sound for the machine. -/
abbrev am_V : Type := Int ⊕ Int ⊕ Option Nat ⊕ Nat
abbrev am_i (x : Int) : am_V := .inl x
abbrev am_l (x : Int) : am_V := .inr (.inl x)
abbrev am_o (r : Option Nat) : am_V := .inr (.inr (.inl r))
abbrev am_r (a : Nat) : am_V := .inr (.inr (.inl (some a)))
abbrev am_s (i : Nat) : am_V := .inr (.inr (.inr i))
abbrev am_H : Type := List (Nat × Nat) × (Nat → Nat → Int) × (Nat → Nat → Option Nat)
abbrev am_D : Type := va_G × ClassId × ClassId × ClassId × ClassId
abbrev am_M : Type := String × MethodName × ByteArray × Nat × Option FieldType × Room × (Nat → (Nat → Nat) → State → Prop)
def am_tys (D : am_D) : List (ClassId × FieldType) := [(D.2.1, .int), (D.2.2.1, .long), (D.2.2.2.1, .char), (D.2.2.2.2, .object RX1)]
def am_cv (ρ ss : Nat → Nat) : am_V → Value
  | .inl x => .int (Int32.ofInt x)
  | .inr (.inl x) => .long (Int64.ofInt x)
  | .inr (.inr (.inl r)) => va_rf (r.map ρ)
  | .inr (.inr (.inr i)) => .ref (ss i)
def am_ok (n : Nat) : am_V → Prop
  | .inl x => -2147483648 ≤ x ∧ x < 2147483648
  | .inr (.inl x) => -9223372036854775808 ≤ x ∧ x < 9223372036854775808
  | .inr (.inr (.inl r)) => ∀ a, r = some a → a < n
  | .inr (.inr (.inr _)) => True
def am_ty (k : Nat) : Nat → FieldType := match k with
  | 0 => tyX0 | 1 => tyX1 | 2 => tyX2 | 3 => tyX3 | 4 => tyX4 | 5 => tyX5 | 6 => tyX6 | 7 => tyX7 | 8 => tyX8 | 9 => tyX9 | 10 => tyX10
  | 11 => fun _ => .int | 12 => fun _ => .long | 13 => fun _ => .char | _ => fun _ => .object RX1
def am_nf (k : Nat) : Nat := match k with
  | 0 => 14 | 1 => 11 | 2 => 3 | 3 => 2 | 4 => 13 | 5 => 2 | 6 => 2 | 7 => 3 | 8 => 17 | 9 => 17 | _ => 108
def am_cl (k : Nat) : vw_C := match k with
  | 0 => (RX0, TX0, 14) | 1 => (RX1, TX1, 11) | 2 => (RX2, TX2, 3) | 3 => (RX3, TX3, 2) | 4 => (RX4, TX4, 13) | 5 => (RX5, TX5, 2) | 6 => (RX6, TX6, 2) | 7 => (RX7, TX7, 3) | 8 => (RX8, TX8, 17) | 9 => (RX9, TX9, 17) | _ => (RX10, TX10, 108)
def am_fv (ρ : Nat → Nat) (σ : am_H) (k a j : Nat) : Value := match am_ty k j with
  | .long => .long (Int64.ofInt (σ.2.1 a j))
  | .object _ => va_rf ((σ.2.2 a j).map ρ)
  | .array _ => va_rf ((σ.2.2 a j).map ρ)
  | _ => .int (Int32.ofInt (σ.2.1 a j))
def am_cell (D : am_D) (ρ : Nat → Nat) (σ : am_H) (a : Nat) (q : Nat × Nat) : va_E :=
  if q.1 < 11 then .inr (q.1, (List.range q.2).map (am_fv ρ σ q.1 a))
  else if q.1 = 11 then .inl (D.2.1, q.2, .inl (fun i => Int32.ofInt (σ.2.1 a i)))
  else if q.1 = 12 then .inl (D.2.2.1, q.2, .inr (.inl (fun i => Int64.ofInt (σ.2.1 a i))))
  else if q.1 = 13 then .inl (D.2.2.2.1, q.2, .inl (fun i => Int32.ofInt (σ.2.1 a i)))
  else .inl (D.2.2.2.2, q.2, .inr (.inr (.inr (.inr (fun i => (σ.2.2 a i).map ρ)))))
def am_ws (D : am_D) (ρ : Nat → Nat) (σ : am_H) : va_W := σ.1.mapIdx (fun a q => (ρ a, am_cell D ρ σ a q))
def am_rg (ty : FieldType) (x : Int) : Prop := match ty with
  | .int => -2147483648 ≤ x ∧ x < 2147483648
  | .boolean => 0 ≤ x ∧ x ≤ 1
  | .char => 0 ≤ x ∧ x ≤ 65535
  | .long => -9223372036854775808 ≤ x ∧ x < 9223372036854775808
  | _ => True
def am_hok (σ : am_H) : Prop := (∀ (a j : Nat) (q : Nat × Nat), σ.1[a]? = some q → am_rg (am_ty q.1 j) (σ.2.1 a j)) ∧ (∀ a j b : Nat, σ.2.2 a j = some b → b < σ.1.length) ∧ (∀ (a : Nat) (q : Nat × Nat), σ.1[a]? = some q → q.1 < 15 ∧ (q.1 < 11 → q.2 = am_nf q.1))
def am_hp (base : Nat) (D : am_D) (ρ : Nat → Nat) (σ : am_H) (H : Heap) : Prop := va_P D.1 vwCl (am_ws D ρ σ) H ∧ va_D (fun q => base ≤ q) (am_ws D ρ σ) ∧ am_hok σ
def am_J (base : Nat) (ss : Nat → Nat) (U : State) (H : Heap) : Prop := vk_S 2 am_len am_byt ss (fun i => ss (3 + i)) (fun q => base ≤ q) U H ∧ vk_R RX7 73 am_words (ss 0) U ∧ vk_R RX7 54 am_signs (ss 1) U ∧ va_Z "java/lang/String" "COMPACT_STRINGS" "Z" (.int 1) (fun q => base ≤ q) U H ∧ va_AO RX1 U ∧ (va_Z RJ3 "SIOOBE_FORMATTER" "Ljava/util/function/BiFunction;" .null (fun q => base ≤ q) U H ∨ va_Z RJ3 "SIOOBE_FORMATTER" "Ljava/util/function/BiFunction;" (.ref (ss 5)) (fun q => base ≤ q) U H)
theorem am_J.next {base : Nat} {ss : Nat → Nat} {s U : State} {H0 H : Heap} {locs : List Loc} (h : am_J base ss s H0) (hS : va_S (fun q => base ≤ q) H0 H locs) (hW : s.WarmedH U.vm) : am_J base ss U H := by
  obtain ⟨h1, h2, h3, h4, h5, h6⟩ := h
  exact ⟨(h1.kept hS.2.1).moved hW.alike, h2.warm hW, h3.warm hW, (h4.kept hS.2.1).moved hW.alike, h5.moved hW.alike, h6.imp (fun h => (h.kept hS.2.1).moved hW.alike) (fun h => (h.kept hS.2.1).moved hW.alike)⟩
def am_Qc (base : Nat) (D : am_D) (ρ0 ss : Nat → Nat) (n0 : Nat) (Q : Option am_V → am_H → Prop) : Array Value → State → Outcome → State → Prop := fun _ st oc t =>
  (∃ (r : Option am_V) (σ' : am_H) (ρ' : Nat → Nat), oc = .returned (r.map (am_cv ρ' ss)) ∧ (∀ k, k < n0 → ρ' k = ρ0 k) ∧ n0 ≤ σ'.1.length ∧ (∀ v, r = some v → am_ok σ'.1.length v) ∧ Q r σ' ∧ am_hp base D ρ' σ' t.heap ∧ va_K D.1 vwCl (am_tys D) t ∧ am_J base ss t t.heap) ∧ va_F (fun q => base ≤ q) st t
def am_cx (me : am_M) (p : Program) (s : State) (m : MethodId) (args : Array Value) (meth : Method) (c : Code) (base : Nat) (D : am_D) (ss : Nat → Nat) : Prop :=
  p.tables.exec = Jvm.exec ∧ c.code = me.2.2.1 ∧ meth.sig.returnType = me.2.2.2.2.1 ∧ c.maxLocals = me.2.2.2.1 ∧ s.vm.findClass me.1 = some m.cls ∧ (∀ w ∈ am_tb, w.before args s = true) ∧ meth.locks = false ∧ meth.name = me.2.1.name ∧ va_K D.1 vwCl (am_tys D) s ∧ am_J base ss s s.heap ∧ base ≤ s.heap.size ∧ me.2.2.2.2.2.2 base ss s
abbrev am_Ls : Type := List (Nat × am_V)
def am_lv (ρ ss : Nat → Nat) (ls : am_Ls) : List (Nat × Value) := ls.map (fun q => (q.1, am_cv ρ ss q.2))
def am_wp (me : am_M) (Q : Option am_V → am_H → Prop) (cells slots pc : Nat) (ls : am_Ls) (st : List am_V) (σ : am_H) : Prop :=
  ∀ (p : Program) (l : Launch) (e : Env) (s : State) (m : MethodId) (args : Array Value) (below : List Frame) (meth : Method) (c : Code) (base : Nat) (D : am_D) (ss : Nat → Nat) (n0 : Nat) (ρ0 : Nat → Nat), am_cx me p s m args meth c base D ss →
  ∀ (ρ : Nat → Nat) (H : Heap) (locs : List Loc) (lsA : Array Slot), (∀ k, k < n0 → ρ k = ρ0 k) → n0 ≤ σ.1.length → am_hp base D ρ σ H → va_S (fun q => base ≤ q) s.heap H locs → lv_has lsA me.2.2.2.1 (am_lv ρ ss ls) → (∀ q ∈ ls, am_ok σ.1.length q.2) → (∀ v ∈ st, am_ok σ.1.length v) →
  W p l e me.2.2.2.2.2.1 s m args below meth c H locs cells slots (MQ below (am_Qc base D ρ0 ss n0 Q) args s me.2.2.2.2.2.1.cells me.2.2.2.2.2.1.slots (fun q => base ≤ q)) (F0 m pc lsA (st.map (am_cv ρ ss)))
def am_met (me : am_M) (As : List am_V) (σ : am_H) (Q : Option am_V → am_H → Prop) : Prop :=
  ∀ (l : Launch) (base : Nat) (D : am_D) (ρ ss : Nat → Nat), Met l me.2.1 (Cond.code me.2.1 me.2.2.1 me.2.2.2.1 me.2.2.2.2.1 :: am_tb) me.2.2.2.2.2.1
    (va_Pc (As.map (am_cv ρ ss)) (fun U => am_hp base D ρ σ U.heap ∧ va_K D.1 vwCl (am_tys D) U ∧ am_J base ss U U.heap ∧ base ≤ U.heap.size ∧ ∀ v ∈ As, am_ok σ.1.length v)) (am_Qc base D ρ ss σ.1.length Q) me.2.2.2.2.2.1.cells me.2.2.2.2.2.1.slots (fun q => base ≤ q)
def am_cat : am_V → Nat
  | .inr (.inl _) => 2
  | _ => 1
def am_args : Nat → List am_V → am_Ls
  | _, [] => []
  | i, v :: vs => (i, v) :: am_args (i + am_cat v) vs
theorem am_cv_cat (ρ ss : Nat → Nat) (v : am_V) : (am_cv ρ ss v).category = am_cat v := by
  rcases v with x | x | (_ | a) | i <;> rfl
