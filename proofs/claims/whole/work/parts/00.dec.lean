def am_by (code : ByteArray) (p : Nat) : Option Nat := if h : p < code.size then some code[p].toNat else none
theorem am_u1 {code : ByteArray} {p x : Nat} (h : am_by code p = some x) : (Reader.u1 : Decoder Nat) code p = .ok (x, p + 1) := by
  unfold am_by at h
  split at h
  · rename_i hp
    cases h
    show (dite (p < code.size) _ _ : Decoder Nat) code p = _
    rw [dif_pos hp]
    rfl
  · cases h
theorem am_dec {code : ByteArray} {pc n : Nat} {i : Instr} (h : (Decoder.instr pc) code pc = .ok (i, pc + n)) : decode code pc = .ok (i, n) := by
  unfold decode Reader.runAt ReaderT.run StateT.run
  rw [h]
  show Except.ok (i, pc + n - pc) = _
  rw [Nat.add_sub_cancel_left]
theorem am_bind {α β : Type} {f : Decoder α} {g : α → Decoder β} {code : ByteArray} {p p' : Nat} {x : α} (h : f code p = .ok (x, p')) : (f >>= g) code p = g x code p' := by
  show Except.bind (f code p) (fun v => g v.1 code v.2) = _
  rw [h]
  rfl
theorem am_u2 {code : ByteArray} {p x y : Nat} (h : am_by code p = some x) (h2 : am_by code (p + 1) = some y) : (Reader.u2 : Decoder Nat) code p = .ok (x * 256 + y, p + 2) := by
  unfold Reader.u2
  rw [am_bind (am_u1 h), am_bind (am_u1 h2)]
  rfl
def am_n1 (n : Int) : Nat := (n % 256).toNat
def am_n2h (n : Int) : Nat := (n % 65536).toNat / 256
def am_n2l (n : Int) : Nat := (n % 65536).toNat % 256
theorem am_s1 {code : ByteArray} {p : Nat} {n : Int} (hn : -128 ≤ n ∧ n ≤ 127) (h : am_by code p = some (am_n1 n)) : (Reader.s1 : Decoder Int) code p = .ok (n, p + 1) := by
  have e : Reader.signed 8 (am_n1 n) = n := by
    unfold Reader.signed am_n1
    split <;> omega
  show (Functor.map (Reader.signed 8) (Reader.u1 : Decoder Nat)) code p = _
  show Except.bind ((Reader.u1 : Decoder Nat) code p) (fun v => Except.ok (Reader.signed 8 v.1, v.2)) = _
  rw [am_u1 h]
  show Except.ok (Reader.signed 8 (am_n1 n), p + 1) = _
  rw [e]
theorem am_s2 {code : ByteArray} {p : Nat} {n : Int} (hn : -32768 ≤ n ∧ n ≤ 32767) (h : am_by code p = some (am_n2h n)) (h2 : am_by code (p + 1) = some (am_n2l n)) : (Reader.s2 : Decoder Int) code p = .ok (n, p + 2) := by
  have e : Reader.signed 16 (am_n2h n * 256 + am_n2l n) = n := by
    unfold Reader.signed am_n2h am_n2l
    split <;> omega
  show Except.bind ((Reader.u2 : Decoder Nat) code p) (fun v => Except.ok (Reader.signed 16 v.1, v.2)) = _
  rw [am_u2 h h2]
  show Except.ok (Reader.signed 16 (am_n2h n * 256 + am_n2l n), p + 2) = _
  rw [e]
def am_enc (ins : Instr) : Option (List Nat) := match ins with
  | .iconst (-1) => some [2]
  | .iconst 0 => some [3]
  | .iconst 1 => some [4]
  | .iconst 2 => some [5]
  | .iconst 3 => some [6]
  | .iconst 4 => some [7]
  | .iconst 5 => some [8]
  | .lconst 0 => some [9]
  | .lconst 1 => some [10]
  | .iload_n 0 => some [26]
  | .iload_n 1 => some [27]
  | .iload_n 2 => some [28]
  | .iload_n 3 => some [29]
  | .lload_n 0 => some [30]
  | .lload_n 1 => some [31]
  | .lload_n 2 => some [32]
  | .lload_n 3 => some [33]
  | .aload_n 0 => some [42]
  | .aload_n 1 => some [43]
  | .aload_n 2 => some [44]
  | .aload_n 3 => some [45]
  | .istore_n 0 => some [59]
  | .istore_n 1 => some [60]
  | .istore_n 2 => some [61]
  | .istore_n 3 => some [62]
  | .lstore_n 0 => some [63]
  | .lstore_n 1 => some [64]
  | .lstore_n 2 => some [65]
  | .lstore_n 3 => some [66]
  | .astore_n 0 => some [75]
  | .astore_n 1 => some [76]
  | .astore_n 2 => some [77]
  | .astore_n 3 => some [78]
  | .iaload => some [46]
  | .laload => some [47]
  | .aaload => some [50]
  | .baload => some [51]
  | .caload => some [52]
  | .iastore => some [79]
  | .lastore => some [80]
  | .aastore => some [83]
  | .castore => some [85]
  | .pop => some [87]
  | .dup => some [89]
  | .dup2 => some [92]
  | .iadd => some [96]
  | .ladd => some [97]
  | .isub => some [100]
  | .lsub => some [101]
  | .imul => some [104]
  | .lmul => some [105]
  | .idiv => some [108]
  | .ldiv => some [109]
  | .irem => some [112]
  | .lrem => some [113]
  | .ineg => some [116]
  | .ishl => some [120]
  | .lshl => some [121]
  | .ishr => some [122]
  | .lshr => some [123]
  | .iushr => some [124]
  | .iand => some [126]
  | .land => some [127]
  | .ior => some [128]
  | .lor => some [129]
  | .ixor => some [130]
  | .i2l => some [133]
  | .l2i => some [136]
  | .i2b => some [145]
  | .i2c => some [146]
  | .lcmp => some [148]
  | .ireturn => some [172]
  | .lreturn => some [173]
  | .areturn => some [176]
  | .return_ => some [177]
  | .arraylength => some [190]
  | .aconst_null => some [1]
  | .pop2 => some [88]
  | .ldc i => some [18, i]
  | .iload i => some [21, i]
  | .lload i => some [22, i]
  | .aload i => some [25, i]
  | .istore i => some [54, i]
  | .lstore i => some [55, i]
  | .astore i => some [58, i]
  | .ldc_w i => some [19, i / 256, i % 256]
  | .ldc2_w i => some [20, i / 256, i % 256]
  | .getstatic i => some [178, i / 256, i % 256]
  | .getfield i => some [180, i / 256, i % 256]
  | .putfield i => some [181, i / 256, i % 256]
  | .invokevirtual i => some [182, i / 256, i % 256]
  | .invokespecial i => some [183, i / 256, i % 256]
  | .invokestatic i => some [184, i / 256, i % 256]
  | .new i => some [187, i / 256, i % 256]
  | .anewarray i => some [189, i / 256, i % 256]
  | .ifCond .eq n => if -32768 ≤ n ∧ n ≤ 32767 then some [153, am_n2h n, am_n2l n] else none
  | .ifCond .ne n => if -32768 ≤ n ∧ n ≤ 32767 then some [154, am_n2h n, am_n2l n] else none
  | .ifCond .lt n => if -32768 ≤ n ∧ n ≤ 32767 then some [155, am_n2h n, am_n2l n] else none
  | .ifCond .ge n => if -32768 ≤ n ∧ n ≤ 32767 then some [156, am_n2h n, am_n2l n] else none
  | .ifCond .gt n => if -32768 ≤ n ∧ n ≤ 32767 then some [157, am_n2h n, am_n2l n] else none
  | .ifCond .le n => if -32768 ≤ n ∧ n ≤ 32767 then some [158, am_n2h n, am_n2l n] else none
  | .if_icmp .eq n => if -32768 ≤ n ∧ n ≤ 32767 then some [159, am_n2h n, am_n2l n] else none
  | .if_icmp .ne n => if -32768 ≤ n ∧ n ≤ 32767 then some [160, am_n2h n, am_n2l n] else none
  | .if_icmp .lt n => if -32768 ≤ n ∧ n ≤ 32767 then some [161, am_n2h n, am_n2l n] else none
  | .if_icmp .ge n => if -32768 ≤ n ∧ n ≤ 32767 then some [162, am_n2h n, am_n2l n] else none
  | .if_icmp .gt n => if -32768 ≤ n ∧ n ≤ 32767 then some [163, am_n2h n, am_n2l n] else none
  | .if_icmp .le n => if -32768 ≤ n ∧ n ≤ 32767 then some [164, am_n2h n, am_n2l n] else none
  | .goto n => if -32768 ≤ n ∧ n ≤ 32767 then some [167, am_n2h n, am_n2l n] else none
  | .ifnull n => if -32768 ≤ n ∧ n ≤ 32767 then some [198, am_n2h n, am_n2l n] else none
  | .ifnonnull n => if -32768 ≤ n ∧ n ≤ 32767 then some [199, am_n2h n, am_n2l n] else none
  | .sipush n => if -32768 ≤ n ∧ n ≤ 32767 then some [17, am_n2h n, am_n2l n] else none
  | .bipush n => if -128 ≤ n ∧ n ≤ 127 then some [16, am_n1 n] else none
  | .iinc i n => if -128 ≤ n ∧ n ≤ 127 then some [132, i, am_n1 n] else none
  | .newarray .char => some [188, 5]
  | .newarray .int => some [188, 10]
  | .newarray .long => some [188, 11]
  | _ => none
set_option maxRecDepth 20000 in
theorem oe_0 {code : ByteArray} {pc : Nat} (h : ∀ k x, ([2] : List Nat)[k]? = some x → am_by code (pc + k) = some x) : decode code pc = .ok (.iconst (-1), 1) := am_dec ((am_bind (am_u1 (h 0 _ rfl))).trans rfl)
set_option maxRecDepth 20000 in
theorem oe_1 {code : ByteArray} {pc : Nat} (h : ∀ k x, ([3] : List Nat)[k]? = some x → am_by code (pc + k) = some x) : decode code pc = .ok (.iconst 0, 1) := am_dec ((am_bind (am_u1 (h 0 _ rfl))).trans rfl)
set_option maxRecDepth 20000 in
theorem oe_2 {code : ByteArray} {pc : Nat} (h : ∀ k x, ([4] : List Nat)[k]? = some x → am_by code (pc + k) = some x) : decode code pc = .ok (.iconst 1, 1) := am_dec ((am_bind (am_u1 (h 0 _ rfl))).trans rfl)
set_option maxRecDepth 20000 in
theorem oe_3 {code : ByteArray} {pc : Nat} (h : ∀ k x, ([5] : List Nat)[k]? = some x → am_by code (pc + k) = some x) : decode code pc = .ok (.iconst 2, 1) := am_dec ((am_bind (am_u1 (h 0 _ rfl))).trans rfl)
set_option maxRecDepth 20000 in
theorem oe_4 {code : ByteArray} {pc : Nat} (h : ∀ k x, ([6] : List Nat)[k]? = some x → am_by code (pc + k) = some x) : decode code pc = .ok (.iconst 3, 1) := am_dec ((am_bind (am_u1 (h 0 _ rfl))).trans rfl)
set_option maxRecDepth 20000 in
theorem oe_5 {code : ByteArray} {pc : Nat} (h : ∀ k x, ([7] : List Nat)[k]? = some x → am_by code (pc + k) = some x) : decode code pc = .ok (.iconst 4, 1) := am_dec ((am_bind (am_u1 (h 0 _ rfl))).trans rfl)
set_option maxRecDepth 20000 in
theorem oe_6 {code : ByteArray} {pc : Nat} (h : ∀ k x, ([8] : List Nat)[k]? = some x → am_by code (pc + k) = some x) : decode code pc = .ok (.iconst 5, 1) := am_dec ((am_bind (am_u1 (h 0 _ rfl))).trans rfl)
set_option maxRecDepth 20000 in
theorem oe_7 {code : ByteArray} {pc : Nat} (h : ∀ k x, ([9] : List Nat)[k]? = some x → am_by code (pc + k) = some x) : decode code pc = .ok (.lconst 0, 1) := am_dec ((am_bind (am_u1 (h 0 _ rfl))).trans rfl)
set_option maxRecDepth 20000 in
theorem oe_8 {code : ByteArray} {pc : Nat} (h : ∀ k x, ([10] : List Nat)[k]? = some x → am_by code (pc + k) = some x) : decode code pc = .ok (.lconst 1, 1) := am_dec ((am_bind (am_u1 (h 0 _ rfl))).trans rfl)
set_option maxRecDepth 20000 in
theorem oe_9 {code : ByteArray} {pc : Nat} (h : ∀ k x, ([26] : List Nat)[k]? = some x → am_by code (pc + k) = some x) : decode code pc = .ok (.iload_n 0, 1) := am_dec ((am_bind (am_u1 (h 0 _ rfl))).trans rfl)
set_option maxRecDepth 20000 in
theorem oe_10 {code : ByteArray} {pc : Nat} (h : ∀ k x, ([27] : List Nat)[k]? = some x → am_by code (pc + k) = some x) : decode code pc = .ok (.iload_n 1, 1) := am_dec ((am_bind (am_u1 (h 0 _ rfl))).trans rfl)
set_option maxRecDepth 20000 in
theorem oe_11 {code : ByteArray} {pc : Nat} (h : ∀ k x, ([28] : List Nat)[k]? = some x → am_by code (pc + k) = some x) : decode code pc = .ok (.iload_n 2, 1) := am_dec ((am_bind (am_u1 (h 0 _ rfl))).trans rfl)
set_option maxRecDepth 20000 in
theorem oe_12 {code : ByteArray} {pc : Nat} (h : ∀ k x, ([29] : List Nat)[k]? = some x → am_by code (pc + k) = some x) : decode code pc = .ok (.iload_n 3, 1) := am_dec ((am_bind (am_u1 (h 0 _ rfl))).trans rfl)
set_option maxRecDepth 20000 in
theorem oe_13 {code : ByteArray} {pc : Nat} (h : ∀ k x, ([30] : List Nat)[k]? = some x → am_by code (pc + k) = some x) : decode code pc = .ok (.lload_n 0, 1) := am_dec ((am_bind (am_u1 (h 0 _ rfl))).trans rfl)
set_option maxRecDepth 20000 in
theorem oe_14 {code : ByteArray} {pc : Nat} (h : ∀ k x, ([31] : List Nat)[k]? = some x → am_by code (pc + k) = some x) : decode code pc = .ok (.lload_n 1, 1) := am_dec ((am_bind (am_u1 (h 0 _ rfl))).trans rfl)
set_option maxRecDepth 20000 in
theorem oe_15 {code : ByteArray} {pc : Nat} (h : ∀ k x, ([32] : List Nat)[k]? = some x → am_by code (pc + k) = some x) : decode code pc = .ok (.lload_n 2, 1) := am_dec ((am_bind (am_u1 (h 0 _ rfl))).trans rfl)
set_option maxRecDepth 20000 in
theorem oe_16 {code : ByteArray} {pc : Nat} (h : ∀ k x, ([33] : List Nat)[k]? = some x → am_by code (pc + k) = some x) : decode code pc = .ok (.lload_n 3, 1) := am_dec ((am_bind (am_u1 (h 0 _ rfl))).trans rfl)
set_option maxRecDepth 20000 in
theorem oe_17 {code : ByteArray} {pc : Nat} (h : ∀ k x, ([42] : List Nat)[k]? = some x → am_by code (pc + k) = some x) : decode code pc = .ok (.aload_n 0, 1) := am_dec ((am_bind (am_u1 (h 0 _ rfl))).trans rfl)
set_option maxRecDepth 20000 in
theorem oe_18 {code : ByteArray} {pc : Nat} (h : ∀ k x, ([43] : List Nat)[k]? = some x → am_by code (pc + k) = some x) : decode code pc = .ok (.aload_n 1, 1) := am_dec ((am_bind (am_u1 (h 0 _ rfl))).trans rfl)
set_option maxRecDepth 20000 in
theorem oe_19 {code : ByteArray} {pc : Nat} (h : ∀ k x, ([44] : List Nat)[k]? = some x → am_by code (pc + k) = some x) : decode code pc = .ok (.aload_n 2, 1) := am_dec ((am_bind (am_u1 (h 0 _ rfl))).trans rfl)
set_option maxRecDepth 20000 in
theorem oe_20 {code : ByteArray} {pc : Nat} (h : ∀ k x, ([45] : List Nat)[k]? = some x → am_by code (pc + k) = some x) : decode code pc = .ok (.aload_n 3, 1) := am_dec ((am_bind (am_u1 (h 0 _ rfl))).trans rfl)
set_option maxRecDepth 20000 in
theorem oe_21 {code : ByteArray} {pc : Nat} (h : ∀ k x, ([59] : List Nat)[k]? = some x → am_by code (pc + k) = some x) : decode code pc = .ok (.istore_n 0, 1) := am_dec ((am_bind (am_u1 (h 0 _ rfl))).trans rfl)
set_option maxRecDepth 20000 in
theorem oe_22 {code : ByteArray} {pc : Nat} (h : ∀ k x, ([60] : List Nat)[k]? = some x → am_by code (pc + k) = some x) : decode code pc = .ok (.istore_n 1, 1) := am_dec ((am_bind (am_u1 (h 0 _ rfl))).trans rfl)
set_option maxRecDepth 20000 in
theorem oe_23 {code : ByteArray} {pc : Nat} (h : ∀ k x, ([61] : List Nat)[k]? = some x → am_by code (pc + k) = some x) : decode code pc = .ok (.istore_n 2, 1) := am_dec ((am_bind (am_u1 (h 0 _ rfl))).trans rfl)
set_option maxRecDepth 20000 in
theorem oe_24 {code : ByteArray} {pc : Nat} (h : ∀ k x, ([62] : List Nat)[k]? = some x → am_by code (pc + k) = some x) : decode code pc = .ok (.istore_n 3, 1) := am_dec ((am_bind (am_u1 (h 0 _ rfl))).trans rfl)
set_option maxRecDepth 20000 in
theorem oe_25 {code : ByteArray} {pc : Nat} (h : ∀ k x, ([63] : List Nat)[k]? = some x → am_by code (pc + k) = some x) : decode code pc = .ok (.lstore_n 0, 1) := am_dec ((am_bind (am_u1 (h 0 _ rfl))).trans rfl)
set_option maxRecDepth 20000 in
theorem oe_26 {code : ByteArray} {pc : Nat} (h : ∀ k x, ([64] : List Nat)[k]? = some x → am_by code (pc + k) = some x) : decode code pc = .ok (.lstore_n 1, 1) := am_dec ((am_bind (am_u1 (h 0 _ rfl))).trans rfl)
set_option maxRecDepth 20000 in
theorem oe_27 {code : ByteArray} {pc : Nat} (h : ∀ k x, ([65] : List Nat)[k]? = some x → am_by code (pc + k) = some x) : decode code pc = .ok (.lstore_n 2, 1) := am_dec ((am_bind (am_u1 (h 0 _ rfl))).trans rfl)
set_option maxRecDepth 20000 in
theorem oe_28 {code : ByteArray} {pc : Nat} (h : ∀ k x, ([66] : List Nat)[k]? = some x → am_by code (pc + k) = some x) : decode code pc = .ok (.lstore_n 3, 1) := am_dec ((am_bind (am_u1 (h 0 _ rfl))).trans rfl)
set_option maxRecDepth 20000 in
theorem oe_29 {code : ByteArray} {pc : Nat} (h : ∀ k x, ([75] : List Nat)[k]? = some x → am_by code (pc + k) = some x) : decode code pc = .ok (.astore_n 0, 1) := am_dec ((am_bind (am_u1 (h 0 _ rfl))).trans rfl)
set_option maxRecDepth 20000 in
theorem oe_30 {code : ByteArray} {pc : Nat} (h : ∀ k x, ([76] : List Nat)[k]? = some x → am_by code (pc + k) = some x) : decode code pc = .ok (.astore_n 1, 1) := am_dec ((am_bind (am_u1 (h 0 _ rfl))).trans rfl)
set_option maxRecDepth 20000 in
theorem oe_31 {code : ByteArray} {pc : Nat} (h : ∀ k x, ([77] : List Nat)[k]? = some x → am_by code (pc + k) = some x) : decode code pc = .ok (.astore_n 2, 1) := am_dec ((am_bind (am_u1 (h 0 _ rfl))).trans rfl)
set_option maxRecDepth 20000 in
theorem oe_32 {code : ByteArray} {pc : Nat} (h : ∀ k x, ([78] : List Nat)[k]? = some x → am_by code (pc + k) = some x) : decode code pc = .ok (.astore_n 3, 1) := am_dec ((am_bind (am_u1 (h 0 _ rfl))).trans rfl)
set_option maxRecDepth 20000 in
theorem oe_33 {code : ByteArray} {pc : Nat} (h : ∀ k x, ([46] : List Nat)[k]? = some x → am_by code (pc + k) = some x) : decode code pc = .ok (.iaload, 1) := am_dec ((am_bind (am_u1 (h 0 _ rfl))).trans rfl)
set_option maxRecDepth 20000 in
theorem oe_34 {code : ByteArray} {pc : Nat} (h : ∀ k x, ([47] : List Nat)[k]? = some x → am_by code (pc + k) = some x) : decode code pc = .ok (.laload, 1) := am_dec ((am_bind (am_u1 (h 0 _ rfl))).trans rfl)
set_option maxRecDepth 20000 in
theorem oe_35 {code : ByteArray} {pc : Nat} (h : ∀ k x, ([50] : List Nat)[k]? = some x → am_by code (pc + k) = some x) : decode code pc = .ok (.aaload, 1) := am_dec ((am_bind (am_u1 (h 0 _ rfl))).trans rfl)
set_option maxRecDepth 20000 in
theorem oe_36 {code : ByteArray} {pc : Nat} (h : ∀ k x, ([51] : List Nat)[k]? = some x → am_by code (pc + k) = some x) : decode code pc = .ok (.baload, 1) := am_dec ((am_bind (am_u1 (h 0 _ rfl))).trans rfl)
set_option maxRecDepth 20000 in
theorem oe_37 {code : ByteArray} {pc : Nat} (h : ∀ k x, ([52] : List Nat)[k]? = some x → am_by code (pc + k) = some x) : decode code pc = .ok (.caload, 1) := am_dec ((am_bind (am_u1 (h 0 _ rfl))).trans rfl)
set_option maxRecDepth 20000 in
theorem oe_38 {code : ByteArray} {pc : Nat} (h : ∀ k x, ([79] : List Nat)[k]? = some x → am_by code (pc + k) = some x) : decode code pc = .ok (.iastore, 1) := am_dec ((am_bind (am_u1 (h 0 _ rfl))).trans rfl)
set_option maxRecDepth 20000 in
theorem oe_39 {code : ByteArray} {pc : Nat} (h : ∀ k x, ([80] : List Nat)[k]? = some x → am_by code (pc + k) = some x) : decode code pc = .ok (.lastore, 1) := am_dec ((am_bind (am_u1 (h 0 _ rfl))).trans rfl)
set_option maxRecDepth 20000 in
theorem oe_40 {code : ByteArray} {pc : Nat} (h : ∀ k x, ([83] : List Nat)[k]? = some x → am_by code (pc + k) = some x) : decode code pc = .ok (.aastore, 1) := am_dec ((am_bind (am_u1 (h 0 _ rfl))).trans rfl)
set_option maxRecDepth 20000 in
theorem oe_41 {code : ByteArray} {pc : Nat} (h : ∀ k x, ([85] : List Nat)[k]? = some x → am_by code (pc + k) = some x) : decode code pc = .ok (.castore, 1) := am_dec ((am_bind (am_u1 (h 0 _ rfl))).trans rfl)
set_option maxRecDepth 20000 in
theorem oe_42 {code : ByteArray} {pc : Nat} (h : ∀ k x, ([87] : List Nat)[k]? = some x → am_by code (pc + k) = some x) : decode code pc = .ok (.pop, 1) := am_dec ((am_bind (am_u1 (h 0 _ rfl))).trans rfl)
set_option maxRecDepth 20000 in
theorem oe_43 {code : ByteArray} {pc : Nat} (h : ∀ k x, ([89] : List Nat)[k]? = some x → am_by code (pc + k) = some x) : decode code pc = .ok (.dup, 1) := am_dec ((am_bind (am_u1 (h 0 _ rfl))).trans rfl)
set_option maxRecDepth 20000 in
theorem oe_44 {code : ByteArray} {pc : Nat} (h : ∀ k x, ([92] : List Nat)[k]? = some x → am_by code (pc + k) = some x) : decode code pc = .ok (.dup2, 1) := am_dec ((am_bind (am_u1 (h 0 _ rfl))).trans rfl)
set_option maxRecDepth 20000 in
theorem oe_45 {code : ByteArray} {pc : Nat} (h : ∀ k x, ([96] : List Nat)[k]? = some x → am_by code (pc + k) = some x) : decode code pc = .ok (.iadd, 1) := am_dec ((am_bind (am_u1 (h 0 _ rfl))).trans rfl)
set_option maxRecDepth 20000 in
theorem oe_46 {code : ByteArray} {pc : Nat} (h : ∀ k x, ([97] : List Nat)[k]? = some x → am_by code (pc + k) = some x) : decode code pc = .ok (.ladd, 1) := am_dec ((am_bind (am_u1 (h 0 _ rfl))).trans rfl)
set_option maxRecDepth 20000 in
theorem oe_47 {code : ByteArray} {pc : Nat} (h : ∀ k x, ([100] : List Nat)[k]? = some x → am_by code (pc + k) = some x) : decode code pc = .ok (.isub, 1) := am_dec ((am_bind (am_u1 (h 0 _ rfl))).trans rfl)
set_option maxRecDepth 20000 in
theorem oe_48 {code : ByteArray} {pc : Nat} (h : ∀ k x, ([101] : List Nat)[k]? = some x → am_by code (pc + k) = some x) : decode code pc = .ok (.lsub, 1) := am_dec ((am_bind (am_u1 (h 0 _ rfl))).trans rfl)
set_option maxRecDepth 20000 in
theorem oe_49 {code : ByteArray} {pc : Nat} (h : ∀ k x, ([104] : List Nat)[k]? = some x → am_by code (pc + k) = some x) : decode code pc = .ok (.imul, 1) := am_dec ((am_bind (am_u1 (h 0 _ rfl))).trans rfl)
set_option maxRecDepth 20000 in
theorem oe_50 {code : ByteArray} {pc : Nat} (h : ∀ k x, ([105] : List Nat)[k]? = some x → am_by code (pc + k) = some x) : decode code pc = .ok (.lmul, 1) := am_dec ((am_bind (am_u1 (h 0 _ rfl))).trans rfl)
set_option maxRecDepth 20000 in
theorem oe_51 {code : ByteArray} {pc : Nat} (h : ∀ k x, ([108] : List Nat)[k]? = some x → am_by code (pc + k) = some x) : decode code pc = .ok (.idiv, 1) := am_dec ((am_bind (am_u1 (h 0 _ rfl))).trans rfl)
set_option maxRecDepth 20000 in
theorem oe_52 {code : ByteArray} {pc : Nat} (h : ∀ k x, ([109] : List Nat)[k]? = some x → am_by code (pc + k) = some x) : decode code pc = .ok (.ldiv, 1) := am_dec ((am_bind (am_u1 (h 0 _ rfl))).trans rfl)
set_option maxRecDepth 20000 in
theorem oe_53 {code : ByteArray} {pc : Nat} (h : ∀ k x, ([112] : List Nat)[k]? = some x → am_by code (pc + k) = some x) : decode code pc = .ok (.irem, 1) := am_dec ((am_bind (am_u1 (h 0 _ rfl))).trans rfl)
set_option maxRecDepth 20000 in
theorem oe_54 {code : ByteArray} {pc : Nat} (h : ∀ k x, ([113] : List Nat)[k]? = some x → am_by code (pc + k) = some x) : decode code pc = .ok (.lrem, 1) := am_dec ((am_bind (am_u1 (h 0 _ rfl))).trans rfl)
set_option maxRecDepth 20000 in
theorem oe_55 {code : ByteArray} {pc : Nat} (h : ∀ k x, ([116] : List Nat)[k]? = some x → am_by code (pc + k) = some x) : decode code pc = .ok (.ineg, 1) := am_dec ((am_bind (am_u1 (h 0 _ rfl))).trans rfl)
set_option maxRecDepth 20000 in
theorem oe_56 {code : ByteArray} {pc : Nat} (h : ∀ k x, ([120] : List Nat)[k]? = some x → am_by code (pc + k) = some x) : decode code pc = .ok (.ishl, 1) := am_dec ((am_bind (am_u1 (h 0 _ rfl))).trans rfl)
set_option maxRecDepth 20000 in
theorem oe_57 {code : ByteArray} {pc : Nat} (h : ∀ k x, ([121] : List Nat)[k]? = some x → am_by code (pc + k) = some x) : decode code pc = .ok (.lshl, 1) := am_dec ((am_bind (am_u1 (h 0 _ rfl))).trans rfl)
set_option maxRecDepth 20000 in
theorem oe_58 {code : ByteArray} {pc : Nat} (h : ∀ k x, ([122] : List Nat)[k]? = some x → am_by code (pc + k) = some x) : decode code pc = .ok (.ishr, 1) := am_dec ((am_bind (am_u1 (h 0 _ rfl))).trans rfl)
set_option maxRecDepth 20000 in
theorem oe_59 {code : ByteArray} {pc : Nat} (h : ∀ k x, ([123] : List Nat)[k]? = some x → am_by code (pc + k) = some x) : decode code pc = .ok (.lshr, 1) := am_dec ((am_bind (am_u1 (h 0 _ rfl))).trans rfl)
set_option maxRecDepth 20000 in
theorem oe_60 {code : ByteArray} {pc : Nat} (h : ∀ k x, ([124] : List Nat)[k]? = some x → am_by code (pc + k) = some x) : decode code pc = .ok (.iushr, 1) := am_dec ((am_bind (am_u1 (h 0 _ rfl))).trans rfl)
set_option maxRecDepth 20000 in
theorem oe_61 {code : ByteArray} {pc : Nat} (h : ∀ k x, ([126] : List Nat)[k]? = some x → am_by code (pc + k) = some x) : decode code pc = .ok (.iand, 1) := am_dec ((am_bind (am_u1 (h 0 _ rfl))).trans rfl)
set_option maxRecDepth 20000 in
theorem oe_62 {code : ByteArray} {pc : Nat} (h : ∀ k x, ([127] : List Nat)[k]? = some x → am_by code (pc + k) = some x) : decode code pc = .ok (.land, 1) := am_dec ((am_bind (am_u1 (h 0 _ rfl))).trans rfl)
set_option maxRecDepth 20000 in
theorem oe_63 {code : ByteArray} {pc : Nat} (h : ∀ k x, ([128] : List Nat)[k]? = some x → am_by code (pc + k) = some x) : decode code pc = .ok (.ior, 1) := am_dec ((am_bind (am_u1 (h 0 _ rfl))).trans rfl)
set_option maxRecDepth 20000 in
theorem oe_64 {code : ByteArray} {pc : Nat} (h : ∀ k x, ([129] : List Nat)[k]? = some x → am_by code (pc + k) = some x) : decode code pc = .ok (.lor, 1) := am_dec ((am_bind (am_u1 (h 0 _ rfl))).trans rfl)
set_option maxRecDepth 20000 in
theorem oe_65 {code : ByteArray} {pc : Nat} (h : ∀ k x, ([130] : List Nat)[k]? = some x → am_by code (pc + k) = some x) : decode code pc = .ok (.ixor, 1) := am_dec ((am_bind (am_u1 (h 0 _ rfl))).trans rfl)
set_option maxRecDepth 20000 in
theorem oe_66 {code : ByteArray} {pc : Nat} (h : ∀ k x, ([133] : List Nat)[k]? = some x → am_by code (pc + k) = some x) : decode code pc = .ok (.i2l, 1) := am_dec ((am_bind (am_u1 (h 0 _ rfl))).trans rfl)
set_option maxRecDepth 20000 in
theorem oe_67 {code : ByteArray} {pc : Nat} (h : ∀ k x, ([136] : List Nat)[k]? = some x → am_by code (pc + k) = some x) : decode code pc = .ok (.l2i, 1) := am_dec ((am_bind (am_u1 (h 0 _ rfl))).trans rfl)
set_option maxRecDepth 20000 in
theorem oe_68 {code : ByteArray} {pc : Nat} (h : ∀ k x, ([145] : List Nat)[k]? = some x → am_by code (pc + k) = some x) : decode code pc = .ok (.i2b, 1) := am_dec ((am_bind (am_u1 (h 0 _ rfl))).trans rfl)
set_option maxRecDepth 20000 in
theorem oe_69 {code : ByteArray} {pc : Nat} (h : ∀ k x, ([146] : List Nat)[k]? = some x → am_by code (pc + k) = some x) : decode code pc = .ok (.i2c, 1) := am_dec ((am_bind (am_u1 (h 0 _ rfl))).trans rfl)
set_option maxRecDepth 20000 in
theorem oe_70 {code : ByteArray} {pc : Nat} (h : ∀ k x, ([148] : List Nat)[k]? = some x → am_by code (pc + k) = some x) : decode code pc = .ok (.lcmp, 1) := am_dec ((am_bind (am_u1 (h 0 _ rfl))).trans rfl)
set_option maxRecDepth 20000 in
theorem oe_71 {code : ByteArray} {pc : Nat} (h : ∀ k x, ([172] : List Nat)[k]? = some x → am_by code (pc + k) = some x) : decode code pc = .ok (.ireturn, 1) := am_dec ((am_bind (am_u1 (h 0 _ rfl))).trans rfl)
set_option maxRecDepth 20000 in
theorem oe_72 {code : ByteArray} {pc : Nat} (h : ∀ k x, ([173] : List Nat)[k]? = some x → am_by code (pc + k) = some x) : decode code pc = .ok (.lreturn, 1) := am_dec ((am_bind (am_u1 (h 0 _ rfl))).trans rfl)
set_option maxRecDepth 20000 in
theorem oe_73 {code : ByteArray} {pc : Nat} (h : ∀ k x, ([176] : List Nat)[k]? = some x → am_by code (pc + k) = some x) : decode code pc = .ok (.areturn, 1) := am_dec ((am_bind (am_u1 (h 0 _ rfl))).trans rfl)
set_option maxRecDepth 20000 in
theorem oe_74 {code : ByteArray} {pc : Nat} (h : ∀ k x, ([177] : List Nat)[k]? = some x → am_by code (pc + k) = some x) : decode code pc = .ok (.return_, 1) := am_dec ((am_bind (am_u1 (h 0 _ rfl))).trans rfl)
set_option maxRecDepth 20000 in
theorem oe_75 {code : ByteArray} {pc : Nat} (h : ∀ k x, ([190] : List Nat)[k]? = some x → am_by code (pc + k) = some x) : decode code pc = .ok (.arraylength, 1) := am_dec ((am_bind (am_u1 (h 0 _ rfl))).trans rfl)
set_option maxRecDepth 20000 in
theorem oe_76 {code : ByteArray} {pc : Nat} (h : ∀ k x, ([1] : List Nat)[k]? = some x → am_by code (pc + k) = some x) : decode code pc = .ok (.aconst_null, 1) := am_dec ((am_bind (am_u1 (h 0 _ rfl))).trans rfl)
set_option maxRecDepth 20000 in
theorem oe_77 {code : ByteArray} {pc : Nat} (h : ∀ k x, ([88] : List Nat)[k]? = some x → am_by code (pc + k) = some x) : decode code pc = .ok (.pop2, 1) := am_dec ((am_bind (am_u1 (h 0 _ rfl))).trans rfl)
set_option maxRecDepth 20000 in
theorem oe_78 {code : ByteArray} {pc : Nat} {i : Nat} (h : ∀ k x, ([18, i] : List Nat)[k]? = some x → am_by code (pc + k) = some x) : decode code pc = .ok (.ldc i, 2) := am_dec ((am_bind (am_u1 (h 0 _ rfl))).trans (am_bind (g := fun i => Pure.pure (Instr.ldc i)) (am_u1 (h 1 _ rfl))))
set_option maxRecDepth 20000 in
theorem oe_79 {code : ByteArray} {pc : Nat} {i : Nat} (h : ∀ k x, ([21, i] : List Nat)[k]? = some x → am_by code (pc + k) = some x) : decode code pc = .ok (.iload i, 2) := am_dec ((am_bind (am_u1 (h 0 _ rfl))).trans (am_bind (g := fun i => Pure.pure (Instr.iload i)) (am_u1 (h 1 _ rfl))))
set_option maxRecDepth 20000 in
theorem oe_80 {code : ByteArray} {pc : Nat} {i : Nat} (h : ∀ k x, ([22, i] : List Nat)[k]? = some x → am_by code (pc + k) = some x) : decode code pc = .ok (.lload i, 2) := am_dec ((am_bind (am_u1 (h 0 _ rfl))).trans (am_bind (g := fun i => Pure.pure (Instr.lload i)) (am_u1 (h 1 _ rfl))))
set_option maxRecDepth 20000 in
theorem oe_81 {code : ByteArray} {pc : Nat} {i : Nat} (h : ∀ k x, ([25, i] : List Nat)[k]? = some x → am_by code (pc + k) = some x) : decode code pc = .ok (.aload i, 2) := am_dec ((am_bind (am_u1 (h 0 _ rfl))).trans (am_bind (g := fun i => Pure.pure (Instr.aload i)) (am_u1 (h 1 _ rfl))))
set_option maxRecDepth 20000 in
theorem oe_82 {code : ByteArray} {pc : Nat} {i : Nat} (h : ∀ k x, ([54, i] : List Nat)[k]? = some x → am_by code (pc + k) = some x) : decode code pc = .ok (.istore i, 2) := am_dec ((am_bind (am_u1 (h 0 _ rfl))).trans (am_bind (g := fun i => Pure.pure (Instr.istore i)) (am_u1 (h 1 _ rfl))))
set_option maxRecDepth 20000 in
theorem oe_83 {code : ByteArray} {pc : Nat} {i : Nat} (h : ∀ k x, ([55, i] : List Nat)[k]? = some x → am_by code (pc + k) = some x) : decode code pc = .ok (.lstore i, 2) := am_dec ((am_bind (am_u1 (h 0 _ rfl))).trans (am_bind (g := fun i => Pure.pure (Instr.lstore i)) (am_u1 (h 1 _ rfl))))
set_option maxRecDepth 20000 in
theorem oe_84 {code : ByteArray} {pc : Nat} {i : Nat} (h : ∀ k x, ([58, i] : List Nat)[k]? = some x → am_by code (pc + k) = some x) : decode code pc = .ok (.astore i, 2) := am_dec ((am_bind (am_u1 (h 0 _ rfl))).trans (am_bind (g := fun i => Pure.pure (Instr.astore i)) (am_u1 (h 1 _ rfl))))
set_option maxRecDepth 20000 in
theorem oe_85 {code : ByteArray} {pc : Nat} {i : Nat} (h : ∀ k x, ([19, i / 256, i % 256] : List Nat)[k]? = some x → am_by code (pc + k) = some x) : decode code pc = .ok (.ldc_w i, 3) := by
  have e : i / 256 * 256 + i % 256 = i := by omega
  have h9 : decode code pc = .ok (.ldc_w (i / 256 * 256 + i % 256), 3) := am_dec ((am_bind (am_u1 (h 0 _ rfl))).trans (am_bind (g := fun i => Pure.pure (Instr.ldc_w i)) (am_u2 (h 1 _ rfl) (h 2 _ rfl))))
  rw [e] at h9
  exact h9
set_option maxRecDepth 20000 in
theorem oe_86 {code : ByteArray} {pc : Nat} {i : Nat} (h : ∀ k x, ([20, i / 256, i % 256] : List Nat)[k]? = some x → am_by code (pc + k) = some x) : decode code pc = .ok (.ldc2_w i, 3) := by
  have e : i / 256 * 256 + i % 256 = i := by omega
  have h9 : decode code pc = .ok (.ldc2_w (i / 256 * 256 + i % 256), 3) := am_dec ((am_bind (am_u1 (h 0 _ rfl))).trans (am_bind (g := fun i => Pure.pure (Instr.ldc2_w i)) (am_u2 (h 1 _ rfl) (h 2 _ rfl))))
  rw [e] at h9
  exact h9
set_option maxRecDepth 20000 in
theorem oe_87 {code : ByteArray} {pc : Nat} {i : Nat} (h : ∀ k x, ([178, i / 256, i % 256] : List Nat)[k]? = some x → am_by code (pc + k) = some x) : decode code pc = .ok (.getstatic i, 3) := by
  have e : i / 256 * 256 + i % 256 = i := by omega
  have h9 : decode code pc = .ok (.getstatic (i / 256 * 256 + i % 256), 3) := am_dec ((am_bind (am_u1 (h 0 _ rfl))).trans (am_bind (g := fun i => Pure.pure (Instr.getstatic i)) (am_u2 (h 1 _ rfl) (h 2 _ rfl))))
  rw [e] at h9
  exact h9
set_option maxRecDepth 20000 in
theorem oe_88 {code : ByteArray} {pc : Nat} {i : Nat} (h : ∀ k x, ([180, i / 256, i % 256] : List Nat)[k]? = some x → am_by code (pc + k) = some x) : decode code pc = .ok (.getfield i, 3) := by
  have e : i / 256 * 256 + i % 256 = i := by omega
  have h9 : decode code pc = .ok (.getfield (i / 256 * 256 + i % 256), 3) := am_dec ((am_bind (am_u1 (h 0 _ rfl))).trans (am_bind (g := fun i => Pure.pure (Instr.getfield i)) (am_u2 (h 1 _ rfl) (h 2 _ rfl))))
  rw [e] at h9
  exact h9
set_option maxRecDepth 20000 in
theorem oe_89 {code : ByteArray} {pc : Nat} {i : Nat} (h : ∀ k x, ([181, i / 256, i % 256] : List Nat)[k]? = some x → am_by code (pc + k) = some x) : decode code pc = .ok (.putfield i, 3) := by
  have e : i / 256 * 256 + i % 256 = i := by omega
  have h9 : decode code pc = .ok (.putfield (i / 256 * 256 + i % 256), 3) := am_dec ((am_bind (am_u1 (h 0 _ rfl))).trans (am_bind (g := fun i => Pure.pure (Instr.putfield i)) (am_u2 (h 1 _ rfl) (h 2 _ rfl))))
  rw [e] at h9
  exact h9
set_option maxRecDepth 20000 in
theorem oe_90 {code : ByteArray} {pc : Nat} {i : Nat} (h : ∀ k x, ([182, i / 256, i % 256] : List Nat)[k]? = some x → am_by code (pc + k) = some x) : decode code pc = .ok (.invokevirtual i, 3) := by
  have e : i / 256 * 256 + i % 256 = i := by omega
  have h9 : decode code pc = .ok (.invokevirtual (i / 256 * 256 + i % 256), 3) := am_dec ((am_bind (am_u1 (h 0 _ rfl))).trans (am_bind (g := fun i => Pure.pure (Instr.invokevirtual i)) (am_u2 (h 1 _ rfl) (h 2 _ rfl))))
  rw [e] at h9
  exact h9
set_option maxRecDepth 20000 in
theorem oe_91 {code : ByteArray} {pc : Nat} {i : Nat} (h : ∀ k x, ([183, i / 256, i % 256] : List Nat)[k]? = some x → am_by code (pc + k) = some x) : decode code pc = .ok (.invokespecial i, 3) := by
  have e : i / 256 * 256 + i % 256 = i := by omega
  have h9 : decode code pc = .ok (.invokespecial (i / 256 * 256 + i % 256), 3) := am_dec ((am_bind (am_u1 (h 0 _ rfl))).trans (am_bind (g := fun i => Pure.pure (Instr.invokespecial i)) (am_u2 (h 1 _ rfl) (h 2 _ rfl))))
  rw [e] at h9
  exact h9
set_option maxRecDepth 20000 in
theorem oe_92 {code : ByteArray} {pc : Nat} {i : Nat} (h : ∀ k x, ([184, i / 256, i % 256] : List Nat)[k]? = some x → am_by code (pc + k) = some x) : decode code pc = .ok (.invokestatic i, 3) := by
  have e : i / 256 * 256 + i % 256 = i := by omega
  have h9 : decode code pc = .ok (.invokestatic (i / 256 * 256 + i % 256), 3) := am_dec ((am_bind (am_u1 (h 0 _ rfl))).trans (am_bind (g := fun i => Pure.pure (Instr.invokestatic i)) (am_u2 (h 1 _ rfl) (h 2 _ rfl))))
  rw [e] at h9
  exact h9
set_option maxRecDepth 20000 in
theorem oe_93 {code : ByteArray} {pc : Nat} {i : Nat} (h : ∀ k x, ([187, i / 256, i % 256] : List Nat)[k]? = some x → am_by code (pc + k) = some x) : decode code pc = .ok (.new i, 3) := by
  have e : i / 256 * 256 + i % 256 = i := by omega
  have h9 : decode code pc = .ok (.new (i / 256 * 256 + i % 256), 3) := am_dec ((am_bind (am_u1 (h 0 _ rfl))).trans (am_bind (g := fun i => Pure.pure (Instr.new i)) (am_u2 (h 1 _ rfl) (h 2 _ rfl))))
  rw [e] at h9
  exact h9
set_option maxRecDepth 20000 in
theorem oe_94 {code : ByteArray} {pc : Nat} {i : Nat} (h : ∀ k x, ([189, i / 256, i % 256] : List Nat)[k]? = some x → am_by code (pc + k) = some x) : decode code pc = .ok (.anewarray i, 3) := by
  have e : i / 256 * 256 + i % 256 = i := by omega
  have h9 : decode code pc = .ok (.anewarray (i / 256 * 256 + i % 256), 3) := am_dec ((am_bind (am_u1 (h 0 _ rfl))).trans (am_bind (g := fun i => Pure.pure (Instr.anewarray i)) (am_u2 (h 1 _ rfl) (h 2 _ rfl))))
  rw [e] at h9
  exact h9
set_option maxRecDepth 20000 in
theorem oe_95 {code : ByteArray} {pc : Nat} {n : Int} (hn : -32768 ≤ n ∧ n ≤ 32767) (h : ∀ k x, ([153, am_n2h n, am_n2l n] : List Nat)[k]? = some x → am_by code (pc + k) = some x) : decode code pc = .ok (.ifCond .eq n, 3) := am_dec ((am_bind (am_u1 (h 0 _ rfl))).trans (am_bind (g := fun i => Pure.pure (Instr.ifCond .eq i)) (am_s2 hn (h 1 _ rfl) (h 2 _ rfl))))
set_option maxRecDepth 20000 in
theorem oe_96 {code : ByteArray} {pc : Nat} {n : Int} (hn : -32768 ≤ n ∧ n ≤ 32767) (h : ∀ k x, ([154, am_n2h n, am_n2l n] : List Nat)[k]? = some x → am_by code (pc + k) = some x) : decode code pc = .ok (.ifCond .ne n, 3) := am_dec ((am_bind (am_u1 (h 0 _ rfl))).trans (am_bind (g := fun i => Pure.pure (Instr.ifCond .ne i)) (am_s2 hn (h 1 _ rfl) (h 2 _ rfl))))
set_option maxRecDepth 20000 in
theorem oe_97 {code : ByteArray} {pc : Nat} {n : Int} (hn : -32768 ≤ n ∧ n ≤ 32767) (h : ∀ k x, ([155, am_n2h n, am_n2l n] : List Nat)[k]? = some x → am_by code (pc + k) = some x) : decode code pc = .ok (.ifCond .lt n, 3) := am_dec ((am_bind (am_u1 (h 0 _ rfl))).trans (am_bind (g := fun i => Pure.pure (Instr.ifCond .lt i)) (am_s2 hn (h 1 _ rfl) (h 2 _ rfl))))
set_option maxRecDepth 20000 in
theorem oe_98 {code : ByteArray} {pc : Nat} {n : Int} (hn : -32768 ≤ n ∧ n ≤ 32767) (h : ∀ k x, ([156, am_n2h n, am_n2l n] : List Nat)[k]? = some x → am_by code (pc + k) = some x) : decode code pc = .ok (.ifCond .ge n, 3) := am_dec ((am_bind (am_u1 (h 0 _ rfl))).trans (am_bind (g := fun i => Pure.pure (Instr.ifCond .ge i)) (am_s2 hn (h 1 _ rfl) (h 2 _ rfl))))
set_option maxRecDepth 20000 in
theorem oe_99 {code : ByteArray} {pc : Nat} {n : Int} (hn : -32768 ≤ n ∧ n ≤ 32767) (h : ∀ k x, ([157, am_n2h n, am_n2l n] : List Nat)[k]? = some x → am_by code (pc + k) = some x) : decode code pc = .ok (.ifCond .gt n, 3) := am_dec ((am_bind (am_u1 (h 0 _ rfl))).trans (am_bind (g := fun i => Pure.pure (Instr.ifCond .gt i)) (am_s2 hn (h 1 _ rfl) (h 2 _ rfl))))
set_option maxRecDepth 20000 in
theorem oe_100 {code : ByteArray} {pc : Nat} {n : Int} (hn : -32768 ≤ n ∧ n ≤ 32767) (h : ∀ k x, ([158, am_n2h n, am_n2l n] : List Nat)[k]? = some x → am_by code (pc + k) = some x) : decode code pc = .ok (.ifCond .le n, 3) := am_dec ((am_bind (am_u1 (h 0 _ rfl))).trans (am_bind (g := fun i => Pure.pure (Instr.ifCond .le i)) (am_s2 hn (h 1 _ rfl) (h 2 _ rfl))))
set_option maxRecDepth 20000 in
theorem oe_101 {code : ByteArray} {pc : Nat} {n : Int} (hn : -32768 ≤ n ∧ n ≤ 32767) (h : ∀ k x, ([159, am_n2h n, am_n2l n] : List Nat)[k]? = some x → am_by code (pc + k) = some x) : decode code pc = .ok (.if_icmp .eq n, 3) := am_dec ((am_bind (am_u1 (h 0 _ rfl))).trans (am_bind (g := fun i => Pure.pure (Instr.if_icmp .eq i)) (am_s2 hn (h 1 _ rfl) (h 2 _ rfl))))
set_option maxRecDepth 20000 in
theorem oe_102 {code : ByteArray} {pc : Nat} {n : Int} (hn : -32768 ≤ n ∧ n ≤ 32767) (h : ∀ k x, ([160, am_n2h n, am_n2l n] : List Nat)[k]? = some x → am_by code (pc + k) = some x) : decode code pc = .ok (.if_icmp .ne n, 3) := am_dec ((am_bind (am_u1 (h 0 _ rfl))).trans (am_bind (g := fun i => Pure.pure (Instr.if_icmp .ne i)) (am_s2 hn (h 1 _ rfl) (h 2 _ rfl))))
set_option maxRecDepth 20000 in
theorem oe_103 {code : ByteArray} {pc : Nat} {n : Int} (hn : -32768 ≤ n ∧ n ≤ 32767) (h : ∀ k x, ([161, am_n2h n, am_n2l n] : List Nat)[k]? = some x → am_by code (pc + k) = some x) : decode code pc = .ok (.if_icmp .lt n, 3) := am_dec ((am_bind (am_u1 (h 0 _ rfl))).trans (am_bind (g := fun i => Pure.pure (Instr.if_icmp .lt i)) (am_s2 hn (h 1 _ rfl) (h 2 _ rfl))))
set_option maxRecDepth 20000 in
theorem oe_104 {code : ByteArray} {pc : Nat} {n : Int} (hn : -32768 ≤ n ∧ n ≤ 32767) (h : ∀ k x, ([162, am_n2h n, am_n2l n] : List Nat)[k]? = some x → am_by code (pc + k) = some x) : decode code pc = .ok (.if_icmp .ge n, 3) := am_dec ((am_bind (am_u1 (h 0 _ rfl))).trans (am_bind (g := fun i => Pure.pure (Instr.if_icmp .ge i)) (am_s2 hn (h 1 _ rfl) (h 2 _ rfl))))
set_option maxRecDepth 20000 in
theorem oe_105 {code : ByteArray} {pc : Nat} {n : Int} (hn : -32768 ≤ n ∧ n ≤ 32767) (h : ∀ k x, ([163, am_n2h n, am_n2l n] : List Nat)[k]? = some x → am_by code (pc + k) = some x) : decode code pc = .ok (.if_icmp .gt n, 3) := am_dec ((am_bind (am_u1 (h 0 _ rfl))).trans (am_bind (g := fun i => Pure.pure (Instr.if_icmp .gt i)) (am_s2 hn (h 1 _ rfl) (h 2 _ rfl))))
set_option maxRecDepth 20000 in
theorem oe_106 {code : ByteArray} {pc : Nat} {n : Int} (hn : -32768 ≤ n ∧ n ≤ 32767) (h : ∀ k x, ([164, am_n2h n, am_n2l n] : List Nat)[k]? = some x → am_by code (pc + k) = some x) : decode code pc = .ok (.if_icmp .le n, 3) := am_dec ((am_bind (am_u1 (h 0 _ rfl))).trans (am_bind (g := fun i => Pure.pure (Instr.if_icmp .le i)) (am_s2 hn (h 1 _ rfl) (h 2 _ rfl))))
set_option maxRecDepth 20000 in
theorem oe_107 {code : ByteArray} {pc : Nat} {n : Int} (hn : -32768 ≤ n ∧ n ≤ 32767) (h : ∀ k x, ([167, am_n2h n, am_n2l n] : List Nat)[k]? = some x → am_by code (pc + k) = some x) : decode code pc = .ok (.goto n, 3) := am_dec ((am_bind (am_u1 (h 0 _ rfl))).trans (am_bind (g := fun i => Pure.pure (Instr.goto i)) (am_s2 hn (h 1 _ rfl) (h 2 _ rfl))))
set_option maxRecDepth 20000 in
theorem oe_108 {code : ByteArray} {pc : Nat} {n : Int} (hn : -32768 ≤ n ∧ n ≤ 32767) (h : ∀ k x, ([198, am_n2h n, am_n2l n] : List Nat)[k]? = some x → am_by code (pc + k) = some x) : decode code pc = .ok (.ifnull n, 3) := am_dec ((am_bind (am_u1 (h 0 _ rfl))).trans (am_bind (g := fun i => Pure.pure (Instr.ifnull i)) (am_s2 hn (h 1 _ rfl) (h 2 _ rfl))))
set_option maxRecDepth 20000 in
theorem oe_109 {code : ByteArray} {pc : Nat} {n : Int} (hn : -32768 ≤ n ∧ n ≤ 32767) (h : ∀ k x, ([199, am_n2h n, am_n2l n] : List Nat)[k]? = some x → am_by code (pc + k) = some x) : decode code pc = .ok (.ifnonnull n, 3) := am_dec ((am_bind (am_u1 (h 0 _ rfl))).trans (am_bind (g := fun i => Pure.pure (Instr.ifnonnull i)) (am_s2 hn (h 1 _ rfl) (h 2 _ rfl))))
set_option maxRecDepth 20000 in
theorem oe_110 {code : ByteArray} {pc : Nat} {n : Int} (hn : -32768 ≤ n ∧ n ≤ 32767) (h : ∀ k x, ([17, am_n2h n, am_n2l n] : List Nat)[k]? = some x → am_by code (pc + k) = some x) : decode code pc = .ok (.sipush n, 3) := am_dec ((am_bind (am_u1 (h 0 _ rfl))).trans (am_bind (g := fun i => Pure.pure (Instr.sipush i)) (am_s2 hn (h 1 _ rfl) (h 2 _ rfl))))
set_option maxRecDepth 20000 in
theorem oe_111 {code : ByteArray} {pc : Nat} {n : Int} (hn : -128 ≤ n ∧ n ≤ 127) (h : ∀ k x, ([16, am_n1 n] : List Nat)[k]? = some x → am_by code (pc + k) = some x) : decode code pc = .ok (.bipush n, 2) := am_dec ((am_bind (am_u1 (h 0 _ rfl))).trans (am_bind (g := fun i => Pure.pure (Instr.bipush i)) (am_s1 hn (h 1 _ rfl))))
set_option maxRecDepth 20000 in
theorem oe_112 {code : ByteArray} {pc : Nat} {i : Nat} {n : Int} (hn : -128 ≤ n ∧ n ≤ 127) (h : ∀ k x, ([132, i, am_n1 n] : List Nat)[k]? = some x → am_by code (pc + k) = some x) : decode code pc = .ok (.iinc i n, 3) := am_dec ((am_bind (am_u1 (h 0 _ rfl))).trans ((am_bind (g := fun i => Reader.s1 >>= fun n => Pure.pure (Instr.iinc i n)) (am_u1 (h 1 _ rfl))).trans (am_bind (g := fun n => Pure.pure (Instr.iinc i n)) (am_s1 hn (h 2 _ rfl)))))
set_option maxRecDepth 20000 in
theorem oe_113 {code : ByteArray} {pc : Nat} (h : ∀ k x, ([188, 5] : List Nat)[k]? = some x → am_by code (pc + k) = some x) : decode code pc = .ok (.newarray .char, 2) := am_dec ((am_bind (am_u1 (h 0 _ rfl))).trans ((am_bind (f := Reader.u1) (am_u1 (h 1 _ rfl))).trans rfl))
set_option maxRecDepth 20000 in
theorem oe_114 {code : ByteArray} {pc : Nat} (h : ∀ k x, ([188, 10] : List Nat)[k]? = some x → am_by code (pc + k) = some x) : decode code pc = .ok (.newarray .int, 2) := am_dec ((am_bind (am_u1 (h 0 _ rfl))).trans ((am_bind (f := Reader.u1) (am_u1 (h 1 _ rfl))).trans rfl))
set_option maxRecDepth 20000 in
theorem oe_115 {code : ByteArray} {pc : Nat} (h : ∀ k x, ([188, 11] : List Nat)[k]? = some x → am_by code (pc + k) = some x) : decode code pc = .ok (.newarray .long, 2) := am_dec ((am_bind (am_u1 (h 0 _ rfl))).trans ((am_bind (f := Reader.u1) (am_u1 (h 1 _ rfl))).trans rfl))
theorem am_encS {ins : Instr} {l : List Nat} {code : ByteArray} {pc : Nat} (he : am_enc ins = some l) (h : ∀ k x, l[k]? = some x → am_by code (pc + k) = some x) : decode code pc = .ok (ins, l.length) := by
  unfold am_enc at he
  split at he
  · cases he; exact oe_0 h
  · cases he; exact oe_1 h
  · cases he; exact oe_2 h
  · cases he; exact oe_3 h
  · cases he; exact oe_4 h
  · cases he; exact oe_5 h
  · cases he; exact oe_6 h
  · cases he; exact oe_7 h
  · cases he; exact oe_8 h
  · cases he; exact oe_9 h
  · cases he; exact oe_10 h
  · cases he; exact oe_11 h
  · cases he; exact oe_12 h
  · cases he; exact oe_13 h
  · cases he; exact oe_14 h
  · cases he; exact oe_15 h
  · cases he; exact oe_16 h
  · cases he; exact oe_17 h
  · cases he; exact oe_18 h
  · cases he; exact oe_19 h
  · cases he; exact oe_20 h
  · cases he; exact oe_21 h
  · cases he; exact oe_22 h
  · cases he; exact oe_23 h
  · cases he; exact oe_24 h
  · cases he; exact oe_25 h
  · cases he; exact oe_26 h
  · cases he; exact oe_27 h
  · cases he; exact oe_28 h
  · cases he; exact oe_29 h
  · cases he; exact oe_30 h
  · cases he; exact oe_31 h
  · cases he; exact oe_32 h
  · cases he; exact oe_33 h
  · cases he; exact oe_34 h
  · cases he; exact oe_35 h
  · cases he; exact oe_36 h
  · cases he; exact oe_37 h
  · cases he; exact oe_38 h
  · cases he; exact oe_39 h
  · cases he; exact oe_40 h
  · cases he; exact oe_41 h
  · cases he; exact oe_42 h
  · cases he; exact oe_43 h
  · cases he; exact oe_44 h
  · cases he; exact oe_45 h
  · cases he; exact oe_46 h
  · cases he; exact oe_47 h
  · cases he; exact oe_48 h
  · cases he; exact oe_49 h
  · cases he; exact oe_50 h
  · cases he; exact oe_51 h
  · cases he; exact oe_52 h
  · cases he; exact oe_53 h
  · cases he; exact oe_54 h
  · cases he; exact oe_55 h
  · cases he; exact oe_56 h
  · cases he; exact oe_57 h
  · cases he; exact oe_58 h
  · cases he; exact oe_59 h
  · cases he; exact oe_60 h
  · cases he; exact oe_61 h
  · cases he; exact oe_62 h
  · cases he; exact oe_63 h
  · cases he; exact oe_64 h
  · cases he; exact oe_65 h
  · cases he; exact oe_66 h
  · cases he; exact oe_67 h
  · cases he; exact oe_68 h
  · cases he; exact oe_69 h
  · cases he; exact oe_70 h
  · cases he; exact oe_71 h
  · cases he; exact oe_72 h
  · cases he; exact oe_73 h
  · cases he; exact oe_74 h
  · cases he; exact oe_75 h
  · cases he; exact oe_76 h
  · cases he; exact oe_77 h
  · cases he; exact oe_78 h
  · cases he; exact oe_79 h
  · cases he; exact oe_80 h
  · cases he; exact oe_81 h
  · cases he; exact oe_82 h
  · cases he; exact oe_83 h
  · cases he; exact oe_84 h
  · cases he; exact oe_85 h
  · cases he; exact oe_86 h
  · cases he; exact oe_87 h
  · cases he; exact oe_88 h
  · cases he; exact oe_89 h
  · cases he; exact oe_90 h
  · cases he; exact oe_91 h
  · cases he; exact oe_92 h
  · cases he; exact oe_93 h
  · cases he; exact oe_94 h
  · split at he
    · rename_i hn; cases he; exact oe_95 hn h
    · cases he
  · split at he
    · rename_i hn; cases he; exact oe_96 hn h
    · cases he
  · split at he
    · rename_i hn; cases he; exact oe_97 hn h
    · cases he
  · split at he
    · rename_i hn; cases he; exact oe_98 hn h
    · cases he
  · split at he
    · rename_i hn; cases he; exact oe_99 hn h
    · cases he
  · split at he
    · rename_i hn; cases he; exact oe_100 hn h
    · cases he
  · split at he
    · rename_i hn; cases he; exact oe_101 hn h
    · cases he
  · split at he
    · rename_i hn; cases he; exact oe_102 hn h
    · cases he
  · split at he
    · rename_i hn; cases he; exact oe_103 hn h
    · cases he
  · split at he
    · rename_i hn; cases he; exact oe_104 hn h
    · cases he
  · split at he
    · rename_i hn; cases he; exact oe_105 hn h
    · cases he
  · split at he
    · rename_i hn; cases he; exact oe_106 hn h
    · cases he
  · split at he
    · rename_i hn; cases he; exact oe_107 hn h
    · cases he
  · split at he
    · rename_i hn; cases he; exact oe_108 hn h
    · cases he
  · split at he
    · rename_i hn; cases he; exact oe_109 hn h
    · cases he
  · split at he
    · rename_i hn; cases he; exact oe_110 hn h
    · cases he
  · split at he
    · rename_i hn; cases he; exact oe_111 hn h
    · cases he
  · split at he
    · rename_i hn; cases he; exact oe_112 hn h
    · cases he
  · cases he; exact oe_113 h
  · cases he; exact oe_114 h
  · cases he; exact oe_115 h
  · cases he
def am_bs (code : ByteArray) : List Nat := code.data.toList.map UInt8.toNat
theorem am_by_bs (code : ByteArray) (p : Nat) : am_by code p = (am_bs code)[p]? := by
  unfold am_by am_bs
  rw [List.getElem?_map, Array.getElem?_toList]
  by_cases h : p < code.size
  · rw [dif_pos h]
    have : code.data[p]? = some code[p] := by
      rw [Array.getElem?_eq_getElem (by exact h)]
      rfl
    rw [this]; rfl
  · rw [dif_neg h]
    have : code.data[p]? = none := Array.getElem?_eq_none (by have : code.size = code.data.size := rfl; omega)
    rw [this]; rfl
def am_pre : List Nat → List Nat → Option (List Nat)
  | [], b => some b
  | x :: l, y :: b => if x = y then am_pre l b else none
  | _ :: _, [] => none
theorem am_pre_ok : ∀ {l b r : List Nat}, am_pre l b = some r → b = l ++ r
  | [], b, r, h => by cases h; rfl
  | x :: l, y :: b, r, h => by
    unfold am_pre at h
    split at h
    · rename_i e; subst e; rw [am_pre_ok h]; rfl
    · cases h
  | _ :: _, [], _, h => by cases h
/-- a method's instructions, in their order: place, what it is (none: left out here), how many bytes -/
def am_okT : List Nat → Nat → List (Nat × Option Instr × Nat) → Bool
  | _, _, [] => true
  | b, p, (a, some i, n) :: t => match am_enc i with
    | some l => (a == p) && (l.length == n) && match am_pre l b with
      | some r => am_okT r (p + n) t
      | none => false
    | none => false
  | b, p, (a, none, n) :: t => (a == p) && am_okT (b.drop n) (p + n) t
theorem am_okT_at {code : ByteArray} : ∀ {tb : List (Nat × Option Instr × Nat)} {b : List Nat} {p : Nat}, am_okT b p tb = true → b = (am_bs code).drop p → ∀ (i a n : Nat) (ins : Instr), tb[i]? = some (a, some ins, n) → decode code a = .ok (ins, n)
  | [], _, _, _, _, i, a, n, ins, hi => by simp at hi
  | (a0, some i0, n0) :: t, b, p, h, hb, i, a, n, ins, hi => by
    unfold am_okT at h
    split at h
    · rename_i l hl
      simp only [Bool.and_eq_true, beq_iff_eq] at h
      obtain ⟨⟨h1, h2⟩, h3⟩ := h
      split at h3
      · rename_i r hr
        have hbr := am_pre_ok hr
        have hdrop : r = (am_bs code).drop (p + n0) := by
          rw [← List.drop_drop, ← hb, hbr, ← h2]
          simp
        cases i with
        | zero =>
          simp only [List.getElem?_cons_zero, Option.some.injEq, Prod.mk.injEq] at hi
          obtain ⟨e1, e2, e3⟩ := hi
          subst e1; subst e2; subst e3; subst h1
          rw [← h2]
          refine am_encS hl (fun k x hk => ?_)
          rw [am_by_bs, ← List.getElem?_drop, ← hb, hbr, List.getElem?_append_left (List.getElem?_eq_some_iff.mp hk).1]
          exact hk
        | succ i =>
          rw [List.getElem?_cons_succ] at hi
          exact am_okT_at h3 hdrop i a n ins hi
      · cases h3
    · cases h
  | (a0, none, n0) :: t, b, p, h, hb, i, a, n, ins, hi => by
    unfold am_okT at h
    simp only [Bool.and_eq_true, beq_iff_eq] at h
    cases i with
    | zero => simp at hi
    | succ i =>
      rw [List.getElem?_cons_succ] at hi
      exact am_okT_at h.2 (by rw [← List.drop_drop, ← hb]) i a n ins hi
theorem am_tab {code : ByteArray} {tb : List (Nat × Option Instr × Nat)} (h : am_okT (am_bs code) 0 tb = true) {a n : Nat} {ins : Instr} (i : Nat) (hi : tb[i]? = some (a, some ins, n)) : decode code a = .ok (ins, n) := am_okT_at h rfl i a n ins hi
