theorem am_all2 {α : Type} {P : α → Prop} {a : α} {l : List α} (h : P a) (h2 : ∀ x ∈ l, P x) : ∀ x ∈ a :: l, P x := List.forall_mem_cons.mpr ⟨h, h2⟩
def ao_and (x y : Int) : Int := (Int32.ofInt x &&& Int32.ofInt y).toInt
def ao_or (x y : Int) : Int := (Int32.ofInt x ||| Int32.ofInt y).toInt
def ao_xor (x y : Int) : Int := (Int32.ofInt x ^^^ Int32.ofInt y).toInt
def ao_shl (x y : Int) : Int := (Int32.ofInt x <<< (Int32.ofInt y &&& 31)).toInt
def ao_shr (x y : Int) : Int := (Int32.ofInt x >>> (Int32.ofInt y &&& 31)).toInt
def ao_ushr (x y : Int) : Int := ((Int32.ofInt x).toUInt32 >>> ((Int32.ofInt y).toUInt32 &&& Int32.toUInt32 31)).toInt32.toInt
def ao_land (x y : Int) : Int := (Int64.ofInt x &&& Int64.ofInt y).toInt
def ao_lor (x y : Int) : Int := (Int64.ofInt x ||| Int64.ofInt y).toInt
def ao_lshl (x y : Int) : Int := (Int64.ofInt x <<< ((Int32.ofInt y).toInt64 &&& 63)).toInt
def ao_lshr (x y : Int) : Int := (Int64.ofInt x >>> ((Int32.ofInt y).toInt64 &&& 63)).toInt
def ao_l2i (x : Int) : Int := (Int32.ofInt x).toInt
def ao_i2c (x : Int) : Int := (((Int32.ofInt x).toUInt32 % 65536).toInt32).toInt
def ao_cmp (x y : Int) : Int := if y < x then 1 else if x = y then 0 else -1
theorem am_r32 (x : Int32) : -2147483648 ≤ x.toInt ∧ x.toInt < 2147483648 := ⟨by have := x.le_toInt; omega, by have := x.toInt_lt; omega⟩
theorem am_r64 (x : Int64) : -9223372036854775808 ≤ x.toInt ∧ x.toInt < 9223372036854775808 := ⟨by have := x.le_toInt; omega, by have := x.toInt_lt; omega⟩
theorem am_ti {x : Int} (h : -2147483648 ≤ x ∧ x < 2147483648) : (Int32.ofInt x).toInt = x := Int32.toInt_ofInt_of_le (by omega) (by omega)
theorem am_tl {x : Int} (h : -9223372036854775808 ≤ x ∧ x < 9223372036854775808) : (Int64.ofInt x).toInt = x := Int64.toInt_ofInt_of_le (by omega) (by omega)
theorem am_ieq {x y : Int} (hx : -2147483648 ≤ x ∧ x < 2147483648) (hy : -2147483648 ≤ y ∧ y < 2147483648) : Int32.ofInt x = Int32.ofInt y ↔ x = y := by rw [← Int32.toInt_inj, am_ti hx, am_ti hy]
theorem am_ilt {x y : Int} (hx : -2147483648 ≤ x ∧ x < 2147483648) (hy : -2147483648 ≤ y ∧ y < 2147483648) : Int32.ofInt x < Int32.ofInt y ↔ x < y := by rw [Int32.lt_iff_toInt_lt, am_ti hx, am_ti hy]
theorem am_ile {x y : Int} (hx : -2147483648 ≤ x ∧ x < 2147483648) (hy : -2147483648 ≤ y ∧ y < 2147483648) : Int32.ofInt x ≤ Int32.ofInt y ↔ x ≤ y := by rw [Int32.le_iff_toInt_le, am_ti hx, am_ti hy]
theorem am_leq {x y : Int} (hx : -9223372036854775808 ≤ x ∧ x < 9223372036854775808) (hy : -9223372036854775808 ≤ y ∧ y < 9223372036854775808) : Int64.ofInt x = Int64.ofInt y ↔ x = y := by rw [← Int64.toInt_inj, am_tl hx, am_tl hy]
theorem am_llt {x y : Int} (hx : -9223372036854775808 ≤ x ∧ x < 9223372036854775808) (hy : -9223372036854775808 ≤ y ∧ y < 9223372036854775808) : Int64.ofInt x < Int64.ofInt y ↔ x < y := by rw [Int64.lt_iff_toInt_lt, am_tl hx, am_tl hy]
theorem am_z32 : (0 : Int32) = Int32.ofInt 0 := rfl
theorem am_lAt {ls : am_Ls} {lsA : Array Slot} {n i : Nat} {v : am_V} {ρ ss : Nat → Nat} (h : lv_has lsA n (am_lv ρ ss ls)) (hl : (i, v) ∈ ls) : lsA[i]? = some (.val (am_cv ρ ss v)) := h.2.2 (i, am_cv ρ ss v) (List.mem_map.mpr ⟨(i, v), hl, rfl⟩)
def am_get? : am_Ls → Nat → Option am_V
  | [], _ => none
  | (j, v) :: t, i => if j = i then some v else am_get? t i
theorem am_getM {i : Nat} {v : am_V} : ∀ {ls : am_Ls}, am_get? ls i = some v → (i, v) ∈ ls
  | [], h => by simp [am_get?] at h
  | (j, w) :: t, h => by
    unfold am_get? at h
    by_cases hj : j = i
    · rw [if_pos hj] at h; cases h; subst hj; exact List.mem_cons_self
    · rw [if_neg hj] at h; exact List.mem_cons_of_mem _ (am_getM h)
theorem am_iconst {me : am_M} {Q : Option am_V → am_H → Prop} {cells slots pc q : Nat} {ls : am_Ls} {st : List am_V} {σ : am_H} {n : Int} (hr : -2147483648 ≤ n ∧ n < 2147483648) (hd : decode me.2.2.1 pc = .ok (.iconst n, 1)) (hq : pc + 1 = q) (k : am_wp me Q cells slots q ls (am_i n :: st) σ) : am_wp me Q cells slots pc ls (st) σ := by
  intro p l e s m args below meth c base D ss n0 ρ0 C ρ H locs lsA h1 h2 h3 h4 h5 h6 h7
  subst hq
  refine lv_iconst C.1 C.2.1 hd rfl ?_
  exact k p l e s m args below meth c base D ss n0 ρ0 C ρ H locs lsA h1 h2 h3 h4 h5 h6 (am_all2 (hr) h7)
theorem am_bipush {me : am_M} {Q : Option am_V → am_H → Prop} {cells slots pc q : Nat} {ls : am_Ls} {st : List am_V} {σ : am_H} {n : Int} (hr : -2147483648 ≤ n ∧ n < 2147483648) (hv : (Int8.ofInt n).toInt32 = Int32.ofInt n) (hd : decode me.2.2.1 pc = .ok (.bipush n, 2)) (hq : pc + 2 = q) (k : am_wp me Q cells slots q ls (am_i n :: st) σ) : am_wp me Q cells slots pc ls (st) σ := by
  intro p l e s m args below meth c base D ss n0 ρ0 C ρ H locs lsA h1 h2 h3 h4 h5 h6 h7
  subst hq
  refine lv_bipush C.1 C.2.1 hd hv ?_
  exact k p l e s m args below meth c base D ss n0 ρ0 C ρ H locs lsA h1 h2 h3 h4 h5 h6 (am_all2 (hr) h7)
theorem am_sipush {me : am_M} {Q : Option am_V → am_H → Prop} {cells slots pc q : Nat} {ls : am_Ls} {st : List am_V} {σ : am_H} {n : Int} (hr : -2147483648 ≤ n ∧ n < 2147483648) (hv : (Int16.ofInt n).toInt32 = Int32.ofInt n) (hd : decode me.2.2.1 pc = .ok (.sipush n, 3)) (hq : pc + 3 = q) (k : am_wp me Q cells slots q ls (am_i n :: st) σ) : am_wp me Q cells slots pc ls (st) σ := by
  intro p l e s m args below meth c base D ss n0 ρ0 C ρ H locs lsA h1 h2 h3 h4 h5 h6 h7
  subst hq
  refine lv_sipush C.1 C.2.1 hd hv ?_
  exact k p l e s m args below meth c base D ss n0 ρ0 C ρ H locs lsA h1 h2 h3 h4 h5 h6 (am_all2 (hr) h7)
theorem am_lconst0 {me : am_M} {Q : Option am_V → am_H → Prop} {cells slots pc q : Nat} {ls : am_Ls} {st : List am_V} {σ : am_H}  (hd : decode me.2.2.1 pc = .ok (.lconst 0, 1)) (hq : pc + 1 = q) (k : am_wp me Q cells slots q ls (am_l 0 :: st) σ) : am_wp me Q cells slots pc ls (st) σ := by
  intro p l e s m args below meth c base D ss n0 ρ0 C ρ H locs lsA h1 h2 h3 h4 h5 h6 h7
  subst hq
  refine lv_lconst C.1 C.2.1 hd rfl ?_
  exact k p l e s m args below meth c base D ss n0 ρ0 C ρ H locs lsA h1 h2 h3 h4 h5 h6 (am_all2 (by first | decide | (constructor <;> omega)) h7)
theorem am_lconst1 {me : am_M} {Q : Option am_V → am_H → Prop} {cells slots pc q : Nat} {ls : am_Ls} {st : List am_V} {σ : am_H}  (hd : decode me.2.2.1 pc = .ok (.lconst 1, 1)) (hq : pc + 1 = q) (k : am_wp me Q cells slots q ls (am_l 1 :: st) σ) : am_wp me Q cells slots pc ls (st) σ := by
  intro p l e s m args below meth c base D ss n0 ρ0 C ρ H locs lsA h1 h2 h3 h4 h5 h6 h7
  subst hq
  refine lv_lconst C.1 C.2.1 hd rfl ?_
  exact k p l e s m args below meth c base D ss n0 ρ0 C ρ H locs lsA h1 h2 h3 h4 h5 h6 (am_all2 (by first | decide | (constructor <;> omega)) h7)
theorem am_ldc {me : am_M} {Q : Option am_V → am_H → Prop} {cells slots pc q : Nat} {ls : am_Ls} {st : List am_V} {σ : am_H} {i : Nat} {n : Int} (hr : -2147483648 ≤ n ∧ n < 2147483648) (hw : Cond.constant me.1 i (Int32.ofInt n) ∈ am_tb) (hd : decode me.2.2.1 pc = .ok (.ldc i, 2)) (hq : pc + 2 = q) (k : am_wp me Q cells slots q ls (am_i n :: st) σ) : am_wp me Q cells slots pc ls (st) σ := by
  intro p l e s m args below meth c base D ss n0 ρ0 C ρ H locs lsA h1 h2 h3 h4 h5 h6 h7
  subst hq
  refine lv_ldc C.1 C.2.1 C.2.2.2.2.1 (C.2.2.2.2.2.1 _ hw) hd ?_
  exact k p l e s m args below meth c base D ss n0 ρ0 C ρ H locs lsA h1 h2 h3 h4 h5 h6 (am_all2 hr h7)
theorem am_ldcw {me : am_M} {Q : Option am_V → am_H → Prop} {cells slots pc q : Nat} {ls : am_Ls} {st : List am_V} {σ : am_H} {i : Nat} {n : Int} (hr : -2147483648 ≤ n ∧ n < 2147483648) (hw : Cond.constant me.1 i (Int32.ofInt n) ∈ am_tb) (hd : decode me.2.2.1 pc = .ok (.ldc_w i, 3)) (hq : pc + 3 = q) (k : am_wp me Q cells slots q ls (am_i n :: st) σ) : am_wp me Q cells slots pc ls (st) σ := by
  intro p l e s m args below meth c base D ss n0 ρ0 C ρ H locs lsA h1 h2 h3 h4 h5 h6 h7
  subst hq
  refine lv_ldcw C.1 C.2.1 C.2.2.2.2.1 (C.2.2.2.2.2.1 _ hw) hd ?_
  exact k p l e s m args below meth c base D ss n0 ρ0 C ρ H locs lsA h1 h2 h3 h4 h5 h6 (am_all2 hr h7)
theorem am_ldc2 {me : am_M} {Q : Option am_V → am_H → Prop} {cells slots pc q : Nat} {ls : am_Ls} {st : List am_V} {σ : am_H} {i : Nat} {n : Int} (hr : -9223372036854775808 ≤ n ∧ n < 9223372036854775808) (hw : Cond.constantLong me.1 i (Int64.ofInt n) ∈ am_tb) (hd : decode me.2.2.1 pc = .ok (.ldc2_w i, 3)) (hq : pc + 3 = q) (k : am_wp me Q cells slots q ls (am_l n :: st) σ) : am_wp me Q cells slots pc ls (st) σ := by
  intro p l e s m args below meth c base D ss n0 ρ0 C ρ H locs lsA h1 h2 h3 h4 h5 h6 h7
  subst hq
  refine lv_ldc2 C.1 C.2.1 C.2.2.2.2.1 (C.2.2.2.2.2.1 _ hw) hd ?_
  exact k p l e s m args below meth c base D ss n0 ρ0 C ρ H locs lsA h1 h2 h3 h4 h5 h6 (am_all2 hr h7)
theorem am_iload {me : am_M} {Q : Option am_V → am_H → Prop} {cells slots pc q : Nat} {ls : am_Ls} {st : List am_V} {σ : am_H} {i : Nat} {x : Int} (hl : am_get? ls i = some (am_i x)) (hd : decode me.2.2.1 pc = .ok (.iload i, 2)) (hq : pc + 2 = q) (k : am_wp me Q cells slots q ls (am_i x :: st) σ) : am_wp me Q cells slots pc ls (st) σ := by
  intro p l e s m args below meth c base D ss n0 ρ0 C ρ H locs lsA h1 h2 h3 h4 h5 h6 h7
  subst hq
  refine lv_iload C.1 C.2.1 hd (am_lAt h5 (am_getM hl)) ?_
  exact k p l e s m args below meth c base D ss n0 ρ0 C ρ H locs lsA h1 h2 h3 h4 h5 h6 (am_all2 (h6 _ (am_getM hl)) h7)
theorem am_iload_n {me : am_M} {Q : Option am_V → am_H → Prop} {cells slots pc q : Nat} {ls : am_Ls} {st : List am_V} {σ : am_H} {i : Fin 4} {x : Int} (hl : am_get? ls i = some (am_i x)) (hd : decode me.2.2.1 pc = .ok (.iload_n i, 1)) (hq : pc + 1 = q) (k : am_wp me Q cells slots q ls (am_i x :: st) σ) : am_wp me Q cells slots pc ls (st) σ := by
  intro p l e s m args below meth c base D ss n0 ρ0 C ρ H locs lsA h1 h2 h3 h4 h5 h6 h7
  subst hq
  refine lv_iload_n C.1 C.2.1 hd rfl (am_lAt h5 (am_getM hl)) ?_
  exact k p l e s m args below meth c base D ss n0 ρ0 C ρ H locs lsA h1 h2 h3 h4 h5 h6 (am_all2 (h6 _ (am_getM hl)) h7)
theorem am_lload {me : am_M} {Q : Option am_V → am_H → Prop} {cells slots pc q : Nat} {ls : am_Ls} {st : List am_V} {σ : am_H} {i : Nat} {x : Int} (hl : am_get? ls i = some (am_l x)) (hd : decode me.2.2.1 pc = .ok (.lload i, 2)) (hq : pc + 2 = q) (k : am_wp me Q cells slots q ls (am_l x :: st) σ) : am_wp me Q cells slots pc ls (st) σ := by
  intro p l e s m args below meth c base D ss n0 ρ0 C ρ H locs lsA h1 h2 h3 h4 h5 h6 h7
  subst hq
  refine lv_lload C.1 C.2.1 hd (am_lAt h5 (am_getM hl)) ?_
  exact k p l e s m args below meth c base D ss n0 ρ0 C ρ H locs lsA h1 h2 h3 h4 h5 h6 (am_all2 (h6 _ (am_getM hl)) h7)
theorem am_lload_n {me : am_M} {Q : Option am_V → am_H → Prop} {cells slots pc q : Nat} {ls : am_Ls} {st : List am_V} {σ : am_H} {i : Fin 4} {x : Int} (hl : am_get? ls i = some (am_l x)) (hd : decode me.2.2.1 pc = .ok (.lload_n i, 1)) (hq : pc + 1 = q) (k : am_wp me Q cells slots q ls (am_l x :: st) σ) : am_wp me Q cells slots pc ls (st) σ := by
  intro p l e s m args below meth c base D ss n0 ρ0 C ρ H locs lsA h1 h2 h3 h4 h5 h6 h7
  subst hq
  refine lv_lload_n C.1 C.2.1 hd rfl (am_lAt h5 (am_getM hl)) ?_
  exact k p l e s m args below meth c base D ss n0 ρ0 C ρ H locs lsA h1 h2 h3 h4 h5 h6 (am_all2 (h6 _ (am_getM hl)) h7)
theorem am_aload {me : am_M} {Q : Option am_V → am_H → Prop} {cells slots pc q : Nat} {ls : am_Ls} {st : List am_V} {σ : am_H} {i : Nat} {r : Option Nat} (hl : am_get? ls i = some (am_o r)) (hd : decode me.2.2.1 pc = .ok (.aload i, 2)) (hq : pc + 2 = q) (k : am_wp me Q cells slots q ls (am_o r :: st) σ) : am_wp me Q cells slots pc ls (st) σ := by
  intro p l e s m args below meth c base D ss n0 ρ0 C ρ H locs lsA h1 h2 h3 h4 h5 h6 h7
  subst hq
  have hk := k p l e s m args below meth c base D ss n0 ρ0 C ρ H locs lsA h1 h2 h3 h4 h5 h6 (am_all2 (h6 _ (am_getM hl)) h7)
  have ha := am_lAt h5 (am_getM hl)
  rcases r with _ | a
  · exact lv_aloadN C.1 C.2.1 hd ha hk
  · exact lv_aload C.1 C.2.1 hd ha hk
theorem am_aload_n {me : am_M} {Q : Option am_V → am_H → Prop} {cells slots pc q : Nat} {ls : am_Ls} {st : List am_V} {σ : am_H} {i : Fin 4} {r : Option Nat} (hl : am_get? ls i = some (am_o r)) (hd : decode me.2.2.1 pc = .ok (.aload_n i, 1)) (hq : pc + 1 = q) (k : am_wp me Q cells slots q ls (am_o r :: st) σ) : am_wp me Q cells slots pc ls (st) σ := by
  intro p l e s m args below meth c base D ss n0 ρ0 C ρ H locs lsA h1 h2 h3 h4 h5 h6 h7
  subst hq
  have hk := k p l e s m args below meth c base D ss n0 ρ0 C ρ H locs lsA h1 h2 h3 h4 h5 h6 (am_all2 (h6 _ (am_getM hl)) h7)
  have ha := am_lAt h5 (am_getM hl)
  rcases r with _ | a
  · exact lv_aload_nN C.1 C.2.1 hd rfl ha hk
  · exact lv_aload_n C.1 C.2.1 hd rfl ha hk
def am_put (ls : am_Ls) (i : Nat) (v : am_V) : am_Ls := (i, v) :: ls.filter (fun q => !(q.1 == i) && !(q.1 + 1 == i && am_cat q.2 == 2))
def am_put2 (ls : am_Ls) (i : Nat) (v : am_V) : am_Ls := (i, v) :: ls.filter (fun q => !(q.1 == i) && (!(q.1 == i + 1) && !(q.1 + 1 == i && am_cat q.2 == 2)))
theorem am_lv_put (ρ ss : Nat → Nat) (ls : am_Ls) (i : Nat) (v : am_V) : (i, am_cv ρ ss v) :: (am_lv ρ ss ls).filter (fun q => !(q.1 == i) && !(q.1 + 1 == i && q.2.category == 2)) = am_lv ρ ss (am_put ls i v) := by
  simp only [am_lv, am_put, List.map_cons, List.filter_map]
  congr 1
  apply congrArg
  apply List.filter_congr
  intro q _
  simp [Function.comp, am_cv_cat]
theorem am_lv_put2 (ρ ss : Nat → Nat) (ls : am_Ls) (i : Nat) (v : am_V) : (i, am_cv ρ ss v) :: (am_lv ρ ss ls).filter (fun q => !(q.1 == i) && (!(q.1 == i + 1) && !(q.1 + 1 == i && q.2.category == 2))) = am_lv ρ ss (am_put2 ls i v) := by
  simp only [am_lv, am_put2, List.map_cons, List.filter_map]
  congr 1
  apply congrArg
  apply List.filter_congr
  intro q _
  simp [Function.comp, am_cv_cat]
theorem am_ok_put {n : Nat} {ls : am_Ls} {i : Nat} {v : am_V} (h : ∀ q ∈ ls, am_ok n q.2) (hv : am_ok n v) : ∀ q ∈ am_put ls i v, am_ok n q.2 := am_all2 (P := fun q : Nat × am_V => am_ok n q.2) hv (fun q hq => h q (List.mem_filter.mp hq).1)
theorem am_ok_put2 {n : Nat} {ls : am_Ls} {i : Nat} {v : am_V} (h : ∀ q ∈ ls, am_ok n q.2) (hv : am_ok n v) : ∀ q ∈ am_put2 ls i v, am_ok n q.2 := am_all2 (P := fun q : Nat × am_V => am_ok n q.2) hv (fun q hq => h q (List.mem_filter.mp hq).1)
theorem am_istore {me : am_M} {Q : Option am_V → am_H → Prop} {cells slots pc q : Nat} {ls : am_Ls} {st : List am_V} {σ : am_H} {i : Nat} {x : Int} (hn : i < me.2.2.2.1) {ls2 : am_Ls} (hls : am_put ls i (am_i x) = ls2) (hd : decode me.2.2.1 pc = .ok (.istore i, 2)) (hq : pc + 2 = q) (k : am_wp me Q cells slots q ls2 (st) σ) : am_wp me Q cells slots pc ls (am_i x :: st) σ := by
  intro p l e s m args below meth c base D ss n0 ρ0 C ρ H locs lsA h1 h2 h3 h4 h5 h6 h7
  subst hq
  subst hls
  obtain ⟨hv, g7a⟩ := List.forall_mem_cons.mp h7
  exact lv_istore C.1 C.2.1 hd h5 hn (am_lv_put ρ ss ls i (am_i x)) (fun ls2 hl2 => k p l e s m args below meth c base D ss n0 ρ0 C ρ H locs ls2 h1 h2 h3 h4 hl2 (am_ok_put h6 hv) g7a)
theorem am_istore_n {me : am_M} {Q : Option am_V → am_H → Prop} {cells slots pc q : Nat} {ls : am_Ls} {st : List am_V} {σ : am_H} {i : Fin 4} {x : Int} (hn : (i : Nat) < me.2.2.2.1) {ls2 : am_Ls} (hls : am_put ls i (am_i x) = ls2) (hd : decode me.2.2.1 pc = .ok (.istore_n i, 1)) (hq : pc + 1 = q) (k : am_wp me Q cells slots q ls2 (st) σ) : am_wp me Q cells slots pc ls (am_i x :: st) σ := by
  intro p l e s m args below meth c base D ss n0 ρ0 C ρ H locs lsA h1 h2 h3 h4 h5 h6 h7
  subst hq
  subst hls
  obtain ⟨hv, g7a⟩ := List.forall_mem_cons.mp h7
  exact lv_istore_n C.1 C.2.1 hd rfl h5 hn (am_lv_put ρ ss ls i (am_i x)) (fun ls2 hl2 => k p l e s m args below meth c base D ss n0 ρ0 C ρ H locs ls2 h1 h2 h3 h4 hl2 (am_ok_put h6 hv) g7a)
theorem am_lstore {me : am_M} {Q : Option am_V → am_H → Prop} {cells slots pc q : Nat} {ls : am_Ls} {st : List am_V} {σ : am_H} {i : Nat} {x : Int} (hn : i + 1 < me.2.2.2.1) {ls2 : am_Ls} (hls : am_put2 ls i (am_l x) = ls2) (hd : decode me.2.2.1 pc = .ok (.lstore i, 2)) (hq : pc + 2 = q) (k : am_wp me Q cells slots q ls2 (st) σ) : am_wp me Q cells slots pc ls (am_l x :: st) σ := by
  intro p l e s m args below meth c base D ss n0 ρ0 C ρ H locs lsA h1 h2 h3 h4 h5 h6 h7
  subst hq
  subst hls
  obtain ⟨hv, g7a⟩ := List.forall_mem_cons.mp h7
  exact lv_lstore C.1 C.2.1 hd h5 hn (am_lv_put2 ρ ss ls i (am_l x)) (fun ls2 hl2 => k p l e s m args below meth c base D ss n0 ρ0 C ρ H locs ls2 h1 h2 h3 h4 hl2 (am_ok_put2 h6 hv) g7a)
theorem am_lstore_n {me : am_M} {Q : Option am_V → am_H → Prop} {cells slots pc q : Nat} {ls : am_Ls} {st : List am_V} {σ : am_H} {i : Fin 4} {x : Int} (hn : (i : Nat) + 1 < me.2.2.2.1) {ls2 : am_Ls} (hls : am_put2 ls i (am_l x) = ls2) (hd : decode me.2.2.1 pc = .ok (.lstore_n i, 1)) (hq : pc + 1 = q) (k : am_wp me Q cells slots q ls2 (st) σ) : am_wp me Q cells slots pc ls (am_l x :: st) σ := by
  intro p l e s m args below meth c base D ss n0 ρ0 C ρ H locs lsA h1 h2 h3 h4 h5 h6 h7
  subst hq
  subst hls
  obtain ⟨hv, g7a⟩ := List.forall_mem_cons.mp h7
  exact lv_lstore_n C.1 C.2.1 hd rfl h5 hn (am_lv_put2 ρ ss ls i (am_l x)) (fun ls2 hl2 => k p l e s m args below meth c base D ss n0 ρ0 C ρ H locs ls2 h1 h2 h3 h4 hl2 (am_ok_put2 h6 hv) g7a)
theorem am_astore {me : am_M} {Q : Option am_V → am_H → Prop} {cells slots pc q : Nat} {ls : am_Ls} {st : List am_V} {σ : am_H} {i : Nat} {r : Option Nat} (hn : (i : Nat) < me.2.2.2.1) {ls2 : am_Ls} (hls : am_put ls i (am_o r) = ls2) (hd : decode me.2.2.1 pc = .ok (.astore i, 2)) (hq : pc + 2 = q) (k : am_wp me Q cells slots q ls2 (st) σ) : am_wp me Q cells slots pc ls (am_o r :: st) σ := by
  intro p l e s m args below meth c base D ss n0 ρ0 C ρ H locs lsA h1 h2 h3 h4 h5 h6 h7
  subst hq
  subst hls
  obtain ⟨hv, g7a⟩ := List.forall_mem_cons.mp h7
  rcases r with _ | a
  · exact lv_astoreN C.1 C.2.1 hd h5 hn (am_lv_put ρ ss ls i (am_o none)) (fun ls2 hl2 => k p l e s m args below meth c base D ss n0 ρ0 C ρ H locs ls2 h1 h2 h3 h4 hl2 (am_ok_put h6 hv) g7a)
  · exact lv_astore C.1 C.2.1 hd h5 hn (am_lv_put ρ ss ls i (am_o (some a))) (fun ls2 hl2 => k p l e s m args below meth c base D ss n0 ρ0 C ρ H locs ls2 h1 h2 h3 h4 hl2 (am_ok_put h6 hv) g7a)
theorem am_astore_n {me : am_M} {Q : Option am_V → am_H → Prop} {cells slots pc q : Nat} {ls : am_Ls} {st : List am_V} {σ : am_H} {i : Fin 4} {r : Option Nat} (hn : (i : Nat) < me.2.2.2.1) {ls2 : am_Ls} (hls : am_put ls i (am_o r) = ls2) (hd : decode me.2.2.1 pc = .ok (.astore_n i, 1)) (hq : pc + 1 = q) (k : am_wp me Q cells slots q ls2 (st) σ) : am_wp me Q cells slots pc ls (am_o r :: st) σ := by
  intro p l e s m args below meth c base D ss n0 ρ0 C ρ H locs lsA h1 h2 h3 h4 h5 h6 h7
  subst hq
  subst hls
  obtain ⟨hv, g7a⟩ := List.forall_mem_cons.mp h7
  rcases r with _ | a
  · exact lv_astore_nN C.1 C.2.1 hd rfl h5 hn (am_lv_put ρ ss ls i (am_o none)) (fun ls2 hl2 => k p l e s m args below meth c base D ss n0 ρ0 C ρ H locs ls2 h1 h2 h3 h4 hl2 (am_ok_put h6 hv) g7a)
  · exact lv_astore_n C.1 C.2.1 hd rfl h5 hn (am_lv_put ρ ss ls i (am_o (some a))) (fun ls2 hl2 => k p l e s m args below meth c base D ss n0 ρ0 C ρ H locs ls2 h1 h2 h3 h4 hl2 (am_ok_put h6 hv) g7a)
theorem am_iinc {me : am_M} {Q : Option am_V → am_H → Prop} {cells slots pc q : Nat} {ls : am_Ls} {st : List am_V} {σ : am_H} {i : Nat} {x n : Int} (hl : am_get? ls i = some (am_i x)) (hr : -2147483648 ≤ x + n ∧ x + n < 2147483648) (hn : i < me.2.2.2.1) {ls2 : am_Ls} (hls : am_put ls i (am_i (x + n)) = ls2) (hd : decode me.2.2.1 pc = .ok (.iinc i n, 3)) (hq : pc + 3 = q) (k : am_wp me Q cells slots q ls2 (st) σ) : am_wp me Q cells slots pc ls (st) σ := by
  intro p l e s m args below meth c base D ss n0 ρ0 C ρ H locs lsA h1 h2 h3 h4 h5 h6 h7
  subst hq
  subst hls
  obtain ⟨j, hj⟩ := List.getElem?_of_mem (List.mem_map.mpr ⟨(i, am_i x), am_getM hl, rfl⟩ : (i, am_cv ρ ss (am_i x)) ∈ am_lv ρ ss ls)
  exact lv_iinc C.1 C.2.1 hd h5 (k := j) hj (by rw [← Int32.ofInt_add]) hn (am_lv_put ρ ss ls i (am_i (x + n))) (fun ls2 hl2 => k p l e s m args below meth c base D ss n0 ρ0 C ρ H locs ls2 h1 h2 h3 h4 hl2 (am_ok_put h6 hr) h7)
theorem am_iadd {me : am_M} {Q : Option am_V → am_H → Prop} {cells slots pc q : Nat} {ls : am_Ls} {st : List am_V} {σ : am_H} {x y : Int} (hr : -2147483648 ≤ x + y ∧ x + y < 2147483648) (hd : decode me.2.2.1 pc = .ok (.iadd, 1)) (hq : pc + 1 = q) (k : am_wp me Q cells slots q ls (am_i (x + y) :: st) σ) : am_wp me Q cells slots pc ls (am_i y :: am_i x :: st) σ := by
  intro p l e s m args below meth c base D ss n0 ρ0 C ρ H locs lsA h1 h2 h3 h4 h5 h6 h7
  subst hq
  obtain ⟨hy, g7a⟩ := List.forall_mem_cons.mp h7
  obtain ⟨hx, g7aa⟩ := List.forall_mem_cons.mp g7a
  refine lv_iadd C.1 C.2.1 hd  ?_
  have hk := k p l e s m args below meth c base D ss n0 ρ0 C ρ H locs lsA h1 h2 h3 h4 h5 h6 (am_all2 (hr) g7aa)
  have he : am_cv ρ ss (am_i (x + y)) = .int (Int32.ofInt x + Int32.ofInt y) := by show Value.int _ = _; rw [Int32.ofInt_add]
  rw [List.map_cons, he] at hk
  exact hk
theorem am_ladd {me : am_M} {Q : Option am_V → am_H → Prop} {cells slots pc q : Nat} {ls : am_Ls} {st : List am_V} {σ : am_H} {x y : Int} (hr : -9223372036854775808 ≤ x + y ∧ x + y < 9223372036854775808) (hd : decode me.2.2.1 pc = .ok (.ladd, 1)) (hq : pc + 1 = q) (k : am_wp me Q cells slots q ls (am_l (x + y) :: st) σ) : am_wp me Q cells slots pc ls (am_l y :: am_l x :: st) σ := by
  intro p l e s m args below meth c base D ss n0 ρ0 C ρ H locs lsA h1 h2 h3 h4 h5 h6 h7
  subst hq
  obtain ⟨hy, g7a⟩ := List.forall_mem_cons.mp h7
  obtain ⟨hx, g7aa⟩ := List.forall_mem_cons.mp g7a
  refine lv_ladd C.1 C.2.1 hd  ?_
  have hk := k p l e s m args below meth c base D ss n0 ρ0 C ρ H locs lsA h1 h2 h3 h4 h5 h6 (am_all2 (hr) g7aa)
  have he : am_cv ρ ss (am_l (x + y)) = .long (Int64.ofInt x + Int64.ofInt y) := by show Value.long _ = _; rw [Int64.ofInt_add]
  rw [List.map_cons, he] at hk
  exact hk
theorem am_isub {me : am_M} {Q : Option am_V → am_H → Prop} {cells slots pc q : Nat} {ls : am_Ls} {st : List am_V} {σ : am_H} {x y : Int} (hr : -2147483648 ≤ x - y ∧ x - y < 2147483648) (hd : decode me.2.2.1 pc = .ok (.isub, 1)) (hq : pc + 1 = q) (k : am_wp me Q cells slots q ls (am_i (x - y) :: st) σ) : am_wp me Q cells slots pc ls (am_i y :: am_i x :: st) σ := by
  intro p l e s m args below meth c base D ss n0 ρ0 C ρ H locs lsA h1 h2 h3 h4 h5 h6 h7
  subst hq
  obtain ⟨hy, g7a⟩ := List.forall_mem_cons.mp h7
  obtain ⟨hx, g7aa⟩ := List.forall_mem_cons.mp g7a
  refine lv_isub C.1 C.2.1 hd  ?_
  have hk := k p l e s m args below meth c base D ss n0 ρ0 C ρ H locs lsA h1 h2 h3 h4 h5 h6 (am_all2 (hr) g7aa)
  have he : am_cv ρ ss (am_i (x - y)) = .int (Int32.ofInt x - Int32.ofInt y) := by show Value.int _ = _; rw [Int32.ofInt_sub]
  rw [List.map_cons, he] at hk
  exact hk
theorem am_lsub {me : am_M} {Q : Option am_V → am_H → Prop} {cells slots pc q : Nat} {ls : am_Ls} {st : List am_V} {σ : am_H} {x y : Int} (hr : -9223372036854775808 ≤ x - y ∧ x - y < 9223372036854775808) (hd : decode me.2.2.1 pc = .ok (.lsub, 1)) (hq : pc + 1 = q) (k : am_wp me Q cells slots q ls (am_l (x - y) :: st) σ) : am_wp me Q cells slots pc ls (am_l y :: am_l x :: st) σ := by
  intro p l e s m args below meth c base D ss n0 ρ0 C ρ H locs lsA h1 h2 h3 h4 h5 h6 h7
  subst hq
  obtain ⟨hy, g7a⟩ := List.forall_mem_cons.mp h7
  obtain ⟨hx, g7aa⟩ := List.forall_mem_cons.mp g7a
  refine lv_lsub C.1 C.2.1 hd  ?_
  have hk := k p l e s m args below meth c base D ss n0 ρ0 C ρ H locs lsA h1 h2 h3 h4 h5 h6 (am_all2 (hr) g7aa)
  have he : am_cv ρ ss (am_l (x - y)) = .long (Int64.ofInt x - Int64.ofInt y) := by show Value.long _ = _; rw [Int64.ofInt_sub]
  rw [List.map_cons, he] at hk
  exact hk
theorem am_imul {me : am_M} {Q : Option am_V → am_H → Prop} {cells slots pc q : Nat} {ls : am_Ls} {st : List am_V} {σ : am_H} {x y : Int} (hr : -2147483648 ≤ x * y ∧ x * y < 2147483648) (hd : decode me.2.2.1 pc = .ok (.imul, 1)) (hq : pc + 1 = q) (k : am_wp me Q cells slots q ls (am_i (x * y) :: st) σ) : am_wp me Q cells slots pc ls (am_i y :: am_i x :: st) σ := by
  intro p l e s m args below meth c base D ss n0 ρ0 C ρ H locs lsA h1 h2 h3 h4 h5 h6 h7
  subst hq
  obtain ⟨hy, g7a⟩ := List.forall_mem_cons.mp h7
  obtain ⟨hx, g7aa⟩ := List.forall_mem_cons.mp g7a
  refine lv_imul C.1 C.2.1 hd  ?_
  have hk := k p l e s m args below meth c base D ss n0 ρ0 C ρ H locs lsA h1 h2 h3 h4 h5 h6 (am_all2 (hr) g7aa)
  have he : am_cv ρ ss (am_i (x * y)) = .int (Int32.ofInt x * Int32.ofInt y) := by show Value.int _ = _; rw [Int32.ofInt_mul]
  rw [List.map_cons, he] at hk
  exact hk
theorem am_lmul {me : am_M} {Q : Option am_V → am_H → Prop} {cells slots pc q : Nat} {ls : am_Ls} {st : List am_V} {σ : am_H} {x y : Int} (hr : -9223372036854775808 ≤ x * y ∧ x * y < 9223372036854775808) (hd : decode me.2.2.1 pc = .ok (.lmul, 1)) (hq : pc + 1 = q) (k : am_wp me Q cells slots q ls (am_l (x * y) :: st) σ) : am_wp me Q cells slots pc ls (am_l y :: am_l x :: st) σ := by
  intro p l e s m args below meth c base D ss n0 ρ0 C ρ H locs lsA h1 h2 h3 h4 h5 h6 h7
  subst hq
  obtain ⟨hy, g7a⟩ := List.forall_mem_cons.mp h7
  obtain ⟨hx, g7aa⟩ := List.forall_mem_cons.mp g7a
  refine lv_lmul C.1 C.2.1 hd  ?_
  have hk := k p l e s m args below meth c base D ss n0 ρ0 C ρ H locs lsA h1 h2 h3 h4 h5 h6 (am_all2 (hr) g7aa)
  have he : am_cv ρ ss (am_l (x * y)) = .long (Int64.ofInt x * Int64.ofInt y) := by show Value.long _ = _; rw [Int64.ofInt_mul]
  rw [List.map_cons, he] at hk
  exact hk
theorem am_iand {me : am_M} {Q : Option am_V → am_H → Prop} {cells slots pc q : Nat} {ls : am_Ls} {st : List am_V} {σ : am_H} {x y : Int}  (hd : decode me.2.2.1 pc = .ok (.iand, 1)) (hq : pc + 1 = q) (k : am_wp me Q cells slots q ls (am_i (ao_and x y) :: st) σ) : am_wp me Q cells slots pc ls (am_i y :: am_i x :: st) σ := by
  intro p l e s m args below meth c base D ss n0 ρ0 C ρ H locs lsA h1 h2 h3 h4 h5 h6 h7
  subst hq
  obtain ⟨hy, g7a⟩ := List.forall_mem_cons.mp h7
  obtain ⟨hx, g7aa⟩ := List.forall_mem_cons.mp g7a
  refine lv_iand C.1 C.2.1 hd  ?_
  have hk := k p l e s m args below meth c base D ss n0 ρ0 C ρ H locs lsA h1 h2 h3 h4 h5 h6 (am_all2 (am_r32 _) g7aa)
  have he : am_cv ρ ss (am_i (ao_and x y)) = .int (Int32.ofInt x &&& Int32.ofInt y) := by show Value.int (Int32.ofInt (ao_and x y)) = _; rw [ao_and, Int32.ofInt_toInt]
  rw [List.map_cons, he] at hk
  exact hk
theorem am_ior {me : am_M} {Q : Option am_V → am_H → Prop} {cells slots pc q : Nat} {ls : am_Ls} {st : List am_V} {σ : am_H} {x y : Int}  (hd : decode me.2.2.1 pc = .ok (.ior, 1)) (hq : pc + 1 = q) (k : am_wp me Q cells slots q ls (am_i (ao_or x y) :: st) σ) : am_wp me Q cells slots pc ls (am_i y :: am_i x :: st) σ := by
  intro p l e s m args below meth c base D ss n0 ρ0 C ρ H locs lsA h1 h2 h3 h4 h5 h6 h7
  subst hq
  obtain ⟨hy, g7a⟩ := List.forall_mem_cons.mp h7
  obtain ⟨hx, g7aa⟩ := List.forall_mem_cons.mp g7a
  refine lv_ior C.1 C.2.1 hd  ?_
  have hk := k p l e s m args below meth c base D ss n0 ρ0 C ρ H locs lsA h1 h2 h3 h4 h5 h6 (am_all2 (am_r32 _) g7aa)
  have he : am_cv ρ ss (am_i (ao_or x y)) = .int (Int32.ofInt x ||| Int32.ofInt y) := by show Value.int (Int32.ofInt (ao_or x y)) = _; rw [ao_or, Int32.ofInt_toInt]
  rw [List.map_cons, he] at hk
  exact hk
theorem am_ixor {me : am_M} {Q : Option am_V → am_H → Prop} {cells slots pc q : Nat} {ls : am_Ls} {st : List am_V} {σ : am_H} {x y : Int}  (hd : decode me.2.2.1 pc = .ok (.ixor, 1)) (hq : pc + 1 = q) (k : am_wp me Q cells slots q ls (am_i (ao_xor x y) :: st) σ) : am_wp me Q cells slots pc ls (am_i y :: am_i x :: st) σ := by
  intro p l e s m args below meth c base D ss n0 ρ0 C ρ H locs lsA h1 h2 h3 h4 h5 h6 h7
  subst hq
  obtain ⟨hy, g7a⟩ := List.forall_mem_cons.mp h7
  obtain ⟨hx, g7aa⟩ := List.forall_mem_cons.mp g7a
  refine lv_ixor C.1 C.2.1 hd  ?_
  have hk := k p l e s m args below meth c base D ss n0 ρ0 C ρ H locs lsA h1 h2 h3 h4 h5 h6 (am_all2 (am_r32 _) g7aa)
  have he : am_cv ρ ss (am_i (ao_xor x y)) = .int (Int32.ofInt x ^^^ Int32.ofInt y) := by show Value.int (Int32.ofInt (ao_xor x y)) = _; rw [ao_xor, Int32.ofInt_toInt]
  rw [List.map_cons, he] at hk
  exact hk
theorem am_land {me : am_M} {Q : Option am_V → am_H → Prop} {cells slots pc q : Nat} {ls : am_Ls} {st : List am_V} {σ : am_H} {x y : Int}  (hd : decode me.2.2.1 pc = .ok (.land, 1)) (hq : pc + 1 = q) (k : am_wp me Q cells slots q ls (am_l (ao_land x y) :: st) σ) : am_wp me Q cells slots pc ls (am_l y :: am_l x :: st) σ := by
  intro p l e s m args below meth c base D ss n0 ρ0 C ρ H locs lsA h1 h2 h3 h4 h5 h6 h7
  subst hq
  obtain ⟨hy, g7a⟩ := List.forall_mem_cons.mp h7
  obtain ⟨hx, g7aa⟩ := List.forall_mem_cons.mp g7a
  refine lv_land C.1 C.2.1 hd  ?_
  have hk := k p l e s m args below meth c base D ss n0 ρ0 C ρ H locs lsA h1 h2 h3 h4 h5 h6 (am_all2 (am_r64 _) g7aa)
  have he : am_cv ρ ss (am_l (ao_land x y)) = .long (Int64.ofInt x &&& Int64.ofInt y) := by show Value.long (Int64.ofInt (ao_land x y)) = _; rw [ao_land, Int64.ofInt_toInt]
  rw [List.map_cons, he] at hk
  exact hk
theorem am_lor {me : am_M} {Q : Option am_V → am_H → Prop} {cells slots pc q : Nat} {ls : am_Ls} {st : List am_V} {σ : am_H} {x y : Int}  (hd : decode me.2.2.1 pc = .ok (.lor, 1)) (hq : pc + 1 = q) (k : am_wp me Q cells slots q ls (am_l (ao_lor x y) :: st) σ) : am_wp me Q cells slots pc ls (am_l y :: am_l x :: st) σ := by
  intro p l e s m args below meth c base D ss n0 ρ0 C ρ H locs lsA h1 h2 h3 h4 h5 h6 h7
  subst hq
  obtain ⟨hy, g7a⟩ := List.forall_mem_cons.mp h7
  obtain ⟨hx, g7aa⟩ := List.forall_mem_cons.mp g7a
  refine lv_lor C.1 C.2.1 hd  ?_
  have hk := k p l e s m args below meth c base D ss n0 ρ0 C ρ H locs lsA h1 h2 h3 h4 h5 h6 (am_all2 (am_r64 _) g7aa)
  have he : am_cv ρ ss (am_l (ao_lor x y)) = .long (Int64.ofInt x ||| Int64.ofInt y) := by show Value.long (Int64.ofInt (ao_lor x y)) = _; rw [ao_lor, Int64.ofInt_toInt]
  rw [List.map_cons, he] at hk
  exact hk
theorem am_ishl {me : am_M} {Q : Option am_V → am_H → Prop} {cells slots pc q : Nat} {ls : am_Ls} {st : List am_V} {σ : am_H} {x y : Int}  (hd : decode me.2.2.1 pc = .ok (.ishl, 1)) (hq : pc + 1 = q) (k : am_wp me Q cells slots q ls (am_i (ao_shl x y) :: st) σ) : am_wp me Q cells slots pc ls (am_i y :: am_i x :: st) σ := by
  intro p l e s m args below meth c base D ss n0 ρ0 C ρ H locs lsA h1 h2 h3 h4 h5 h6 h7
  subst hq
  obtain ⟨hy, g7a⟩ := List.forall_mem_cons.mp h7
  obtain ⟨hx, g7aa⟩ := List.forall_mem_cons.mp g7a
  refine lv_ishl C.1 C.2.1 hd  ?_
  have hk := k p l e s m args below meth c base D ss n0 ρ0 C ρ H locs lsA h1 h2 h3 h4 h5 h6 (am_all2 (am_r32 _) g7aa)
  have he : am_cv ρ ss (am_i (ao_shl x y)) = .int (Int32.ofInt x <<< (Int32.ofInt y &&& 31)) := by show Value.int (Int32.ofInt (ao_shl x y)) = _; rw [ao_shl, Int32.ofInt_toInt]
  rw [List.map_cons, he] at hk
  exact hk
theorem am_ishr {me : am_M} {Q : Option am_V → am_H → Prop} {cells slots pc q : Nat} {ls : am_Ls} {st : List am_V} {σ : am_H} {x y : Int}  (hd : decode me.2.2.1 pc = .ok (.ishr, 1)) (hq : pc + 1 = q) (k : am_wp me Q cells slots q ls (am_i (ao_shr x y) :: st) σ) : am_wp me Q cells slots pc ls (am_i y :: am_i x :: st) σ := by
  intro p l e s m args below meth c base D ss n0 ρ0 C ρ H locs lsA h1 h2 h3 h4 h5 h6 h7
  subst hq
  obtain ⟨hy, g7a⟩ := List.forall_mem_cons.mp h7
  obtain ⟨hx, g7aa⟩ := List.forall_mem_cons.mp g7a
  refine lv_ishr C.1 C.2.1 hd  ?_
  have hk := k p l e s m args below meth c base D ss n0 ρ0 C ρ H locs lsA h1 h2 h3 h4 h5 h6 (am_all2 (am_r32 _) g7aa)
  have he : am_cv ρ ss (am_i (ao_shr x y)) = .int (Int32.ofInt x >>> (Int32.ofInt y &&& 31)) := by show Value.int (Int32.ofInt (ao_shr x y)) = _; rw [ao_shr, Int32.ofInt_toInt]
  rw [List.map_cons, he] at hk
  exact hk
theorem am_iushr {me : am_M} {Q : Option am_V → am_H → Prop} {cells slots pc q : Nat} {ls : am_Ls} {st : List am_V} {σ : am_H} {x y : Int}  (hd : decode me.2.2.1 pc = .ok (.iushr, 1)) (hq : pc + 1 = q) (k : am_wp me Q cells slots q ls (am_i (ao_ushr x y) :: st) σ) : am_wp me Q cells slots pc ls (am_i y :: am_i x :: st) σ := by
  intro p l e s m args below meth c base D ss n0 ρ0 C ρ H locs lsA h1 h2 h3 h4 h5 h6 h7
  subst hq
  obtain ⟨hy, g7a⟩ := List.forall_mem_cons.mp h7
  obtain ⟨hx, g7aa⟩ := List.forall_mem_cons.mp g7a
  refine lv_iushr C.1 C.2.1 hd rfl ?_
  have hk := k p l e s m args below meth c base D ss n0 ρ0 C ρ H locs lsA h1 h2 h3 h4 h5 h6 (am_all2 (am_r32 _) g7aa)
  have he : am_cv ρ ss (am_i (ao_ushr x y)) = .int (((Int32.ofInt x).toUInt32 >>> ((Int32.ofInt y).toUInt32 &&& Int32.toUInt32 31)).toInt32) := by show Value.int (Int32.ofInt (ao_ushr x y)) = _; rw [ao_ushr, Int32.ofInt_toInt]
  rw [List.map_cons, he] at hk
  exact hk
theorem am_idv {x y : Int} (hx : -2147483648 ≤ x ∧ x < 2147483648) (hy : -2147483648 ≤ y ∧ y < 2147483648) (hm : -2147483648 < x) : Int32.ofInt x / Int32.ofInt y = Int32.ofInt (x.tdiv y) := by
  have hne : Int32.ofInt x ≠ Int32.minValue := fun h => by
    have h2 := congrArg Int32.toInt h
    rw [am_ti hx] at h2
    have h3 : Int32.minValue.toInt = -2147483648 := by decide
    omega
  rw [← Int32.toInt_inj, Int32.toInt_div_of_ne_left _ _ hne, am_ti hx, am_ti hy]
  refine (am_ti ?_).symm
  have h1 := Int.natAbs_tdiv x y
  have h2 : (x.tdiv y).natAbs ≤ x.natAbs := by rw [h1]; exact Nat.div_le_self _ _
  omega
theorem am_irg {x y : Int} (hx : -2147483648 ≤ x ∧ x < 2147483648) (hm : -2147483648 < x) : -2147483648 ≤ x.tdiv y ∧ x.tdiv y < 2147483648 := by
  have h1 := Int.natAbs_tdiv x y
  have h2 : (x.tdiv y).natAbs ≤ x.natAbs := by rw [h1]; exact Nat.div_le_self _ _
  omega
theorem am_img {x y : Int} (hx : -2147483648 ≤ x ∧ x < 2147483648) : -2147483648 ≤ x.tmod y ∧ x.tmod y < 2147483648 := by
  have h1 := Int.natAbs_tmod x y
  have h2 : (x.tmod y).natAbs ≤ x.natAbs := by rw [h1]; exact Nat.mod_le _ _
  have h3 : 0 ≤ x → 0 ≤ x.tmod y := fun h => Int.tmod_nonneg y h
  have h4 : x < 0 → x.tmod y ≤ 0 := fun h => by
    have h5 := Int.tmod_nonneg (a := -x) y (by omega)
    rw [Int.neg_tmod] at h5
    omega
  omega
theorem am_idiv {me : am_M} {Q : Option am_V → am_H → Prop} {cells slots pc q : Nat} {ls : am_Ls} {st : List am_V} {σ : am_H} {x y : Int} (hne : y ≠ 0) (hm : -2147483648 < x) (hd : decode me.2.2.1 pc = .ok (.idiv, 1)) (hq : pc + 1 = q) (k : am_wp me Q cells slots q ls (am_i (x.tdiv y) :: st) σ) : am_wp me Q cells slots pc ls (am_i y :: am_i x :: st) σ := by
  intro p l e s m args below meth c base D ss n0 ρ0 C ρ H locs lsA h1 h2 h3 h4 h5 h6 h7
  subst hq
  obtain ⟨hy, g7a⟩ := List.forall_mem_cons.mp h7
  obtain ⟨hx, g7aa⟩ := List.forall_mem_cons.mp g7a
  refine lv_idiv C.1 C.2.1 hd (fun h => hne ?_) ?_
  · have h2 := congrArg Int32.toInt h
    rw [am_ti hy] at h2
    exact h2
  · have hk := k p l e s m args below meth c base D ss n0 ρ0 C ρ H locs lsA h1 h2 h3 h4 h5 h6 (am_all2 (am_irg hx hm) g7aa)
    rw [am_idv hx hy hm]
    exact hk
theorem am_irem {me : am_M} {Q : Option am_V → am_H → Prop} {cells slots pc q : Nat} {ls : am_Ls} {st : List am_V} {σ : am_H} {x y : Int} (hne : y ≠ 0) (hm : -2147483648 < x) (hd : decode me.2.2.1 pc = .ok (.irem, 1)) (hq : pc + 1 = q) (k : am_wp me Q cells slots q ls (am_i (x.tmod y) :: st) σ) : am_wp me Q cells slots pc ls (am_i y :: am_i x :: st) σ := by
  intro p l e s m args below meth c base D ss n0 ρ0 C ρ H locs lsA h1 h2 h3 h4 h5 h6 h7
  subst hq
  obtain ⟨hy, g7a⟩ := List.forall_mem_cons.mp h7
  obtain ⟨hx, g7aa⟩ := List.forall_mem_cons.mp g7a
  refine lv_irem C.1 C.2.1 hd (fun h => hne ?_) ?_
  · have h2 := congrArg Int32.toInt h
    rw [am_ti hy] at h2
    exact h2
  · have hk := k p l e s m args below meth c base D ss n0 ρ0 C ρ H locs lsA h1 h2 h3 h4 h5 h6 (am_all2 (am_img hx) g7aa)
    rw [am_idv hx hy hm, ← Int32.ofInt_mul, ← Int32.ofInt_sub]
    have e2 : x - x.tdiv y * y = x.tmod y := by rw [Int.tmod_def, Int.mul_comm]
    rw [e2]
    exact hk
theorem am_ldv {x y : Int} (hx : -9223372036854775808 ≤ x ∧ x < 9223372036854775808) (hy : -9223372036854775808 ≤ y ∧ y < 9223372036854775808) (hm : -9223372036854775808 < x) : Int64.ofInt x / Int64.ofInt y = Int64.ofInt (x.tdiv y) := by
  have hne : Int64.ofInt x ≠ Int64.minValue := fun h => by
    have h2 := congrArg Int64.toInt h
    rw [am_tl hx] at h2
    have h3 : Int64.minValue.toInt = -9223372036854775808 := by decide
    omega
  rw [← Int64.toInt_inj, Int64.toInt_div_of_ne_left _ _ hne, am_tl hx, am_tl hy]
  refine (am_tl ?_).symm
  have h1 := Int.natAbs_tdiv x y
  have h2 : (x.tdiv y).natAbs ≤ x.natAbs := by rw [h1]; exact Nat.div_le_self _ _
  omega
theorem am_lrg {x y : Int} (hx : -9223372036854775808 ≤ x ∧ x < 9223372036854775808) (hm : -9223372036854775808 < x) : -9223372036854775808 ≤ x.tdiv y ∧ x.tdiv y < 9223372036854775808 := by
  have h1 := Int.natAbs_tdiv x y
  have h2 : (x.tdiv y).natAbs ≤ x.natAbs := by rw [h1]; exact Nat.div_le_self _ _
  omega
theorem am_lmg {x y : Int} (hx : -9223372036854775808 ≤ x ∧ x < 9223372036854775808) : -9223372036854775808 ≤ x.tmod y ∧ x.tmod y < 9223372036854775808 := by
  have h1 := Int.natAbs_tmod x y
  have h2 : (x.tmod y).natAbs ≤ x.natAbs := by rw [h1]; exact Nat.mod_le _ _
  have h3 : 0 ≤ x → 0 ≤ x.tmod y := fun h => Int.tmod_nonneg y h
  have h4 : x < 0 → x.tmod y ≤ 0 := fun h => by
    have h5 := Int.tmod_nonneg (a := -x) y (by omega)
    rw [Int.neg_tmod] at h5
    omega
  omega
theorem am_ldiv {me : am_M} {Q : Option am_V → am_H → Prop} {cells slots pc q : Nat} {ls : am_Ls} {st : List am_V} {σ : am_H} {x y : Int} (hne : y ≠ 0) (hm : -9223372036854775808 < x) (hd : decode me.2.2.1 pc = .ok (.ldiv, 1)) (hq : pc + 1 = q) (k : am_wp me Q cells slots q ls (am_l (x.tdiv y) :: st) σ) : am_wp me Q cells slots pc ls (am_l y :: am_l x :: st) σ := by
  intro p l e s m args below meth c base D ss n0 ρ0 C ρ H locs lsA h1 h2 h3 h4 h5 h6 h7
  subst hq
  obtain ⟨hy, g7a⟩ := List.forall_mem_cons.mp h7
  obtain ⟨hx, g7aa⟩ := List.forall_mem_cons.mp g7a
  refine lv_ldiv C.1 C.2.1 hd (fun h => hne ?_) ?_
  · have h2 := congrArg Int64.toInt h
    rw [am_tl hy] at h2
    exact h2
  · have hk := k p l e s m args below meth c base D ss n0 ρ0 C ρ H locs lsA h1 h2 h3 h4 h5 h6 (am_all2 (am_lrg hx hm) g7aa)
    rw [am_ldv hx hy hm]
    exact hk
theorem am_lrem {me : am_M} {Q : Option am_V → am_H → Prop} {cells slots pc q : Nat} {ls : am_Ls} {st : List am_V} {σ : am_H} {x y : Int} (hne : y ≠ 0) (hm : -9223372036854775808 < x) (hd : decode me.2.2.1 pc = .ok (.lrem, 1)) (hq : pc + 1 = q) (k : am_wp me Q cells slots q ls (am_l (x.tmod y) :: st) σ) : am_wp me Q cells slots pc ls (am_l y :: am_l x :: st) σ := by
  intro p l e s m args below meth c base D ss n0 ρ0 C ρ H locs lsA h1 h2 h3 h4 h5 h6 h7
  subst hq
  obtain ⟨hy, g7a⟩ := List.forall_mem_cons.mp h7
  obtain ⟨hx, g7aa⟩ := List.forall_mem_cons.mp g7a
  refine lv_lrem C.1 C.2.1 hd (fun h => hne ?_) ?_
  · have h2 := congrArg Int64.toInt h
    rw [am_tl hy] at h2
    exact h2
  · have hk := k p l e s m args below meth c base D ss n0 ρ0 C ρ H locs lsA h1 h2 h3 h4 h5 h6 (am_all2 (am_lmg hx) g7aa)
    rw [am_ldv hx hy hm, ← Int64.ofInt_mul, ← Int64.ofInt_sub]
    have e2 : x - x.tdiv y * y = x.tmod y := by rw [Int.tmod_def, Int.mul_comm]
    rw [e2]
    exact hk
theorem am_lshl {me : am_M} {Q : Option am_V → am_H → Prop} {cells slots pc q : Nat} {ls : am_Ls} {st : List am_V} {σ : am_H} {x y : Int} (hd : decode me.2.2.1 pc = .ok (.lshl, 1)) (hq : pc + 1 = q) (k : am_wp me Q cells slots q ls (am_l (ao_lshl x y) :: st) σ) : am_wp me Q cells slots pc ls (am_i y :: am_l x :: st) σ := by
  intro p l e s m args below meth c base D ss n0 ρ0 C ρ H locs lsA h1 h2 h3 h4 h5 h6 h7
  subst hq
  obtain ⟨hy, g7a⟩ := List.forall_mem_cons.mp h7
  obtain ⟨hx, g7aa⟩ := List.forall_mem_cons.mp g7a
  refine lv_lshl C.1 C.2.1 hd rfl ?_
  have hk := k p l e s m args below meth c base D ss n0 ρ0 C ρ H locs lsA h1 h2 h3 h4 h5 h6 (am_all2 (am_r64 _) g7aa)
  have he : am_cv ρ ss (am_l (ao_lshl x y)) = .long (Int64.ofInt x <<< ((Int32.ofInt y).toInt64 &&& 63)) := by show Value.long (Int64.ofInt (ao_lshl x y)) = _; rw [ao_lshl, Int64.ofInt_toInt]
  rw [List.map_cons, he] at hk
  exact hk
theorem am_lshr {me : am_M} {Q : Option am_V → am_H → Prop} {cells slots pc q : Nat} {ls : am_Ls} {st : List am_V} {σ : am_H} {x y : Int} (hd : decode me.2.2.1 pc = .ok (.lshr, 1)) (hq : pc + 1 = q) (k : am_wp me Q cells slots q ls (am_l (ao_lshr x y) :: st) σ) : am_wp me Q cells slots pc ls (am_i y :: am_l x :: st) σ := by
  intro p l e s m args below meth c base D ss n0 ρ0 C ρ H locs lsA h1 h2 h3 h4 h5 h6 h7
  subst hq
  obtain ⟨hy, g7a⟩ := List.forall_mem_cons.mp h7
  obtain ⟨hx, g7aa⟩ := List.forall_mem_cons.mp g7a
  refine lv_lshr C.1 C.2.1 hd rfl ?_
  have hk := k p l e s m args below meth c base D ss n0 ρ0 C ρ H locs lsA h1 h2 h3 h4 h5 h6 (am_all2 (am_r64 _) g7aa)
  have he : am_cv ρ ss (am_l (ao_lshr x y)) = .long (Int64.ofInt x >>> ((Int32.ofInt y).toInt64 &&& 63)) := by show Value.long (Int64.ofInt (ao_lshr x y)) = _; rw [ao_lshr, Int64.ofInt_toInt]
  rw [List.map_cons, he] at hk
  exact hk
theorem am_i2l {me : am_M} {Q : Option am_V → am_H → Prop} {cells slots pc q : Nat} {ls : am_Ls} {st : List am_V} {σ : am_H} {x : Int} (hd : decode me.2.2.1 pc = .ok (.i2l, 1)) (hq : pc + 1 = q) (k : am_wp me Q cells slots q ls (am_l x :: st) σ) : am_wp me Q cells slots pc ls (am_i x :: st) σ := by
  intro p l e s m args below meth c base D ss n0 ρ0 C ρ H locs lsA h1 h2 h3 h4 h5 h6 h7
  subst hq
  obtain ⟨hx, g7a⟩ := List.forall_mem_cons.mp h7
  have hx2 : -2147483648 ≤ x ∧ x < 2147483648 := hx
  refine lv_i2l C.1 C.2.1 hd (Int32.toInt64_ofInt (by show (-2147483648 : Int) ≤ x; omega) (by show x ≤ (2147483647 : Int); omega)) ?_
  exact k p l e s m args below meth c base D ss n0 ρ0 C ρ H locs lsA h1 h2 h3 h4 h5 h6 (am_all2 (show am_ok _ (am_l x) from ⟨by omega, by omega⟩) g7a)
theorem am_l2i {me : am_M} {Q : Option am_V → am_H → Prop} {cells slots pc q : Nat} {ls : am_Ls} {st : List am_V} {σ : am_H} {x y : Int} (hv : y = ao_l2i x) (hd : decode me.2.2.1 pc = .ok (.l2i, 1)) (hq : pc + 1 = q) (k : am_wp me Q cells slots q ls (am_i y :: st) σ) : am_wp me Q cells slots pc ls (am_l x :: st) σ := by
  intro p l e s m args below meth c base D ss n0 ρ0 C ρ H locs lsA h1 h2 h3 h4 h5 h6 h7
  subst hq
  subst hv
  obtain ⟨hx, g7a⟩ := List.forall_mem_cons.mp h7
  refine lv_l2i C.1 C.2.1 hd Int64.toInt32_ofInt ?_
  have hk := k p l e s m args below meth c base D ss n0 ρ0 C ρ H locs lsA h1 h2 h3 h4 h5 h6 (am_all2 (am_r32 _) g7a)
  have he : am_cv ρ ss (am_i (ao_l2i x)) = .int (Int32.ofInt x) := by show Value.int (Int32.ofInt (ao_l2i x)) = _; rw [ao_l2i, Int32.ofInt_toInt]
  rw [List.map_cons, he] at hk
  exact hk
theorem am_i2c {me : am_M} {Q : Option am_V → am_H → Prop} {cells slots pc q : Nat} {ls : am_Ls} {st : List am_V} {σ : am_H} {x y : Int} (hv : y = ao_i2c x) (hd : decode me.2.2.1 pc = .ok (.i2c, 1)) (hq : pc + 1 = q) (k : am_wp me Q cells slots q ls (am_i y :: st) σ) : am_wp me Q cells slots pc ls (am_i x :: st) σ := by
  intro p l e s m args below meth c base D ss n0 ρ0 C ρ H locs lsA h1 h2 h3 h4 h5 h6 h7
  subst hq
  subst hv
  obtain ⟨hx, g7a⟩ := List.forall_mem_cons.mp h7
  refine lv_i2c C.1 C.2.1 hd rfl ?_
  have hk := k p l e s m args below meth c base D ss n0 ρ0 C ρ H locs lsA h1 h2 h3 h4 h5 h6 (am_all2 (am_r32 _) g7a)
  have he : am_cv ρ ss (am_i (ao_i2c x)) = .int (((Int32.ofInt x).toUInt32 % 65536).toInt32) := by show Value.int (Int32.ofInt (ao_i2c x)) = _; rw [ao_i2c, Int32.ofInt_toInt]
  rw [List.map_cons, he] at hk
  exact hk
theorem am_lcmp {me : am_M} {Q : Option am_V → am_H → Prop} {cells slots pc q : Nat} {ls : am_Ls} {st : List am_V} {σ : am_H} {x y : Int} (hd : decode me.2.2.1 pc = .ok (.lcmp, 1)) (hq : pc + 1 = q) (k : am_wp me Q cells slots q ls (am_i (ao_cmp x y) :: st) σ) : am_wp me Q cells slots pc ls (am_l y :: am_l x :: st) σ := by
  intro p l e s m args below meth c base D ss n0 ρ0 C ρ H locs lsA h1 h2 h3 h4 h5 h6 h7
  subst hq
  obtain ⟨hy, g7a⟩ := List.forall_mem_cons.mp h7
  obtain ⟨hx, g7aa⟩ := List.forall_mem_cons.mp g7a
  refine W.lcmp C.1 C.2.1 hd ?_
  have hk := k p l e s m args below meth c base D ss n0 ρ0 C ρ H locs lsA h1 h2 h3 h4 h5 h6 (am_all2 (show am_ok _ (am_i (ao_cmp x y)) from by unfold ao_cmp; split <;> (try split) <;> exact ⟨by omega, by omega⟩) g7aa)
  have he : am_cv ρ ss (am_i (ao_cmp x y)) = .int (lg_cmp (Int64.ofInt x) (Int64.ofInt y)) := by
    show Value.int (Int32.ofInt (ao_cmp x y)) = _
    simp only [ao_cmp, lg_cmp, am_llt hy hx, am_leq hx hy]
    split
    · rfl
    · split <;> rfl
  rw [List.map_cons, he] at hk
  exact hk
theorem am_dup {me : am_M} {Q : Option am_V → am_H → Prop} {cells slots pc q : Nat} {ls : am_Ls} {st : List am_V} {σ : am_H} {v : am_V} (hc : am_cat v = 1) (hd : decode me.2.2.1 pc = .ok (.dup, 1)) (hq : pc + 1 = q) (k : am_wp me Q cells slots q ls (v :: v :: st) σ) : am_wp me Q cells slots pc ls (v :: st) σ := by
  intro p l e s m args below meth c base D ss n0 ρ0 C ρ H locs lsA h1 h2 h3 h4 h5 h6 h7
  subst hq
  obtain ⟨hv, g7a⟩ := List.forall_mem_cons.mp h7
  exact lv_dup C.1 C.2.1 hd (by rw [am_cv_cat]; exact hc) (k p l e s m args below meth c base D ss n0 ρ0 C ρ H locs lsA h1 h2 h3 h4 h5 h6 (am_all2 hv (am_all2 hv g7a)))
theorem am_pop {me : am_M} {Q : Option am_V → am_H → Prop} {cells slots pc q : Nat} {ls : am_Ls} {st : List am_V} {σ : am_H} {v : am_V} (hc : am_cat v = 1) (hd : decode me.2.2.1 pc = .ok (.pop, 1)) (hq : pc + 1 = q) (k : am_wp me Q cells slots q ls (st) σ) : am_wp me Q cells slots pc ls (v :: st) σ := by
  intro p l e s m args below meth c base D ss n0 ρ0 C ρ H locs lsA h1 h2 h3 h4 h5 h6 h7
  subst hq
  obtain ⟨hv, g7a⟩ := List.forall_mem_cons.mp h7
  exact lv_pop C.1 C.2.1 hd (by rw [am_cv_cat]; exact hc) (k p l e s m args below meth c base D ss n0 ρ0 C ρ H locs lsA h1 h2 h3 h4 h5 h6 g7a)
theorem am_dup2 {me : am_M} {Q : Option am_V → am_H → Prop} {cells slots pc q : Nat} {ls : am_Ls} {st : List am_V} {σ : am_H} {v w : am_V} (hc : am_cat v = 1) (hc2 : am_cat w = 1) (hd : decode me.2.2.1 pc = .ok (.dup2, 1)) (hq : pc + 1 = q) (k : am_wp me Q cells slots q ls (v :: w :: v :: w :: st) σ) : am_wp me Q cells slots pc ls (v :: w :: st) σ := by
  intro p l e s m args below meth c base D ss n0 ρ0 C ρ H locs lsA h1 h2 h3 h4 h5 h6 h7
  subst hq
  obtain ⟨hv, g7a⟩ := List.forall_mem_cons.mp h7
  obtain ⟨hw, g7aa⟩ := List.forall_mem_cons.mp g7a
  exact lv_dup2_11 C.1 C.2.1 hd (by rw [am_cv_cat]; exact hc) (by rw [am_cv_cat]; exact hc2) (k p l e s m args below meth c base D ss n0 ρ0 C ρ H locs lsA h1 h2 h3 h4 h5 h6 (am_all2 hv (am_all2 hw (am_all2 hv (am_all2 hw g7aa)))))
theorem am_icmp_eq {me : am_M} {Q : Option am_V → am_H → Prop} {cells slots pc q : Nat} {ls : am_Ls} {st : List am_V} {σ : am_H} {x y off : Int} {t : Nat} (hd : decode me.2.2.1 pc = .ok (.if_icmp .eq off, 3)) (ht : (pc : Int) + off = (t : Int)) (hq : pc + 3 = q) (kt : x = y → am_wp me Q cells slots t ls (st) σ) (kf : ¬ (x = y) → am_wp me Q cells slots q ls (st) σ) : am_wp me Q cells slots pc ls (am_i y :: am_i x :: st) σ := by
  intro p l e s m args below meth c base D ss n0 ρ0 C ρ H locs lsA h1 h2 h3 h4 h5 h6 h7
  subst hq
  obtain ⟨hy, g7a⟩ := List.forall_mem_cons.mp h7
  obtain ⟨hx, g7aa⟩ := List.forall_mem_cons.mp g7a
  exact lv_icmp_eq C.1 C.2.1 hd ht (fun h => kt ((am_ieq hx hy).mp h) p l e s m args below meth c base D ss n0 ρ0 C ρ H locs lsA h1 h2 h3 h4 h5 h6 g7aa) (fun h => kf (fun g => h ((am_ieq hx hy).mpr g)) p l e s m args below meth c base D ss n0 ρ0 C ρ H locs lsA h1 h2 h3 h4 h5 h6 g7aa)
theorem am_if_eq {me : am_M} {Q : Option am_V → am_H → Prop} {cells slots pc q : Nat} {ls : am_Ls} {st : List am_V} {σ : am_H} {x off : Int} {t : Nat} (hd : decode me.2.2.1 pc = .ok (.ifCond .eq off, 3)) (ht : (pc : Int) + off = (t : Int)) (hq : pc + 3 = q) (kt : x = 0 → am_wp me Q cells slots t ls (st) σ) (kf : ¬ (x = 0) → am_wp me Q cells slots q ls (st) σ) : am_wp me Q cells slots pc ls (am_i x :: st) σ := by
  intro p l e s m args below meth c base D ss n0 ρ0 C ρ H locs lsA h1 h2 h3 h4 h5 h6 h7
  subst hq
  obtain ⟨hx, g7a⟩ := List.forall_mem_cons.mp h7
  have hy : -2147483648 ≤ (0 : Int) ∧ (0 : Int) < 2147483648 := by omega
  exact lv_if_eq C.1 C.2.1 hd ht (fun h => kt ((am_ieq hx hy).mp h) p l e s m args below meth c base D ss n0 ρ0 C ρ H locs lsA h1 h2 h3 h4 h5 h6 g7a) (fun h => kf (fun g => h ((am_ieq hx hy).mpr g)) p l e s m args below meth c base D ss n0 ρ0 C ρ H locs lsA h1 h2 h3 h4 h5 h6 g7a)
theorem am_icmp_ne {me : am_M} {Q : Option am_V → am_H → Prop} {cells slots pc q : Nat} {ls : am_Ls} {st : List am_V} {σ : am_H} {x y off : Int} {t : Nat} (hd : decode me.2.2.1 pc = .ok (.if_icmp .ne off, 3)) (ht : (pc : Int) + off = (t : Int)) (hq : pc + 3 = q) (kt : ¬ x = y → am_wp me Q cells slots t ls (st) σ) (kf : x = y → am_wp me Q cells slots q ls (st) σ) : am_wp me Q cells slots pc ls (am_i y :: am_i x :: st) σ := by
  intro p l e s m args below meth c base D ss n0 ρ0 C ρ H locs lsA h1 h2 h3 h4 h5 h6 h7
  subst hq
  obtain ⟨hy, g7a⟩ := List.forall_mem_cons.mp h7
  obtain ⟨hx, g7aa⟩ := List.forall_mem_cons.mp g7a
  exact lv_icmp_ne C.1 C.2.1 hd ht (fun h => kt (fun g => h ((am_ieq hx hy).mpr g)) p l e s m args below meth c base D ss n0 ρ0 C ρ H locs lsA h1 h2 h3 h4 h5 h6 g7aa) (fun h => kf ((am_ieq hx hy).mp h) p l e s m args below meth c base D ss n0 ρ0 C ρ H locs lsA h1 h2 h3 h4 h5 h6 g7aa)
theorem am_if_ne {me : am_M} {Q : Option am_V → am_H → Prop} {cells slots pc q : Nat} {ls : am_Ls} {st : List am_V} {σ : am_H} {x off : Int} {t : Nat} (hd : decode me.2.2.1 pc = .ok (.ifCond .ne off, 3)) (ht : (pc : Int) + off = (t : Int)) (hq : pc + 3 = q) (kt : ¬ x = 0 → am_wp me Q cells slots t ls (st) σ) (kf : x = 0 → am_wp me Q cells slots q ls (st) σ) : am_wp me Q cells slots pc ls (am_i x :: st) σ := by
  intro p l e s m args below meth c base D ss n0 ρ0 C ρ H locs lsA h1 h2 h3 h4 h5 h6 h7
  subst hq
  obtain ⟨hx, g7a⟩ := List.forall_mem_cons.mp h7
  have hy : -2147483648 ≤ (0 : Int) ∧ (0 : Int) < 2147483648 := by omega
  exact lv_if_ne C.1 C.2.1 hd ht (fun h => kt (fun g => h ((am_ieq hx hy).mpr g)) p l e s m args below meth c base D ss n0 ρ0 C ρ H locs lsA h1 h2 h3 h4 h5 h6 g7a) (fun h => kf ((am_ieq hx hy).mp h) p l e s m args below meth c base D ss n0 ρ0 C ρ H locs lsA h1 h2 h3 h4 h5 h6 g7a)
theorem am_icmp_lt {me : am_M} {Q : Option am_V → am_H → Prop} {cells slots pc q : Nat} {ls : am_Ls} {st : List am_V} {σ : am_H} {x y off : Int} {t : Nat} (hd : decode me.2.2.1 pc = .ok (.if_icmp .lt off, 3)) (ht : (pc : Int) + off = (t : Int)) (hq : pc + 3 = q) (kt : x < y → am_wp me Q cells slots t ls (st) σ) (kf : ¬ (x < y) → am_wp me Q cells slots q ls (st) σ) : am_wp me Q cells slots pc ls (am_i y :: am_i x :: st) σ := by
  intro p l e s m args below meth c base D ss n0 ρ0 C ρ H locs lsA h1 h2 h3 h4 h5 h6 h7
  subst hq
  obtain ⟨hy, g7a⟩ := List.forall_mem_cons.mp h7
  obtain ⟨hx, g7aa⟩ := List.forall_mem_cons.mp g7a
  exact lv_icmp_lt C.1 C.2.1 hd ht (fun h => kt ((am_ilt hx hy).mp h) p l e s m args below meth c base D ss n0 ρ0 C ρ H locs lsA h1 h2 h3 h4 h5 h6 g7aa) (fun h => kf (fun g => h ((am_ilt hx hy).mpr g)) p l e s m args below meth c base D ss n0 ρ0 C ρ H locs lsA h1 h2 h3 h4 h5 h6 g7aa)
theorem am_if_lt {me : am_M} {Q : Option am_V → am_H → Prop} {cells slots pc q : Nat} {ls : am_Ls} {st : List am_V} {σ : am_H} {x off : Int} {t : Nat} (hd : decode me.2.2.1 pc = .ok (.ifCond .lt off, 3)) (ht : (pc : Int) + off = (t : Int)) (hq : pc + 3 = q) (kt : x < 0 → am_wp me Q cells slots t ls (st) σ) (kf : ¬ (x < 0) → am_wp me Q cells slots q ls (st) σ) : am_wp me Q cells slots pc ls (am_i x :: st) σ := by
  intro p l e s m args below meth c base D ss n0 ρ0 C ρ H locs lsA h1 h2 h3 h4 h5 h6 h7
  subst hq
  obtain ⟨hx, g7a⟩ := List.forall_mem_cons.mp h7
  have hy : -2147483648 ≤ (0 : Int) ∧ (0 : Int) < 2147483648 := by omega
  exact lv_if_lt C.1 C.2.1 hd ht (fun h => kt ((am_ilt hx hy).mp h) p l e s m args below meth c base D ss n0 ρ0 C ρ H locs lsA h1 h2 h3 h4 h5 h6 g7a) (fun h => kf (fun g => h ((am_ilt hx hy).mpr g)) p l e s m args below meth c base D ss n0 ρ0 C ρ H locs lsA h1 h2 h3 h4 h5 h6 g7a)
theorem am_icmp_ge {me : am_M} {Q : Option am_V → am_H → Prop} {cells slots pc q : Nat} {ls : am_Ls} {st : List am_V} {σ : am_H} {x y off : Int} {t : Nat} (hd : decode me.2.2.1 pc = .ok (.if_icmp .ge off, 3)) (ht : (pc : Int) + off = (t : Int)) (hq : pc + 3 = q) (kt : y ≤ x → am_wp me Q cells slots t ls (st) σ) (kf : ¬ (y ≤ x) → am_wp me Q cells slots q ls (st) σ) : am_wp me Q cells slots pc ls (am_i y :: am_i x :: st) σ := by
  intro p l e s m args below meth c base D ss n0 ρ0 C ρ H locs lsA h1 h2 h3 h4 h5 h6 h7
  subst hq
  obtain ⟨hy, g7a⟩ := List.forall_mem_cons.mp h7
  obtain ⟨hx, g7aa⟩ := List.forall_mem_cons.mp g7a
  exact lv_icmp_ge C.1 C.2.1 hd ht (fun h => kt ((am_ile hy hx).mp h) p l e s m args below meth c base D ss n0 ρ0 C ρ H locs lsA h1 h2 h3 h4 h5 h6 g7aa) (fun h => kf (fun g => h ((am_ile hy hx).mpr g)) p l e s m args below meth c base D ss n0 ρ0 C ρ H locs lsA h1 h2 h3 h4 h5 h6 g7aa)
theorem am_if_ge {me : am_M} {Q : Option am_V → am_H → Prop} {cells slots pc q : Nat} {ls : am_Ls} {st : List am_V} {σ : am_H} {x off : Int} {t : Nat} (hd : decode me.2.2.1 pc = .ok (.ifCond .ge off, 3)) (ht : (pc : Int) + off = (t : Int)) (hq : pc + 3 = q) (kt : 0 ≤ x → am_wp me Q cells slots t ls (st) σ) (kf : ¬ (0 ≤ x) → am_wp me Q cells slots q ls (st) σ) : am_wp me Q cells slots pc ls (am_i x :: st) σ := by
  intro p l e s m args below meth c base D ss n0 ρ0 C ρ H locs lsA h1 h2 h3 h4 h5 h6 h7
  subst hq
  obtain ⟨hx, g7a⟩ := List.forall_mem_cons.mp h7
  have hy : -2147483648 ≤ (0 : Int) ∧ (0 : Int) < 2147483648 := by omega
  exact lv_if_ge C.1 C.2.1 hd ht (fun h => kt ((am_ile hy hx).mp h) p l e s m args below meth c base D ss n0 ρ0 C ρ H locs lsA h1 h2 h3 h4 h5 h6 g7a) (fun h => kf (fun g => h ((am_ile hy hx).mpr g)) p l e s m args below meth c base D ss n0 ρ0 C ρ H locs lsA h1 h2 h3 h4 h5 h6 g7a)
theorem am_icmp_gt {me : am_M} {Q : Option am_V → am_H → Prop} {cells slots pc q : Nat} {ls : am_Ls} {st : List am_V} {σ : am_H} {x y off : Int} {t : Nat} (hd : decode me.2.2.1 pc = .ok (.if_icmp .gt off, 3)) (ht : (pc : Int) + off = (t : Int)) (hq : pc + 3 = q) (kt : y < x → am_wp me Q cells slots t ls (st) σ) (kf : ¬ (y < x) → am_wp me Q cells slots q ls (st) σ) : am_wp me Q cells slots pc ls (am_i y :: am_i x :: st) σ := by
  intro p l e s m args below meth c base D ss n0 ρ0 C ρ H locs lsA h1 h2 h3 h4 h5 h6 h7
  subst hq
  obtain ⟨hy, g7a⟩ := List.forall_mem_cons.mp h7
  obtain ⟨hx, g7aa⟩ := List.forall_mem_cons.mp g7a
  exact lv_icmp_gt C.1 C.2.1 hd ht (fun h => kt ((am_ilt hy hx).mp h) p l e s m args below meth c base D ss n0 ρ0 C ρ H locs lsA h1 h2 h3 h4 h5 h6 g7aa) (fun h => kf (fun g => h ((am_ilt hy hx).mpr g)) p l e s m args below meth c base D ss n0 ρ0 C ρ H locs lsA h1 h2 h3 h4 h5 h6 g7aa)
theorem am_if_gt {me : am_M} {Q : Option am_V → am_H → Prop} {cells slots pc q : Nat} {ls : am_Ls} {st : List am_V} {σ : am_H} {x off : Int} {t : Nat} (hd : decode me.2.2.1 pc = .ok (.ifCond .gt off, 3)) (ht : (pc : Int) + off = (t : Int)) (hq : pc + 3 = q) (kt : 0 < x → am_wp me Q cells slots t ls (st) σ) (kf : ¬ (0 < x) → am_wp me Q cells slots q ls (st) σ) : am_wp me Q cells slots pc ls (am_i x :: st) σ := by
  intro p l e s m args below meth c base D ss n0 ρ0 C ρ H locs lsA h1 h2 h3 h4 h5 h6 h7
  subst hq
  obtain ⟨hx, g7a⟩ := List.forall_mem_cons.mp h7
  have hy : -2147483648 ≤ (0 : Int) ∧ (0 : Int) < 2147483648 := by omega
  exact lv_if_gt C.1 C.2.1 hd ht (fun h => kt ((am_ilt hy hx).mp h) p l e s m args below meth c base D ss n0 ρ0 C ρ H locs lsA h1 h2 h3 h4 h5 h6 g7a) (fun h => kf (fun g => h ((am_ilt hy hx).mpr g)) p l e s m args below meth c base D ss n0 ρ0 C ρ H locs lsA h1 h2 h3 h4 h5 h6 g7a)
theorem am_icmp_le {me : am_M} {Q : Option am_V → am_H → Prop} {cells slots pc q : Nat} {ls : am_Ls} {st : List am_V} {σ : am_H} {x y off : Int} {t : Nat} (hd : decode me.2.2.1 pc = .ok (.if_icmp .le off, 3)) (ht : (pc : Int) + off = (t : Int)) (hq : pc + 3 = q) (kt : x ≤ y → am_wp me Q cells slots t ls (st) σ) (kf : ¬ (x ≤ y) → am_wp me Q cells slots q ls (st) σ) : am_wp me Q cells slots pc ls (am_i y :: am_i x :: st) σ := by
  intro p l e s m args below meth c base D ss n0 ρ0 C ρ H locs lsA h1 h2 h3 h4 h5 h6 h7
  subst hq
  obtain ⟨hy, g7a⟩ := List.forall_mem_cons.mp h7
  obtain ⟨hx, g7aa⟩ := List.forall_mem_cons.mp g7a
  exact lv_icmp_le C.1 C.2.1 hd ht (fun h => kt ((am_ile hx hy).mp h) p l e s m args below meth c base D ss n0 ρ0 C ρ H locs lsA h1 h2 h3 h4 h5 h6 g7aa) (fun h => kf (fun g => h ((am_ile hx hy).mpr g)) p l e s m args below meth c base D ss n0 ρ0 C ρ H locs lsA h1 h2 h3 h4 h5 h6 g7aa)
theorem am_if_le {me : am_M} {Q : Option am_V → am_H → Prop} {cells slots pc q : Nat} {ls : am_Ls} {st : List am_V} {σ : am_H} {x off : Int} {t : Nat} (hd : decode me.2.2.1 pc = .ok (.ifCond .le off, 3)) (ht : (pc : Int) + off = (t : Int)) (hq : pc + 3 = q) (kt : x ≤ 0 → am_wp me Q cells slots t ls (st) σ) (kf : ¬ (x ≤ 0) → am_wp me Q cells slots q ls (st) σ) : am_wp me Q cells slots pc ls (am_i x :: st) σ := by
  intro p l e s m args below meth c base D ss n0 ρ0 C ρ H locs lsA h1 h2 h3 h4 h5 h6 h7
  subst hq
  obtain ⟨hx, g7a⟩ := List.forall_mem_cons.mp h7
  have hy : -2147483648 ≤ (0 : Int) ∧ (0 : Int) < 2147483648 := by omega
  exact lv_if_le C.1 C.2.1 hd ht (fun h => kt ((am_ile hx hy).mp h) p l e s m args below meth c base D ss n0 ρ0 C ρ H locs lsA h1 h2 h3 h4 h5 h6 g7a) (fun h => kf (fun g => h ((am_ile hx hy).mpr g)) p l e s m args below meth c base D ss n0 ρ0 C ρ H locs lsA h1 h2 h3 h4 h5 h6 g7a)
theorem am_goto {me : am_M} {Q : Option am_V → am_H → Prop} {cells slots pc : Nat} {ls : am_Ls} {st : List am_V} {σ : am_H} {off : Int} {t : Nat} (hd : decode me.2.2.1 pc = .ok (.goto off, 3)) (ht : (pc : Int) + off = (t : Int)) (k : am_wp me Q cells slots t ls (st) σ) : am_wp me Q cells slots pc ls (st) σ := by
  intro p l e s m args below meth c base D ss n0 ρ0 C ρ H locs lsA h1 h2 h3 h4 h5 h6 h7
  exact lv_goto C.1 C.2.1 hd ht (k p l e s m args below meth c base D ss n0 ρ0 C ρ H locs lsA h1 h2 h3 h4 h5 h6 h7)
theorem am_ifnull {me : am_M} {Q : Option am_V → am_H → Prop} {cells slots pc q : Nat} {ls : am_Ls} {st : List am_V} {σ : am_H} {off : Int} {t : Nat} {r : Option Nat} (hd : decode me.2.2.1 pc = .ok (.ifnull off, 3)) (ht : (pc : Int) + off = (t : Int)) (hq : pc + 3 = q) (kt : r = none → am_wp me Q cells slots t ls (st) σ) (kf : ¬ (r = none) → am_wp me Q cells slots q ls (st) σ) : am_wp me Q cells slots pc ls (am_o r :: st) σ := by
  intro p l e s m args below meth c base D ss n0 ρ0 C ρ H locs lsA h1 h2 h3 h4 h5 h6 h7
  subst hq
  obtain ⟨hv, g7a⟩ := List.forall_mem_cons.mp h7
  rcases r with _ | a
  · exact lv_ifnullN C.1 C.2.1 hd ht (kt rfl p l e s m args below meth c base D ss n0 ρ0 C ρ H locs lsA h1 h2 h3 h4 h5 h6 g7a)
  · exact lv_ifnull C.1 C.2.1 hd (kf (fun h => by cases h) p l e s m args below meth c base D ss n0 ρ0 C ρ H locs lsA h1 h2 h3 h4 h5 h6 g7a)
theorem am_ifnonnull {me : am_M} {Q : Option am_V → am_H → Prop} {cells slots pc q : Nat} {ls : am_Ls} {st : List am_V} {σ : am_H} {off : Int} {t : Nat} {r : Option Nat} (hd : decode me.2.2.1 pc = .ok (.ifnonnull off, 3)) (ht : (pc : Int) + off = (t : Int)) (hq : pc + 3 = q) (kt : ¬ r = none → am_wp me Q cells slots t ls (st) σ) (kf : ¬ (¬ r = none) → am_wp me Q cells slots q ls (st) σ) : am_wp me Q cells slots pc ls (am_o r :: st) σ := by
  intro p l e s m args below meth c base D ss n0 ρ0 C ρ H locs lsA h1 h2 h3 h4 h5 h6 h7
  subst hq
  obtain ⟨hv, g7a⟩ := List.forall_mem_cons.mp h7
  rcases r with _ | a
  · exact lv_ifnonnullN C.1 C.2.1 hd (kf (fun h => h rfl) p l e s m args below meth c base D ss n0 ρ0 C ρ H locs lsA h1 h2 h3 h4 h5 h6 g7a)
  · exact lv_ifnonnull C.1 C.2.1 hd ht (kt (fun h => by cases h) p l e s m args below meth c base D ss n0 ρ0 C ρ H locs lsA h1 h2 h3 h4 h5 h6 g7a)
theorem am_tableIn {me : am_M} {Q : Option am_V → am_H → Prop} {cells slots pc : Nat} {ls : am_Ls} {st : List am_V} {σ : am_H} {dflt lo hi off x : Int} {offs : Array Int} {len t : Nat} (hx1 : lo ≤ x) (hx2 : x ≤ hi) (ho : offs[(x - lo).toNat]? = some off) (hd : decode me.2.2.1 pc = .ok (.tableswitch dflt lo hi offs, len)) (ht : (pc : Int) + off = (t : Int)) (k : am_wp me Q cells slots t ls (st) σ) : am_wp me Q cells slots pc ls (am_i x :: st) σ := by
  intro p l e s m args below meth c base D ss n0 ρ0 C ρ H locs lsA h1 h2 h3 h4 h5 h6 h7
  obtain ⟨hx, g7a⟩ := List.forall_mem_cons.mp h7
  have e0 : (Int32.ofInt x).toInt = x := am_ti hx
  exact lv_tableIn C.1 C.2.1 hd (by rw [e0]; omega) (by rw [e0]; omega) (by rw [e0]; exact ho) ht (k p l e s m args below meth c base D ss n0 ρ0 C ρ H locs lsA h1 h2 h3 h4 h5 h6 g7a)
theorem am_tableOut {me : am_M} {Q : Option am_V → am_H → Prop} {cells slots pc : Nat} {ls : am_Ls} {st : List am_V} {σ : am_H} {dflt lo hi x : Int} {offs : Array Int} {len t : Nat} (hx1 : x < lo ∨ hi < x) (hd : decode me.2.2.1 pc = .ok (.tableswitch dflt lo hi offs, len)) (ht : (pc : Int) + dflt = (t : Int)) (k : am_wp me Q cells slots t ls (st) σ) : am_wp me Q cells slots pc ls (am_i x :: st) σ := by
  intro p l e s m args below meth c base D ss n0 ρ0 C ρ H locs lsA h1 h2 h3 h4 h5 h6 h7
  obtain ⟨hx, g7a⟩ := List.forall_mem_cons.mp h7
  have e0 : (Int32.ofInt x).toInt = x := am_ti hx
  exact lv_tableOut C.1 C.2.1 hd (by rw [e0]; exact hx1) ht (k p l e s m args below meth c base D ss n0 ρ0 C ρ H locs lsA h1 h2 h3 h4 h5 h6 g7a)
theorem am_lookup {me : am_M} {Q : Option am_V → am_H → Prop} {cells slots pc : Nat} {ls : am_Ls} {st : List am_V} {σ : am_H} {dflt x off : Int} {ps : Array (Int × Int)} {len t : Nat} (hp : (ps.toList.zip (ps.toList.drop 1)).all (fun (a, next) => a.1 < next.1) = true) (ho : Op.lookupswitch.offset ps.toList dflt x = off) (hd : decode me.2.2.1 pc = .ok (.lookupswitch dflt ps, len)) (ht : (pc : Int) + off = (t : Int)) (k : am_wp me Q cells slots t ls (st) σ) : am_wp me Q cells slots pc ls (am_i x :: st) σ := by
  intro p l e s m args below meth c base D ss n0 ρ0 C ρ H locs lsA h1 h2 h3 h4 h5 h6 h7
  obtain ⟨hx, g7a⟩ := List.forall_mem_cons.mp h7
  have e0 : (Int32.ofInt x).toInt = x := am_ti hx
  exact lv_lookup C.1 C.2.1 hd hp (by rw [e0]; exact ho) ht (k p l e s m args below meth c base D ss n0 ρ0 C ρ H locs lsA h1 h2 h3 h4 h5 h6 g7a)
