/-! rows of the abstract machine over the heap -/
def am_setN (σ : am_H) (a j : Nat) (x : Int) : am_H := (σ.1, fun b k => if b = a ∧ k = j then x else σ.2.1 b k, σ.2.2)
def am_setR (σ : am_H) (a j : Nat) (r : Option Nat) : am_H := (σ.1, σ.2.1, fun b k => if b = a ∧ k = j then r else σ.2.2 b k)
def am_setA (σ : am_H) (a : Nat) (f : Nat → Int) : am_H := (σ.1, fun b k => if b = a then f k else σ.2.1 b k, σ.2.2)
def am_new (σ : am_H) (k n : Nat) : am_H := (σ.1 ++ [(k, n)], fun b j => if b = σ.1.length then 0 else σ.2.1 b j, fun b j => if b = σ.1.length then none else σ.2.2 b j)
def am_tk (k j : Nat) : Nat := match am_ty k j with
  | .long => 2
  | .object _ => 3
  | .array _ => 3
  | .int => 1
  | .boolean => 1
  | _ => 4
theorem am_ws_at (D : am_D) (ρ : Nat → Nat) (σ : am_H) (a : Nat) : (am_ws D ρ σ)[a]? = (σ.1[a]?).map (fun q => (ρ a, am_cell D ρ σ a q)) := by
  simp [am_ws]
theorem am_cell_congr {D : am_D} {ρ ρ' : Nat → Nat} {σ σ' : am_H} {a : Nat} (h1 : ∀ i, σ'.2.1 a i = σ.2.1 a i) (h2 : ∀ i, (σ'.2.2 a i).map ρ' = (σ.2.2 a i).map ρ) (q : Nat × Nat) : am_cell D ρ' σ' a q = am_cell D ρ σ a q := by
  have hf : am_fv ρ' σ' q.1 a = am_fv ρ σ q.1 a := by
    funext j
    simp only [am_fv, h1, h2]
  simp only [am_cell, hf, h1, h2]
theorem am_ws_len (D : am_D) (ρ : Nat → Nat) (σ : am_H) : (am_ws D ρ σ).length = σ.1.length := by simp [am_ws]
theorem am_ws_set {D : am_D} {ρ : Nat → Nat} {σ σ' : am_H} {a : Nat} {q : Nat × Nat} {E : va_E} (hsh : σ'.1 = σ.1) (hq : σ.1[a]? = some q) (h1 : ∀ b, b ≠ a → ∀ i, σ'.2.1 b i = σ.2.1 b i) (h2 : ∀ b, b ≠ a → ∀ i, σ'.2.2 b i = σ.2.2 b i) (hc : am_cell D ρ σ' a q = E) : am_ws D ρ σ' = (am_ws D ρ σ).set a (ρ a, E) := by
  apply List.ext_getElem?
  intro b
  rw [am_ws_at, hsh]
  by_cases hb : b = a
  · subst hb
    have hl : b < (am_ws D ρ σ).length := by rw [am_ws_len]; exact (List.getElem?_eq_some_iff.mp hq).1
    rw [List.getElem?_set_self hl, hq]
    simp [hc]
  · rw [List.getElem?_set_ne (Ne.symm hb), am_ws_at]
    cases hs : σ.1[b]? with
    | none => rfl
    | some z =>
      simp only [Option.map_some]
      rw [am_cell_congr (h1 b hb) (fun i => by rw [h2 b hb])]
theorem am_setmap {α : Type} {f g : Nat → α} {n j : Nat} (h : ∀ i, i ≠ j → f i = g i) : (List.range n).map f = ((List.range n).map g).set j (f j) := by
  apply List.ext_getElem?
  intro i
  by_cases hi : i = j
  · subst hi
    by_cases hn : i < n
    · rw [List.getElem?_set_self (by simpa using hn)]
      simp [hn]
    · simp [hn]
  · rw [List.getElem?_set_ne (Ne.symm hi)]
    simp only [List.getElem?_map]
    by_cases hn : i < n
    · simp [hn, h i hi]
    · simp [hn]
theorem am_cl_at {k : Nat} (h : k < 11) : vwCl[k]? = some (am_cl k) := by
  match k, h with
  | 0, _ => rfl | 1, _ => rfl | 2, _ => rfl | 3, _ => rfl | 4, _ => rfl | 5, _ => rfl | 6, _ => rfl | 7, _ => rfl | 8, _ => rfl | 9, _ => rfl | 10, _ => rfl
theorem am_cl_n {k : Nat} (h : k < 11) : (am_cl k).2.2 = am_nf k := by
  match k, h with
  | 0, _ => rfl | 1, _ => rfl | 2, _ => rfl | 3, _ => rfl | 4, _ => rfl | 5, _ => rfl | 6, _ => rfl | 7, _ => rfl | 8, _ => rfl | 9, _ => rfl | 10, _ => rfl
theorem am_inK {k : Nat} (h : k < 11) : ∀ w ∈ u_ws (am_cl k).1 (am_cl k).2.1 (am_cl k).2.2, w ∈ am_tb := by
  match k, h with
  | 0, _ => exact am_inX0 | 1, _ => exact am_inX1 | 2, _ => exact am_inX2 | 3, _ => exact am_inX3 | 4, _ => exact am_inX4 | 5, _ => exact am_inX5 | 6, _ => exact am_inX6 | 7, _ => exact am_inX7 | 8, _ => exact am_inX8 | 9, _ => exact am_inX9 | 10, _ => exact am_inX10
theorem am_tyK {k : Nat} (h : k < 11) : ∀ j, j < (am_cl k).2.2 → parseFieldDescriptor ((am_cl k).2.1 j).2.2.1 = some (am_ty k j) := by
  match k, h with
  | 0, _ => exact tyX0_ok | 1, _ => exact tyX1_ok | 2, _ => exact tyX2_ok | 3, _ => exact tyX3_ok | 4, _ => exact tyX4_ok | 5, _ => exact tyX5_ok | 6, _ => exact tyX6_ok | 7, _ => exact tyX7_ok | 8, _ => exact tyX8_ok | 9, _ => exact tyX9_ok | 10, _ => exact tyX10_ok
theorem am_nmK {k : Nat} (h : k < 11) : ∀ a, a < (am_cl k).2.2 → ∀ b, b < (am_cl k).2.2 → a ≠ b → ((am_cl k).2.1 a).2.1 ≠ ((am_cl k).2.1 b).2.1 := by
  match k, h with
  | 0, _ => exact nmX0 | 1, _ => exact nmX1 | 2, _ => exact nmX2 | 3, _ => exact nmX3 | 4, _ => exact nmX4 | 5, _ => exact nmX5 | 6, _ => exact nmX6 | 7, _ => exact nmX7 | 8, _ => exact nmX8 | 9, _ => exact nmX9 | 10, _ => exact nmX10
abbrev am_fl (me : am_M) (idx k j : Nat) : Cond := Cond.fieldLink me.1 idx ((am_cl k).2.1 j).1 ((am_cl k).2.1 j).2.1 ((am_cl k).2.1 j).2.2.1
abbrev am_fn (me : am_M) (idx k j : Nat) : Cond := Cond.fieldLinkNest me.1 idx ((am_cl k).2.1 j).1 ((am_cl k).2.1 j).2.1 ((am_cl k).2.1 j).2.2.1 RX9
theorem am_hset {σ : am_H} {a j : Nat} {x : Int} (h : am_hok σ) (hr : ∀ q, σ.1[a]? = some q → am_rg (am_ty q.1 j) x) : am_hok (am_setN σ a j x) := by
  refine ⟨fun b i q hq => ?_, h.2.1, h.2.2⟩
  show am_rg _ (if b = a ∧ i = j then x else σ.2.1 b i)
  by_cases hc : b = a ∧ i = j
  · rw [if_pos hc]; obtain ⟨rfl, rfl⟩ := hc; exact hr q hq
  · rw [if_neg hc]; exact h.1 b i q hq
theorem am_hsetA {σ : am_H} {a : Nat} {f : Nat → Int} (h : am_hok σ) (hr : ∀ q i, σ.1[a]? = some q → am_rg (am_ty q.1 i) (f i)) : am_hok (am_setA σ a f) := by
  refine ⟨fun b i q hq => ?_, h.2.1, h.2.2⟩
  show am_rg _ (if b = a then f i else σ.2.1 b i)
  by_cases hc : b = a
  · rw [if_pos hc]; subst hc; exact hr q i hq
  · rw [if_neg hc]; exact h.1 b i q hq
theorem am_hsetR {σ : am_H} {a j : Nat} {r : Option Nat} (h : am_hok σ) (hr : ∀ b, r = some b → b < σ.1.length) : am_hok (am_setR σ a j r) := by
  refine ⟨h.1, fun b i z hz => ?_, h.2.2⟩
  have hz : (if b = a ∧ i = j then r else σ.2.2 b i) = some z := hz
  by_cases hc : b = a ∧ i = j
  · rw [if_pos hc] at hz; exact hr z hz
  · rw [if_neg hc] at hz; exact h.2.1 b i z hz
theorem am_objcell {D : am_D} {ρ : Nat → Nat} {σ : am_H} {a k n : Nat} (hk : k < 11) : am_cell D ρ σ a (k, n) = .inr (k, (List.range n).map (am_fv ρ σ k a)) := by
  simp [am_cell, hk]
section AMH
variable {me : am_M} {Q : Option am_V → am_H → Prop} {cells slots pc q : Nat} {ls : am_Ls} {st : List am_V} {σ : am_H}
theorem am_getI {a k n j idx : Nat} {x : Int} (hs : σ.1[a]? = some (k, n)) (hk : k < 11) (ht : am_tk k j = 1) (hx : σ.2.1 a j = x) (hj : j < am_nf k) (hw : am_fl me idx k j ∈ am_tb ∨ am_fn me idx k j ∈ am_tb) (hd : decode me.2.2.1 pc = .ok (.getfield idx, 3)) (hq : pc + 3 = q) (kk : am_wp me Q cells slots q ls (am_i x :: st) σ) : am_wp me Q cells slots pc ls (am_r a :: st) σ := by
  intro p l e s m args below meth c base D ss n0 ρ0 C ρ H locs lsA h1 h2 h3 h4 h5 h6 h7
  subst hq
  have hn : n = am_nf k := (h3.2.2.2.2 a (k, n) hs).2 hk
  have he : (am_ws D ρ σ)[a]? = some (ρ a, .inr (k, (List.range n).map (am_fv ρ σ k a))) := by rw [am_ws_at, hs, Option.map_some, am_objcell hk]
  have hrg : -2147483648 ≤ x ∧ x < 2147483648 := by
    have h9 := h3.2.2.1 a j (k, n) hs
    rw [hx] at h9
    unfold am_tk at ht
    revert ht h9
    cases am_ty k j <;> simp [am_rg] <;> omega
  have hv : ((List.range n).map (am_fv ρ σ k a))[j]? = some (Value.int (Int32.ofInt x)) := by
    rw [List.getElem?_map, List.getElem?_range (by omega)]
    simp only [Option.map_some, am_fv, hx]
    unfold am_tk at ht
    revert ht
    cases am_ty k j <;> simp
  have hK := kk p l e s m args below meth c base D ss n0 ρ0 C ρ H locs lsA h1 h2 h3 h4 h5 h6 (am_all2 hrg (List.forall_mem_cons.mp h7).2)
  rcases hw with hw | hw
  · exact va_get (C := (am_cl k).1) (T := (am_cl k).2.1) (N := (am_cl k).2.2) C.1 C.2.1 C.2.2.2.2.2.1 (am_inK hk) C.2.2.2.2.1 C.2.2.2.2.2.2.2.2.1 h3.1 a he (am_cl_at hk) j (by rw [am_cl_n hk]; exact hj) (C.2.2.2.2.2.1 _ hw) (fun _ h9 => h9) hv hd hK
  · exact va_getN (C := (am_cl k).1) (T := (am_cl k).2.1) (N := (am_cl k).2.2) C.1 C.2.1 C.2.2.2.2.2.1 (am_inK hk) C.2.2.2.2.1 C.2.2.2.2.2.2.2.2.1 h3.1 a he (am_cl_at hk) j (by rw [am_cl_n hk]; exact hj) (C.2.2.2.2.2.1 _ hw) (fun _ h9 => h9) hv hd hK
theorem am_getL {a k n j idx : Nat} {x : Int} (hs : σ.1[a]? = some (k, n)) (hk : k < 11) (ht : am_tk k j = 2) (hx : σ.2.1 a j = x) (hj : j < am_nf k) (hw : am_fl me idx k j ∈ am_tb ∨ am_fn me idx k j ∈ am_tb) (hd : decode me.2.2.1 pc = .ok (.getfield idx, 3)) (hq : pc + 3 = q) (kk : am_wp me Q cells slots q ls (am_l x :: st) σ) : am_wp me Q cells slots pc ls (am_r a :: st) σ := by
  intro p l e s m args below meth c base D ss n0 ρ0 C ρ H locs lsA h1 h2 h3 h4 h5 h6 h7
  subst hq
  have hn : n = am_nf k := (h3.2.2.2.2 a (k, n) hs).2 hk
  have he : (am_ws D ρ σ)[a]? = some (ρ a, .inr (k, (List.range n).map (am_fv ρ σ k a))) := by rw [am_ws_at, hs, Option.map_some, am_objcell hk]
  have hrg : -9223372036854775808 ≤ x ∧ x < 9223372036854775808 := by
    have h9 := h3.2.2.1 a j (k, n) hs
    rw [hx] at h9
    unfold am_tk at ht
    revert ht h9
    cases am_ty k j <;> simp [am_rg] <;> omega
  have hv : ((List.range n).map (am_fv ρ σ k a))[j]? = some (Value.long (Int64.ofInt x)) := by
    rw [List.getElem?_map, List.getElem?_range (by omega)]
    simp only [Option.map_some, am_fv, hx]
    unfold am_tk at ht
    revert ht
    cases am_ty k j <;> simp
  have hK := kk p l e s m args below meth c base D ss n0 ρ0 C ρ H locs lsA h1 h2 h3 h4 h5 h6 (am_all2 hrg (List.forall_mem_cons.mp h7).2)
  rcases hw with hw | hw
  · exact va_get (C := (am_cl k).1) (T := (am_cl k).2.1) (N := (am_cl k).2.2) C.1 C.2.1 C.2.2.2.2.2.1 (am_inK hk) C.2.2.2.2.1 C.2.2.2.2.2.2.2.2.1 h3.1 a he (am_cl_at hk) j (by rw [am_cl_n hk]; exact hj) (C.2.2.2.2.2.1 _ hw) (fun _ h9 => h9) hv hd hK
  · exact va_getN (C := (am_cl k).1) (T := (am_cl k).2.1) (N := (am_cl k).2.2) C.1 C.2.1 C.2.2.2.2.2.1 (am_inK hk) C.2.2.2.2.1 C.2.2.2.2.2.2.2.2.1 h3.1 a he (am_cl_at hk) j (by rw [am_cl_n hk]; exact hj) (C.2.2.2.2.2.1 _ hw) (fun _ h9 => h9) hv hd hK
theorem am_getR {a k n j idx : Nat} {r : Option Nat} (hs : σ.1[a]? = some (k, n)) (hk : k < 11) (ht : am_tk k j = 3) (hx : σ.2.2 a j = r) (hj : j < am_nf k) (hw : am_fl me idx k j ∈ am_tb ∨ am_fn me idx k j ∈ am_tb) (hd : decode me.2.2.1 pc = .ok (.getfield idx, 3)) (hq : pc + 3 = q) (kk : am_wp me Q cells slots q ls (am_o r :: st) σ) : am_wp me Q cells slots pc ls (am_r a :: st) σ := by
  intro p l e s m args below meth c base D ss n0 ρ0 C ρ H locs lsA h1 h2 h3 h4 h5 h6 h7
  subst hq
  have hn : n = am_nf k := (h3.2.2.2.2 a (k, n) hs).2 hk
  have he : (am_ws D ρ σ)[a]? = some (ρ a, .inr (k, (List.range n).map (am_fv ρ σ k a))) := by rw [am_ws_at, hs, Option.map_some, am_objcell hk]
  have hrg : ∀ b, r = some b → b < σ.1.length := fun b hb => h3.2.2.2.1 a j b (by rw [hx, hb])
  have hv : ((List.range n).map (am_fv ρ σ k a))[j]? = some (va_rf (r.map ρ)) := by
    rw [List.getElem?_map, List.getElem?_range (by omega)]
    simp only [Option.map_some, am_fv, hx]
    unfold am_tk at ht
    revert ht
    cases am_ty k j <;> simp
  have hK := kk p l e s m args below meth c base D ss n0 ρ0 C ρ H locs lsA h1 h2 h3 h4 h5 h6 (am_all2 (P := am_ok σ.1.length) (a := am_o r) hrg (List.forall_mem_cons.mp h7).2)
  rcases hw with hw | hw
  · exact va_get (C := (am_cl k).1) (T := (am_cl k).2.1) (N := (am_cl k).2.2) C.1 C.2.1 C.2.2.2.2.2.1 (am_inK hk) C.2.2.2.2.1 C.2.2.2.2.2.2.2.2.1 h3.1 a he (am_cl_at hk) j (by rw [am_cl_n hk]; exact hj) (C.2.2.2.2.2.1 _ hw) (fun _ h9 => h9) hv hd hK
  · exact va_getN (C := (am_cl k).1) (T := (am_cl k).2.1) (N := (am_cl k).2.2) C.1 C.2.1 C.2.2.2.2.2.1 (am_inK hk) C.2.2.2.2.1 C.2.2.2.2.2.2.2.2.1 h3.1 a he (am_cl_at hk) j (by rw [am_cl_n hk]; exact hj) (C.2.2.2.2.2.1 _ hw) (fun _ h9 => h9) hv hd hK
end AMH
