/-- where the model keeps which word -/
def WT : List (Nat × Nat) := [(58, 0), (59, 1), (60, 2), (61, 3), (62, 4), (63, 5), (64, 6), (65, 7), (66, 8), (67, 9), (68, 10), (69, 11), (70, 12), (71, 13), (72, 14), (73, 15), (74, 16), (75, 17), (76, 18), (77, 19), (78, 20), (79, 21), (80, 22), (81, 23), (82, 24), (83, 25), (84, 26), (103, 27), (104, 28), (105, 29), (106, 30), (107, 31), (108, 32), (109, 23), (110, 22), (111, 21), (112, 24), (113, 25), (114, 26), (115, 13), (116, 4), (117, 15), (118, 2), (119, 16), (120, 14), (121, 7), (122, 17), (123, 18), (124, 19), (125, 9), (126, 20)]
theorem WT_sh : ∀ q ∈ WT, SH[q.1]? = some (13, (WL.getD q.2 []).length) ∧ q.1 < 131 ∧ q.2 < 33 ∧ ¬ q.1 = 55 ∧ (WL.getD q.2 []).length ≤ 10 ∧ 58 ≤ q.1 ∧ (q.1 ≤ 84 ∨ (103 ≤ q.1 ∧ q.1 ≤ 126)) := by decide +kernel
def WD (S : am_H) : Prop := ∀ q ∈ WT, ∀ j, j < (WL.getD q.2 []).length → S.2.1 q.1 j = (WL.getD q.2 []).getD j 0
theorem WD.fr {W : Nat → Nat → Prop} {S T : am_H} (h : WD S) (hF : frw W S T) (hW : ∀ a j, (58 ≤ a ∧ a ≤ 84) ∨ (103 ≤ a ∧ a ≤ 126) → ¬ W a j) : WD T := by
  intro q hq j hj
  have h1 := WT_sh q hq
  rw [hF.2.2 q.1 j (hW q.1 j (by omega))]
  exact h q hq j hj
theorem sgn_r {c : Int} (h : sgn c = true) : 40 ≤ c ∧ c ≤ 93 ∧ ¬ isL c = true ∧ ¬ isDg c = true := by
  unfold sgn at h
  simp only [decide_eq_true_eq] at h
  unfold isL isDg
  simp only [decide_eq_true_eq]
  omega
theorem wkI_rng (b : Nat → Int) (x y : Nat) : wkI b x y = -1 ∨ (0 ≤ wkI b x y ∧ wkI b x y < 33) := firstQ_rng (g := fun w => mW b x y (WL.getD w [])) 33
theorem hw_iff {b : Nat → Int} {E i w : Nat} (hw : w < 33) : hwB b E i (WL.getD w []) = decide (zK b E i = 128 + (w : Int)) := by
  have hr := wkI_rng b (zP b E i) (rn isL b E (zP b E i))
  have hm := wk_iff (b := b) (x := zP b E i) (y := rn isL b E (zP b E i)) hw
  unfold hwB zK zk
  by_cases h1 : zP b E i < E
  · by_cases h2 : isL (b (zP b E i)) = true
    · by_cases h3 : zT b E i = true
      · rw [decide_eq_false (by intro hx; exact hx.2.2 h3), if_neg (by omega), if_pos h2, if_pos h3, decide_eq_false (by omega)]; rfl
      · rw [decide_eq_true ⟨h1, h2, h3⟩, if_neg (by omega), if_pos h2, if_neg h3, Bool.true_and]
        by_cases h4 : mW b (zP b E i) (rn isL b E (zP b E i)) (WL.getD w []) = true
        · have h5 := hm.mp h4
          rw [h4, if_neg (by omega), decide_eq_true (by omega)]
        · have h5 : ¬ wkI b (zP b E i) (rn isL b E (zP b E i)) = (w : Int) := fun h => h4 (hm.mpr h)
          rw [Bool.eq_false_iff.mpr h4]
          symm
          rw [decide_eq_false_iff_not]
          split
          · split <;> omega
          · omega
    · rw [decide_eq_false (by intro hx; exact h2 hx.2.1), if_neg (by omega), if_neg h2, Bool.false_and]
      symm
      rw [decide_eq_false_iff_not]
      split
      · split
        · omega
        · split <;> omega
      · split
        · rename_i h9
          have := sgn_r h9
          omega
        · omega
  · rw [decide_eq_false (by intro hx; exact h1 hx.1), if_pos h1, Bool.false_and]
    symm
    rw [decide_eq_false_iff_not]
    omega
theorem sg_iff {b : Nat → Int} {E i : Nat} {c : Int} (hc : sgn c = true) : byt b E i = c ↔ zK b E i = c := by
  have hr := wkI_rng b (zP b E i) (rn isL b E (zP b E i))
  have hs := sgn_r hc
  unfold byt zK zk
  by_cases h1 : zP b E i < E
  · rw [if_pos h1, if_neg (by omega)]
    by_cases h2 : isL (b (zP b E i)) = true
    · rw [if_pos h2]
      constructor
      · intro h; rw [h] at h2; exact absurd h2 hs.2.2.1
      · intro h
        exfalso
        split at h
        · omega
        · split at h
          · split at h <;> omega
          · omega
    · rw [if_neg h2]
      by_cases h3 : isDg (b (zP b E i)) = true
      · rw [if_pos h3]
        constructor
        · intro h; rw [h] at h3; exact absurd h3 hs.2.2.2
        · intro h
          exfalso
          split at h
          · omega
          · split at h <;> omega
      · rw [if_neg h3]
        by_cases h4 : sgn (b (zP b E i)) = true
        · rw [if_pos h4]
        · rw [if_neg h4]
          constructor
          · intro h; rw [h] at h4; exact absurd hc h4
          · intro h; omega
  · rw [if_neg h1, if_pos h1]
    constructor <;> intro h <;> omega
/-- the model stands ahead of place i -/
def ZS (b : Nat → Int) (E i : Nat) (S : am_H) : Prop := lay S ∧ WD S ∧ TS b E i S
def ZB (b : Nat → Int) (E : Nat) (k pl : Int) (S : am_H) : Prop := lay S ∧ WD S ∧ BD b E k pl S
theorem W_sc_w : ∀ a j, (58 ≤ a ∧ a ≤ 84) ∨ (103 ≤ a ∧ a ≤ 126) → ¬ W_sc a j := by unfold W_sc; omega
theorem c_hereX (b : Nat → Int) (E i : Nat) (S : am_H) (hZ : ZS b E i S) (a w : Nat) (hq : (a, w) ∈ WT) : am_met M_X10_isHere [am_r 55, am_r a] S (fun r τ => r = some (am_i (b2i (decide (zK b E i = 128 + (w : Int))))) ∧ τ = am_setN S 55 2 (zP b E i : Int)) := by
  have h1 := WT_sh _ hq
  have h2 := c_X10_isHere b E i S hZ.1 hZ.2.2 a (WL.getD w []) (by rw [hZ.1.1 a h1.2.1]; exact h1.1) h1.2.2.2.1 h1.2.2.2.2.1 (fun j hj => hZ.2.1 _ hq j hj)
  rw [hw_iff h1.2.2.1] at h2
  exact h2
theorem ZS.look {b : Nat → Int} {E i : Nat} {S : am_H} (h : ZS b E i S) : ZS b E i (am_setN S 55 2 (zP b E i : Int)) := ⟨h.1, h.2.1.fr ((frw.refl W_sc S).setN (by unfold W_sc; omega)) W_sc_w, h.2.2.look⟩
theorem c_hereY {b : Nat → Int} {E i : Nat} {S : am_H} (hZ : ZS b E i S) {a w : Nat} (hq : (a, w) ∈ WT) (hk : zK b E i = 128 + (w : Int)) : am_met M_X10_isHere [am_r 55, am_r a] S (fun r τ => r = some (am_i 1) ∧ ZS b E i τ ∧ frw W_sc S τ) := by
  refine am_mono (c_hereX b E i S hZ a w hq) (fun r τ h => ?_)
  obtain ⟨rfl, rfl⟩ := h
  exact ⟨by rw [decide_eq_true hk]; rfl, hZ.look, (frw.refl W_sc S).setN (by unfold W_sc; omega)⟩
theorem c_hereN {b : Nat → Int} {E i : Nat} {S : am_H} (hZ : ZS b E i S) {a w : Nat} (hq : (a, w) ∈ WT) (hk : ¬ zK b E i = 128 + (w : Int)) : am_met M_X10_isHere [am_r 55, am_r a] S (fun r τ => r = some (am_i 0) ∧ ZS b E i τ ∧ frw W_sc S τ) := by
  refine am_mono (c_hereX b E i S hZ a w hq) (fun r τ h => ?_)
  obtain ⟨rfl, rfl⟩ := h
  exact ⟨by rw [decide_eq_false hk]; rfl, hZ.look, (frw.refl W_sc S).setN (by unfold W_sc; omega)⟩
/-- behind a word -/
theorem TS_word {b : Nat → Int} {E i w : Nat} {S T : am_H} (h : TS b E i S) (hw : w < 33) (hk : zK b E i = 128 + (w : Int)) (hX : TX b E T) (h5 : T.2.1 55 5 = 0) (h6 : T.2.1 55 6 = -1) (h2 : T.2.1 55 2 = (zP b E i : Int) + ((WL.getD w []).length : Int)) (h4 : T.2.1 55 4 = (zP b E i : Int) + ((WL.getD w []).length : Int)) : TS b E (i + 1) T := by
  have hh := hw_iff (b := b) (E := E) (i := i) hw
  rw [decide_eq_true hk] at hh
  unfold hwB at hh
  simp only [Bool.and_eq_true, decide_eq_true_eq] at hh
  have hm := hh.2
  unfold mW at hm
  simp only [Bool.and_eq_true, decide_eq_true_eq] at hm
  have hr := rn_rng isL b (zP_rng b E i)
  have hz : zz b E (i + 1) = (sk b E (rn isL b E (zP b E i)), decide (sk b E (rn isL b E (zP b E i)) = rn isL b E (zP b E i))) := by
    show nxz b E (zP b E i) = _
    unfold nxz
    rw [if_neg (by omega), if_pos hh.1.2.1]
  have e2 : (T.2.1 55 2).toNat = rn isL b E (zP b E i) := by omega
  refine ⟨hX, h5, h6, by omega, by omega, ?_, ?_⟩
  · rw [e2]
    show _ = (zz b E (i + 1)).1
    rw [hz]
  · show (zz b E (i + 1)).2 = true ↔ _ = (((zz b E (i + 1)).1 : Nat) : Int)
    rw [hz]
    simp only [decide_eq_true_eq]
    omega
theorem TS_sign {b : Nat → Int} {E i : Nat} {c : Int} {S T : am_H} (h : TS b E i S) (hc : sgn c = true) (hk : zK b E i = c) (hX : TX b E T) (h5 : T.2.1 55 5 = 0) (h6 : T.2.1 55 6 = -1) (h2 : T.2.1 55 2 = (zP b E i : Int) + 1) (h4 : T.2.1 55 4 = S.2.1 55 4) : TS b E (i + 1) T := by
  have hb := (sg_iff hc).mpr hk
  have hs := sgn_r hc
  have hlt : zP b E i < E := by
    unfold byt at hb
    split at hb
    · assumption
    · omega
  unfold byt at hb
  rw [if_pos hlt] at hb
  have hz : zz b E (i + 1) = (sk b E (zP b E i + 1), false) := by
    show nxz b E (zP b E i) = _
    unfold nxz
    rw [hb, if_neg (by omega), if_neg hs.2.2.1, if_neg hs.2.2.2]
  have e2 : (T.2.1 55 2).toNat = zP b E i + 1 := by omega
  have hr := rn_rng isBl b (E := E) (x := zP b E i + 1) (by omega)
  have hz0 := zP_s h
  have hA := h.2.2.2.1
  have hE := h.2.2.2.2.1
  refine ⟨hX, h5, h6, by omega, by omega, ?_, ?_⟩
  · rw [e2]
    show _ = (zz b E (i + 1)).1
    rw [hz]
  · show (zz b E (i + 1)).2 = true ↔ _ = (((zz b E (i + 1)).1 : Nat) : Int)
    rw [hz]
    unfold sk
    constructor
    · intro h9; exact absurd h9 (by simp)
    · intro h9
      exfalso
      simp only at h9
      omega
