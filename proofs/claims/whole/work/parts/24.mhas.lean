/-- the ranges of the town that stands and of the time, in the model -/
def MR (σ : am_H) : Prop := (0 ≤ σ.2.1 85 5 ∧ σ.2.1 85 5 ≤ 8) ∧ (0 ≤ σ.2.1 85 8 ∧ σ.2.1 85 8 ≤ 4) ∧ (0 ≤ σ.2.1 85 9 ∧ σ.2.1 85 9 ≤ 90) ∧ ((σ.2.1 55 52 = 0 ∧ σ.2.1 85 9 = 0 ∧ σ.2.1 85 5 = 0) ∨ (σ.2.1 55 52 = 1 ∧ 5 ≤ σ.2.1 85 9)) ∧ (∀ p : Nat, p < 8 → 0 ≤ σ.2.1 87 (8 + p) ∧ σ.2.1 87 (8 + p) ≤ 99) ∧ (∀ p : Nat, p < 8 → 0 ≤ σ.2.1 88 (8 + p) ∧ σ.2.1 88 (8 + p) ≤ 99) ∧ (∀ p : Nat, p < 8 → 0 ≤ σ.2.1 89 (8 + p) ∧ σ.2.1 89 (8 + p) < 256) ∧ (∀ k : Nat, k < 4 → (0 ≤ σ.2.1 91 (8 + 2 * k) ∧ σ.2.1 91 (8 + 2 * k) ≤ 90) ∧ (0 ≤ σ.2.1 91 (9 + 2 * k) ∧ σ.2.1 91 (9 + 2 * k) ≤ 30)) ∧ (1 ≤ σ.2.1 96 0 ∧ σ.2.1 96 0 ≤ 999) ∧ (0 ≤ σ.2.1 96 1 ∧ σ.2.1 96 1 ≤ σ.2.1 85 9) ∧ (0 ≤ σ.2.1 96 2 ∧ σ.2.1 96 2 ≤ 90) ∧ (0 ≤ σ.2.1 96 3 ∧ σ.2.1 96 3 ≤ 999999) ∧ (∀ p : Nat, p < 8 → 0 ≤ σ.2.1 96 (4 + p) ∧ σ.2.1 96 (4 + p) ≤ 99) ∧ (∀ p : Nat, p < 8 → σ.2.1 96 (12 + p) = 0 ∨ σ.2.1 96 (12 + p) = 1) ∧ (∀ d : Nat, d < 91 → 0 ≤ σ.2.1 96 (20 + d) ∧ σ.2.1 96 (20 + d) < 256) ∧ (∀ d : Nat, d < 91 → 0 ≤ σ.2.1 96 (111 + d) ∧ σ.2.1 96 (111 + d) < 256) ∧ (0 ≤ σ.2.1 96 202 ∧ σ.2.1 96 202 ≤ 60) ∧ (∀ k : Nat, k < 60 → 0 ≤ σ.2.1 96 (204 + 4 * k) ∧ σ.2.1 96 (204 + 4 * k) ≤ 90) ∧ (0 ≤ σ.2.1 92 2 ∧ σ.2.1 92 2 ≤ 100) ∧ (0 ≤ σ.2.1 92 3 ∧ σ.2.1 92 3 ≤ 1000)
theorem MR.P {σ : am_H} (h : MR σ) : 0 ≤ σ.2.1 85 5 ∧ σ.2.1 85 5 ≤ 8 := h.1
theorem MR.F {σ : am_H} (h : MR σ) : 0 ≤ σ.2.1 85 8 ∧ σ.2.1 85 8 ≤ 4 := h.2.1
theorem MR.Y {σ : am_H} (h : MR σ) : 0 ≤ σ.2.1 85 9 ∧ σ.2.1 85 9 ≤ 90 := h.2.2.1
theorem MR.T {σ : am_H} (h : MR σ) : (σ.2.1 55 52 = 0 ∧ σ.2.1 85 9 = 0 ∧ σ.2.1 85 5 = 0) ∨ (σ.2.1 55 52 = 1 ∧ 5 ≤ σ.2.1 85 9) := h.2.2.2.1
theorem MR.mind {σ : am_H} (h : MR σ) : ∀ p : Nat, p < 8 → 0 ≤ σ.2.1 87 (8 + p) ∧ σ.2.1 87 (8 + p) ≤ 99 := h.2.2.2.2.1
theorem MR.ask {σ : am_H} (h : MR σ) : ∀ p : Nat, p < 8 → 0 ≤ σ.2.1 88 (8 + p) ∧ σ.2.1 88 (8 + p) ≤ 99 := h.2.2.2.2.2.1
theorem MR.rem {σ : am_H} (h : MR σ) : ∀ p : Nat, p < 8 → 0 ≤ σ.2.1 89 (8 + p) ∧ σ.2.1 89 (8 + p) < 256 := h.2.2.2.2.2.2.1
theorem MR.fro {σ : am_H} (h : MR σ) : ∀ k : Nat, k < 4 → (0 ≤ σ.2.1 91 (8 + 2 * k) ∧ σ.2.1 91 (8 + 2 * k) ≤ 90) ∧ (0 ≤ σ.2.1 91 (9 + 2 * k) ∧ σ.2.1 91 (9 + 2 * k) ≤ 30) := h.2.2.2.2.2.2.2.1
theorem MR.year {σ : am_H} (h : MR σ) : 1 ≤ σ.2.1 96 0 ∧ σ.2.1 96 0 ≤ 999 := h.2.2.2.2.2.2.2.2.1
theorem MR.day {σ : am_H} (h : MR σ) : 0 ≤ σ.2.1 96 1 ∧ σ.2.1 96 1 ≤ σ.2.1 85 9 := h.2.2.2.2.2.2.2.2.2.1
theorem MR.feast {σ : am_H} (h : MR σ) : 0 ≤ σ.2.1 96 2 ∧ σ.2.1 96 2 ≤ 90 := h.2.2.2.2.2.2.2.2.2.2.1
theorem MR.coins {σ : am_H} (h : MR σ) : 0 ≤ σ.2.1 96 3 ∧ σ.2.1 96 3 ≤ 999999 := h.2.2.2.2.2.2.2.2.2.2.2.1
theorem MR.ago {σ : am_H} (h : MR σ) : ∀ p : Nat, p < 8 → 0 ≤ σ.2.1 96 (4 + p) ∧ σ.2.1 96 (4 + p) ≤ 99 := h.2.2.2.2.2.2.2.2.2.2.2.2.1
theorem MR.dead {σ : am_H} (h : MR σ) : ∀ p : Nat, p < 8 → σ.2.1 96 (12 + p) = 0 ∨ σ.2.1 96 (12 + p) = 1 := h.2.2.2.2.2.2.2.2.2.2.2.2.2.1
theorem MR.told {σ : am_H} (h : MR σ) : ∀ d : Nat, d < 91 → 0 ≤ σ.2.1 96 (20 + d) ∧ σ.2.1 96 (20 + d) < 256 := h.2.2.2.2.2.2.2.2.2.2.2.2.2.2.1
theorem MR.brib {σ : am_H} (h : MR σ) : ∀ d : Nat, d < 91 → 0 ≤ σ.2.1 96 (111 + d) ∧ σ.2.1 96 (111 + d) < 256 := h.2.2.2.2.2.2.2.2.2.2.2.2.2.2.2.1
theorem MR.kept {σ : am_H} (h : MR σ) : 0 ≤ σ.2.1 96 202 ∧ σ.2.1 96 202 ≤ 60 := h.2.2.2.2.2.2.2.2.2.2.2.2.2.2.2.2.1
theorem MR.kday {σ : am_H} (h : MR σ) : ∀ k : Nat, k < 60 → 0 ≤ σ.2.1 96 (204 + 4 * k) ∧ σ.2.1 96 (204 + 4 * k) ≤ 90 := h.2.2.2.2.2.2.2.2.2.2.2.2.2.2.2.2.2.1
theorem MR.slip {σ : am_H} (h : MR σ) : 0 ≤ σ.2.1 92 2 ∧ σ.2.1 92 2 ≤ 100 := h.2.2.2.2.2.2.2.2.2.2.2.2.2.2.2.2.2.2.1
theorem MR.mort {σ : am_H} (h : MR σ) : 0 ≤ σ.2.1 92 3 ∧ σ.2.1 92 3 ≤ 1000 := h.2.2.2.2.2.2.2.2.2.2.2.2.2.2.2.2.2.2.2
def pN (σ : am_H) : Nat := (σ.2.1 85 5).toNat
theorem pN_eq {σ : am_H} (h : MR σ) : σ.2.1 85 5 = (pN σ : Int) := by have := h.P; unfold pN; omega
theorem pN_8 {σ : am_H} (h : MR σ) : pN σ ≤ 8 := by have := h.P; unfold pN; omega
def fN (σ : am_H) : Nat := (σ.2.1 85 8).toNat
theorem fN_eq {σ : am_H} (h : MR σ) : σ.2.1 85 8 = (fN σ : Int) := by have := h.F; unfold fN; omega
theorem fN_4 {σ : am_H} (h : MR σ) : fN σ ≤ 4 := by have := h.F; unfold fN; omega
/-- who lives -/
def lvM (σ : am_H) : Int := mkS (fun p => decide (¬ σ.2.1 96 (12 + p) = 1)) (pN σ)
def frM (σ : am_H) (d : Int) : Bool := anyB (fun k => decide (σ.2.1 91 (8 + 2 * k) ≤ d ∧ d ≤ σ.2.1 91 (8 + 2 * k) + σ.2.1 91 (9 + 2 * k) - 1)) (fN σ)
def stM (σ : am_H) (f : Nat) : Int := sumN (fun d => bc (σ.2.1 96 (f + 1 + d))) 90
theorem lvM_rng {σ : am_H} (h : MR σ) : 0 ≤ lvM σ ∧ lvM σ < 256 := mkS_256 _ (pN_8 h)
theorem told_b {σ : am_H} (h : MR σ) : ∀ d, d < 90 → 0 ≤ σ.2.1 96 (20 + 1 + d) ∧ σ.2.1 96 (20 + 1 + d) < 256 := fun d hd => by have := h.told (1 + d) (by omega); rw [show 20 + (1 + d) = 20 + 1 + d by omega] at this; exact this
theorem brib_b {σ : am_H} (h : MR σ) : ∀ d, d < 90 → 0 ≤ σ.2.1 96 (111 + 1 + d) ∧ σ.2.1 96 (111 + 1 + d) < 256 := fun d hd => by have := h.brib (1 + d) (by omega); rw [show 111 + (1 + d) = 111 + 1 + d by omega] at this; exact this
def hasM (σ : am_H) (n : Int) : Int := if n = 0 then σ.2.1 85 9 else if n = 1 then σ.2.1 85 5 else if n = 2 then bc (lvM σ) else if n = 3 then σ.2.1 96 0 else if n = 4 then σ.2.1 96 1 else if n = 5 then σ.2.1 96 2 else if n = 6 then stM σ 20 else if n = 7 then stM σ 111 else if n = 8 then σ.2.1 96 3 else if n = 9 then σ.2.1 96 202 else if n = 10 then σ.2.1 55 65 else if n = 11 then σ.2.1 55 69 else -1
theorem c_X10_has (σ : am_H) (hL : lay σ) (n : Int) (hR : MR σ) : am_met M_X10_has [am_r 55, am_i n] σ (fun r σ' => r = some (am_i (hasM σ n)) ∧ σ' = σ) := by
  refine am_enter (show plainFor yX10_has = true by decide +kernel) rfl (Nat.le_of_ble_eq_true rfl) (fun _ _ _ => trivial) ?_
  refine am_iload_n (q := 1) rfl (am_tab tk_X10_has 0 rfl) rfl ?_
  rcases (show n = 0 ∨ n = 1 ∨ n = 2 ∨ n = 3 ∨ n = 4 ∨ n = 5 ∨ n = 6 ∨ n = 7 ∨ n = 8 ∨ n = 9 ∨ n = 10 ∨ n = 11 ∨ (n < 0 ∨ 11 < n) by omega) with e1 | e1 | e1 | e1 | e1 | e1 | e1 | e1 | e1 | e1 | e1 | e1 | e1
  · refine am_tableIn (t := 64) (off := 63) (by omega) (by omega) (by rw [e1]; rfl) dsw_X10_has_1 (by decide) ?_
    refine am_aload_n (q := 65) rfl (am_tab tk_X10_has 2 rfl) rfl ?_
    refine am_callV0 (q := 68) (me2 := M_X10_yearDays) (b := 55) (kb := 10) (nb := 108) (As := []) (rest := []) (out := [am_i (σ.2.1 85 9)]) (c_X10_yearDays σ hL  ) ⟨rfl, rfl⟩ (Ls_55 hL) (by decide) ⟨Or.inl km_X10_397, kc_X10_yearDays, kn_X10, kd_X10_yearDays, ⟨(Nat.le_of_ble_eq_true rfl), (Nat.le_of_ble_eq_true rfl)⟩, ⟨(Nat.le_of_ble_eq_true rfl), (Nat.le_of_ble_eq_true rfl)⟩, (Nat.le_of_ble_eq_true rfl)⟩ ki_X10_yearDays ks_X10_yearDays rfl rfl (am_tab tk_X10_has 3 rfl) rfl ?_
    refine am_iret (Or.inl rfl) (Nat.le_of_ble_eq_true rfl) (Nat.le_of_ble_eq_true rfl) (am_tab tk_X10_has 4 rfl) ?_
    refine ⟨congrArg (fun z => some (am_i z)) ?_, rfl⟩
    unfold hasM
    first | (subst e1; rfl) | (rw [if_neg (by omega), if_neg (by omega), if_neg (by omega), if_neg (by omega), if_neg (by omega), if_neg (by omega), if_neg (by omega), if_neg (by omega), if_neg (by omega), if_neg (by omega), if_neg (by omega), if_neg (by omega)])
  · refine am_tableIn (t := 69) (off := 68) (by omega) (by omega) (by rw [e1]; rfl) dsw_X10_has_1 (by decide) ?_
    refine am_aload_n (q := 70) rfl (am_tab tk_X10_has 5 rfl) rfl ?_
    refine am_callV0 (q := 73) (me2 := M_X10_peopleMany) (b := 55) (kb := 10) (nb := 108) (As := []) (rest := []) (out := [am_i (σ.2.1 85 5)]) (c_X10_peopleMany σ hL  ) ⟨rfl, rfl⟩ (Ls_55 hL) (by decide) ⟨Or.inl km_X10_394, kc_X10_peopleMany, kn_X10, kd_X10_peopleMany, ⟨(Nat.le_of_ble_eq_true rfl), (Nat.le_of_ble_eq_true rfl)⟩, ⟨(Nat.le_of_ble_eq_true rfl), (Nat.le_of_ble_eq_true rfl)⟩, (Nat.le_of_ble_eq_true rfl)⟩ ki_X10_peopleMany ks_X10_peopleMany rfl rfl (am_tab tk_X10_has 6 rfl) rfl ?_
    refine am_iret (Or.inl rfl) (Nat.le_of_ble_eq_true rfl) (Nat.le_of_ble_eq_true rfl) (am_tab tk_X10_has 7 rfl) ?_
    refine ⟨congrArg (fun z => some (am_i z)) ?_, rfl⟩
    unfold hasM
    first | (subst e1; rfl) | (rw [if_neg (by omega), if_neg (by omega), if_neg (by omega), if_neg (by omega), if_neg (by omega), if_neg (by omega), if_neg (by omega), if_neg (by omega), if_neg (by omega), if_neg (by omega), if_neg (by omega), if_neg (by omega)])
  · refine am_tableIn (t := 74) (off := 73) (by omega) (by omega) (by rw [e1]; rfl) dsw_X10_has_1 (by decide) ?_
    refine am_aload_n (q := 75) rfl (am_tab tk_X10_has 8 rfl) rfl ?_
    refine am_callV0 (q := 78) (me2 := M_X10_living) (b := 55) (kb := 10) (nb := 108) (As := []) (rest := []) (out := [am_i (lvM σ)]) (c_X10_living σ hL (pN σ) (pN_eq hR) (pN_8 hR)) ⟨rfl, rfl⟩ (Ls_55 hL) (by decide) ⟨Or.inl km_X10_484, kc_X10_living, kn_X10, kd_X10_living, ⟨(Nat.le_of_ble_eq_true rfl), (Nat.le_of_ble_eq_true rfl)⟩, ⟨(Nat.le_of_ble_eq_true rfl), (Nat.le_of_ble_eq_true rfl)⟩, (Nat.le_of_ble_eq_true rfl)⟩ ki_X10_living ks_X10_living rfl rfl (am_tab tk_X10_has 9 rfl) rfl ?_
    refine am_callS0 (q := 81) (me2 := M_X10_bits) (As := [am_i (lvM σ)]) (rest := []) (out := [am_i (bc (lvM σ))]) (c_X10_bits σ hL (lvM σ) (lvM_rng hR)) ⟨rfl, rfl⟩ ⟨Or.inl km_X10_473, kc_X10_bits, kn_X10, kd_X10_bits, ⟨(Nat.le_of_ble_eq_true rfl), (Nat.le_of_ble_eq_true rfl)⟩, ⟨(Nat.le_of_ble_eq_true rfl), (Nat.le_of_ble_eq_true rfl)⟩, (Nat.le_of_ble_eq_true rfl)⟩ ki_X10_bits rfl rfl (am_tab tk_X10_has 10 rfl) rfl ?_
    refine am_iret (Or.inl rfl) (Nat.le_of_ble_eq_true rfl) (Nat.le_of_ble_eq_true rfl) (am_tab tk_X10_has 11 rfl) ?_
    refine ⟨congrArg (fun z => some (am_i z)) ?_, rfl⟩
    unfold hasM
    first | (subst e1; rfl) | (rw [if_neg (by omega), if_neg (by omega), if_neg (by omega), if_neg (by omega), if_neg (by omega), if_neg (by omega), if_neg (by omega), if_neg (by omega), if_neg (by omega), if_neg (by omega), if_neg (by omega), if_neg (by omega)])
  · refine am_tableIn (t := 82) (off := 81) (by omega) (by omega) (by rw [e1]; rfl) dsw_X10_has_1 (by decide) ?_
    refine am_aload_n (q := 83) rfl (am_tab tk_X10_has 12 rfl) rfl ?_
    refine am_getR (q := 86) (a := 55) (k := 10) (n := 108) (j := 54) (r := some (96)) (Ls_55 hL) (by decide) rfl (Lr_55_54 hL) (by decide) (Or.inl kf_X10_136) (am_tab tk_X10_has 13 rfl) rfl ?_
    refine am_iconst (q := 87) (n := 0) (by decide) (am_tab tk_X10_has 14 rfl) rfl ?_
    refine am_iald (q := 88) (a := 96) (n := 443) (x := (σ.2.1 96 0)) (Ls_96 hL) (by omega) (by omega) rfl (am_tab tk_X10_has 15 rfl) rfl ?_
    refine am_iret (Or.inl rfl) (Nat.le_of_ble_eq_true rfl) (Nat.le_of_ble_eq_true rfl) (am_tab tk_X10_has 16 rfl) ?_
    refine ⟨congrArg (fun z => some (am_i z)) ?_, rfl⟩
    unfold hasM
    first | (subst e1; rfl) | (rw [if_neg (by omega), if_neg (by omega), if_neg (by omega), if_neg (by omega), if_neg (by omega), if_neg (by omega), if_neg (by omega), if_neg (by omega), if_neg (by omega), if_neg (by omega), if_neg (by omega), if_neg (by omega)])
  · refine am_tableIn (t := 89) (off := 88) (by omega) (by omega) (by rw [e1]; rfl) dsw_X10_has_1 (by decide) ?_
    refine am_aload_n (q := 90) rfl (am_tab tk_X10_has 17 rfl) rfl ?_
    refine am_getR (q := 93) (a := 55) (k := 10) (n := 108) (j := 54) (r := some (96)) (Ls_55 hL) (by decide) rfl (Lr_55_54 hL) (by decide) (Or.inl kf_X10_136) (am_tab tk_X10_has 18 rfl) rfl ?_
    refine am_iconst (q := 94) (n := 1) (by decide) (am_tab tk_X10_has 19 rfl) rfl ?_
    refine am_iald (q := 95) (a := 96) (n := 443) (x := (σ.2.1 96 1)) (Ls_96 hL) (by omega) (by omega) rfl (am_tab tk_X10_has 20 rfl) rfl ?_
    refine am_iret (Or.inl rfl) (Nat.le_of_ble_eq_true rfl) (Nat.le_of_ble_eq_true rfl) (am_tab tk_X10_has 21 rfl) ?_
    refine ⟨congrArg (fun z => some (am_i z)) ?_, rfl⟩
    unfold hasM
    first | (subst e1; rfl) | (rw [if_neg (by omega), if_neg (by omega), if_neg (by omega), if_neg (by omega), if_neg (by omega), if_neg (by omega), if_neg (by omega), if_neg (by omega), if_neg (by omega), if_neg (by omega), if_neg (by omega), if_neg (by omega)])
  · refine am_tableIn (t := 96) (off := 95) (by omega) (by omega) (by rw [e1]; rfl) dsw_X10_has_1 (by decide) ?_
    refine am_aload_n (q := 97) rfl (am_tab tk_X10_has 22 rfl) rfl ?_
    refine am_getR (q := 100) (a := 55) (k := 10) (n := 108) (j := 54) (r := some (96)) (Ls_55 hL) (by decide) rfl (Lr_55_54 hL) (by decide) (Or.inl kf_X10_136) (am_tab tk_X10_has 23 rfl) rfl ?_
    refine am_iconst (q := 101) (n := 2) (by decide) (am_tab tk_X10_has 24 rfl) rfl ?_
    refine am_iald (q := 102) (a := 96) (n := 443) (x := (σ.2.1 96 2)) (Ls_96 hL) (by omega) (by omega) rfl (am_tab tk_X10_has 25 rfl) rfl ?_
    refine am_iret (Or.inl rfl) (Nat.le_of_ble_eq_true rfl) (Nat.le_of_ble_eq_true rfl) (am_tab tk_X10_has 26 rfl) ?_
    refine ⟨congrArg (fun z => some (am_i z)) ?_, rfl⟩
    unfold hasM
    first | (subst e1; rfl) | (rw [if_neg (by omega), if_neg (by omega), if_neg (by omega), if_neg (by omega), if_neg (by omega), if_neg (by omega), if_neg (by omega), if_neg (by omega), if_neg (by omega), if_neg (by omega), if_neg (by omega), if_neg (by omega)])
  · refine am_tableIn (t := 103) (off := 102) (by omega) (by omega) (by rw [e1]; rfl) dsw_X10_has_1 (by decide) ?_
    refine am_aload_n (q := 104) rfl (am_tab tk_X10_has 27 rfl) rfl ?_
    refine am_bipush (q := 106) (n := 20) (by decide) rfl (am_tab tk_X10_has 28 rfl) rfl ?_
    refine am_callV0 (q := 109) (me2 := M_X10_setsOf) (b := 55) (kb := 10) (nb := 108) (As := [am_i 20]) (rest := []) (out := [am_i (stM σ 20)]) (c_X10_setsOf σ hL 20 (by omega) (told_b hR)) ⟨rfl, rfl⟩ (Ls_55 hL) (by decide) ⟨Or.inl km_X10_487, kc_X10_setsOf, kn_X10, kd_X10_setsOf, ⟨(Nat.le_of_ble_eq_true rfl), (Nat.le_of_ble_eq_true rfl)⟩, ⟨(Nat.le_of_ble_eq_true rfl), (Nat.le_of_ble_eq_true rfl)⟩, (Nat.le_of_ble_eq_true rfl)⟩ ki_X10_setsOf ks_X10_setsOf rfl rfl (am_tab tk_X10_has 29 rfl) rfl ?_
    refine am_iret (Or.inl rfl) (Nat.le_of_ble_eq_true rfl) (Nat.le_of_ble_eq_true rfl) (am_tab tk_X10_has 30 rfl) ?_
    refine ⟨congrArg (fun z => some (am_i z)) ?_, rfl⟩
    unfold hasM
    first | (subst e1; rfl) | (rw [if_neg (by omega), if_neg (by omega), if_neg (by omega), if_neg (by omega), if_neg (by omega), if_neg (by omega), if_neg (by omega), if_neg (by omega), if_neg (by omega), if_neg (by omega), if_neg (by omega), if_neg (by omega)])
  · refine am_tableIn (t := 110) (off := 109) (by omega) (by omega) (by rw [e1]; rfl) dsw_X10_has_1 (by decide) ?_
    refine am_aload_n (q := 111) rfl (am_tab tk_X10_has 31 rfl) rfl ?_
    refine am_bipush (q := 113) (n := 111) (by decide) rfl (am_tab tk_X10_has 32 rfl) rfl ?_
    refine am_callV0 (q := 116) (me2 := M_X10_setsOf) (b := 55) (kb := 10) (nb := 108) (As := [am_i 111]) (rest := []) (out := [am_i (stM σ 111)]) (c_X10_setsOf σ hL 111 (by omega) (brib_b hR)) ⟨rfl, rfl⟩ (Ls_55 hL) (by decide) ⟨Or.inl km_X10_487, kc_X10_setsOf, kn_X10, kd_X10_setsOf, ⟨(Nat.le_of_ble_eq_true rfl), (Nat.le_of_ble_eq_true rfl)⟩, ⟨(Nat.le_of_ble_eq_true rfl), (Nat.le_of_ble_eq_true rfl)⟩, (Nat.le_of_ble_eq_true rfl)⟩ ki_X10_setsOf ks_X10_setsOf rfl rfl (am_tab tk_X10_has 33 rfl) rfl ?_
    refine am_iret (Or.inl rfl) (Nat.le_of_ble_eq_true rfl) (Nat.le_of_ble_eq_true rfl) (am_tab tk_X10_has 34 rfl) ?_
    refine ⟨congrArg (fun z => some (am_i z)) ?_, rfl⟩
    unfold hasM
    first | (subst e1; rfl) | (rw [if_neg (by omega), if_neg (by omega), if_neg (by omega), if_neg (by omega), if_neg (by omega), if_neg (by omega), if_neg (by omega), if_neg (by omega), if_neg (by omega), if_neg (by omega), if_neg (by omega), if_neg (by omega)])
  · refine am_tableIn (t := 117) (off := 116) (by omega) (by omega) (by rw [e1]; rfl) dsw_X10_has_1 (by decide) ?_
    refine am_aload_n (q := 118) rfl (am_tab tk_X10_has 35 rfl) rfl ?_
    refine am_getR (q := 121) (a := 55) (k := 10) (n := 108) (j := 54) (r := some (96)) (Ls_55 hL) (by decide) rfl (Lr_55_54 hL) (by decide) (Or.inl kf_X10_136) (am_tab tk_X10_has 36 rfl) rfl ?_
    refine am_iconst (q := 122) (n := 3) (by decide) (am_tab tk_X10_has 37 rfl) rfl ?_
    refine am_iald (q := 123) (a := 96) (n := 443) (x := (σ.2.1 96 3)) (Ls_96 hL) (by omega) (by omega) rfl (am_tab tk_X10_has 38 rfl) rfl ?_
    refine am_iret (Or.inl rfl) (Nat.le_of_ble_eq_true rfl) (Nat.le_of_ble_eq_true rfl) (am_tab tk_X10_has 39 rfl) ?_
    refine ⟨congrArg (fun z => some (am_i z)) ?_, rfl⟩
    unfold hasM
    first | (subst e1; rfl) | (rw [if_neg (by omega), if_neg (by omega), if_neg (by omega), if_neg (by omega), if_neg (by omega), if_neg (by omega), if_neg (by omega), if_neg (by omega), if_neg (by omega), if_neg (by omega), if_neg (by omega), if_neg (by omega)])
  · refine am_tableIn (t := 124) (off := 123) (by omega) (by omega) (by rw [e1]; rfl) dsw_X10_has_1 (by decide) ?_
    refine am_aload_n (q := 125) rfl (am_tab tk_X10_has 40 rfl) rfl ?_
    refine am_getR (q := 128) (a := 55) (k := 10) (n := 108) (j := 54) (r := some (96)) (Ls_55 hL) (by decide) rfl (Lr_55_54 hL) (by decide) (Or.inl kf_X10_136) (am_tab tk_X10_has 41 rfl) rfl ?_
    refine am_sipush (q := 131) (n := 202) (by decide) rfl (am_tab tk_X10_has 42 rfl) rfl ?_
    refine am_iald (q := 132) (a := 96) (n := 443) (x := (σ.2.1 96 202)) (Ls_96 hL) (by omega) (by omega) rfl (am_tab tk_X10_has 43 rfl) rfl ?_
    refine am_iret (Or.inl rfl) (Nat.le_of_ble_eq_true rfl) (Nat.le_of_ble_eq_true rfl) (am_tab tk_X10_has 44 rfl) ?_
    refine ⟨congrArg (fun z => some (am_i z)) ?_, rfl⟩
    unfold hasM
    first | (subst e1; rfl) | (rw [if_neg (by omega), if_neg (by omega), if_neg (by omega), if_neg (by omega), if_neg (by omega), if_neg (by omega), if_neg (by omega), if_neg (by omega), if_neg (by omega), if_neg (by omega), if_neg (by omega), if_neg (by omega)])
  · refine am_tableIn (t := 133) (off := 132) (by omega) (by omega) (by rw [e1]; rfl) dsw_X10_has_1 (by decide) ?_
    refine am_aload_n (q := 134) rfl (am_tab tk_X10_has 45 rfl) rfl ?_
    refine am_getI (q := 137) (a := 55) (k := 10) (n := 108) (j := 65) (x := (σ.2.1 55 65)) (Ls_55 hL) (by decide) rfl rfl (by decide) (Or.inl kf_X10_391) (am_tab tk_X10_has 46 rfl) rfl ?_
    refine am_iret (Or.inl rfl) (Nat.le_of_ble_eq_true rfl) (Nat.le_of_ble_eq_true rfl) (am_tab tk_X10_has 47 rfl) ?_
    refine ⟨congrArg (fun z => some (am_i z)) ?_, rfl⟩
    unfold hasM
    first | (subst e1; rfl) | (rw [if_neg (by omega), if_neg (by omega), if_neg (by omega), if_neg (by omega), if_neg (by omega), if_neg (by omega), if_neg (by omega), if_neg (by omega), if_neg (by omega), if_neg (by omega), if_neg (by omega), if_neg (by omega)])
  · refine am_tableIn (t := 138) (off := 137) (by omega) (by omega) (by rw [e1]; rfl) dsw_X10_has_1 (by decide) ?_
    refine am_aload_n (q := 139) rfl (am_tab tk_X10_has 48 rfl) rfl ?_
    refine am_getI (q := 142) (a := 55) (k := 10) (n := 108) (j := 69) (x := (σ.2.1 55 69)) (Ls_55 hL) (by decide) rfl rfl (by decide) (Or.inl kf_X10_388) (am_tab tk_X10_has 49 rfl) rfl ?_
    refine am_iret (Or.inl rfl) (Nat.le_of_ble_eq_true rfl) (Nat.le_of_ble_eq_true rfl) (am_tab tk_X10_has 50 rfl) ?_
    refine ⟨congrArg (fun z => some (am_i z)) ?_, rfl⟩
    unfold hasM
    first | (subst e1; rfl) | (rw [if_neg (by omega), if_neg (by omega), if_neg (by omega), if_neg (by omega), if_neg (by omega), if_neg (by omega), if_neg (by omega), if_neg (by omega), if_neg (by omega), if_neg (by omega), if_neg (by omega), if_neg (by omega)])
  · refine am_tableOut (t := 143) e1 dsw_X10_has_1 (by decide) ?_
    refine am_iconst (q := 144) (n := (-1)) (by decide) (am_tab tk_X10_has 51 rfl) rfl ?_
    refine am_iret (Or.inl rfl) (Nat.le_of_ble_eq_true rfl) (Nat.le_of_ble_eq_true rfl) (am_tab tk_X10_has 52 rfl) ?_
    refine ⟨congrArg (fun z => some (am_i z)) ?_, rfl⟩
    unfold hasM
    first | (subst e1; rfl) | (rw [if_neg (by omega), if_neg (by omega), if_neg (by omega), if_neg (by omega), if_neg (by omega), if_neg (by omega), if_neg (by omega), if_neg (by omega), if_neg (by omega), if_neg (by omega), if_neg (by omega), if_neg (by omega)])
def persM (σ : am_H) (p w : Int) : Int := if 0 ≤ p ∧ p ≤ σ.2.1 85 5 - 1 then (if w = 0 then σ.2.1 87 (8 + p).toNat else if w = 1 then σ.2.1 88 (8 + p).toNat else if w = 2 then σ.2.1 96 (4 + p).toNat else if w = 3 then σ.2.1 96 (12 + p).toNat else if w = 4 then σ.2.1 89 (8 + p).toNat else if w = 5 then mkS (fun q => decide (tb (σ.2.1 89 (8 + q)) p = 1)) (pN σ) else if w = 6 then sumN (fun d => tb (σ.2.1 96 (21 + d)) p) 90 else -1) else -1
theorem c_X10_person (σ : am_H) (hL : lay σ) (p : Int) (w : Int) (hR : MR σ) : am_met M_X10_person [am_r 55, am_i p, am_i w] σ (fun r σ' => r = some (am_i (persM σ p w)) ∧ σ' = σ) := by
  refine am_enter (show plainFor yX10_person = true by decide +kernel) rfl (Nat.le_of_ble_eq_true rfl) (fun _ _ _ => trivial) ?_
  have hP := hR.P
  refine am_aload_n (q := 1) rfl (am_tab tk_X10_person 0 rfl) rfl ?_
  refine am_iload_n (q := 2) rfl (am_tab tk_X10_person 1 rfl) rfl ?_
  refine am_callV0 (q := 5) (me2 := M_X10_isPerson) (b := 55) (kb := 10) (nb := 108) (As := [am_i p]) (rest := []) (out := [am_i (if 0 ≤ p ∧ p ≤ σ.2.1 85 5 - 1 then 1 else 0)]) (c_X10_isPerson σ hL p (by omega)) ⟨rfl, rfl⟩ (Ls_55 hL) (by decide) ⟨Or.inl km_X10_490, kc_X10_isPerson, kn_X10, kd_X10_isPerson, ⟨(Nat.le_of_ble_eq_true rfl), (Nat.le_of_ble_eq_true rfl)⟩, ⟨(Nat.le_of_ble_eq_true rfl), (Nat.le_of_ble_eq_true rfl)⟩, (Nat.le_of_ble_eq_true rfl)⟩ ki_X10_isPerson ks_X10_isPerson rfl rfl (am_tab tk_X10_person 2 rfl) rfl ?_
  refine am_if_ne (q := 8) (t := 10) (am_tab tk_X10_person 3 rfl) (by decide) rfl (fun h5 => ?_) (fun h5 => ?_)
  · replace h5 := b01n h5
    refine am_iload_n (q := 11) rfl (am_tab tk_X10_person 6 rfl) rfl ?_
    rcases (show w = 0 ∨ w = 1 ∨ w = 2 ∨ w = 3 ∨ w = 4 ∨ w = 5 ∨ w = 6 ∨ (w < 0 ∨ 6 < w) by omega) with e11 | e11 | e11 | e11 | e11 | e11 | e11 | e11
    · refine am_tableIn (t := 52) (off := 41) (by omega) (by omega) (by rw [e11]; rfl) dsw_X10_person_11 (by decide) ?_
      refine am_aload_n (q := 53) rfl (am_tab tk_X10_person 8 rfl) rfl ?_
      refine am_iload_n (q := 54) rfl (am_tab tk_X10_person 9 rfl) rfl ?_
      refine am_callV0 (q := 57) (me2 := M_X10_mindOf) (b := 55) (kb := 10) (nb := 108) (As := [am_i p]) (rest := []) (out := [am_i (σ.2.1 87 (8 + p).toNat)]) (c_X10_mindOf σ hL p (by omega)) ⟨rfl, rfl⟩ (Ls_55 hL) (by decide) ⟨Or.inl km_X10_439, kc_X10_mindOf, kn_X10, kd_X10_mindOf, ⟨(Nat.le_of_ble_eq_true rfl), (Nat.le_of_ble_eq_true rfl)⟩, ⟨(Nat.le_of_ble_eq_true rfl), (Nat.le_of_ble_eq_true rfl)⟩, (Nat.le_of_ble_eq_true rfl)⟩ ki_X10_mindOf ks_X10_mindOf rfl rfl (am_tab tk_X10_person 10 rfl) rfl ?_
      refine am_iret (Or.inl rfl) (Nat.le_of_ble_eq_true rfl) (Nat.le_of_ble_eq_true rfl) (am_tab tk_X10_person 11 rfl) ?_
      refine ⟨congrArg (fun z => some (am_i z)) ?_, rfl⟩
      unfold persM
      first | rw [if_neg h5] | (rw [if_pos h5]; first | (subst e11; rfl) | (rw [if_neg (by omega), if_neg (by omega), if_neg (by omega), if_neg (by omega), if_neg (by omega), if_neg (by omega), if_neg (by omega)]))
    · refine am_tableIn (t := 58) (off := 47) (by omega) (by omega) (by rw [e11]; rfl) dsw_X10_person_11 (by decide) ?_
      refine am_aload_n (q := 59) rfl (am_tab tk_X10_person 12 rfl) rfl ?_
      refine am_iload_n (q := 60) rfl (am_tab tk_X10_person 13 rfl) rfl ?_
      refine am_callV0 (q := 63) (me2 := M_X10_askedBy) (b := 55) (kb := 10) (nb := 108) (As := [am_i p]) (rest := []) (out := [am_i (σ.2.1 88 (8 + p).toNat)]) (c_X10_askedBy σ hL p (by omega)) ⟨rfl, rfl⟩ (Ls_55 hL) (by decide) ⟨Or.inl km_X10_495, kc_X10_askedBy, kn_X10, kd_X10_askedBy, ⟨(Nat.le_of_ble_eq_true rfl), (Nat.le_of_ble_eq_true rfl)⟩, ⟨(Nat.le_of_ble_eq_true rfl), (Nat.le_of_ble_eq_true rfl)⟩, (Nat.le_of_ble_eq_true rfl)⟩ ki_X10_askedBy ks_X10_askedBy rfl rfl (am_tab tk_X10_person 14 rfl) rfl ?_
      refine am_iret (Or.inl rfl) (Nat.le_of_ble_eq_true rfl) (Nat.le_of_ble_eq_true rfl) (am_tab tk_X10_person 15 rfl) ?_
      refine ⟨congrArg (fun z => some (am_i z)) ?_, rfl⟩
      unfold persM
      first | rw [if_neg h5] | (rw [if_pos h5]; first | (subst e11; rfl) | (rw [if_neg (by omega), if_neg (by omega), if_neg (by omega), if_neg (by omega), if_neg (by omega), if_neg (by omega), if_neg (by omega)]))
    · refine am_tableIn (t := 64) (off := 53) (by omega) (by omega) (by rw [e11]; rfl) dsw_X10_person_11 (by decide) ?_
      refine am_aload_n (q := 65) rfl (am_tab tk_X10_person 16 rfl) rfl ?_
      refine am_iload_n (q := 66) rfl (am_tab tk_X10_person 17 rfl) rfl ?_
      refine am_callV0 (q := 69) (me2 := M_X10_agoOf) (b := 55) (kb := 10) (nb := 108) (As := [am_i p]) (rest := []) (out := [am_i (σ.2.1 96 (4 + p).toNat)]) (c_X10_agoOf σ hL p (by omega)) ⟨rfl, rfl⟩ (Ls_55 hL) (by decide) ⟨Or.inl km_X10_467, kc_X10_agoOf, kn_X10, kd_X10_agoOf, ⟨(Nat.le_of_ble_eq_true rfl), (Nat.le_of_ble_eq_true rfl)⟩, ⟨(Nat.le_of_ble_eq_true rfl), (Nat.le_of_ble_eq_true rfl)⟩, (Nat.le_of_ble_eq_true rfl)⟩ ki_X10_agoOf ks_X10_agoOf rfl rfl (am_tab tk_X10_person 18 rfl) rfl ?_
      refine am_iret (Or.inl rfl) (Nat.le_of_ble_eq_true rfl) (Nat.le_of_ble_eq_true rfl) (am_tab tk_X10_person 19 rfl) ?_
      refine ⟨congrArg (fun z => some (am_i z)) ?_, rfl⟩
      unfold persM
      first | rw [if_neg h5] | (rw [if_pos h5]; first | (subst e11; rfl) | (rw [if_neg (by omega), if_neg (by omega), if_neg (by omega), if_neg (by omega), if_neg (by omega), if_neg (by omega), if_neg (by omega)]))
    · refine am_tableIn (t := 70) (off := 59) (by omega) (by omega) (by rw [e11]; rfl) dsw_X10_person_11 (by decide) ?_
      refine am_aload_n (q := 71) rfl (am_tab tk_X10_person 20 rfl) rfl ?_
      refine am_getR (q := 74) (a := 55) (k := 10) (n := 108) (j := 54) (r := some (96)) (Ls_55 hL) (by decide) rfl (Lr_55_54 hL) (by decide) (Or.inl kf_X10_136) (am_tab tk_X10_person 21 rfl) rfl ?_
      refine am_bipush (q := 76) (n := 12) (by decide) rfl (am_tab tk_X10_person 22 rfl) rfl ?_
      refine am_iload_n (q := 77) rfl (am_tab tk_X10_person 23 rfl) rfl ?_
      refine am_iadd (q := 78) (by omega) (am_tab tk_X10_person 24 rfl) rfl ?_
      refine am_iald (q := 79) (a := 96) (n := 443) (x := (σ.2.1 96 (Int.toNat (12 + p)))) (Ls_96 hL) (by omega) (by omega) rfl (am_tab tk_X10_person 25 rfl) rfl ?_
      refine am_iret (Or.inl rfl) (Nat.le_of_ble_eq_true rfl) (Nat.le_of_ble_eq_true rfl) (am_tab tk_X10_person 26 rfl) ?_
      refine ⟨congrArg (fun z => some (am_i z)) ?_, rfl⟩
      unfold persM
      first | rw [if_neg h5] | (rw [if_pos h5]; first | (subst e11; rfl) | (rw [if_neg (by omega), if_neg (by omega), if_neg (by omega), if_neg (by omega), if_neg (by omega), if_neg (by omega), if_neg (by omega)]))
    · refine am_tableIn (t := 80) (off := 69) (by omega) (by omega) (by rw [e11]; rfl) dsw_X10_person_11 (by decide) ?_
      refine am_aload_n (q := 81) rfl (am_tab tk_X10_person 27 rfl) rfl ?_
      refine am_getR (q := 84) (a := 55) (k := 10) (n := 108) (j := 43) (r := some (89)) (Ls_55 hL) (by decide) rfl (Lr_55_43 hL) (by decide) (Or.inl kf_X10_115) (am_tab tk_X10_person 28 rfl) rfl ?_
      refine am_bipush (q := 86) (n := 8) (by decide) rfl (am_tab tk_X10_person 29 rfl) rfl ?_
      refine am_iload_n (q := 87) rfl (am_tab tk_X10_person 30 rfl) rfl ?_
      refine am_iadd (q := 88) (by omega) (am_tab tk_X10_person 31 rfl) rfl ?_
      refine am_iald (q := 89) (a := 89) (n := 16) (x := (σ.2.1 89 (Int.toNat (8 + p)))) (Ls_89 hL) (by omega) (by omega) rfl (am_tab tk_X10_person 32 rfl) rfl ?_
      refine am_iret (Or.inl rfl) (Nat.le_of_ble_eq_true rfl) (Nat.le_of_ble_eq_true rfl) (am_tab tk_X10_person 33 rfl) ?_
      refine ⟨congrArg (fun z => some (am_i z)) ?_, rfl⟩
      unfold persM
      first | rw [if_neg h5] | (rw [if_pos h5]; first | (subst e11; rfl) | (rw [if_neg (by omega), if_neg (by omega), if_neg (by omega), if_neg (by omega), if_neg (by omega), if_neg (by omega), if_neg (by omega)]))
    · refine am_tableIn (t := 90) (off := 79) (by omega) (by omega) (by rw [e11]; rfl) dsw_X10_person_11 (by decide) ?_
      refine am_aload_n (q := 91) rfl (am_tab tk_X10_person 34 rfl) rfl ?_
      refine am_iload_n (q := 92) rfl (am_tab tk_X10_person 35 rfl) rfl ?_
      refine am_callV0 (q := 95) (me2 := M_X10_remindersOf) (b := 55) (kb := 10) (nb := 108) (As := [am_i p]) (rest := []) (out := [am_i (mkS (fun q => decide (tb (σ.2.1 89 (8 + q)) p = 1)) (pN σ))]) (c_X10_remindersOf σ hL p (pN σ) (pN_eq hR) (pN_8 hR) (by omega) (fun q hq => hR.rem q (Nat.lt_of_lt_of_le hq (pN_8 hR)))) ⟨rfl, rfl⟩ (Ls_55 hL) (by decide) ⟨Or.inl km_X10_498, kc_X10_remindersOf, kn_X10, kd_X10_remindersOf, ⟨(Nat.le_of_ble_eq_true rfl), (Nat.le_of_ble_eq_true rfl)⟩, ⟨(Nat.le_of_ble_eq_true rfl), (Nat.le_of_ble_eq_true rfl)⟩, (Nat.le_of_ble_eq_true rfl)⟩ ki_X10_remindersOf ks_X10_remindersOf rfl rfl (am_tab tk_X10_person 36 rfl) rfl ?_
      refine am_iret (Or.inl rfl) (Nat.le_of_ble_eq_true rfl) (Nat.le_of_ble_eq_true rfl) (am_tab tk_X10_person 37 rfl) ?_
      refine ⟨congrArg (fun z => some (am_i z)) ?_, rfl⟩
      unfold persM
      first | rw [if_neg h5] | (rw [if_pos h5]; first | (subst e11; rfl) | (rw [if_neg (by omega), if_neg (by omega), if_neg (by omega), if_neg (by omega), if_neg (by omega), if_neg (by omega), if_neg (by omega)]))
    · refine am_tableIn (t := 96) (off := 85) (by omega) (by omega) (by rw [e11]; rfl) dsw_X10_person_11 (by decide) ?_
      refine am_aload_n (q := 97) rfl (am_tab tk_X10_person 38 rfl) rfl ?_
      refine am_iload_n (q := 98) rfl (am_tab tk_X10_person 39 rfl) rfl ?_
      refine am_callV0 (q := 101) (me2 := M_X10_toldDays) (b := 55) (kb := 10) (nb := 108) (As := [am_i p]) (rest := []) (out := [am_i (sumN (fun d => tb (σ.2.1 96 (21 + d)) p) 90)]) (c_X10_toldDays σ hL p (by omega) (fun d hd => by have := hR.told (1 + d) (by omega); rw [show 20 + (1 + d) = 21 + d by omega] at this; exact this)) ⟨rfl, rfl⟩ (Ls_55 hL) (by decide) ⟨Or.inl km_X10_501, kc_X10_toldDays, kn_X10, kd_X10_toldDays, ⟨(Nat.le_of_ble_eq_true rfl), (Nat.le_of_ble_eq_true rfl)⟩, ⟨(Nat.le_of_ble_eq_true rfl), (Nat.le_of_ble_eq_true rfl)⟩, (Nat.le_of_ble_eq_true rfl)⟩ ki_X10_toldDays ks_X10_toldDays rfl rfl (am_tab tk_X10_person 40 rfl) rfl ?_
      refine am_iret (Or.inl rfl) (Nat.le_of_ble_eq_true rfl) (Nat.le_of_ble_eq_true rfl) (am_tab tk_X10_person 41 rfl) ?_
      refine ⟨congrArg (fun z => some (am_i z)) ?_, rfl⟩
      unfold persM
      first | rw [if_neg h5] | (rw [if_pos h5]; first | (subst e11; rfl) | (rw [if_neg (by omega), if_neg (by omega), if_neg (by omega), if_neg (by omega), if_neg (by omega), if_neg (by omega), if_neg (by omega)]))
    · refine am_tableOut (t := 102) e11 dsw_X10_person_11 (by decide) ?_
      refine am_iconst (q := 103) (n := (-1)) (by decide) (am_tab tk_X10_person 42 rfl) rfl ?_
      refine am_iret (Or.inl rfl) (Nat.le_of_ble_eq_true rfl) (Nat.le_of_ble_eq_true rfl) (am_tab tk_X10_person 43 rfl) ?_
      refine ⟨congrArg (fun z => some (am_i z)) ?_, rfl⟩
      unfold persM
      first | rw [if_neg h5] | (rw [if_pos h5]; first | (subst e11; rfl) | (rw [if_neg (by omega), if_neg (by omega), if_neg (by omega), if_neg (by omega), if_neg (by omega), if_neg (by omega), if_neg (by omega)]))
  · replace h5 := b01z h5
    refine am_iconst (q := 9) (n := (-1)) (by decide) (am_tab tk_X10_person 4 rfl) rfl ?_
    refine am_iret (Or.inl rfl) (Nat.le_of_ble_eq_true rfl) (Nat.le_of_ble_eq_true rfl) (am_tab tk_X10_person 5 rfl) ?_
    refine ⟨congrArg (fun z => some (am_i z)) ?_, rfl⟩
    unfold persM
    first | rw [if_neg h5] | (rw [if_pos h5]; first | (subst e11; rfl) | (rw [if_neg (by omega), if_neg (by omega), if_neg (by omega), if_neg (by omega), if_neg (by omega), if_neg (by omega), if_neg (by omega)]))
def dayM (σ : am_H) (d w : Int) : Int := if 1 ≤ d ∧ d ≤ σ.2.1 85 9 then (if w = 0 then σ.2.1 96 (20 + d).toNat else if w = 1 then σ.2.1 96 (111 + d).toNat else if w = 2 then (if frM σ d = true then 1 else 0) else -1) else -1
theorem c_X10_day (σ : am_H) (hL : lay σ) (d : Int) (w : Int) (hR : MR σ) : am_met M_X10_day [am_r 55, am_i d, am_i w] σ (fun r σ' => r = some (am_i (dayM σ d w)) ∧ σ' = σ) := by
  refine am_enter (show plainFor yX10_day = true by decide +kernel) rfl (Nat.le_of_ble_eq_true rfl) (fun _ _ _ => trivial) ?_
  have hY := hR.Y
  refine am_aload_n (q := 1) rfl (am_tab tk_X10_day 0 rfl) rfl ?_
  refine am_iload_n (q := 2) rfl (am_tab tk_X10_day 1 rfl) rfl ?_
  refine am_callV0 (q := 5) (me2 := M_X10_isDay) (b := 55) (kb := 10) (nb := 108) (As := [am_i d]) (rest := []) (out := [am_i (if 1 ≤ d ∧ d ≤ σ.2.1 85 9 then 1 else 0)]) (c_X10_isDay σ hL d ) ⟨rfl, rfl⟩ (Ls_55 hL) (by decide) ⟨Or.inl km_X10_504, kc_X10_isDay, kn_X10, kd_X10_isDay, ⟨(Nat.le_of_ble_eq_true rfl), (Nat.le_of_ble_eq_true rfl)⟩, ⟨(Nat.le_of_ble_eq_true rfl), (Nat.le_of_ble_eq_true rfl)⟩, (Nat.le_of_ble_eq_true rfl)⟩ ki_X10_isDay ks_X10_isDay rfl rfl (am_tab tk_X10_day 2 rfl) rfl ?_
  refine am_if_ne (q := 8) (t := 10) (am_tab tk_X10_day 3 rfl) (by decide) rfl (fun h5 => ?_) (fun h5 => ?_)
  · replace h5 := b01n h5
    refine am_iload_n (q := 11) rfl (am_tab tk_X10_day 6 rfl) rfl ?_
    refine am_if_ne (q := 14) (t := 26) (am_tab tk_X10_day 7 rfl) (by decide) rfl (fun h11 => ?_) (fun h11 => ?_)
    · refine am_iload_n (q := 27) rfl (am_tab tk_X10_day 15 rfl) rfl ?_
      refine am_iconst (q := 28) (n := 1) (by decide) (am_tab tk_X10_day 16 rfl) rfl ?_
      refine am_icmp_ne (q := 31) (t := 43) (am_tab tk_X10_day 17 rfl) (by decide) rfl (fun h28 => ?_) (fun h28 => ?_)
      · refine am_iload_n (q := 44) rfl (am_tab tk_X10_day 25 rfl) rfl ?_
        refine am_iconst (q := 45) (n := 2) (by decide) (am_tab tk_X10_day 26 rfl) rfl ?_
        refine am_icmp_ne (q := 48) (t := 64) (am_tab tk_X10_day 27 rfl) (by decide) rfl (fun h45 => ?_) (fun h45 => ?_)
        · refine am_iconst (q := 65) (n := (-1)) (by decide) (am_tab tk_X10_day 36 rfl) rfl ?_
          refine am_iret (Or.inl rfl) (Nat.le_of_ble_eq_true rfl) (Nat.le_of_ble_eq_true rfl) (am_tab tk_X10_day 37 rfl) ?_
          refine ⟨congrArg (fun z => some (am_i z)) ?_, rfl⟩
          unfold dayM
          first | rw [if_neg h5] | (rw [if_pos h5]; first | rw [if_pos (by omega)] | (rw [if_neg (by omega)]; first | rw [if_pos (by omega)] | (rw [if_neg (by omega)]; first | (rw [if_pos (by omega)]; first | rw [if_pos (by assumption)] | rw [if_neg (by assumption)]) | rw [if_neg (by omega)])))
        · refine am_aload_n (q := 49) rfl (am_tab tk_X10_day 28 rfl) rfl ?_
          refine am_iload_n (q := 50) rfl (am_tab tk_X10_day 29 rfl) rfl ?_
          refine am_callV0 (q := 53) (me2 := M_X10_isFrost) (b := 55) (kb := 10) (nb := 108) (As := [am_i d]) (rest := []) (out := [am_i (if frM σ d = true then 1 else 0)]) (c_X10_isFrost σ hL d (fN σ) (fN_eq hR) (fN_4 hR) (by omega) (fun k hk => hR.fro k (Nat.lt_of_lt_of_le hk (fN_4 hR)))) ⟨rfl, rfl⟩ (Ls_55 hL) (by decide) ⟨Or.inl km_X10_423, kc_X10_isFrost, kn_X10, kd_X10_isFrost, ⟨(Nat.le_of_ble_eq_true rfl), (Nat.le_of_ble_eq_true rfl)⟩, ⟨(Nat.le_of_ble_eq_true rfl), (Nat.le_of_ble_eq_true rfl)⟩, (Nat.le_of_ble_eq_true rfl)⟩ ki_X10_isFrost ks_X10_isFrost rfl rfl (am_tab tk_X10_day 30 rfl) rfl ?_
          refine am_if_eq (q := 56) (t := 60) (am_tab tk_X10_day 31 rfl) (by decide) rfl (fun h53 => ?_) (fun h53 => ?_)
          · replace h53 := b01z h53
            refine am_iconst (q := 61) (n := 0) (by decide) (am_tab tk_X10_day 34 rfl) rfl ?_
            refine am_goto (t := 65) (am_tab tk_X10_day 35 rfl) (by decide) ?_
            refine am_iret (Or.inl rfl) (Nat.le_of_ble_eq_true rfl) (Nat.le_of_ble_eq_true rfl) (am_tab tk_X10_day 37 rfl) ?_
            refine ⟨congrArg (fun z => some (am_i z)) ?_, rfl⟩
            unfold dayM
            first | rw [if_neg h5] | (rw [if_pos h5]; first | rw [if_pos (by omega)] | (rw [if_neg (by omega)]; first | rw [if_pos (by omega)] | (rw [if_neg (by omega)]; first | (rw [if_pos (by omega)]; first | rw [if_pos (by assumption)] | rw [if_neg (by assumption)]) | rw [if_neg (by omega)])))
          · replace h53 := b01n h53
            refine am_iconst (q := 57) (n := 1) (by decide) (am_tab tk_X10_day 32 rfl) rfl ?_
            refine am_goto (t := 65) (am_tab tk_X10_day 33 rfl) (by decide) ?_
            refine am_iret (Or.inl rfl) (Nat.le_of_ble_eq_true rfl) (Nat.le_of_ble_eq_true rfl) (am_tab tk_X10_day 37 rfl) ?_
            refine ⟨congrArg (fun z => some (am_i z)) ?_, rfl⟩
            unfold dayM
            first | rw [if_neg h5] | (rw [if_pos h5]; first | rw [if_pos (by omega)] | (rw [if_neg (by omega)]; first | rw [if_pos (by omega)] | (rw [if_neg (by omega)]; first | (rw [if_pos (by omega)]; first | rw [if_pos (by assumption)] | rw [if_neg (by assumption)]) | rw [if_neg (by omega)])))
      · refine am_aload_n (q := 32) rfl (am_tab tk_X10_day 18 rfl) rfl ?_
        refine am_getR (q := 35) (a := 55) (k := 10) (n := 108) (j := 54) (r := some (96)) (Ls_55 hL) (by decide) rfl (Lr_55_54 hL) (by decide) (Or.inl kf_X10_136) (am_tab tk_X10_day 19 rfl) rfl ?_
        refine am_bipush (q := 37) (n := 111) (by decide) rfl (am_tab tk_X10_day 20 rfl) rfl ?_
        refine am_iload_n (q := 38) rfl (am_tab tk_X10_day 21 rfl) rfl ?_
        refine am_iadd (q := 39) (by omega) (am_tab tk_X10_day 22 rfl) rfl ?_
        refine am_iald (q := 40) (a := 96) (n := 443) (x := (σ.2.1 96 (Int.toNat (111 + d)))) (Ls_96 hL) (by omega) (by omega) rfl (am_tab tk_X10_day 23 rfl) rfl ?_
        refine am_goto (t := 65) (am_tab tk_X10_day 24 rfl) (by decide) ?_
        refine am_iret (Or.inl rfl) (Nat.le_of_ble_eq_true rfl) (Nat.le_of_ble_eq_true rfl) (am_tab tk_X10_day 37 rfl) ?_
        refine ⟨congrArg (fun z => some (am_i z)) ?_, rfl⟩
        unfold dayM
        first | rw [if_neg h5] | (rw [if_pos h5]; first | rw [if_pos (by omega)] | (rw [if_neg (by omega)]; first | rw [if_pos (by omega)] | (rw [if_neg (by omega)]; first | (rw [if_pos (by omega)]; first | rw [if_pos (by assumption)] | rw [if_neg (by assumption)]) | rw [if_neg (by omega)])))
    · refine am_aload_n (q := 15) rfl (am_tab tk_X10_day 8 rfl) rfl ?_
      refine am_getR (q := 18) (a := 55) (k := 10) (n := 108) (j := 54) (r := some (96)) (Ls_55 hL) (by decide) rfl (Lr_55_54 hL) (by decide) (Or.inl kf_X10_136) (am_tab tk_X10_day 9 rfl) rfl ?_
      refine am_bipush (q := 20) (n := 20) (by decide) rfl (am_tab tk_X10_day 10 rfl) rfl ?_
      refine am_iload_n (q := 21) rfl (am_tab tk_X10_day 11 rfl) rfl ?_
      refine am_iadd (q := 22) (by omega) (am_tab tk_X10_day 12 rfl) rfl ?_
      refine am_iald (q := 23) (a := 96) (n := 443) (x := (σ.2.1 96 (Int.toNat (20 + d)))) (Ls_96 hL) (by omega) (by omega) rfl (am_tab tk_X10_day 13 rfl) rfl ?_
      refine am_goto (t := 65) (am_tab tk_X10_day 14 rfl) (by decide) ?_
      refine am_iret (Or.inl rfl) (Nat.le_of_ble_eq_true rfl) (Nat.le_of_ble_eq_true rfl) (am_tab tk_X10_day 37 rfl) ?_
      refine ⟨congrArg (fun z => some (am_i z)) ?_, rfl⟩
      unfold dayM
      first | rw [if_neg h5] | (rw [if_pos h5]; first | rw [if_pos (by omega)] | (rw [if_neg (by omega)]; first | rw [if_pos (by omega)] | (rw [if_neg (by omega)]; first | (rw [if_pos (by omega)]; first | rw [if_pos (by assumption)] | rw [if_neg (by assumption)]) | rw [if_neg (by omega)])))
  · replace h5 := b01z h5
    refine am_iconst (q := 9) (n := (-1)) (by decide) (am_tab tk_X10_day 4 rfl) rfl ?_
    refine am_iret (Or.inl rfl) (Nat.le_of_ble_eq_true rfl) (Nat.le_of_ble_eq_true rfl) (am_tab tk_X10_day 5 rfl) ?_
    refine ⟨congrArg (fun z => some (am_i z)) ?_, rfl⟩
    unfold dayM
    first | rw [if_neg h5] | (rw [if_pos h5]; first | rw [if_pos (by omega)] | (rw [if_neg (by omega)]; first | rw [if_pos (by omega)] | (rw [if_neg (by omega)]; first | (rw [if_pos (by omega)]; first | rw [if_pos (by assumption)] | rw [if_neg (by assumption)]) | rw [if_neg (by omega)])))
theorem putsAside_loop (σ : am_H) (hL : lay σ)  : ∀ m i : Nat, i + m = 443 → am_wp M_X10_putsAside (fun r σ' => r = none ∧ σ' = am_setA σ 97 (fun k => if k < 443 then σ.2.1 96 k else σ.2.1 97 k)) 0 0 2 [(1, am_i ((i : Int))), (0, am_r 55)] [] (am_setA σ 97 (fun k => if k < i then σ.2.1 96 k else σ.2.1 97 k)) := by
  intro m
  induction m with
  | zero =>
    intro i hi
    refine am_iload_n (q := 3) rfl (am_tab tk_X10_putsAside 2 rfl) rfl ?_
    refine am_sipush (q := 6) (n := 443) (by decide) rfl (am_tab tk_X10_putsAside 3 rfl) rfl ?_
    refine am_icmp_ge (q := 9) (t := 27) (am_tab tk_X10_putsAside 4 rfl) (by decide) rfl (fun h6 => ?_) (fun h6 => ?_)
    · refine am_vret rfl (Nat.le_of_ble_eq_true rfl) (Nat.le_of_ble_eq_true rfl) (am_tab tk_X10_putsAside 15 rfl) ?_
      exact ⟨rfl, by rw [show i = 443 by omega]⟩
    · exact absurd h6 (by omega)
  | succ m ih =>
    intro i hi
    refine am_iload_n (q := 3) rfl (am_tab tk_X10_putsAside 2 rfl) rfl ?_
    refine am_sipush (q := 6) (n := 443) (by decide) rfl (am_tab tk_X10_putsAside 3 rfl) rfl ?_
    refine am_icmp_ge (q := 9) (t := 27) (am_tab tk_X10_putsAside 4 rfl) (by decide) rfl (fun h6 => ?_) (fun h6 => ?_)
    · exact absurd h6 (by omega)
    · refine am_aload_n (q := 10) rfl (am_tab tk_X10_putsAside 5 rfl) rfl ?_
      refine am_getR (q := 13) (a := 55) (k := 10) (n := 108) (j := 55) (r := some (97)) (Ls_55 hL) (by decide) rfl (Lr_55_55 hL) (by decide) (Or.inl kf_X10_139) (am_tab tk_X10_putsAside 6 rfl) rfl ?_
      refine am_iload_n (q := 14) rfl (am_tab tk_X10_putsAside 7 rfl) rfl ?_
      refine am_aload_n (q := 15) rfl (am_tab tk_X10_putsAside 8 rfl) rfl ?_
      refine am_getR (q := 18) (a := 55) (k := 10) (n := 108) (j := 54) (r := some (96)) (Ls_55 hL) (by decide) rfl (Lr_55_54 hL) (by decide) (Or.inl kf_X10_136) (am_tab tk_X10_putsAside 9 rfl) rfl ?_
      refine am_iload_n (q := 19) rfl (am_tab tk_X10_putsAside 10 rfl) rfl ?_
      refine am_iald (q := 20) (a := 96) (n := 443) (x := (σ.2.1 96 i)) (Ls_96 hL) (by omega) (by omega) (by simp [am_setA]) (am_tab tk_X10_putsAside 11 rfl) rfl ?_
      refine am_iast (q := 21) (a := 97) (n := 443) (Ls_97 hL) (by omega) (by omega) (am_tab tk_X10_putsAside 12 rfl) rfl ?_
      refine am_iinc (q := 24) rfl (by omega) (by decide) (ls2 := [(1, am_i (((i : Int) + 1))), (0, am_r 55)]) rfl (am_tab tk_X10_putsAside 13 rfl) rfl ?_
      refine am_goto (t := 2) (am_tab tk_X10_putsAside 14 rfl) (by decide) ?_
      refine am_hp2 (σ1 := am_setA σ 97 (fun k => if k < i + 1 then σ.2.1 96 k else σ.2.1 97 k)) ?_ (ih (i + 1) (by omega))
      rw [am_setA_N]; congr 1; funext k; by_cases h1 : k = i
      · simp [h1]
      · simp [h1, show (k < i + 1) ↔ (k < i) by omega]
theorem c_X10_putsAside (σ : am_H) (hL : lay σ)   : am_met M_X10_putsAside [am_r 55] σ (fun r σ' => r = none ∧ σ' = am_setA σ 97 (fun k => if k < 443 then σ.2.1 96 k else σ.2.1 97 k)) := by
  refine am_enter (show plainFor yX10_putsAside = true by decide +kernel) rfl (Nat.le_of_ble_eq_true rfl) (fun _ _ _ => trivial) ?_
  refine am_iconst (q := 1) (n := 0) (by decide) (am_tab tk_X10_putsAside 0 rfl) rfl ?_
  refine am_istore_n (q := 2) (by decide) (ls2 := [(1, am_i 0), (0, am_r 55)]) rfl (am_tab tk_X10_putsAside 1 rfl) rfl ?_
  have h0 := putsAside_loop σ hL 443 0 (by omega)
  rw [show (fun k => if k < 0 then σ.2.1 96 k else σ.2.1 97 k) = (fun k => σ.2.1 97 k) from funext fun k => by simp, am_setA_self] at h0
  exact h0
theorem takesBack_loop (σ : am_H) (hL : lay σ)  : ∀ m i : Nat, i + m = 443 → am_wp M_X10_takesBack (fun r σ' => r = none ∧ σ' = am_setA σ 96 (fun k => if k < 443 then σ.2.1 97 k else σ.2.1 96 k)) 0 0 2 [(1, am_i ((i : Int))), (0, am_r 55)] [] (am_setA σ 96 (fun k => if k < i then σ.2.1 97 k else σ.2.1 96 k)) := by
  intro m
  induction m with
  | zero =>
    intro i hi
    refine am_iload_n (q := 3) rfl (am_tab tk_X10_takesBack 2 rfl) rfl ?_
    refine am_sipush (q := 6) (n := 443) (by decide) rfl (am_tab tk_X10_takesBack 3 rfl) rfl ?_
    refine am_icmp_ge (q := 9) (t := 27) (am_tab tk_X10_takesBack 4 rfl) (by decide) rfl (fun h6 => ?_) (fun h6 => ?_)
    · refine am_vret rfl (Nat.le_of_ble_eq_true rfl) (Nat.le_of_ble_eq_true rfl) (am_tab tk_X10_takesBack 15 rfl) ?_
      exact ⟨rfl, by rw [show i = 443 by omega]⟩
    · exact absurd h6 (by omega)
  | succ m ih =>
    intro i hi
    refine am_iload_n (q := 3) rfl (am_tab tk_X10_takesBack 2 rfl) rfl ?_
    refine am_sipush (q := 6) (n := 443) (by decide) rfl (am_tab tk_X10_takesBack 3 rfl) rfl ?_
    refine am_icmp_ge (q := 9) (t := 27) (am_tab tk_X10_takesBack 4 rfl) (by decide) rfl (fun h6 => ?_) (fun h6 => ?_)
    · exact absurd h6 (by omega)
    · refine am_aload_n (q := 10) rfl (am_tab tk_X10_takesBack 5 rfl) rfl ?_
      refine am_getR (q := 13) (a := 55) (k := 10) (n := 108) (j := 54) (r := some (96)) (Ls_55 hL) (by decide) rfl (Lr_55_54 hL) (by decide) (Or.inl kf_X10_136) (am_tab tk_X10_takesBack 6 rfl) rfl ?_
      refine am_iload_n (q := 14) rfl (am_tab tk_X10_takesBack 7 rfl) rfl ?_
      refine am_aload_n (q := 15) rfl (am_tab tk_X10_takesBack 8 rfl) rfl ?_
      refine am_getR (q := 18) (a := 55) (k := 10) (n := 108) (j := 55) (r := some (97)) (Ls_55 hL) (by decide) rfl (Lr_55_55 hL) (by decide) (Or.inl kf_X10_139) (am_tab tk_X10_takesBack 9 rfl) rfl ?_
      refine am_iload_n (q := 19) rfl (am_tab tk_X10_takesBack 10 rfl) rfl ?_
      refine am_iald (q := 20) (a := 97) (n := 443) (x := (σ.2.1 97 i)) (Ls_97 hL) (by omega) (by omega) (by simp [am_setA]) (am_tab tk_X10_takesBack 11 rfl) rfl ?_
      refine am_iast (q := 21) (a := 96) (n := 443) (Ls_96 hL) (by omega) (by omega) (am_tab tk_X10_takesBack 12 rfl) rfl ?_
      refine am_iinc (q := 24) rfl (by omega) (by decide) (ls2 := [(1, am_i (((i : Int) + 1))), (0, am_r 55)]) rfl (am_tab tk_X10_takesBack 13 rfl) rfl ?_
      refine am_goto (t := 2) (am_tab tk_X10_takesBack 14 rfl) (by decide) ?_
      refine am_hp2 (σ1 := am_setA σ 96 (fun k => if k < i + 1 then σ.2.1 97 k else σ.2.1 96 k)) ?_ (ih (i + 1) (by omega))
      rw [am_setA_N]; congr 1; funext k; by_cases h1 : k = i
      · simp [h1]
      · simp [h1, show (k < i + 1) ↔ (k < i) by omega]
theorem c_X10_takesBack (σ : am_H) (hL : lay σ)   : am_met M_X10_takesBack [am_r 55] σ (fun r σ' => r = none ∧ σ' = am_setA σ 96 (fun k => if k < 443 then σ.2.1 97 k else σ.2.1 96 k)) := by
  refine am_enter (show plainFor yX10_takesBack = true by decide +kernel) rfl (Nat.le_of_ble_eq_true rfl) (fun _ _ _ => trivial) ?_
  refine am_iconst (q := 1) (n := 0) (by decide) (am_tab tk_X10_takesBack 0 rfl) rfl ?_
  refine am_istore_n (q := 2) (by decide) (ls2 := [(1, am_i 0), (0, am_r 55)]) rfl (am_tab tk_X10_takesBack 1 rfl) rfl ?_
  have h0 := takesBack_loop σ hL 443 0 (by omega)
  rw [show (fun k => if k < 0 then σ.2.1 97 k else σ.2.1 96 k) = (fun k => σ.2.1 96 k) from funext fun k => by simp, am_setA_self] at h0
  exact h0
