theorem lay_R {σ : am_H} {a j : Nat} {x : Option Nat} (h : lay σ) (hq : ∀ q ∈ RT, ¬ (q.1 = a ∧ q.2.1 = j)) : lay (am_setR σ a j x) := by
  refine ⟨h.1, fun i q hi => ?_⟩
  show (if q.1 = a ∧ q.2.1 = j then x else σ.2.2 q.1 q.2.1) = _
  rw [if_neg (hq q (List.mem_of_getElem? hi))]
  exact h.2 i q hi
theorem mulr {y d : Int} (hy : 1 ≤ y ∧ y ≤ 999) (hd : 0 ≤ d ∧ d ≤ 90) : 0 ≤ (999 - y) * d ∧ (999 - y) * d ≤ 89820 := by
  refine ⟨Int.mul_nonneg (by omega) (by omega), ?_⟩
  have := Int.mul_le_mul (show 999 - y ≤ 998 by omega) hd.2 hd.1 (by decide)
  omega
theorem ev_all : ∀ n : Nat, n ≤ 8 → ao_shl 1 (n : Int) - 1 = mkS (fun _ => true) n := by decide +kernel
theorem shl_r8 : ∀ n : Nat, n ≤ 8 → 1 ≤ ao_shl 1 (n : Int) ∧ ao_shl 1 (n : Int) ≤ 256 := by decide +kernel
def awS (σ H : am_H) (l : Nat) : Int := ao_and (ao_and (mkS (fun _ => true) (pN H)) (ao_xor (σ.2.1 l 4) (-1))) (ao_xor (bsD H) (-1))
theorem aw_tb {σ H : am_H} {l : Nat} (hG : GD H) (hc : cc H) (hF : LF0 l σ (fun k => H.2.1 96 k)) : (0 ≤ awS σ H l ∧ awS σ H l < 256) ∧ ∀ p : Nat, p < 8 → tb (awS σ H l) p = if p < pN H ∧ ¬ H.2.1 96 (12 + p) = 1 ∧ ¬ tb (bsD H) p = 1 then 1 else 0 := by
  have h8 : pN H ≤ 8 := by have := hG.R.P; unfold pN; omega
  have a1 := dif_tb (mkS_256 (fun _ => true) h8) hF.2.1
  have a2 := dif_tb a1.1 (bsD_rng hG.R hc)
  refine ⟨a2.1, fun p hp => ?_⟩
  unfold awS
  rw [a2.2 p hp, a1.2 p hp, mkS_tb _ _ h8 p hp, hF.2.2.1 p hp]
  by_cases h1 : p < pN H <;> by_cases h2 : H.2.1 96 (12 + p) = 1 <;> by_cases h3 : tb (bsD H) p = 1 <;> simp [h1, h2, h3]
/-- the class has looked at the day that follows H -/
def DAW (t l : Nat) (aw : Int) (H σ : am_H) : Prop := DWr t l σ (bgS H) ∧ MEM σ (bgS H) ∧ (σ.2.1 44 0 = bgN H 0 ∧ σ.2.1 44 1 = bgN H 1 ∧ σ.2.1 44 2 = bgN H 2 ∧ σ.2.1 44 3 = aw) ∧ σ.2.1 44 4 = sfD H ∧ σ.2.1 44 5 = thD H ∧ σ.2.1 44 6 = fsD H ∧ σ.2.1 44 7 = 1
def W_da (a j : Nat) : Prop := (a = 44 ∧ j ≤ 7) ∨ (45 ≤ a ∧ a ≤ 48)
theorem MEM.set4 {σ B : am_H} {j : Nat} {x : Int} (h : MEM σ B) : MEM (am_setN σ 44 j x) B := fun p hp => h p hp
theorem bgN_far {H : am_H} {k : Nat} (hk : 3 ≤ k) : bgN H k = H.2.1 96 k := by
  unfold bgN
  rw [if_neg (show ¬ k = 1 by omega), if_neg (show ¬ k = 0 by omega), if_neg (show ¬ k = 1 by omega), if_neg (show ¬ k = 2 by omega)]
  split <;> rfl
theorem bg1_rng {H : am_H} (hG : GD H) (hc : cc H) : 1 ≤ bgN H 1 ∧ bgN H 1 ≤ H.2.1 85 9 := by
  have h1 := hG.R.day
  have h2 := hc.1
  unfold bgN
  split
  · rw [if_pos rfl]; omega
  · rw [if_neg (by decide), if_pos rfl]; omega
theorem sel_ow {H : am_H} {aw : Int} (h8 : pN H ≤ 8) (ha : ∀ p : Nat, p < 8 → tb aw p = if p < pN H ∧ ¬ H.2.1 96 (12 + p) = 1 ∧ ¬ tb (bsD H) p = 1 then 1 else 0) : mkS (owB (bgS H) aw (tsD H)) (pN (bgS H)) = sfD H := by
  show mkS (owB (bgS H) aw (tsD H)) (pN H) = mkS (slB (bgS H) (tsD H) (bsD H)) (pN H)
  refine mkS_congr _ (fun p hp => ?_)
  have e : (bgS H).2.1 96 (12 + p) = H.2.1 96 (12 + p) := bgN_far (by omega)
  unfold owB slB
  rw [e, ha p (by omega)]
  by_cases h2 : H.2.1 96 (12 + p) = 1 <;> by_cases h3 : tb (bsD H) p = 1 <;> simp [hp, h2, h3]
theorem c_daysLeft_3_32 (σ H : am_H) (hL : lay σ) (hG : GD H) (hT : TWr 3 σ H) (hF : LF0 32 σ (fun k => H.2.1 96 k))   : am_met M_X1_daysLeft [am_r 32, am_r 3] σ (fun r σ' => r = some (am_i (dlM H)) ∧ σ' = σ) := by
  refine am_qq (fun Q hQ => ?_)
  refine am_enter (show plainFor yX1_daysLeft = true by decide +kernel) rfl (Nat.le_of_ble_eq_true rfl) (fun _ _ _ => trivial) ?_
  have hm := mulr hG.R.year hG.R.Y
  have hd := hG.R.day
  have hy := hG.R.Y
  have hyr := hG.R.year
  refine am_sipush (q := 3) (n := 999) (by decide) rfl (am_tab tk_X1_daysLeft 0 rfl) rfl ?_
  refine am_aload_n (q := 4) rfl (am_tab tk_X1_daysLeft 1 rfl) rfl ?_
  refine am_getI (q := 7) (a := 32) (k := 1) (n := 11) (j := 0) (x := (H.2.1 96 0)) (Ls_32 hL) (by decide) rfl hF.1.1 (by decide) (Or.inl kf_X1_9) (am_tab tk_X1_daysLeft 2 rfl) rfl ?_
  refine am_isub (q := 8) (by omega) (am_tab tk_X1_daysLeft 3 rfl) rfl ?_
  refine am_aload_n (q := 9) rfl (am_tab tk_X1_daysLeft 4 rfl) rfl ?_
  refine am_getI (q := 12) (a := 3) (k := 8) (n := 17) (j := 0) (x := (H.2.1 85 9)) (Ls_3 hL) (by decide) rfl hT.days (by decide) (Or.inr kf_X1_61) (am_tab tk_X1_daysLeft 5 rfl) rfl ?_
  refine am_imul (q := 13) (by omega) (am_tab tk_X1_daysLeft 6 rfl) rfl ?_
  refine am_aload_n (q := 14) rfl (am_tab tk_X1_daysLeft 7 rfl) rfl ?_
  refine am_getI (q := 17) (a := 3) (k := 8) (n := 17) (j := 0) (x := (H.2.1 85 9)) (Ls_3 hL) (by decide) rfl hT.days (by decide) (Or.inr kf_X1_61) (am_tab tk_X1_daysLeft 8 rfl) rfl ?_
  refine am_iadd (q := 18) (by omega) (am_tab tk_X1_daysLeft 9 rfl) rfl ?_
  refine am_aload_n (q := 19) rfl (am_tab tk_X1_daysLeft 10 rfl) rfl ?_
  refine am_getI (q := 22) (a := 32) (k := 1) (n := 11) (j := 1) (x := (H.2.1 96 1)) (Ls_32 hL) (by decide) rfl hF.1.2.1 (by decide) (Or.inl kf_X1_28) (am_tab tk_X1_daysLeft 11 rfl) rfl ?_
  refine am_isub (q := 23) (by omega) (am_tab tk_X1_daysLeft 12 rfl) rfl ?_
  refine am_iret (Or.inl rfl) (Nat.le_of_ble_eq_true rfl) (Nat.le_of_ble_eq_true rfl) (am_tab tk_X1_daysLeft 13 rfl) ?_
  refine hQ _ _ ?_
  refine ⟨congrArg (fun z => some (am_i z)) ?_, rfl⟩
  unfold dlM
  rcases hG.R.T with h | h
  · rw [if_pos h.1, h.2.1]; have := hd; rw [h.2.1] at this; omega
  · rw [if_neg (by omega)]
theorem c_daysLeft_15_32 (σ H : am_H) (hL : lay σ) (hG : GD H) (hT : TWr 15 σ H) (hF : LF0 32 σ (fun k => H.2.1 96 k))   : am_met M_X1_daysLeft [am_r 32, am_r 15] σ (fun r σ' => r = some (am_i (dlM H)) ∧ σ' = σ) := by
  refine am_qq (fun Q hQ => ?_)
  refine am_enter (show plainFor yX1_daysLeft = true by decide +kernel) rfl (Nat.le_of_ble_eq_true rfl) (fun _ _ _ => trivial) ?_
  have hm := mulr hG.R.year hG.R.Y
  have hd := hG.R.day
  have hy := hG.R.Y
  have hyr := hG.R.year
  refine am_sipush (q := 3) (n := 999) (by decide) rfl (am_tab tk_X1_daysLeft 0 rfl) rfl ?_
  refine am_aload_n (q := 4) rfl (am_tab tk_X1_daysLeft 1 rfl) rfl ?_
  refine am_getI (q := 7) (a := 32) (k := 1) (n := 11) (j := 0) (x := (H.2.1 96 0)) (Ls_32 hL) (by decide) rfl hF.1.1 (by decide) (Or.inl kf_X1_9) (am_tab tk_X1_daysLeft 2 rfl) rfl ?_
  refine am_isub (q := 8) (by omega) (am_tab tk_X1_daysLeft 3 rfl) rfl ?_
  refine am_aload_n (q := 9) rfl (am_tab tk_X1_daysLeft 4 rfl) rfl ?_
  refine am_getI (q := 12) (a := 15) (k := 8) (n := 17) (j := 0) (x := (H.2.1 85 9)) (Ls_15 hL) (by decide) rfl hT.days (by decide) (Or.inr kf_X1_61) (am_tab tk_X1_daysLeft 5 rfl) rfl ?_
  refine am_imul (q := 13) (by omega) (am_tab tk_X1_daysLeft 6 rfl) rfl ?_
  refine am_aload_n (q := 14) rfl (am_tab tk_X1_daysLeft 7 rfl) rfl ?_
  refine am_getI (q := 17) (a := 15) (k := 8) (n := 17) (j := 0) (x := (H.2.1 85 9)) (Ls_15 hL) (by decide) rfl hT.days (by decide) (Or.inr kf_X1_61) (am_tab tk_X1_daysLeft 8 rfl) rfl ?_
  refine am_iadd (q := 18) (by omega) (am_tab tk_X1_daysLeft 9 rfl) rfl ?_
  refine am_aload_n (q := 19) rfl (am_tab tk_X1_daysLeft 10 rfl) rfl ?_
  refine am_getI (q := 22) (a := 32) (k := 1) (n := 11) (j := 1) (x := (H.2.1 96 1)) (Ls_32 hL) (by decide) rfl hF.1.2.1 (by decide) (Or.inl kf_X1_28) (am_tab tk_X1_daysLeft 11 rfl) rfl ?_
  refine am_isub (q := 23) (by omega) (am_tab tk_X1_daysLeft 12 rfl) rfl ?_
  refine am_iret (Or.inl rfl) (Nat.le_of_ble_eq_true rfl) (Nat.le_of_ble_eq_true rfl) (am_tab tk_X1_daysLeft 13 rfl) ?_
  refine hQ _ _ ?_
  refine ⟨congrArg (fun z => some (am_i z)) ?_, rfl⟩
  unfold dlM
  rcases hG.R.T with h | h
  · rw [if_pos h.1, h.2.1]; have := hd; rw [h.2.1] at this; omega
  · rw [if_neg (by omega)]
theorem c_daysLeft_3_37 (σ H : am_H) (hL : lay σ) (hG : GD H) (hT : TWr 3 σ H) (hF : LF0 37 σ (fun k => H.2.1 96 k))   : am_met M_X1_daysLeft [am_r 37, am_r 3] σ (fun r σ' => r = some (am_i (dlM H)) ∧ σ' = σ) := by
  refine am_qq (fun Q hQ => ?_)
  refine am_enter (show plainFor yX1_daysLeft = true by decide +kernel) rfl (Nat.le_of_ble_eq_true rfl) (fun _ _ _ => trivial) ?_
  have hm := mulr hG.R.year hG.R.Y
  have hd := hG.R.day
  have hy := hG.R.Y
  have hyr := hG.R.year
  refine am_sipush (q := 3) (n := 999) (by decide) rfl (am_tab tk_X1_daysLeft 0 rfl) rfl ?_
  refine am_aload_n (q := 4) rfl (am_tab tk_X1_daysLeft 1 rfl) rfl ?_
  refine am_getI (q := 7) (a := 37) (k := 1) (n := 11) (j := 0) (x := (H.2.1 96 0)) (Ls_37 hL) (by decide) rfl hF.1.1 (by decide) (Or.inl kf_X1_9) (am_tab tk_X1_daysLeft 2 rfl) rfl ?_
  refine am_isub (q := 8) (by omega) (am_tab tk_X1_daysLeft 3 rfl) rfl ?_
  refine am_aload_n (q := 9) rfl (am_tab tk_X1_daysLeft 4 rfl) rfl ?_
  refine am_getI (q := 12) (a := 3) (k := 8) (n := 17) (j := 0) (x := (H.2.1 85 9)) (Ls_3 hL) (by decide) rfl hT.days (by decide) (Or.inr kf_X1_61) (am_tab tk_X1_daysLeft 5 rfl) rfl ?_
  refine am_imul (q := 13) (by omega) (am_tab tk_X1_daysLeft 6 rfl) rfl ?_
  refine am_aload_n (q := 14) rfl (am_tab tk_X1_daysLeft 7 rfl) rfl ?_
  refine am_getI (q := 17) (a := 3) (k := 8) (n := 17) (j := 0) (x := (H.2.1 85 9)) (Ls_3 hL) (by decide) rfl hT.days (by decide) (Or.inr kf_X1_61) (am_tab tk_X1_daysLeft 8 rfl) rfl ?_
  refine am_iadd (q := 18) (by omega) (am_tab tk_X1_daysLeft 9 rfl) rfl ?_
  refine am_aload_n (q := 19) rfl (am_tab tk_X1_daysLeft 10 rfl) rfl ?_
  refine am_getI (q := 22) (a := 37) (k := 1) (n := 11) (j := 1) (x := (H.2.1 96 1)) (Ls_37 hL) (by decide) rfl hF.1.2.1 (by decide) (Or.inl kf_X1_28) (am_tab tk_X1_daysLeft 11 rfl) rfl ?_
  refine am_isub (q := 23) (by omega) (am_tab tk_X1_daysLeft 12 rfl) rfl ?_
  refine am_iret (Or.inl rfl) (Nat.le_of_ble_eq_true rfl) (Nat.le_of_ble_eq_true rfl) (am_tab tk_X1_daysLeft 13 rfl) ?_
  refine hQ _ _ ?_
  refine ⟨congrArg (fun z => some (am_i z)) ?_, rfl⟩
  unfold dlM
  rcases hG.R.T with h | h
  · rw [if_pos h.1, h.2.1]; have := hd; rw [h.2.1] at this; omega
  · rw [if_neg (by omega)]
theorem c_daysLeft_15_37 (σ H : am_H) (hL : lay σ) (hG : GD H) (hT : TWr 15 σ H) (hF : LF0 37 σ (fun k => H.2.1 96 k))   : am_met M_X1_daysLeft [am_r 37, am_r 15] σ (fun r σ' => r = some (am_i (dlM H)) ∧ σ' = σ) := by
  refine am_qq (fun Q hQ => ?_)
  refine am_enter (show plainFor yX1_daysLeft = true by decide +kernel) rfl (Nat.le_of_ble_eq_true rfl) (fun _ _ _ => trivial) ?_
  have hm := mulr hG.R.year hG.R.Y
  have hd := hG.R.day
  have hy := hG.R.Y
  have hyr := hG.R.year
  refine am_sipush (q := 3) (n := 999) (by decide) rfl (am_tab tk_X1_daysLeft 0 rfl) rfl ?_
  refine am_aload_n (q := 4) rfl (am_tab tk_X1_daysLeft 1 rfl) rfl ?_
  refine am_getI (q := 7) (a := 37) (k := 1) (n := 11) (j := 0) (x := (H.2.1 96 0)) (Ls_37 hL) (by decide) rfl hF.1.1 (by decide) (Or.inl kf_X1_9) (am_tab tk_X1_daysLeft 2 rfl) rfl ?_
  refine am_isub (q := 8) (by omega) (am_tab tk_X1_daysLeft 3 rfl) rfl ?_
  refine am_aload_n (q := 9) rfl (am_tab tk_X1_daysLeft 4 rfl) rfl ?_
  refine am_getI (q := 12) (a := 15) (k := 8) (n := 17) (j := 0) (x := (H.2.1 85 9)) (Ls_15 hL) (by decide) rfl hT.days (by decide) (Or.inr kf_X1_61) (am_tab tk_X1_daysLeft 5 rfl) rfl ?_
  refine am_imul (q := 13) (by omega) (am_tab tk_X1_daysLeft 6 rfl) rfl ?_
  refine am_aload_n (q := 14) rfl (am_tab tk_X1_daysLeft 7 rfl) rfl ?_
  refine am_getI (q := 17) (a := 15) (k := 8) (n := 17) (j := 0) (x := (H.2.1 85 9)) (Ls_15 hL) (by decide) rfl hT.days (by decide) (Or.inr kf_X1_61) (am_tab tk_X1_daysLeft 8 rfl) rfl ?_
  refine am_iadd (q := 18) (by omega) (am_tab tk_X1_daysLeft 9 rfl) rfl ?_
  refine am_aload_n (q := 19) rfl (am_tab tk_X1_daysLeft 10 rfl) rfl ?_
  refine am_getI (q := 22) (a := 37) (k := 1) (n := 11) (j := 1) (x := (H.2.1 96 1)) (Ls_37 hL) (by decide) rfl hF.1.2.1 (by decide) (Or.inl kf_X1_28) (am_tab tk_X1_daysLeft 11 rfl) rfl ?_
  refine am_isub (q := 23) (by omega) (am_tab tk_X1_daysLeft 12 rfl) rfl ?_
  refine am_iret (Or.inl rfl) (Nat.le_of_ble_eq_true rfl) (Nat.le_of_ble_eq_true rfl) (am_tab tk_X1_daysLeft 13 rfl) ?_
  refine hQ _ _ ?_
  refine ⟨congrArg (fun z => some (am_i z)) ?_, rfl⟩
  unfold dlM
  rcases hG.R.T with h | h
  · rw [if_pos h.1, h.2.1]; have := hd; rw [h.2.1] at this; omega
  · rw [if_neg (by omega)]
theorem c_everybody_3 (σ H : am_H) (hL : lay σ) (hG : GD H) (hT : TWr 3 σ H)   : am_met M_X8_everybody [am_r 3] σ (fun r σ' => r = some (am_i (mkS (fun _ => true) (pN H))) ∧ σ' = σ) := by
  refine am_qq (fun Q hQ => ?_)
  refine am_enter (show plainFor yX8_everybody = true by decide +kernel) rfl (Nat.le_of_ble_eq_true rfl) (fun _ _ _ => trivial) ?_
  have h8 : pN H ≤ 8 := by have := hG.R.P; unfold pN; omega
  have hpn : H.2.1 85 5 = (pN H : Int) := by have := hG.R.P; unfold pN; omega
  have hs := shl_r8 _ h8
  refine am_iconst (q := 1) (n := 1) (by decide) (am_tab tk_X8_everybody 0 rfl) rfl ?_
  refine am_aload_n (q := 2) rfl (am_tab tk_X8_everybody 1 rfl) rfl ?_
  refine am_getI (q := 5) (a := 3) (k := 8) (n := 17) (j := 2) (x := (pN H : Int)) (Ls_3 hL) (by decide) rfl (hT.people.trans hpn) (by decide) (Or.inl kf_X8_52) (am_tab tk_X8_everybody 2 rfl) rfl ?_
  refine am_ishl (q := 6) (am_tab tk_X8_everybody 3 rfl) rfl ?_
  refine am_iconst (q := 7) (n := 1) (by decide) (am_tab tk_X8_everybody 4 rfl) rfl ?_
  refine am_isub (q := 8) (by omega) (am_tab tk_X8_everybody 5 rfl) rfl ?_
  refine am_iret (Or.inl rfl) (Nat.le_of_ble_eq_true rfl) (Nat.le_of_ble_eq_true rfl) (am_tab tk_X8_everybody 6 rfl) ?_
  refine hQ _ _ ?_
  rw [ev_all _ h8]
  exact ⟨rfl, rfl⟩
theorem c_everybody_15 (σ H : am_H) (hL : lay σ) (hG : GD H) (hT : TWr 15 σ H)   : am_met M_X8_everybody [am_r 15] σ (fun r σ' => r = some (am_i (mkS (fun _ => true) (pN H))) ∧ σ' = σ) := by
  refine am_qq (fun Q hQ => ?_)
  refine am_enter (show plainFor yX8_everybody = true by decide +kernel) rfl (Nat.le_of_ble_eq_true rfl) (fun _ _ _ => trivial) ?_
  have h8 : pN H ≤ 8 := by have := hG.R.P; unfold pN; omega
  have hpn : H.2.1 85 5 = (pN H : Int) := by have := hG.R.P; unfold pN; omega
  have hs := shl_r8 _ h8
  refine am_iconst (q := 1) (n := 1) (by decide) (am_tab tk_X8_everybody 0 rfl) rfl ?_
  refine am_aload_n (q := 2) rfl (am_tab tk_X8_everybody 1 rfl) rfl ?_
  refine am_getI (q := 5) (a := 15) (k := 8) (n := 17) (j := 2) (x := (pN H : Int)) (Ls_15 hL) (by decide) rfl (hT.people.trans hpn) (by decide) (Or.inl kf_X8_52) (am_tab tk_X8_everybody 2 rfl) rfl ?_
  refine am_ishl (q := 6) (am_tab tk_X8_everybody 3 rfl) rfl ?_
  refine am_iconst (q := 7) (n := 1) (by decide) (am_tab tk_X8_everybody 4 rfl) rfl ?_
  refine am_isub (q := 8) (by omega) (am_tab tk_X8_everybody 5 rfl) rfl ?_
  refine am_iret (Or.inl rfl) (Nat.le_of_ble_eq_true rfl) (Nat.le_of_ble_eq_true rfl) (am_tab tk_X8_everybody 6 rfl) ?_
  refine hQ _ _ ?_
  rw [ev_all _ h8]
  exact ⟨rfl, rfl⟩
theorem DWr.set4 {t l j : Nat} {x : Int} {σ B : am_H} (h : DWr t l σ B) (hj : ¬ j = 1 ∧ t ≤ 15 ∧ 32 ≤ l ∧ l ≤ 37 := by decide) : DWr t l (am_setN σ 44 j x) B := by
  have hF : frw (fun a i => a = 44 ∧ i = j) σ (am_setN σ 44 j x) := (frw.refl _ σ).setN ⟨rfl, rfl⟩
  obtain ⟨h1, h2, h3, h4, h5, h6⟩ := h
  refine ⟨h1, by rw [hF.2.2 44 1 (by omega)]; exact h2, by rw [hF.2.2 45 13 (by omega), hF.2.2 45 14 (by omega), hF.2.2 45 7 (by omega), hF.2.2 45 16 (by omega)]; exact h3, h4.fr hF (by omega), fun p hp => by rw [hF.2.2 (l + 1) p (by omega)]; exact h5 p hp, fun d hd => by rw [hF.2.2 (l + 2) d (by omega)]; exact h6 d hd⟩
set_option maxRecDepth 100000 in
theorem c_lookAt_3_32 (σ H : am_H) (hL : lay σ) (hG : GD H) (hT : TWr 3 σ H) (hF : LF0 32 σ (fun k => H.2.1 96 k))   : am_met M_X0_lookAt [am_r 44, am_r 3, am_r 32] σ (fun r σ' => if 1 ≤ dlM H then r = some (am_i 1) ∧ DAW 3 32 (awS σ H 32) H σ' ∧ frw W_da (am_setR (am_setR σ 44 8 (some 3)) 44 9 (some 32)) σ' else r = some (am_i 0) ∧ σ' = am_setN σ 44 7 0) := by
  refine am_qq (fun Q hQ => ?_)
  refine am_enter (show plainFor yX0_lookAt = true by decide +kernel) rfl (Nat.le_of_ble_eq_true rfl) (fun _ _ _ => trivial) ?_
  have h8 : pN H ≤ 8 := by have := hG.R.P; unfold pN; omega
  have hYY := hG.R.Y
  have hdd := hG.R.day
  have hyy := hG.R.year
  have hff0 := hG.R.feast
  by_cases cm : 1 ≤ dlM H
  · refine am_aload_n (q := 1) rfl (am_tab tk_X0_lookAt 0 rfl) rfl ?_
    refine am_aload_n (q := 2) rfl (am_tab tk_X0_lookAt 1 rfl) rfl ?_
    refine am_aload_n (q := 3) rfl (am_tab tk_X0_lookAt 2 rfl) rfl ?_
    refine am_callV0 (q := 6) (me2 := M_X1_daysLeft) (b := 32) (kb := 1) (nb := 11) (As := [am_r 3]) (rest := [am_r 44]) (out := [am_i (dlM H), am_r 44]) (c_daysLeft_3_32 σ H hL hG hT hF) ⟨rfl, rfl⟩ (Ls_32 hL) (by decide) ⟨Or.inr km_X0_32, kc_X1_daysLeft, kn_X1, kd_X1_daysLeft, ⟨(Nat.le_of_ble_eq_true rfl), (Nat.le_of_ble_eq_true rfl)⟩, ⟨(Nat.le_of_ble_eq_true rfl), (Nat.le_of_ble_eq_true rfl)⟩, (Nat.le_of_ble_eq_true rfl)⟩ ki_X1_daysLeft ks_X1_daysLeft rfl rfl (am_tab tk_X0_lookAt 3 rfl) rfl ?_
    refine am_iconst (q := 7) (n := 1) (by decide) (am_tab tk_X0_lookAt 4 rfl) rfl ?_
    refine am_icmp_lt (q := 10) (t := 14) (am_tab tk_X0_lookAt 5 rfl) (by decide) rfl (fun h7 => ?_) (fun h7 => ?_)
    · exact absurd h7 (by omega)
    · refine am_iconst (q := 11) (n := 1) (by decide) (am_tab tk_X0_lookAt 6 rfl) rfl ?_
      refine am_goto (t := 15) (am_tab tk_X0_lookAt 7 rfl) (by decide) ?_
      refine am_putZ (q := 18) (k := 0) (n := 14) (j := 7) (Ls_44 hL) (by decide) rfl (by first | exact Or.inl rfl | exact Or.inr rfl | omega) (by decide) (Or.inl ⟨kf_X0_38, rfl⟩) (am_tab tk_X0_lookAt 9 rfl) rfl ?_
      refine am_aload_n (q := 19) rfl (am_tab tk_X0_lookAt 10 rfl) rfl ?_
      refine am_getI (q := 22) (a := 44) (k := 0) (n := 14) (j := 7) (x := 1) (Ls_44 hL) (by decide) rfl rfl (by decide) (Or.inl kf_X0_38) (am_tab tk_X0_lookAt 11 rfl) rfl ?_
      refine am_if_ne (q := 25) (t := 27) (am_tab tk_X0_lookAt 12 rfl) (by decide) rfl (fun h22 => ?_) (fun h22 => ?_)
      · have hc := cc_of hG.R cm
        have hGB := bgS_GD hG hc
        have hb1 := bg1_rng hG hc
        have hfr : 0 ≤ bgN H 2 := by unfold bgN; split; (show 0 ≤ H.2.1 96 2; omega); (show (0 : Int) ≤ 0; decide)
        have haw := aw_tb hG hc hF
        have hfz : σ.2.1 10 (Int.toNat (bgN H 1)) = fzM (bgS H) := by
          have h5 := hT.frost (bgN H 1).toNat (by omega) (by omega) (by omega)
          rw [show (((bgN H 1).toNat : Nat) : Int) = bgN H 1 by omega] at h5
          exact h5
        have hbs : σ.2.1 35 (Int.toNat (bgN H 1)) = bsD H := by
          have h5 := hF.2.2.2.2.2 (bgN H 1).toNat (by omega)
          unfold bsD
          rw [bgN_far (k := Int.toNat (111 + bgN H 1)) (by omega), show Int.toNat (111 + bgN H 1) = 111 + (bgN H 1).toNat by omega]
          exact h5
        have hts : σ.2.1 34 (Int.toNat (bgN H 1)) = tsD H := by
          have h5 := hF.2.2.2.2.1 (bgN H 1).toNat (by omega)
          unfold tsD
          rw [bgN_far (k := Int.toNat (20 + bgN H 1)) (by omega), show Int.toNat (20 + bgN H 1) = 20 + (bgN H 1).toNat by omega]
          exact h5
        refine am_aload_n (q := 28) rfl (am_tab tk_X0_lookAt 15 rfl) rfl ?_
        have L166 : ∀ (n166 : Nat) (V : am_H), 0 < n166 → V = (am_setN (am_setN (am_setN (am_setN (am_setN (am_setN (am_setN (am_setR (am_setR (am_setN σ 44 7 1) 44 8 (some (3))) 44 9 (some (32))) 44 0 (bgN H 0)) 44 1 (bgN H 1)) 44 2 (bgN H 2)) 45 13 (bgN H 1)) 45 14 (bgN H 0)) 45 7 (fzM (bgS H))) 45 16 (ffM (bgS H))) → am_wp M_X0_lookAt Q 0 0 166 [(0, am_r 44), (1, am_r 3), (2, am_r 32)] [] V := by
          intro n166
          induction n166 with
          | zero => intro V hn166; exact absurd hn166 (Nat.not_lt_zero _)
          | succ n166 ih166 =>
            intro V hn166 hV
            have hLV : lay V := by rw [hV]; exact lay_R (lay_R hL (by decide)) (by decide)
            refine am_aload_n (q := 167) rfl (am_tab tk_X0_lookAt 90 rfl) rfl ?_
            refine am_getR (q := 170) (a := 44) (k := 0) (n := 14) (j := 12) (r := some (47)) (Ls_44 hLV) (by decide) rfl (Lr_44_12 hLV) (by decide) (Or.inl kf_X0_18) (am_tab tk_X0_lookAt 91 rfl) rfl ?_
            refine am_iconst (q := 171) (n := 0) (by decide) (am_tab tk_X0_lookAt 92 rfl) rfl ?_
            refine am_callS0 (q := 174) (me2 := M_J7_fill_53178) (As := [am_r 47, am_i 0]) (rest := []) (out := []) (c_fill V 47 8 0 (Ls_47 hLV) (by decide)) ⟨rfl, rfl⟩ ⟨Or.inl km_X0_65, kc_J7_fill_53178, kn_J7, kd_J7_fill_53178, ⟨(Nat.le_of_ble_eq_true rfl), (Nat.le_of_ble_eq_true rfl)⟩, ⟨(Nat.le_of_ble_eq_true rfl), (Nat.le_of_ble_eq_true rfl)⟩, (Nat.le_of_ble_eq_true rfl)⟩ ki_J7_fill_53178 rfl rfl (am_tab tk_X0_lookAt 93 rfl) rfl ?_
            refine am_aload_n (q := 175) rfl (am_tab tk_X0_lookAt 94 rfl) rfl ?_
            refine am_getR (q := 178) (a := 44) (k := 0) (n := 14) (j := 13) (r := some (48)) (Ls_44 hLV) (by decide) rfl (Lr_44_13 hLV) (by decide) (Or.inl kf_X0_21) (am_tab tk_X0_lookAt 95 rfl) rfl ?_
            refine am_iconst (q := 179) (n := 0) (by decide) (am_tab tk_X0_lookAt 96 rfl) rfl ?_
            refine am_callS0 (q := 182) (me2 := M_J7_fill_53178) (As := [am_r 48, am_i 0]) (rest := []) (out := []) (c_fill (am_setA V 47 (fun k => if k < 8 then 0 else V.2.1 47 k)) 48 8 0 (Ls_48 hLV) (by decide)) ⟨rfl, rfl⟩ ⟨Or.inl km_X0_65, kc_J7_fill_53178, kn_J7, kd_J7_fill_53178, ⟨(Nat.le_of_ble_eq_true rfl), (Nat.le_of_ble_eq_true rfl)⟩, ⟨(Nat.le_of_ble_eq_true rfl), (Nat.le_of_ble_eq_true rfl)⟩, (Nat.le_of_ble_eq_true rfl)⟩ ki_J7_fill_53178 rfl rfl (am_tab tk_X0_lookAt 97 rfl) rfl ?_
            have hLV : lay V := by rw [hV]; exact lay_R (lay_R hL (by decide)) (by decide)
            have hFV : frw W_da (am_setR (am_setR σ 44 8 (some 3)) 44 9 (some 32)) V := by rw [hV]; exact (((((((((frw.refl W_da (am_setR (am_setR σ 44 8 (some 3)) 44 9 (some 32))).setN (by unfold W_da; omega)).setN (by unfold W_da; omega)).setN (by unfold W_da; omega)).setN (by unfold W_da; omega)).setN (by unfold W_da; omega)).setN (by unfold W_da; omega)).setN (by unfold W_da; omega)).setN (by unfold W_da; omega))
            have hTB : TWr 3 (am_setR (am_setR σ 44 8 (some 3)) 44 9 (some 32)) H := ⟨hT.1, hT.2.1, hT.2.2.1, hT.2.2.2.1, hT.2.2.2.2.1, hT.2.2.2.2.2.1, hT.2.2.2.2.2.2.1, hT.thinks, hT.hears⟩
            have hTV : TWr 3 (am_setA (am_setA V 47 (fun k => if k < 8 then 0 else V.2.1 47 k)) 48 (fun k => if k < 8 then 0 else (am_setA V 47 (fun k => if k < 8 then 0 else V.2.1 47 k)).2.1 48 k)) H := hTB.fr (W := W_da) (hFV.trans (((frw.refl W_da V).setA (by unfold W_da; omega)).setA (by unfold W_da; omega))) (by unfold W_da; omega)
            refine am_aload_n (q := 183) rfl (am_tab tk_X0_lookAt 98 rfl) rfl ?_
            refine am_aload_n (q := 184) rfl (am_tab tk_X0_lookAt 99 rfl) rfl ?_
            refine am_callV0 (q := 187) (me2 := M_X8_everybody) (b := 3) (kb := 8) (nb := 17) (As := []) (rest := [am_r 44]) (out := [am_i (mkS (fun _ => true) (pN H)), am_r 44]) (c_everybody_3 (am_setA (am_setA V 47 (fun k => if k < 8 then 0 else V.2.1 47 k)) 48 (fun k => if k < 8 then 0 else (am_setA V 47 (fun k => if k < 8 then 0 else V.2.1 47 k)).2.1 48 k)) H hLV hG hTV) ⟨rfl, rfl⟩ (Ls_3 hLV) (by decide) ⟨Or.inr km_X0_71, kc_X8_everybody, kn_X8, kd_X8_everybody, ⟨(Nat.le_of_ble_eq_true rfl), (Nat.le_of_ble_eq_true rfl)⟩, ⟨(Nat.le_of_ble_eq_true rfl), (Nat.le_of_ble_eq_true rfl)⟩, (Nat.le_of_ble_eq_true rfl)⟩ ki_X8_everybody ks_X8_everybody rfl rfl (am_tab tk_X0_lookAt 100 rfl) rfl ?_
            refine am_aload_n (q := 188) rfl (am_tab tk_X0_lookAt 101 rfl) rfl ?_
            refine am_getI (q := 191) (a := 32) (k := 1) (n := 11) (j := 4) (x := (σ.2.1 32 4)) (Ls_32 hLV) (by decide) rfl (by rw [hV]; rfl) (by decide) (Or.inr kf_X0_75) (am_tab tk_X0_lookAt 102 rfl) rfl ?_
            refine am_iconst (q := 192) (n := (-1)) (by decide) (am_tab tk_X0_lookAt 103 rfl) rfl ?_
            refine am_ixor (q := 193) (am_tab tk_X0_lookAt 104 rfl) rfl ?_
            refine am_iand (q := 194) (am_tab tk_X0_lookAt 105 rfl) rfl ?_
            refine am_aload_n (q := 195) rfl (am_tab tk_X0_lookAt 106 rfl) rfl ?_
            refine am_getR (q := 198) (a := 32) (k := 1) (n := 11) (j := 7) (r := some (35)) (Ls_32 hLV) (by decide) rfl (Lr_32_7 hLV) (by decide) (Or.inr kf_X0_78) (am_tab tk_X0_lookAt 107 rfl) rfl ?_
            refine am_aload_n (q := 199) rfl (am_tab tk_X0_lookAt 108 rfl) rfl ?_
            refine am_getI (q := 202) (a := 44) (k := 0) (n := 14) (j := 1) (x := (bgN H 1)) (Ls_44 hLV) (by decide) rfl (by rw [hV]; rfl) (by decide) (Or.inl kf_X0_55) (am_tab tk_X0_lookAt 109 rfl) rfl ?_
            refine am_iald (q := 203) (a := 35) (n := 91) (x := (bsD H)) (Ls_35 hLV) (by omega) (by omega) (by rw [hV]; exact hbs) (am_tab tk_X0_lookAt 110 rfl) rfl ?_
            refine am_iconst (q := 204) (n := (-1)) (by decide) (am_tab tk_X0_lookAt 111 rfl) rfl ?_
            refine am_ixor (q := 205) (am_tab tk_X0_lookAt 112 rfl) rfl ?_
            refine am_iand (q := 206) (am_tab tk_X0_lookAt 113 rfl) rfl ?_
            refine am_putI (q := 209) (k := 0) (n := 14) (j := 3) (Ls_44 hLV) (by decide) rfl (by decide) (Or.inl ⟨kf_X0_81, rfl⟩) (am_tab tk_X0_lookAt 114 rfl) rfl ?_
            have hF3 : frw W_da (am_setR (am_setR σ 44 8 (some 3)) 44 9 (some 32)) (am_setN (am_setA (am_setA V 47 (fun k => if k < 8 then 0 else V.2.1 47 k)) 48 (fun k => if k < 8 then 0 else (am_setA V 47 (fun k => if k < 8 then 0 else V.2.1 47 k)).2.1 48 k)) 44 3 (awS σ H 32)) := (hFV.trans (((frw.refl W_da V).setA (by unfold W_da; omega)).setA (by unfold W_da; omega))).setN (by unfold W_da; omega)
            have hD3 : DWr 3 32 (am_setN (am_setA (am_setA V 47 (fun k => if k < 8 then 0 else V.2.1 47 k)) 48 (fun k => if k < 8 then 0 else (am_setA V 47 (fun k => if k < 8 then 0 else V.2.1 47 k)).2.1 48 k)) 44 3 (awS σ H 32)) (bgS H) := ⟨⟨by rw [hV]; rfl, by rw [hV]; rfl⟩, by rw [hV]; rfl, ⟨by rw [hV]; rfl, by rw [hV]; rfl, by rw [hV]; rfl, by rw [hV]; rfl⟩, (hTB.fr (W := W_da) hF3 (by unfold W_da; omega)).H (fun a j _ h => by show (if a = 96 then bgN H j else H.2.1 a j) = _; rw [if_neg (by omega)]), fun p hp => by rw [hF3.2.2 33 p (by unfold W_da; omega)]; exact (hF.2.2.2.1 p hp).trans (bgN_far (by omega)).symm, fun d hd => by rw [hF3.2.2 34 d (by unfold W_da; omega)]; exact (hF.2.2.2.2.1 d hd).trans (bgN_far (by omega)).symm⟩
            have hM3 : MEM (am_setN (am_setA (am_setA V 47 (fun k => if k < 8 then 0 else V.2.1 47 k)) 48 (fun k => if k < 8 then 0 else (am_setA V 47 (fun k => if k < 8 then 0 else V.2.1 47 k)).2.1 48 k)) 44 3 (awS σ H 32)) (bgS H) := by
              intro p hp
              have e7 : (am_setN (am_setA (am_setA V 47 (fun k => if k < 8 then 0 else V.2.1 47 k)) 48 (fun k => if k < 8 then 0 else (am_setA V 47 (fun k => if k < 8 then 0 else V.2.1 47 k)).2.1 48 k)) 44 3 (awS σ H 32)).2.1 47 p = 0 := if_pos hp
              have e8 : (am_setN (am_setA (am_setA V 47 (fun k => if k < 8 then 0 else V.2.1 47 k)) 48 (fun k => if k < 8 then 0 else (am_setA V 47 (fun k => if k < 8 then 0 else V.2.1 47 k)).2.1 48 k)) 44 3 (awS σ H 32)).2.1 48 p = 0 := if_pos hp
              rw [e7, e8]
              refine ⟨by decide, by decide, fun q _ => ?_⟩
              have h2 : tb 0 (q : Int) = 0 := by unfold tb; simp
              rw [h2, if_neg (by decide)]
            refine am_aload_n (q := 210) rfl (am_tab tk_X0_lookAt 115 rfl) rfl ?_
            refine am_aload_n (q := 211) rfl (am_tab tk_X0_lookAt 116 rfl) rfl ?_
            refine am_aload_n (q := 212) rfl (am_tab tk_X0_lookAt 117 rfl) rfl ?_
            refine am_getI (q := 215) (a := 44) (k := 0) (n := 14) (j := 3) (x := (ao_and (ao_and (mkS (fun _ => true) (pN H)) (ao_xor (σ.2.1 32 4) (-1))) (ao_xor (bsD H) (-1)))) (Ls_44 hLV) (by decide) rfl rfl (by decide) (Or.inl kf_X0_81) (am_tab tk_X0_lookAt 118 rfl) rfl ?_
            refine am_aload_n (q := 216) rfl (am_tab tk_X0_lookAt 119 rfl) rfl ?_
            refine am_getR (q := 219) (a := 32) (k := 1) (n := 11) (j := 6) (r := some (34)) (Ls_32 hLV) (by decide) rfl (Lr_32_6 hLV) (by decide) (Or.inr kf_X0_84) (am_tab tk_X0_lookAt 120 rfl) rfl ?_
            refine am_aload_n (q := 220) rfl (am_tab tk_X0_lookAt 121 rfl) rfl ?_
            refine am_getI (q := 223) (a := 44) (k := 0) (n := 14) (j := 1) (x := (bgN H 1)) (Ls_44 hLV) (by decide) rfl (by rw [hV]; rfl) (by decide) (Or.inl kf_X0_55) (am_tab tk_X0_lookAt 122 rfl) rfl ?_
            refine am_iald (q := 224) (a := 34) (n := 91) (x := (tsD H)) (Ls_34 hLV) (by omega) (by omega) (by rw [hV]; exact hts) (am_tab tk_X0_lookAt 123 rfl) rfl ?_
            refine am_callVr (q := 227) (me2 := M_X0_ofThemselves) (b := 44) (kb := 0) (nb := 14) (As := [am_i ((ao_and (ao_and (mkS (fun _ => true) (pN H)) (ao_xor (σ.2.1 32 4) (-1))) (ao_xor (bsD H) (-1)))), am_i ((tsD H))]) (rest := [am_r 44]) (c_ofThemselves_3_32 (am_setN (am_setA (am_setA V 47 (fun k => if k < 8 then 0 else V.2.1 47 k)) 48 (fun k => if k < 8 then 0 else (am_setA V 47 (fun k => if k < 8 then 0 else V.2.1 47 k)).2.1 48 k)) 44 3 (awS σ H 32)) (bgS H) hLV hGB hD3 (awS σ H 32) (tsD H) haw.1 (tsD_rng hG.R hc) (fun q hq h => by rw [haw.2 q hq] at h; by_cases h5 : q < pN H; exact h5; rw [if_neg (fun z => h5 z.1)] at h; exact absurd h (by decide))) ⟨rfl, rfl⟩ (Ls_44 hLV) (by decide) ⟨Or.inl km_X0_87, kc_X0_ofThemselves, kn_X0, kd_X0_ofThemselves, ⟨(Nat.le_of_ble_eq_true rfl), (Nat.le_of_ble_eq_true rfl)⟩, ⟨(Nat.le_of_ble_eq_true rfl), (Nat.le_of_ble_eq_true rfl)⟩, (Nat.le_of_ble_eq_true rfl)⟩ ki_X0_ofThemselves ks_X0_ofThemselves rfl (am_tab tk_X0_lookAt 124 rfl) rfl ?_
            rintro r T1 ⟨hr, hF1⟩
            rw [sel_ow h8 haw.2] at hr
            subst hr
            have hL1 : lay T1 := hF1.L hLV
            have hAT1 : T1.2.1 44 3 = (awS σ H 32) := hF1.2.2 44 3 (by unfold W_ow; omega)
            have hBT1 : T1.2.1 44 2 = bgN H 2 := (hF1.2.2 44 2 (by unfold W_ow; omega)).trans (by rw [hV]; rfl)
            refine am_st (st2 := [am_i (sfD H), am_r 44]) rfl ?_
            refine am_putI (q := 230) (k := 0) (n := 14) (j := 4) (Ls_44 hL1) (by decide) rfl (by decide) (Or.inl ⟨kf_X0_91, rfl⟩) (am_tab tk_X0_lookAt 125 rfl) rfl ?_
            have hFp : frw W_da (am_setN (am_setA (am_setA V 47 (fun k => if k < 8 then 0 else V.2.1 47 k)) 48 (fun k => if k < 8 then 0 else (am_setA V 47 (fun k => if k < 8 then 0 else V.2.1 47 k)).2.1 48 k)) 44 3 (awS σ H 32)) (am_setN T1 44 4 (sfD H)) := (hF1.mono (fun _ _ h => by unfold W_ow at h; unfold W_da; omega)).setN (by unfold W_da; omega)
            have hD4 : DWr 3 32 (am_setN T1 44 4 (sfD H)) (bgS H) := (hD3.fr (W_ow_d hF1) (by decide) (by decide)).set4 (by decide)
            have hM4 : MEM (am_setN T1 44 4 (sfD H)) (bgS H) := (hM3.fr hF1 (by unfold W_ow; omega)).set4
            refine am_aload_n (q := 231) rfl (am_tab tk_X0_lookAt 126 rfl) rfl ?_
            refine am_aload_n (q := 232) rfl (am_tab tk_X0_lookAt 127 rfl) rfl ?_
            refine am_aload_n (q := 233) rfl (am_tab tk_X0_lookAt 128 rfl) rfl ?_
            refine am_getI (q := 236) (a := 44) (k := 0) (n := 14) (j := 4) (x := sfD H) (Ls_44 hL1) (by decide) rfl rfl (by decide) (Or.inl kf_X0_91) (am_tab tk_X0_lookAt 129 rfl) rfl ?_
            refine am_aload_n (q := 237) rfl (am_tab tk_X0_lookAt 130 rfl) rfl ?_
            refine am_getI (q := 240) (a := 44) (k := 0) (n := 14) (j := 3) (x := (awS σ H 32)) (Ls_44 hL1) (by decide) rfl hAT1 (by decide) (Or.inl kf_X0_81) (am_tab tk_X0_lookAt 131 rfl) rfl ?_
            refine am_callVr (q := 243) (me2 := M_X0_spread) (b := 44) (kb := 0) (nb := 14) (As := [am_i (sfD H), am_i ((awS σ H 32))]) (rest := [am_r 44]) (c_spread_3_32 (am_setN T1 44 4 (sfD H)) (bgS H) hL1 hGB hD4 (sfD H) (awS σ H 32) (bsD H) (sfD_rng hG hc) haw.1 (fun p hp => by rw [haw.2 p (show p < 8 by have h5 : p < pN H := hp; omega), show (bgS H).2.1 96 (12 + p) = H.2.1 96 (12 + p) from bgN_far (by omega)]; have h5 : p < pN H := hp; by_cases h6 : ¬ H.2.1 96 (12 + p) = 1 ∧ ¬ tb (bsD H) p = 1; rw [if_pos ⟨h5, h6⟩]; exact ⟨fun _ => h6, fun _ => rfl⟩; rw [if_neg (fun z => h6 z.2)]; exact ⟨fun h => absurd h (by decide), fun h => absurd h h6⟩) hM4) ⟨rfl, rfl⟩ (Ls_44 hL1) (by decide) ⟨Or.inl km_X0_93, kc_X0_spread, kn_X0, kd_X0_spread, ⟨(Nat.le_of_ble_eq_true rfl), (Nat.le_of_ble_eq_true rfl)⟩, ⟨(Nat.le_of_ble_eq_true rfl), (Nat.le_of_ble_eq_true rfl)⟩, (Nat.le_of_ble_eq_true rfl)⟩ ki_X0_spread ks_X0_spread rfl (am_tab tk_X0_lookAt 132 rfl) rfl ?_
            rintro r T2 ⟨hr, hM2, hF2⟩
            have hr2 : r = some (am_i (thD H)) := hr
            subst hr2
            have hL2 : lay T2 := hF2.L hL1
            have hBT2 : T2.2.1 44 2 = bgN H 2 := (hF2.2.2 44 2 (by unfold W_dw; omega)).trans hBT1
            refine am_st (st2 := [am_i (thD H), am_r 44]) rfl ?_
            refine am_putI (q := 246) (k := 0) (n := 14) (j := 5) (Ls_44 hL2) (by decide) rfl (by decide) (Or.inl ⟨kf_X0_96, rfl⟩) (am_tab tk_X0_lookAt 133 rfl) rfl ?_
            refine am_aload_n (q := 247) rfl (am_tab tk_X0_lookAt 134 rfl) rfl ?_
            refine am_aload_n (q := 248) rfl (am_tab tk_X0_lookAt 135 rfl) rfl ?_
            refine am_getI (q := 251) (a := 44) (k := 0) (n := 14) (j := 2) (x := (bgN H 2)) (Ls_44 hL2) (by decide) rfl hBT2 (by decide) (Or.inl kf_X0_59) (am_tab tk_X0_lookAt 136 rfl) rfl ?_
            refine am_if_ne (q := 254) (t := 265) (am_tab tk_X0_lookAt 137 rfl) (by decide) rfl (fun h251 => ?_) (fun h251 => ?_)
            · refine am_iconst (q := 266) (n := 0) (by decide) (am_tab tk_X0_lookAt 143 rfl) rfl ?_
              refine am_putZ (q := 269) (k := 0) (n := 14) (j := 6) (Ls_44 hL2) (by decide) rfl (by first | exact Or.inl rfl | exact Or.inr rfl | omega) (by decide) (Or.inl ⟨kf_X0_99, rfl⟩) (am_tab tk_X0_lookAt 144 rfl) rfl ?_
              refine am_iconst (q := 270) (n := 1) (by decide) (am_tab tk_X0_lookAt 145 rfl) rfl ?_
              refine am_iret (Or.inr ⟨rfl, by first | exact Or.inl rfl | exact Or.inr rfl | omega⟩) (Nat.le_of_ble_eq_true rfl) (Nat.le_of_ble_eq_true rfl) (am_tab tk_X0_lookAt 146 rfl) ?_
              refine hQ _ _ ?_
              rw [if_pos cm]
              have hfs : fsD H = 0 := by
                unfold fsD
                rw [if_neg (by omega)]
              have hFz : frw W_da (am_setR (am_setR σ 44 8 (some 3)) 44 9 (some 32)) (am_setN (am_setN T2 44 5 (thD H)) 44 6 0) := hF3.trans (hFp.trans (((hF2.mono (fun _ _ h => by unfold W_dw at h; unfold W_da; omega)).setN (by unfold W_da; omega)).setN (by unfold W_da; omega)))
              refine ⟨rfl, ⟨((hD4.fr hF2 (by decide) (by decide)).set4 (by decide)).set4 (by decide), hM2.set4.set4, ⟨?_, ?_, ?_, ?_⟩, ?_, rfl, hfs.symm, ?_⟩, hFz⟩
              · show T2.2.1 44 0 = _; rw [hF2.2.2 44 0 (by unfold W_dw; omega)]; show T1.2.1 44 0 = _; rw [hF1.2.2 44 0 (by unfold W_ow; omega), hV]; rfl
              · show T2.2.1 44 1 = _; rw [hF2.2.2 44 1 (by unfold W_dw; omega)]; show T1.2.1 44 1 = _; rw [hF1.2.2 44 1 (by unfold W_ow; omega), hV]; rfl
              · show T2.2.1 44 2 = _; rw [hF2.2.2 44 2 (by unfold W_dw; omega)]; show T1.2.1 44 2 = _; rw [hF1.2.2 44 2 (by unfold W_ow; omega), hV]; rfl
              · show T2.2.1 44 3 = _; rw [hF2.2.2 44 3 (by unfold W_dw; omega)]; exact hAT1
              · show T2.2.1 44 4 = _; rw [hF2.2.2 44 4 (by unfold W_dw; omega)]; rfl
              · show T2.2.1 44 7 = _; rw [hF2.2.2 44 7 (by unfold W_dw; omega)]; show T1.2.1 44 7 = _; rw [hF1.2.2 44 7 (by unfold W_ow; omega), hV]; rfl
            · refine am_aload_n (q := 255) rfl (am_tab tk_X0_lookAt 138 rfl) rfl ?_
              refine am_getI (q := 258) (a := 44) (k := 0) (n := 14) (j := 5) (x := thD H) (Ls_44 hL2) (by decide) rfl rfl (by decide) (Or.inl kf_X0_96) (am_tab tk_X0_lookAt 139 rfl) rfl ?_
              refine am_if_ne (q := 261) (t := 265) (am_tab tk_X0_lookAt 140 rfl) (by decide) rfl (fun h258 => ?_) (fun h258 => ?_)
              · refine am_iconst (q := 266) (n := 0) (by decide) (am_tab tk_X0_lookAt 143 rfl) rfl ?_
                refine am_putZ (q := 269) (k := 0) (n := 14) (j := 6) (Ls_44 hL2) (by decide) rfl (by first | exact Or.inl rfl | exact Or.inr rfl | omega) (by decide) (Or.inl ⟨kf_X0_99, rfl⟩) (am_tab tk_X0_lookAt 144 rfl) rfl ?_
                refine am_iconst (q := 270) (n := 1) (by decide) (am_tab tk_X0_lookAt 145 rfl) rfl ?_
                refine am_iret (Or.inr ⟨rfl, by first | exact Or.inl rfl | exact Or.inr rfl | omega⟩) (Nat.le_of_ble_eq_true rfl) (Nat.le_of_ble_eq_true rfl) (am_tab tk_X0_lookAt 146 rfl) ?_
                refine hQ _ _ ?_
                rw [if_pos cm]
                have hfs : fsD H = 0 := by
                  unfold fsD
                  rw [if_neg (by omega)]
                have hFz : frw W_da (am_setR (am_setR σ 44 8 (some 3)) 44 9 (some 32)) (am_setN (am_setN T2 44 5 (thD H)) 44 6 0) := hF3.trans (hFp.trans (((hF2.mono (fun _ _ h => by unfold W_dw at h; unfold W_da; omega)).setN (by unfold W_da; omega)).setN (by unfold W_da; omega)))
                refine ⟨rfl, ⟨((hD4.fr hF2 (by decide) (by decide)).set4 (by decide)).set4 (by decide), hM2.set4.set4, ⟨?_, ?_, ?_, ?_⟩, ?_, rfl, hfs.symm, ?_⟩, hFz⟩
                · show T2.2.1 44 0 = _; rw [hF2.2.2 44 0 (by unfold W_dw; omega)]; show T1.2.1 44 0 = _; rw [hF1.2.2 44 0 (by unfold W_ow; omega), hV]; rfl
                · show T2.2.1 44 1 = _; rw [hF2.2.2 44 1 (by unfold W_dw; omega)]; show T1.2.1 44 1 = _; rw [hF1.2.2 44 1 (by unfold W_ow; omega), hV]; rfl
                · show T2.2.1 44 2 = _; rw [hF2.2.2 44 2 (by unfold W_dw; omega)]; show T1.2.1 44 2 = _; rw [hF1.2.2 44 2 (by unfold W_ow; omega), hV]; rfl
                · show T2.2.1 44 3 = _; rw [hF2.2.2 44 3 (by unfold W_dw; omega)]; exact hAT1
                · show T2.2.1 44 4 = _; rw [hF2.2.2 44 4 (by unfold W_dw; omega)]; rfl
                · show T2.2.1 44 7 = _; rw [hF2.2.2 44 7 (by unfold W_dw; omega)]; show T1.2.1 44 7 = _; rw [hF1.2.2 44 7 (by unfold W_ow; omega), hV]; rfl
              · refine am_iconst (q := 262) (n := 1) (by decide) (am_tab tk_X0_lookAt 141 rfl) rfl ?_
                refine am_goto (t := 266) (am_tab tk_X0_lookAt 142 rfl) (by decide) ?_
                refine am_putZ (q := 269) (k := 0) (n := 14) (j := 6) (Ls_44 hL2) (by decide) rfl (by first | exact Or.inl rfl | exact Or.inr rfl | omega) (by decide) (Or.inl ⟨kf_X0_99, rfl⟩) (am_tab tk_X0_lookAt 144 rfl) rfl ?_
                refine am_iconst (q := 270) (n := 1) (by decide) (am_tab tk_X0_lookAt 145 rfl) rfl ?_
                refine am_iret (Or.inr ⟨rfl, by first | exact Or.inl rfl | exact Or.inr rfl | omega⟩) (Nat.le_of_ble_eq_true rfl) (Nat.le_of_ble_eq_true rfl) (am_tab tk_X0_lookAt 146 rfl) ?_
                refine hQ _ _ ?_
                rw [if_pos cm]
                have hfs : fsD H = 1 := by
                  unfold fsD
                  rw [if_pos ⟨by omega, by omega⟩]
                have hFz : frw W_da (am_setR (am_setR σ 44 8 (some 3)) 44 9 (some 32)) (am_setN (am_setN T2 44 5 (thD H)) 44 6 1) := hF3.trans (hFp.trans (((hF2.mono (fun _ _ h => by unfold W_dw at h; unfold W_da; omega)).setN (by unfold W_da; omega)).setN (by unfold W_da; omega)))
                refine ⟨rfl, ⟨((hD4.fr hF2 (by decide) (by decide)).set4 (by decide)).set4 (by decide), hM2.set4.set4, ⟨?_, ?_, ?_, ?_⟩, ?_, rfl, hfs.symm, ?_⟩, hFz⟩
                · show T2.2.1 44 0 = _; rw [hF2.2.2 44 0 (by unfold W_dw; omega)]; show T1.2.1 44 0 = _; rw [hF1.2.2 44 0 (by unfold W_ow; omega), hV]; rfl
                · show T2.2.1 44 1 = _; rw [hF2.2.2 44 1 (by unfold W_dw; omega)]; show T1.2.1 44 1 = _; rw [hF1.2.2 44 1 (by unfold W_ow; omega), hV]; rfl
                · show T2.2.1 44 2 = _; rw [hF2.2.2 44 2 (by unfold W_dw; omega)]; show T1.2.1 44 2 = _; rw [hF1.2.2 44 2 (by unfold W_ow; omega), hV]; rfl
                · show T2.2.1 44 3 = _; rw [hF2.2.2 44 3 (by unfold W_dw; omega)]; exact hAT1
                · show T2.2.1 44 4 = _; rw [hF2.2.2 44 4 (by unfold W_dw; omega)]; rfl
                · show T2.2.1 44 7 = _; rw [hF2.2.2 44 7 (by unfold W_dw; omega)]; show T1.2.1 44 7 = _; rw [hF1.2.2 44 7 (by unfold W_ow; omega), hV]; rfl
        refine am_aload_n (q := 29) rfl (am_tab tk_X0_lookAt 16 rfl) rfl ?_
        refine am_putR (q := 32) (k := 0) (n := 14) (j := 8) (Ls_44 hL) (by decide) rfl (by decide) (Or.inl ⟨kf_X0_24, rfl⟩) (am_tab tk_X0_lookAt 17 rfl) rfl ?_
        have hLa : lay (am_setR (am_setN σ 44 7 1) 44 8 (some (3))) := lay_R hL (by decide)
        refine am_aload_n (q := 33) rfl (am_tab tk_X0_lookAt 18 rfl) rfl ?_
        refine am_aload_n (q := 34) rfl (am_tab tk_X0_lookAt 19 rfl) rfl ?_
        refine am_putR (q := 37) (k := 0) (n := 14) (j := 9) (Ls_44 hLa) (by decide) rfl (by decide) (Or.inl ⟨kf_X0_28, rfl⟩) (am_tab tk_X0_lookAt 20 rfl) rfl ?_
        by_cases ny : H.2.1 96 1 + 1 ≤ H.2.1 85 9
        · have hLb : lay (am_setR (am_setR (am_setN σ 44 7 1) 44 8 (some (3))) 44 9 (some (32))) := lay_R hLa (by decide)
          refine am_aload_n (q := 38) rfl (am_tab tk_X0_lookAt 21 rfl) rfl ?_
          refine am_getI (q := 41) (a := 32) (k := 1) (n := 11) (j := 1) (x := (H.2.1 96 1)) (Ls_32 hLb) (by decide) rfl hF.1.2.1 (by decide) (Or.inr kf_X0_42) (am_tab tk_X0_lookAt 22 rfl) rfl ?_
          refine am_aload_n (q := 42) rfl (am_tab tk_X0_lookAt 23 rfl) rfl ?_
          refine am_getI (q := 45) (a := 3) (k := 8) (n := 17) (j := 0) (x := (H.2.1 85 9)) (Ls_3 hLb) (by decide) rfl hT.days (by decide) (Or.inr kf_X0_46) (am_tab tk_X0_lookAt 24 rfl) rfl ?_
          refine am_icmp_lt (q := 48) (t := 52) (am_tab tk_X0_lookAt 25 rfl) (by decide) rfl (fun h45 => ?_) (fun h45 => ?_)
          · refine am_iconst (q := 53) (n := 0) (by decide) (am_tab tk_X0_lookAt 28 rfl) rfl ?_
            refine am_istore_n (q := 54) (by decide) (ls2 := [(3, am_i 0), (0, am_r 44), (1, am_r 3), (2, am_r 32)]) rfl (am_tab tk_X0_lookAt 29 rfl) rfl ?_
            have b0 : bgN H 0 = H.2.1 96 0 := by unfold bgN; rw [if_pos ny]; rfl
            have b1 : bgN H 1 = H.2.1 96 1 + 1 := by unfold bgN; rw [if_pos ny]; rfl
            have b2 : bgN H 2 = H.2.1 96 2 := by unfold bgN; rw [if_pos ny]; rfl
            refine am_aload_n (q := 55) rfl (am_tab tk_X0_lookAt 30 rfl) rfl ?_
            refine am_iload_n (q := 56) rfl (am_tab tk_X0_lookAt 31 rfl) rfl ?_
            refine am_if_eq (q := 59) (t := 68) (am_tab tk_X0_lookAt 32 rfl) (by decide) rfl (fun h56 => ?_) (fun h56 => ?_)
            · refine am_aload_n (q := 69) rfl (am_tab tk_X0_lookAt 38 rfl) rfl ?_
              refine am_getI (q := 72) (a := 32) (k := 1) (n := 11) (j := 0) (x := (H.2.1 96 0)) (Ls_32 hLb) (by decide) rfl hF.1.1 (by decide) (Or.inr kf_X0_51) (am_tab tk_X0_lookAt 39 rfl) rfl ?_
              refine am_putI (q := 75) (k := 0) (n := 14) (j := 0) (Ls_44 hLb) (by decide) rfl (by decide) (Or.inl ⟨kf_X0_54, rfl⟩) (am_tab tk_X0_lookAt 40 rfl) rfl ?_
              refine am_aload_n (q := 76) rfl (am_tab tk_X0_lookAt 41 rfl) rfl ?_
              refine am_iload_n (q := 77) rfl (am_tab tk_X0_lookAt 42 rfl) rfl ?_
              refine am_if_eq (q := 80) (t := 84) (am_tab tk_X0_lookAt 43 rfl) (by decide) rfl (fun h77 => ?_) (fun h77 => ?_)
              · refine am_aload_n (q := 85) rfl (am_tab tk_X0_lookAt 46 rfl) rfl ?_
                refine am_getI (q := 88) (a := 32) (k := 1) (n := 11) (j := 1) (x := (H.2.1 96 1)) (Ls_32 hLb) (by decide) rfl hF.1.2.1 (by decide) (Or.inr kf_X0_42) (am_tab tk_X0_lookAt 47 rfl) rfl ?_
                refine am_iconst (q := 89) (n := 1) (by decide) (am_tab tk_X0_lookAt 48 rfl) rfl ?_
                refine am_iadd (q := 90) (by omega) (am_tab tk_X0_lookAt 49 rfl) rfl ?_
                refine am_putI (q := 93) (k := 0) (n := 14) (j := 1) (Ls_44 hLb) (by decide) rfl (by decide) (Or.inl ⟨kf_X0_55, rfl⟩) (am_tab tk_X0_lookAt 50 rfl) rfl ?_
                refine am_aload_n (q := 94) rfl (am_tab tk_X0_lookAt 51 rfl) rfl ?_
                refine am_iload_n (q := 95) rfl (am_tab tk_X0_lookAt 52 rfl) rfl ?_
                refine am_if_eq (q := 98) (t := 102) (am_tab tk_X0_lookAt 53 rfl) (by decide) rfl (fun h95 => ?_) (fun h95 => ?_)
                · refine am_aload_n (q := 103) rfl (am_tab tk_X0_lookAt 56 rfl) rfl ?_
                  refine am_getI (q := 106) (a := 32) (k := 1) (n := 11) (j := 2) (x := (H.2.1 96 2)) (Ls_32 hLb) (by decide) rfl hF.1.2.2.1 (by decide) (Or.inr kf_X0_56) (am_tab tk_X0_lookAt 57 rfl) rfl ?_
                  refine am_putI (q := 109) (k := 0) (n := 14) (j := 2) (Ls_44 hLb) (by decide) rfl (by decide) (Or.inl ⟨kf_X0_59, rfl⟩) (am_tab tk_X0_lookAt 58 rfl) rfl ?_
                  refine am_aload_n (q := 110) rfl (am_tab tk_X0_lookAt 59 rfl) rfl ?_
                  refine am_getR (q := 113) (a := 44) (k := 0) (n := 14) (j := 10) (r := some (45)) (Ls_44 hLb) (by decide) rfl (Lr_44_10 hLb) (by decide) (Or.inl kf_X0_9) (am_tab tk_X0_lookAt 60 rfl) rfl ?_
                  refine am_bipush (q := 115) (n := 13) (by decide) rfl (am_tab tk_X0_lookAt 61 rfl) rfl ?_
                  refine am_aload_n (q := 116) rfl (am_tab tk_X0_lookAt 62 rfl) rfl ?_
                  refine am_getI (q := 119) (a := 44) (k := 0) (n := 14) (j := 1) (x := ((H.2.1 96 1) + 1)) (Ls_44 hLb) (by decide) rfl rfl (by decide) (Or.inl kf_X0_55) (am_tab tk_X0_lookAt 63 rfl) rfl ?_
                  refine am_iast (q := 120) (a := 45) (n := 34) (Ls_45 hLb) (by omega) (by omega) (am_tab tk_X0_lookAt 64 rfl) rfl ?_
                  refine am_aload_n (q := 121) rfl (am_tab tk_X0_lookAt 65 rfl) rfl ?_
                  refine am_getR (q := 124) (a := 44) (k := 0) (n := 14) (j := 10) (r := some (45)) (Ls_44 hLb) (by decide) rfl (Lr_44_10 hLb) (by decide) (Or.inl kf_X0_9) (am_tab tk_X0_lookAt 66 rfl) rfl ?_
                  refine am_bipush (q := 126) (n := 14) (by decide) rfl (am_tab tk_X0_lookAt 67 rfl) rfl ?_
                  refine am_aload_n (q := 127) rfl (am_tab tk_X0_lookAt 68 rfl) rfl ?_
                  refine am_getI (q := 130) (a := 44) (k := 0) (n := 14) (j := 0) (x := (H.2.1 96 0)) (Ls_44 hLb) (by decide) rfl rfl (by decide) (Or.inl kf_X0_54) (am_tab tk_X0_lookAt 69 rfl) rfl ?_
                  refine am_iast (q := 131) (a := 45) (n := 34) (Ls_45 hLb) (by omega) (by omega) (am_tab tk_X0_lookAt 70 rfl) rfl ?_
                  refine am_aload_n (q := 132) rfl (am_tab tk_X0_lookAt 71 rfl) rfl ?_
                  refine am_getR (q := 135) (a := 44) (k := 0) (n := 14) (j := 10) (r := some (45)) (Ls_44 hLb) (by decide) rfl (Lr_44_10 hLb) (by decide) (Or.inl kf_X0_9) (am_tab tk_X0_lookAt 72 rfl) rfl ?_
                  refine am_bipush (q := 137) (n := 7) (by decide) rfl (am_tab tk_X0_lookAt 73 rfl) rfl ?_
                  refine am_aload_n (q := 138) rfl (am_tab tk_X0_lookAt 74 rfl) rfl ?_
                  refine am_getR (q := 141) (a := 3) (k := 8) (n := 17) (j := 14) (r := some (10)) (Ls_3 hLb) (by decide) rfl (Lr_3_14 hLb) (by decide) (Or.inr kf_X0_62) (am_tab tk_X0_lookAt 75 rfl) rfl ?_
                  refine am_aload_n (q := 142) rfl (am_tab tk_X0_lookAt 76 rfl) rfl ?_
                  refine am_getI (q := 145) (a := 44) (k := 0) (n := 14) (j := 1) (x := ((H.2.1 96 1) + 1)) (Ls_44 hLb) (by decide) rfl rfl (by decide) (Or.inl kf_X0_55) (am_tab tk_X0_lookAt 77 rfl) rfl ?_
                  refine am_iald (q := 146) (a := 10) (n := 91) (x := (fzM (bgS H))) (Ls_10 hLb) (by omega) (by omega) (by rw [← b1]; exact hfz) (am_tab tk_X0_lookAt 78 rfl) rfl ?_
                  refine am_iast (q := 147) (a := 45) (n := 34) (Ls_45 hLb) (by omega) (by omega) (am_tab tk_X0_lookAt 79 rfl) rfl ?_
                  refine am_aload_n (q := 148) rfl (am_tab tk_X0_lookAt 80 rfl) rfl ?_
                  refine am_getR (q := 151) (a := 44) (k := 0) (n := 14) (j := 10) (r := some (45)) (Ls_44 hLb) (by decide) rfl (Lr_44_10 hLb) (by decide) (Or.inl kf_X0_9) (am_tab tk_X0_lookAt 81 rfl) rfl ?_
                  refine am_bipush (q := 153) (n := 16) (by decide) rfl (am_tab tk_X0_lookAt 82 rfl) rfl ?_
                  refine am_aload_n (q := 154) rfl (am_tab tk_X0_lookAt 83 rfl) rfl ?_
                  refine am_getI (q := 157) (a := 44) (k := 0) (n := 14) (j := 2) (x := (H.2.1 96 2)) (Ls_44 hLb) (by decide) rfl rfl (by decide) (Or.inl kf_X0_59) (am_tab tk_X0_lookAt 84 rfl) rfl ?_
                  refine am_if_ne (q := 160) (t := 164) (am_tab tk_X0_lookAt 85 rfl) (by decide) rfl (fun h157 => ?_) (fun h157 => ?_)
                  · refine am_iconst (q := 165) (n := 1) (by decide) (am_tab tk_X0_lookAt 88 rfl) rfl ?_
                    refine am_iast (q := 166) (a := 45) (n := 34) (Ls_45 hLb) (by omega) (by omega) (am_tab tk_X0_lookAt 89 rfl) rfl ?_
                    have hff : ffM (bgS H) = 1 := by
                      show (if 0 < bgN H 2 then (1 : Int) else 0) = 1
                      have := hfr
                      rw [if_pos (by omega)]
                    refine am_less (by intro q hq; simp only [List.mem_cons, List.not_mem_nil, or_false] at hq; rcases hq with rfl | rfl | rfl <;> simp) (L166 (_ + 1) (am_setN (am_setN (am_setN (am_setN (am_setN (am_setN (am_setN (am_setR (am_setR (am_setN σ 44 7 1) 44 8 (some (3))) 44 9 (some (32))) 44 0 (H.2.1 96 0)) 44 1 ((H.2.1 96 1) + 1)) 44 2 (H.2.1 96 2)) 45 13 ((H.2.1 96 1) + 1)) 45 14 (H.2.1 96 0)) 45 7 (fzM (bgS H))) 45 16 1) (by exact Nat.lt_succ_self _) (by rw [hff, b0, b1, b2]))
                  · refine am_iconst (q := 161) (n := 0) (by decide) (am_tab tk_X0_lookAt 86 rfl) rfl ?_
                    refine am_goto (t := 165) (am_tab tk_X0_lookAt 87 rfl) (by decide) ?_
                    refine am_iast (q := 166) (a := 45) (n := 34) (Ls_45 hLb) (by omega) (by omega) (am_tab tk_X0_lookAt 89 rfl) rfl ?_
                    have hff : ffM (bgS H) = 0 := by
                      show (if 0 < bgN H 2 then (1 : Int) else 0) = 0
                      have := hfr
                      rw [if_neg (by omega)]
                    refine am_less (by intro q hq; simp only [List.mem_cons, List.not_mem_nil, or_false] at hq; rcases hq with rfl | rfl | rfl <;> simp) (L166 (_ + 1) (am_setN (am_setN (am_setN (am_setN (am_setN (am_setN (am_setN (am_setR (am_setR (am_setN σ 44 7 1) 44 8 (some (3))) 44 9 (some (32))) 44 0 (H.2.1 96 0)) 44 1 ((H.2.1 96 1) + 1)) 44 2 (H.2.1 96 2)) 45 13 ((H.2.1 96 1) + 1)) 45 14 (H.2.1 96 0)) 45 7 (fzM (bgS H))) 45 16 0) (by exact Nat.lt_succ_self _) (by rw [hff, b0, b1, b2]))
                · exact absurd h95 (by decide)
              · exact absurd h77 (by decide)
            · exact absurd h56 (by decide)
          · exact absurd h45 (by omega)
        · have hLb : lay (am_setR (am_setR (am_setN σ 44 7 1) 44 8 (some (3))) 44 9 (some (32))) := lay_R hLa (by decide)
          refine am_aload_n (q := 38) rfl (am_tab tk_X0_lookAt 21 rfl) rfl ?_
          refine am_getI (q := 41) (a := 32) (k := 1) (n := 11) (j := 1) (x := (H.2.1 96 1)) (Ls_32 hLb) (by decide) rfl hF.1.2.1 (by decide) (Or.inr kf_X0_42) (am_tab tk_X0_lookAt 22 rfl) rfl ?_
          refine am_aload_n (q := 42) rfl (am_tab tk_X0_lookAt 23 rfl) rfl ?_
          refine am_getI (q := 45) (a := 3) (k := 8) (n := 17) (j := 0) (x := (H.2.1 85 9)) (Ls_3 hLb) (by decide) rfl hT.days (by decide) (Or.inr kf_X0_46) (am_tab tk_X0_lookAt 24 rfl) rfl ?_
          refine am_icmp_lt (q := 48) (t := 52) (am_tab tk_X0_lookAt 25 rfl) (by decide) rfl (fun h45 => ?_) (fun h45 => ?_)
          · exact absurd h45 (by omega)
          · refine am_iconst (q := 49) (n := 1) (by decide) (am_tab tk_X0_lookAt 26 rfl) rfl ?_
            refine am_goto (t := 53) (am_tab tk_X0_lookAt 27 rfl) (by decide) ?_
            refine am_istore_n (q := 54) (by decide) (ls2 := [(3, am_i 1), (0, am_r 44), (1, am_r 3), (2, am_r 32)]) rfl (am_tab tk_X0_lookAt 29 rfl) rfl ?_
            have b0 : bgN H 0 = H.2.1 96 0 + 1 := by unfold bgN; rw [if_neg ny]; rfl
            have b1 : bgN H 1 = 1 := by unfold bgN; rw [if_neg ny]; rfl
            have b2 : bgN H 2 = 0 := by unfold bgN; rw [if_neg ny]; rfl
            refine am_aload_n (q := 55) rfl (am_tab tk_X0_lookAt 30 rfl) rfl ?_
            refine am_iload_n (q := 56) rfl (am_tab tk_X0_lookAt 31 rfl) rfl ?_
            refine am_if_eq (q := 59) (t := 68) (am_tab tk_X0_lookAt 32 rfl) (by decide) rfl (fun h56 => ?_) (fun h56 => ?_)
            · exact absurd h56 (by decide)
            · refine am_aload_n (q := 60) rfl (am_tab tk_X0_lookAt 33 rfl) rfl ?_
              refine am_getI (q := 63) (a := 32) (k := 1) (n := 11) (j := 0) (x := (H.2.1 96 0)) (Ls_32 hLb) (by decide) rfl hF.1.1 (by decide) (Or.inr kf_X0_51) (am_tab tk_X0_lookAt 34 rfl) rfl ?_
              refine am_iconst (q := 64) (n := 1) (by decide) (am_tab tk_X0_lookAt 35 rfl) rfl ?_
              refine am_iadd (q := 65) (by omega) (am_tab tk_X0_lookAt 36 rfl) rfl ?_
              refine am_goto (t := 72) (am_tab tk_X0_lookAt 37 rfl) (by decide) ?_
              refine am_putI (q := 75) (k := 0) (n := 14) (j := 0) (Ls_44 hLb) (by decide) rfl (by decide) (Or.inl ⟨kf_X0_54, rfl⟩) (am_tab tk_X0_lookAt 40 rfl) rfl ?_
              refine am_aload_n (q := 76) rfl (am_tab tk_X0_lookAt 41 rfl) rfl ?_
              refine am_iload_n (q := 77) rfl (am_tab tk_X0_lookAt 42 rfl) rfl ?_
              refine am_if_eq (q := 80) (t := 84) (am_tab tk_X0_lookAt 43 rfl) (by decide) rfl (fun h77 => ?_) (fun h77 => ?_)
              · exact absurd h77 (by decide)
              · refine am_iconst (q := 81) (n := 1) (by decide) (am_tab tk_X0_lookAt 44 rfl) rfl ?_
                refine am_goto (t := 90) (am_tab tk_X0_lookAt 45 rfl) (by decide) ?_
                refine am_putI (q := 93) (k := 0) (n := 14) (j := 1) (Ls_44 hLb) (by decide) rfl (by decide) (Or.inl ⟨kf_X0_55, rfl⟩) (am_tab tk_X0_lookAt 50 rfl) rfl ?_
                refine am_aload_n (q := 94) rfl (am_tab tk_X0_lookAt 51 rfl) rfl ?_
                refine am_iload_n (q := 95) rfl (am_tab tk_X0_lookAt 52 rfl) rfl ?_
                refine am_if_eq (q := 98) (t := 102) (am_tab tk_X0_lookAt 53 rfl) (by decide) rfl (fun h95 => ?_) (fun h95 => ?_)
                · exact absurd h95 (by decide)
                · refine am_iconst (q := 99) (n := 0) (by decide) (am_tab tk_X0_lookAt 54 rfl) rfl ?_
                  refine am_goto (t := 106) (am_tab tk_X0_lookAt 55 rfl) (by decide) ?_
                  refine am_putI (q := 109) (k := 0) (n := 14) (j := 2) (Ls_44 hLb) (by decide) rfl (by decide) (Or.inl ⟨kf_X0_59, rfl⟩) (am_tab tk_X0_lookAt 58 rfl) rfl ?_
                  refine am_aload_n (q := 110) rfl (am_tab tk_X0_lookAt 59 rfl) rfl ?_
                  refine am_getR (q := 113) (a := 44) (k := 0) (n := 14) (j := 10) (r := some (45)) (Ls_44 hLb) (by decide) rfl (Lr_44_10 hLb) (by decide) (Or.inl kf_X0_9) (am_tab tk_X0_lookAt 60 rfl) rfl ?_
                  refine am_bipush (q := 115) (n := 13) (by decide) rfl (am_tab tk_X0_lookAt 61 rfl) rfl ?_
                  refine am_aload_n (q := 116) rfl (am_tab tk_X0_lookAt 62 rfl) rfl ?_
                  refine am_getI (q := 119) (a := 44) (k := 0) (n := 14) (j := 1) (x := 1) (Ls_44 hLb) (by decide) rfl rfl (by decide) (Or.inl kf_X0_55) (am_tab tk_X0_lookAt 63 rfl) rfl ?_
                  refine am_iast (q := 120) (a := 45) (n := 34) (Ls_45 hLb) (by omega) (by omega) (am_tab tk_X0_lookAt 64 rfl) rfl ?_
                  refine am_aload_n (q := 121) rfl (am_tab tk_X0_lookAt 65 rfl) rfl ?_
                  refine am_getR (q := 124) (a := 44) (k := 0) (n := 14) (j := 10) (r := some (45)) (Ls_44 hLb) (by decide) rfl (Lr_44_10 hLb) (by decide) (Or.inl kf_X0_9) (am_tab tk_X0_lookAt 66 rfl) rfl ?_
                  refine am_bipush (q := 126) (n := 14) (by decide) rfl (am_tab tk_X0_lookAt 67 rfl) rfl ?_
                  refine am_aload_n (q := 127) rfl (am_tab tk_X0_lookAt 68 rfl) rfl ?_
                  refine am_getI (q := 130) (a := 44) (k := 0) (n := 14) (j := 0) (x := ((H.2.1 96 0) + 1)) (Ls_44 hLb) (by decide) rfl rfl (by decide) (Or.inl kf_X0_54) (am_tab tk_X0_lookAt 69 rfl) rfl ?_
                  refine am_iast (q := 131) (a := 45) (n := 34) (Ls_45 hLb) (by omega) (by omega) (am_tab tk_X0_lookAt 70 rfl) rfl ?_
                  refine am_aload_n (q := 132) rfl (am_tab tk_X0_lookAt 71 rfl) rfl ?_
                  refine am_getR (q := 135) (a := 44) (k := 0) (n := 14) (j := 10) (r := some (45)) (Ls_44 hLb) (by decide) rfl (Lr_44_10 hLb) (by decide) (Or.inl kf_X0_9) (am_tab tk_X0_lookAt 72 rfl) rfl ?_
                  refine am_bipush (q := 137) (n := 7) (by decide) rfl (am_tab tk_X0_lookAt 73 rfl) rfl ?_
                  refine am_aload_n (q := 138) rfl (am_tab tk_X0_lookAt 74 rfl) rfl ?_
                  refine am_getR (q := 141) (a := 3) (k := 8) (n := 17) (j := 14) (r := some (10)) (Ls_3 hLb) (by decide) rfl (Lr_3_14 hLb) (by decide) (Or.inr kf_X0_62) (am_tab tk_X0_lookAt 75 rfl) rfl ?_
                  refine am_aload_n (q := 142) rfl (am_tab tk_X0_lookAt 76 rfl) rfl ?_
                  refine am_getI (q := 145) (a := 44) (k := 0) (n := 14) (j := 1) (x := 1) (Ls_44 hLb) (by decide) rfl rfl (by decide) (Or.inl kf_X0_55) (am_tab tk_X0_lookAt 77 rfl) rfl ?_
                  refine am_iald (q := 146) (a := 10) (n := 91) (x := (fzM (bgS H))) (Ls_10 hLb) (by omega) (by omega) (by rw [← b1]; exact hfz) (am_tab tk_X0_lookAt 78 rfl) rfl ?_
                  refine am_iast (q := 147) (a := 45) (n := 34) (Ls_45 hLb) (by omega) (by omega) (am_tab tk_X0_lookAt 79 rfl) rfl ?_
                  refine am_aload_n (q := 148) rfl (am_tab tk_X0_lookAt 80 rfl) rfl ?_
                  refine am_getR (q := 151) (a := 44) (k := 0) (n := 14) (j := 10) (r := some (45)) (Ls_44 hLb) (by decide) rfl (Lr_44_10 hLb) (by decide) (Or.inl kf_X0_9) (am_tab tk_X0_lookAt 81 rfl) rfl ?_
                  refine am_bipush (q := 153) (n := 16) (by decide) rfl (am_tab tk_X0_lookAt 82 rfl) rfl ?_
                  refine am_aload_n (q := 154) rfl (am_tab tk_X0_lookAt 83 rfl) rfl ?_
                  refine am_getI (q := 157) (a := 44) (k := 0) (n := 14) (j := 2) (x := 0) (Ls_44 hLb) (by decide) rfl rfl (by decide) (Or.inl kf_X0_59) (am_tab tk_X0_lookAt 84 rfl) rfl ?_
                  refine am_if_ne (q := 160) (t := 164) (am_tab tk_X0_lookAt 85 rfl) (by decide) rfl (fun h157 => ?_) (fun h157 => ?_)
                  · exact absurd h157 (by decide)
                  · refine am_iconst (q := 161) (n := 0) (by decide) (am_tab tk_X0_lookAt 86 rfl) rfl ?_
                    refine am_goto (t := 165) (am_tab tk_X0_lookAt 87 rfl) (by decide) ?_
                    refine am_iast (q := 166) (a := 45) (n := 34) (Ls_45 hLb) (by omega) (by omega) (am_tab tk_X0_lookAt 89 rfl) rfl ?_
                    have hff : ffM (bgS H) = 0 := by
                      show (if 0 < bgN H 2 then (1 : Int) else 0) = 0
                      have := hfr
                      rw [if_neg (by omega)]
                    refine am_less (by intro q hq; simp only [List.mem_cons, List.not_mem_nil, or_false] at hq; rcases hq with rfl | rfl | rfl <;> simp) (L166 (_ + 1) (am_setN (am_setN (am_setN (am_setN (am_setN (am_setN (am_setN (am_setR (am_setR (am_setN σ 44 7 1) 44 8 (some (3))) 44 9 (some (32))) 44 0 ((H.2.1 96 0) + 1)) 44 1 1) 44 2 0) 45 13 1) 45 14 ((H.2.1 96 0) + 1)) 45 7 (fzM (bgS H))) 45 16 0) (by exact Nat.lt_succ_self _) (by rw [hff, b0, b1, b2]))
      · exact absurd h22 (by decide)
  · refine am_aload_n (q := 1) rfl (am_tab tk_X0_lookAt 0 rfl) rfl ?_
    refine am_aload_n (q := 2) rfl (am_tab tk_X0_lookAt 1 rfl) rfl ?_
    refine am_aload_n (q := 3) rfl (am_tab tk_X0_lookAt 2 rfl) rfl ?_
    refine am_callV0 (q := 6) (me2 := M_X1_daysLeft) (b := 32) (kb := 1) (nb := 11) (As := [am_r 3]) (rest := [am_r 44]) (out := [am_i (dlM H), am_r 44]) (c_daysLeft_3_32 σ H hL hG hT hF) ⟨rfl, rfl⟩ (Ls_32 hL) (by decide) ⟨Or.inr km_X0_32, kc_X1_daysLeft, kn_X1, kd_X1_daysLeft, ⟨(Nat.le_of_ble_eq_true rfl), (Nat.le_of_ble_eq_true rfl)⟩, ⟨(Nat.le_of_ble_eq_true rfl), (Nat.le_of_ble_eq_true rfl)⟩, (Nat.le_of_ble_eq_true rfl)⟩ ki_X1_daysLeft ks_X1_daysLeft rfl rfl (am_tab tk_X0_lookAt 3 rfl) rfl ?_
    refine am_iconst (q := 7) (n := 1) (by decide) (am_tab tk_X0_lookAt 4 rfl) rfl ?_
    refine am_icmp_lt (q := 10) (t := 14) (am_tab tk_X0_lookAt 5 rfl) (by decide) rfl (fun h7 => ?_) (fun h7 => ?_)
    · refine am_iconst (q := 15) (n := 0) (by decide) (am_tab tk_X0_lookAt 8 rfl) rfl ?_
      refine am_putZ (q := 18) (k := 0) (n := 14) (j := 7) (Ls_44 hL) (by decide) rfl (by first | exact Or.inl rfl | exact Or.inr rfl | omega) (by decide) (Or.inl ⟨kf_X0_38, rfl⟩) (am_tab tk_X0_lookAt 9 rfl) rfl ?_
      refine am_aload_n (q := 19) rfl (am_tab tk_X0_lookAt 10 rfl) rfl ?_
      refine am_getI (q := 22) (a := 44) (k := 0) (n := 14) (j := 7) (x := 0) (Ls_44 hL) (by decide) rfl rfl (by decide) (Or.inl kf_X0_38) (am_tab tk_X0_lookAt 11 rfl) rfl ?_
      refine am_if_ne (q := 25) (t := 27) (am_tab tk_X0_lookAt 12 rfl) (by decide) rfl (fun h22 => ?_) (fun h22 => ?_)
      · exact absurd h22 (by decide)
      · refine am_iconst (q := 26) (n := 0) (by decide) (am_tab tk_X0_lookAt 13 rfl) rfl ?_
        refine am_iret (Or.inr ⟨rfl, by first | exact Or.inl rfl | exact Or.inr rfl | omega⟩) (Nat.le_of_ble_eq_true rfl) (Nat.le_of_ble_eq_true rfl) (am_tab tk_X0_lookAt 14 rfl) ?_
        refine hQ _ _ ?_
        rw [if_neg cm]
        exact ⟨rfl, rfl⟩
    · exact absurd h7 (by omega)
set_option maxRecDepth 100000 in
theorem c_lookAt_3_37 (σ H : am_H) (hL : lay σ) (hG : GD H) (hT : TWr 3 σ H) (hF : LF0 37 σ (fun k => H.2.1 96 k))   : am_met M_X0_lookAt [am_r 44, am_r 3, am_r 37] σ (fun r σ' => if 1 ≤ dlM H then r = some (am_i 1) ∧ DAW 3 37 (awS σ H 37) H σ' ∧ frw W_da (am_setR (am_setR σ 44 8 (some 3)) 44 9 (some 37)) σ' else r = some (am_i 0) ∧ σ' = am_setN σ 44 7 0) := by
  refine am_qq (fun Q hQ => ?_)
  refine am_enter (show plainFor yX0_lookAt = true by decide +kernel) rfl (Nat.le_of_ble_eq_true rfl) (fun _ _ _ => trivial) ?_
  have h8 : pN H ≤ 8 := by have := hG.R.P; unfold pN; omega
  have hYY := hG.R.Y
  have hdd := hG.R.day
  have hyy := hG.R.year
  have hff0 := hG.R.feast
  by_cases cm : 1 ≤ dlM H
  · refine am_aload_n (q := 1) rfl (am_tab tk_X0_lookAt 0 rfl) rfl ?_
    refine am_aload_n (q := 2) rfl (am_tab tk_X0_lookAt 1 rfl) rfl ?_
    refine am_aload_n (q := 3) rfl (am_tab tk_X0_lookAt 2 rfl) rfl ?_
    refine am_callV0 (q := 6) (me2 := M_X1_daysLeft) (b := 37) (kb := 1) (nb := 11) (As := [am_r 3]) (rest := [am_r 44]) (out := [am_i (dlM H), am_r 44]) (c_daysLeft_3_37 σ H hL hG hT hF) ⟨rfl, rfl⟩ (Ls_37 hL) (by decide) ⟨Or.inr km_X0_32, kc_X1_daysLeft, kn_X1, kd_X1_daysLeft, ⟨(Nat.le_of_ble_eq_true rfl), (Nat.le_of_ble_eq_true rfl)⟩, ⟨(Nat.le_of_ble_eq_true rfl), (Nat.le_of_ble_eq_true rfl)⟩, (Nat.le_of_ble_eq_true rfl)⟩ ki_X1_daysLeft ks_X1_daysLeft rfl rfl (am_tab tk_X0_lookAt 3 rfl) rfl ?_
    refine am_iconst (q := 7) (n := 1) (by decide) (am_tab tk_X0_lookAt 4 rfl) rfl ?_
    refine am_icmp_lt (q := 10) (t := 14) (am_tab tk_X0_lookAt 5 rfl) (by decide) rfl (fun h7 => ?_) (fun h7 => ?_)
    · exact absurd h7 (by omega)
    · refine am_iconst (q := 11) (n := 1) (by decide) (am_tab tk_X0_lookAt 6 rfl) rfl ?_
      refine am_goto (t := 15) (am_tab tk_X0_lookAt 7 rfl) (by decide) ?_
      refine am_putZ (q := 18) (k := 0) (n := 14) (j := 7) (Ls_44 hL) (by decide) rfl (by first | exact Or.inl rfl | exact Or.inr rfl | omega) (by decide) (Or.inl ⟨kf_X0_38, rfl⟩) (am_tab tk_X0_lookAt 9 rfl) rfl ?_
      refine am_aload_n (q := 19) rfl (am_tab tk_X0_lookAt 10 rfl) rfl ?_
      refine am_getI (q := 22) (a := 44) (k := 0) (n := 14) (j := 7) (x := 1) (Ls_44 hL) (by decide) rfl rfl (by decide) (Or.inl kf_X0_38) (am_tab tk_X0_lookAt 11 rfl) rfl ?_
      refine am_if_ne (q := 25) (t := 27) (am_tab tk_X0_lookAt 12 rfl) (by decide) rfl (fun h22 => ?_) (fun h22 => ?_)
      · have hc := cc_of hG.R cm
        have hGB := bgS_GD hG hc
        have hb1 := bg1_rng hG hc
        have hfr : 0 ≤ bgN H 2 := by unfold bgN; split; (show 0 ≤ H.2.1 96 2; omega); (show (0 : Int) ≤ 0; decide)
        have haw := aw_tb hG hc hF
        have hfz : σ.2.1 10 (Int.toNat (bgN H 1)) = fzM (bgS H) := by
          have h5 := hT.frost (bgN H 1).toNat (by omega) (by omega) (by omega)
          rw [show (((bgN H 1).toNat : Nat) : Int) = bgN H 1 by omega] at h5
          exact h5
        have hbs : σ.2.1 40 (Int.toNat (bgN H 1)) = bsD H := by
          have h5 := hF.2.2.2.2.2 (bgN H 1).toNat (by omega)
          unfold bsD
          rw [bgN_far (k := Int.toNat (111 + bgN H 1)) (by omega), show Int.toNat (111 + bgN H 1) = 111 + (bgN H 1).toNat by omega]
          exact h5
        have hts : σ.2.1 39 (Int.toNat (bgN H 1)) = tsD H := by
          have h5 := hF.2.2.2.2.1 (bgN H 1).toNat (by omega)
          unfold tsD
          rw [bgN_far (k := Int.toNat (20 + bgN H 1)) (by omega), show Int.toNat (20 + bgN H 1) = 20 + (bgN H 1).toNat by omega]
          exact h5
        refine am_aload_n (q := 28) rfl (am_tab tk_X0_lookAt 15 rfl) rfl ?_
        have L166 : ∀ (n166 : Nat) (V : am_H), 0 < n166 → V = (am_setN (am_setN (am_setN (am_setN (am_setN (am_setN (am_setN (am_setR (am_setR (am_setN σ 44 7 1) 44 8 (some (3))) 44 9 (some (37))) 44 0 (bgN H 0)) 44 1 (bgN H 1)) 44 2 (bgN H 2)) 45 13 (bgN H 1)) 45 14 (bgN H 0)) 45 7 (fzM (bgS H))) 45 16 (ffM (bgS H))) → am_wp M_X0_lookAt Q 0 0 166 [(0, am_r 44), (1, am_r 3), (2, am_r 37)] [] V := by
          intro n166
          induction n166 with
          | zero => intro V hn166; exact absurd hn166 (Nat.not_lt_zero _)
          | succ n166 ih166 =>
            intro V hn166 hV
            have hLV : lay V := by rw [hV]; exact lay_R (lay_R hL (by decide)) (by decide)
            refine am_aload_n (q := 167) rfl (am_tab tk_X0_lookAt 90 rfl) rfl ?_
            refine am_getR (q := 170) (a := 44) (k := 0) (n := 14) (j := 12) (r := some (47)) (Ls_44 hLV) (by decide) rfl (Lr_44_12 hLV) (by decide) (Or.inl kf_X0_18) (am_tab tk_X0_lookAt 91 rfl) rfl ?_
            refine am_iconst (q := 171) (n := 0) (by decide) (am_tab tk_X0_lookAt 92 rfl) rfl ?_
            refine am_callS0 (q := 174) (me2 := M_J7_fill_53178) (As := [am_r 47, am_i 0]) (rest := []) (out := []) (c_fill V 47 8 0 (Ls_47 hLV) (by decide)) ⟨rfl, rfl⟩ ⟨Or.inl km_X0_65, kc_J7_fill_53178, kn_J7, kd_J7_fill_53178, ⟨(Nat.le_of_ble_eq_true rfl), (Nat.le_of_ble_eq_true rfl)⟩, ⟨(Nat.le_of_ble_eq_true rfl), (Nat.le_of_ble_eq_true rfl)⟩, (Nat.le_of_ble_eq_true rfl)⟩ ki_J7_fill_53178 rfl rfl (am_tab tk_X0_lookAt 93 rfl) rfl ?_
            refine am_aload_n (q := 175) rfl (am_tab tk_X0_lookAt 94 rfl) rfl ?_
            refine am_getR (q := 178) (a := 44) (k := 0) (n := 14) (j := 13) (r := some (48)) (Ls_44 hLV) (by decide) rfl (Lr_44_13 hLV) (by decide) (Or.inl kf_X0_21) (am_tab tk_X0_lookAt 95 rfl) rfl ?_
            refine am_iconst (q := 179) (n := 0) (by decide) (am_tab tk_X0_lookAt 96 rfl) rfl ?_
            refine am_callS0 (q := 182) (me2 := M_J7_fill_53178) (As := [am_r 48, am_i 0]) (rest := []) (out := []) (c_fill (am_setA V 47 (fun k => if k < 8 then 0 else V.2.1 47 k)) 48 8 0 (Ls_48 hLV) (by decide)) ⟨rfl, rfl⟩ ⟨Or.inl km_X0_65, kc_J7_fill_53178, kn_J7, kd_J7_fill_53178, ⟨(Nat.le_of_ble_eq_true rfl), (Nat.le_of_ble_eq_true rfl)⟩, ⟨(Nat.le_of_ble_eq_true rfl), (Nat.le_of_ble_eq_true rfl)⟩, (Nat.le_of_ble_eq_true rfl)⟩ ki_J7_fill_53178 rfl rfl (am_tab tk_X0_lookAt 97 rfl) rfl ?_
            have hLV : lay V := by rw [hV]; exact lay_R (lay_R hL (by decide)) (by decide)
            have hFV : frw W_da (am_setR (am_setR σ 44 8 (some 3)) 44 9 (some 37)) V := by rw [hV]; exact (((((((((frw.refl W_da (am_setR (am_setR σ 44 8 (some 3)) 44 9 (some 37))).setN (by unfold W_da; omega)).setN (by unfold W_da; omega)).setN (by unfold W_da; omega)).setN (by unfold W_da; omega)).setN (by unfold W_da; omega)).setN (by unfold W_da; omega)).setN (by unfold W_da; omega)).setN (by unfold W_da; omega))
            have hTB : TWr 3 (am_setR (am_setR σ 44 8 (some 3)) 44 9 (some 37)) H := ⟨hT.1, hT.2.1, hT.2.2.1, hT.2.2.2.1, hT.2.2.2.2.1, hT.2.2.2.2.2.1, hT.2.2.2.2.2.2.1, hT.thinks, hT.hears⟩
            have hTV : TWr 3 (am_setA (am_setA V 47 (fun k => if k < 8 then 0 else V.2.1 47 k)) 48 (fun k => if k < 8 then 0 else (am_setA V 47 (fun k => if k < 8 then 0 else V.2.1 47 k)).2.1 48 k)) H := hTB.fr (W := W_da) (hFV.trans (((frw.refl W_da V).setA (by unfold W_da; omega)).setA (by unfold W_da; omega))) (by unfold W_da; omega)
            refine am_aload_n (q := 183) rfl (am_tab tk_X0_lookAt 98 rfl) rfl ?_
            refine am_aload_n (q := 184) rfl (am_tab tk_X0_lookAt 99 rfl) rfl ?_
            refine am_callV0 (q := 187) (me2 := M_X8_everybody) (b := 3) (kb := 8) (nb := 17) (As := []) (rest := [am_r 44]) (out := [am_i (mkS (fun _ => true) (pN H)), am_r 44]) (c_everybody_3 (am_setA (am_setA V 47 (fun k => if k < 8 then 0 else V.2.1 47 k)) 48 (fun k => if k < 8 then 0 else (am_setA V 47 (fun k => if k < 8 then 0 else V.2.1 47 k)).2.1 48 k)) H hLV hG hTV) ⟨rfl, rfl⟩ (Ls_3 hLV) (by decide) ⟨Or.inr km_X0_71, kc_X8_everybody, kn_X8, kd_X8_everybody, ⟨(Nat.le_of_ble_eq_true rfl), (Nat.le_of_ble_eq_true rfl)⟩, ⟨(Nat.le_of_ble_eq_true rfl), (Nat.le_of_ble_eq_true rfl)⟩, (Nat.le_of_ble_eq_true rfl)⟩ ki_X8_everybody ks_X8_everybody rfl rfl (am_tab tk_X0_lookAt 100 rfl) rfl ?_
            refine am_aload_n (q := 188) rfl (am_tab tk_X0_lookAt 101 rfl) rfl ?_
            refine am_getI (q := 191) (a := 37) (k := 1) (n := 11) (j := 4) (x := (σ.2.1 37 4)) (Ls_37 hLV) (by decide) rfl (by rw [hV]; rfl) (by decide) (Or.inr kf_X0_75) (am_tab tk_X0_lookAt 102 rfl) rfl ?_
            refine am_iconst (q := 192) (n := (-1)) (by decide) (am_tab tk_X0_lookAt 103 rfl) rfl ?_
            refine am_ixor (q := 193) (am_tab tk_X0_lookAt 104 rfl) rfl ?_
            refine am_iand (q := 194) (am_tab tk_X0_lookAt 105 rfl) rfl ?_
            refine am_aload_n (q := 195) rfl (am_tab tk_X0_lookAt 106 rfl) rfl ?_
            refine am_getR (q := 198) (a := 37) (k := 1) (n := 11) (j := 7) (r := some (40)) (Ls_37 hLV) (by decide) rfl (Lr_37_7 hLV) (by decide) (Or.inr kf_X0_78) (am_tab tk_X0_lookAt 107 rfl) rfl ?_
            refine am_aload_n (q := 199) rfl (am_tab tk_X0_lookAt 108 rfl) rfl ?_
            refine am_getI (q := 202) (a := 44) (k := 0) (n := 14) (j := 1) (x := (bgN H 1)) (Ls_44 hLV) (by decide) rfl (by rw [hV]; rfl) (by decide) (Or.inl kf_X0_55) (am_tab tk_X0_lookAt 109 rfl) rfl ?_
            refine am_iald (q := 203) (a := 40) (n := 91) (x := (bsD H)) (Ls_40 hLV) (by omega) (by omega) (by rw [hV]; exact hbs) (am_tab tk_X0_lookAt 110 rfl) rfl ?_
            refine am_iconst (q := 204) (n := (-1)) (by decide) (am_tab tk_X0_lookAt 111 rfl) rfl ?_
            refine am_ixor (q := 205) (am_tab tk_X0_lookAt 112 rfl) rfl ?_
            refine am_iand (q := 206) (am_tab tk_X0_lookAt 113 rfl) rfl ?_
            refine am_putI (q := 209) (k := 0) (n := 14) (j := 3) (Ls_44 hLV) (by decide) rfl (by decide) (Or.inl ⟨kf_X0_81, rfl⟩) (am_tab tk_X0_lookAt 114 rfl) rfl ?_
            have hF3 : frw W_da (am_setR (am_setR σ 44 8 (some 3)) 44 9 (some 37)) (am_setN (am_setA (am_setA V 47 (fun k => if k < 8 then 0 else V.2.1 47 k)) 48 (fun k => if k < 8 then 0 else (am_setA V 47 (fun k => if k < 8 then 0 else V.2.1 47 k)).2.1 48 k)) 44 3 (awS σ H 37)) := (hFV.trans (((frw.refl W_da V).setA (by unfold W_da; omega)).setA (by unfold W_da; omega))).setN (by unfold W_da; omega)
            have hD3 : DWr 3 37 (am_setN (am_setA (am_setA V 47 (fun k => if k < 8 then 0 else V.2.1 47 k)) 48 (fun k => if k < 8 then 0 else (am_setA V 47 (fun k => if k < 8 then 0 else V.2.1 47 k)).2.1 48 k)) 44 3 (awS σ H 37)) (bgS H) := ⟨⟨by rw [hV]; rfl, by rw [hV]; rfl⟩, by rw [hV]; rfl, ⟨by rw [hV]; rfl, by rw [hV]; rfl, by rw [hV]; rfl, by rw [hV]; rfl⟩, (hTB.fr (W := W_da) hF3 (by unfold W_da; omega)).H (fun a j _ h => by show (if a = 96 then bgN H j else H.2.1 a j) = _; rw [if_neg (by omega)]), fun p hp => by rw [hF3.2.2 38 p (by unfold W_da; omega)]; exact (hF.2.2.2.1 p hp).trans (bgN_far (by omega)).symm, fun d hd => by rw [hF3.2.2 39 d (by unfold W_da; omega)]; exact (hF.2.2.2.2.1 d hd).trans (bgN_far (by omega)).symm⟩
            have hM3 : MEM (am_setN (am_setA (am_setA V 47 (fun k => if k < 8 then 0 else V.2.1 47 k)) 48 (fun k => if k < 8 then 0 else (am_setA V 47 (fun k => if k < 8 then 0 else V.2.1 47 k)).2.1 48 k)) 44 3 (awS σ H 37)) (bgS H) := by
              intro p hp
              have e7 : (am_setN (am_setA (am_setA V 47 (fun k => if k < 8 then 0 else V.2.1 47 k)) 48 (fun k => if k < 8 then 0 else (am_setA V 47 (fun k => if k < 8 then 0 else V.2.1 47 k)).2.1 48 k)) 44 3 (awS σ H 37)).2.1 47 p = 0 := if_pos hp
              have e8 : (am_setN (am_setA (am_setA V 47 (fun k => if k < 8 then 0 else V.2.1 47 k)) 48 (fun k => if k < 8 then 0 else (am_setA V 47 (fun k => if k < 8 then 0 else V.2.1 47 k)).2.1 48 k)) 44 3 (awS σ H 37)).2.1 48 p = 0 := if_pos hp
              rw [e7, e8]
              refine ⟨by decide, by decide, fun q _ => ?_⟩
              have h2 : tb 0 (q : Int) = 0 := by unfold tb; simp
              rw [h2, if_neg (by decide)]
            refine am_aload_n (q := 210) rfl (am_tab tk_X0_lookAt 115 rfl) rfl ?_
            refine am_aload_n (q := 211) rfl (am_tab tk_X0_lookAt 116 rfl) rfl ?_
            refine am_aload_n (q := 212) rfl (am_tab tk_X0_lookAt 117 rfl) rfl ?_
            refine am_getI (q := 215) (a := 44) (k := 0) (n := 14) (j := 3) (x := (ao_and (ao_and (mkS (fun _ => true) (pN H)) (ao_xor (σ.2.1 37 4) (-1))) (ao_xor (bsD H) (-1)))) (Ls_44 hLV) (by decide) rfl rfl (by decide) (Or.inl kf_X0_81) (am_tab tk_X0_lookAt 118 rfl) rfl ?_
            refine am_aload_n (q := 216) rfl (am_tab tk_X0_lookAt 119 rfl) rfl ?_
            refine am_getR (q := 219) (a := 37) (k := 1) (n := 11) (j := 6) (r := some (39)) (Ls_37 hLV) (by decide) rfl (Lr_37_6 hLV) (by decide) (Or.inr kf_X0_84) (am_tab tk_X0_lookAt 120 rfl) rfl ?_
            refine am_aload_n (q := 220) rfl (am_tab tk_X0_lookAt 121 rfl) rfl ?_
            refine am_getI (q := 223) (a := 44) (k := 0) (n := 14) (j := 1) (x := (bgN H 1)) (Ls_44 hLV) (by decide) rfl (by rw [hV]; rfl) (by decide) (Or.inl kf_X0_55) (am_tab tk_X0_lookAt 122 rfl) rfl ?_
            refine am_iald (q := 224) (a := 39) (n := 91) (x := (tsD H)) (Ls_39 hLV) (by omega) (by omega) (by rw [hV]; exact hts) (am_tab tk_X0_lookAt 123 rfl) rfl ?_
            refine am_callVr (q := 227) (me2 := M_X0_ofThemselves) (b := 44) (kb := 0) (nb := 14) (As := [am_i ((ao_and (ao_and (mkS (fun _ => true) (pN H)) (ao_xor (σ.2.1 37 4) (-1))) (ao_xor (bsD H) (-1)))), am_i ((tsD H))]) (rest := [am_r 44]) (c_ofThemselves_3_37 (am_setN (am_setA (am_setA V 47 (fun k => if k < 8 then 0 else V.2.1 47 k)) 48 (fun k => if k < 8 then 0 else (am_setA V 47 (fun k => if k < 8 then 0 else V.2.1 47 k)).2.1 48 k)) 44 3 (awS σ H 37)) (bgS H) hLV hGB hD3 (awS σ H 37) (tsD H) haw.1 (tsD_rng hG.R hc) (fun q hq h => by rw [haw.2 q hq] at h; by_cases h5 : q < pN H; exact h5; rw [if_neg (fun z => h5 z.1)] at h; exact absurd h (by decide))) ⟨rfl, rfl⟩ (Ls_44 hLV) (by decide) ⟨Or.inl km_X0_87, kc_X0_ofThemselves, kn_X0, kd_X0_ofThemselves, ⟨(Nat.le_of_ble_eq_true rfl), (Nat.le_of_ble_eq_true rfl)⟩, ⟨(Nat.le_of_ble_eq_true rfl), (Nat.le_of_ble_eq_true rfl)⟩, (Nat.le_of_ble_eq_true rfl)⟩ ki_X0_ofThemselves ks_X0_ofThemselves rfl (am_tab tk_X0_lookAt 124 rfl) rfl ?_
            rintro r T1 ⟨hr, hF1⟩
            rw [sel_ow h8 haw.2] at hr
            subst hr
            have hL1 : lay T1 := hF1.L hLV
            have hAT1 : T1.2.1 44 3 = (awS σ H 37) := hF1.2.2 44 3 (by unfold W_ow; omega)
            have hBT1 : T1.2.1 44 2 = bgN H 2 := (hF1.2.2 44 2 (by unfold W_ow; omega)).trans (by rw [hV]; rfl)
            refine am_st (st2 := [am_i (sfD H), am_r 44]) rfl ?_
            refine am_putI (q := 230) (k := 0) (n := 14) (j := 4) (Ls_44 hL1) (by decide) rfl (by decide) (Or.inl ⟨kf_X0_91, rfl⟩) (am_tab tk_X0_lookAt 125 rfl) rfl ?_
            have hFp : frw W_da (am_setN (am_setA (am_setA V 47 (fun k => if k < 8 then 0 else V.2.1 47 k)) 48 (fun k => if k < 8 then 0 else (am_setA V 47 (fun k => if k < 8 then 0 else V.2.1 47 k)).2.1 48 k)) 44 3 (awS σ H 37)) (am_setN T1 44 4 (sfD H)) := (hF1.mono (fun _ _ h => by unfold W_ow at h; unfold W_da; omega)).setN (by unfold W_da; omega)
            have hD4 : DWr 3 37 (am_setN T1 44 4 (sfD H)) (bgS H) := (hD3.fr (W_ow_d hF1) (by decide) (by decide)).set4 (by decide)
            have hM4 : MEM (am_setN T1 44 4 (sfD H)) (bgS H) := (hM3.fr hF1 (by unfold W_ow; omega)).set4
            refine am_aload_n (q := 231) rfl (am_tab tk_X0_lookAt 126 rfl) rfl ?_
            refine am_aload_n (q := 232) rfl (am_tab tk_X0_lookAt 127 rfl) rfl ?_
            refine am_aload_n (q := 233) rfl (am_tab tk_X0_lookAt 128 rfl) rfl ?_
            refine am_getI (q := 236) (a := 44) (k := 0) (n := 14) (j := 4) (x := sfD H) (Ls_44 hL1) (by decide) rfl rfl (by decide) (Or.inl kf_X0_91) (am_tab tk_X0_lookAt 129 rfl) rfl ?_
            refine am_aload_n (q := 237) rfl (am_tab tk_X0_lookAt 130 rfl) rfl ?_
            refine am_getI (q := 240) (a := 44) (k := 0) (n := 14) (j := 3) (x := (awS σ H 37)) (Ls_44 hL1) (by decide) rfl hAT1 (by decide) (Or.inl kf_X0_81) (am_tab tk_X0_lookAt 131 rfl) rfl ?_
            refine am_callVr (q := 243) (me2 := M_X0_spread) (b := 44) (kb := 0) (nb := 14) (As := [am_i (sfD H), am_i ((awS σ H 37))]) (rest := [am_r 44]) (c_spread_3_37 (am_setN T1 44 4 (sfD H)) (bgS H) hL1 hGB hD4 (sfD H) (awS σ H 37) (bsD H) (sfD_rng hG hc) haw.1 (fun p hp => by rw [haw.2 p (show p < 8 by have h5 : p < pN H := hp; omega), show (bgS H).2.1 96 (12 + p) = H.2.1 96 (12 + p) from bgN_far (by omega)]; have h5 : p < pN H := hp; by_cases h6 : ¬ H.2.1 96 (12 + p) = 1 ∧ ¬ tb (bsD H) p = 1; rw [if_pos ⟨h5, h6⟩]; exact ⟨fun _ => h6, fun _ => rfl⟩; rw [if_neg (fun z => h6 z.2)]; exact ⟨fun h => absurd h (by decide), fun h => absurd h h6⟩) hM4) ⟨rfl, rfl⟩ (Ls_44 hL1) (by decide) ⟨Or.inl km_X0_93, kc_X0_spread, kn_X0, kd_X0_spread, ⟨(Nat.le_of_ble_eq_true rfl), (Nat.le_of_ble_eq_true rfl)⟩, ⟨(Nat.le_of_ble_eq_true rfl), (Nat.le_of_ble_eq_true rfl)⟩, (Nat.le_of_ble_eq_true rfl)⟩ ki_X0_spread ks_X0_spread rfl (am_tab tk_X0_lookAt 132 rfl) rfl ?_
            rintro r T2 ⟨hr, hM2, hF2⟩
            have hr2 : r = some (am_i (thD H)) := hr
            subst hr2
            have hL2 : lay T2 := hF2.L hL1
            have hBT2 : T2.2.1 44 2 = bgN H 2 := (hF2.2.2 44 2 (by unfold W_dw; omega)).trans hBT1
            refine am_st (st2 := [am_i (thD H), am_r 44]) rfl ?_
            refine am_putI (q := 246) (k := 0) (n := 14) (j := 5) (Ls_44 hL2) (by decide) rfl (by decide) (Or.inl ⟨kf_X0_96, rfl⟩) (am_tab tk_X0_lookAt 133 rfl) rfl ?_
            refine am_aload_n (q := 247) rfl (am_tab tk_X0_lookAt 134 rfl) rfl ?_
            refine am_aload_n (q := 248) rfl (am_tab tk_X0_lookAt 135 rfl) rfl ?_
            refine am_getI (q := 251) (a := 44) (k := 0) (n := 14) (j := 2) (x := (bgN H 2)) (Ls_44 hL2) (by decide) rfl hBT2 (by decide) (Or.inl kf_X0_59) (am_tab tk_X0_lookAt 136 rfl) rfl ?_
            refine am_if_ne (q := 254) (t := 265) (am_tab tk_X0_lookAt 137 rfl) (by decide) rfl (fun h251 => ?_) (fun h251 => ?_)
            · refine am_iconst (q := 266) (n := 0) (by decide) (am_tab tk_X0_lookAt 143 rfl) rfl ?_
              refine am_putZ (q := 269) (k := 0) (n := 14) (j := 6) (Ls_44 hL2) (by decide) rfl (by first | exact Or.inl rfl | exact Or.inr rfl | omega) (by decide) (Or.inl ⟨kf_X0_99, rfl⟩) (am_tab tk_X0_lookAt 144 rfl) rfl ?_
              refine am_iconst (q := 270) (n := 1) (by decide) (am_tab tk_X0_lookAt 145 rfl) rfl ?_
              refine am_iret (Or.inr ⟨rfl, by first | exact Or.inl rfl | exact Or.inr rfl | omega⟩) (Nat.le_of_ble_eq_true rfl) (Nat.le_of_ble_eq_true rfl) (am_tab tk_X0_lookAt 146 rfl) ?_
              refine hQ _ _ ?_
              rw [if_pos cm]
              have hfs : fsD H = 0 := by
                unfold fsD
                rw [if_neg (by omega)]
              have hFz : frw W_da (am_setR (am_setR σ 44 8 (some 3)) 44 9 (some 37)) (am_setN (am_setN T2 44 5 (thD H)) 44 6 0) := hF3.trans (hFp.trans (((hF2.mono (fun _ _ h => by unfold W_dw at h; unfold W_da; omega)).setN (by unfold W_da; omega)).setN (by unfold W_da; omega)))
              refine ⟨rfl, ⟨((hD4.fr hF2 (by decide) (by decide)).set4 (by decide)).set4 (by decide), hM2.set4.set4, ⟨?_, ?_, ?_, ?_⟩, ?_, rfl, hfs.symm, ?_⟩, hFz⟩
              · show T2.2.1 44 0 = _; rw [hF2.2.2 44 0 (by unfold W_dw; omega)]; show T1.2.1 44 0 = _; rw [hF1.2.2 44 0 (by unfold W_ow; omega), hV]; rfl
              · show T2.2.1 44 1 = _; rw [hF2.2.2 44 1 (by unfold W_dw; omega)]; show T1.2.1 44 1 = _; rw [hF1.2.2 44 1 (by unfold W_ow; omega), hV]; rfl
              · show T2.2.1 44 2 = _; rw [hF2.2.2 44 2 (by unfold W_dw; omega)]; show T1.2.1 44 2 = _; rw [hF1.2.2 44 2 (by unfold W_ow; omega), hV]; rfl
              · show T2.2.1 44 3 = _; rw [hF2.2.2 44 3 (by unfold W_dw; omega)]; exact hAT1
              · show T2.2.1 44 4 = _; rw [hF2.2.2 44 4 (by unfold W_dw; omega)]; rfl
              · show T2.2.1 44 7 = _; rw [hF2.2.2 44 7 (by unfold W_dw; omega)]; show T1.2.1 44 7 = _; rw [hF1.2.2 44 7 (by unfold W_ow; omega), hV]; rfl
            · refine am_aload_n (q := 255) rfl (am_tab tk_X0_lookAt 138 rfl) rfl ?_
              refine am_getI (q := 258) (a := 44) (k := 0) (n := 14) (j := 5) (x := thD H) (Ls_44 hL2) (by decide) rfl rfl (by decide) (Or.inl kf_X0_96) (am_tab tk_X0_lookAt 139 rfl) rfl ?_
              refine am_if_ne (q := 261) (t := 265) (am_tab tk_X0_lookAt 140 rfl) (by decide) rfl (fun h258 => ?_) (fun h258 => ?_)
              · refine am_iconst (q := 266) (n := 0) (by decide) (am_tab tk_X0_lookAt 143 rfl) rfl ?_
                refine am_putZ (q := 269) (k := 0) (n := 14) (j := 6) (Ls_44 hL2) (by decide) rfl (by first | exact Or.inl rfl | exact Or.inr rfl | omega) (by decide) (Or.inl ⟨kf_X0_99, rfl⟩) (am_tab tk_X0_lookAt 144 rfl) rfl ?_
                refine am_iconst (q := 270) (n := 1) (by decide) (am_tab tk_X0_lookAt 145 rfl) rfl ?_
                refine am_iret (Or.inr ⟨rfl, by first | exact Or.inl rfl | exact Or.inr rfl | omega⟩) (Nat.le_of_ble_eq_true rfl) (Nat.le_of_ble_eq_true rfl) (am_tab tk_X0_lookAt 146 rfl) ?_
                refine hQ _ _ ?_
                rw [if_pos cm]
                have hfs : fsD H = 0 := by
                  unfold fsD
                  rw [if_neg (by omega)]
                have hFz : frw W_da (am_setR (am_setR σ 44 8 (some 3)) 44 9 (some 37)) (am_setN (am_setN T2 44 5 (thD H)) 44 6 0) := hF3.trans (hFp.trans (((hF2.mono (fun _ _ h => by unfold W_dw at h; unfold W_da; omega)).setN (by unfold W_da; omega)).setN (by unfold W_da; omega)))
                refine ⟨rfl, ⟨((hD4.fr hF2 (by decide) (by decide)).set4 (by decide)).set4 (by decide), hM2.set4.set4, ⟨?_, ?_, ?_, ?_⟩, ?_, rfl, hfs.symm, ?_⟩, hFz⟩
                · show T2.2.1 44 0 = _; rw [hF2.2.2 44 0 (by unfold W_dw; omega)]; show T1.2.1 44 0 = _; rw [hF1.2.2 44 0 (by unfold W_ow; omega), hV]; rfl
                · show T2.2.1 44 1 = _; rw [hF2.2.2 44 1 (by unfold W_dw; omega)]; show T1.2.1 44 1 = _; rw [hF1.2.2 44 1 (by unfold W_ow; omega), hV]; rfl
                · show T2.2.1 44 2 = _; rw [hF2.2.2 44 2 (by unfold W_dw; omega)]; show T1.2.1 44 2 = _; rw [hF1.2.2 44 2 (by unfold W_ow; omega), hV]; rfl
                · show T2.2.1 44 3 = _; rw [hF2.2.2 44 3 (by unfold W_dw; omega)]; exact hAT1
                · show T2.2.1 44 4 = _; rw [hF2.2.2 44 4 (by unfold W_dw; omega)]; rfl
                · show T2.2.1 44 7 = _; rw [hF2.2.2 44 7 (by unfold W_dw; omega)]; show T1.2.1 44 7 = _; rw [hF1.2.2 44 7 (by unfold W_ow; omega), hV]; rfl
              · refine am_iconst (q := 262) (n := 1) (by decide) (am_tab tk_X0_lookAt 141 rfl) rfl ?_
                refine am_goto (t := 266) (am_tab tk_X0_lookAt 142 rfl) (by decide) ?_
                refine am_putZ (q := 269) (k := 0) (n := 14) (j := 6) (Ls_44 hL2) (by decide) rfl (by first | exact Or.inl rfl | exact Or.inr rfl | omega) (by decide) (Or.inl ⟨kf_X0_99, rfl⟩) (am_tab tk_X0_lookAt 144 rfl) rfl ?_
                refine am_iconst (q := 270) (n := 1) (by decide) (am_tab tk_X0_lookAt 145 rfl) rfl ?_
                refine am_iret (Or.inr ⟨rfl, by first | exact Or.inl rfl | exact Or.inr rfl | omega⟩) (Nat.le_of_ble_eq_true rfl) (Nat.le_of_ble_eq_true rfl) (am_tab tk_X0_lookAt 146 rfl) ?_
                refine hQ _ _ ?_
                rw [if_pos cm]
                have hfs : fsD H = 1 := by
                  unfold fsD
                  rw [if_pos ⟨by omega, by omega⟩]
                have hFz : frw W_da (am_setR (am_setR σ 44 8 (some 3)) 44 9 (some 37)) (am_setN (am_setN T2 44 5 (thD H)) 44 6 1) := hF3.trans (hFp.trans (((hF2.mono (fun _ _ h => by unfold W_dw at h; unfold W_da; omega)).setN (by unfold W_da; omega)).setN (by unfold W_da; omega)))
                refine ⟨rfl, ⟨((hD4.fr hF2 (by decide) (by decide)).set4 (by decide)).set4 (by decide), hM2.set4.set4, ⟨?_, ?_, ?_, ?_⟩, ?_, rfl, hfs.symm, ?_⟩, hFz⟩
                · show T2.2.1 44 0 = _; rw [hF2.2.2 44 0 (by unfold W_dw; omega)]; show T1.2.1 44 0 = _; rw [hF1.2.2 44 0 (by unfold W_ow; omega), hV]; rfl
                · show T2.2.1 44 1 = _; rw [hF2.2.2 44 1 (by unfold W_dw; omega)]; show T1.2.1 44 1 = _; rw [hF1.2.2 44 1 (by unfold W_ow; omega), hV]; rfl
                · show T2.2.1 44 2 = _; rw [hF2.2.2 44 2 (by unfold W_dw; omega)]; show T1.2.1 44 2 = _; rw [hF1.2.2 44 2 (by unfold W_ow; omega), hV]; rfl
                · show T2.2.1 44 3 = _; rw [hF2.2.2 44 3 (by unfold W_dw; omega)]; exact hAT1
                · show T2.2.1 44 4 = _; rw [hF2.2.2 44 4 (by unfold W_dw; omega)]; rfl
                · show T2.2.1 44 7 = _; rw [hF2.2.2 44 7 (by unfold W_dw; omega)]; show T1.2.1 44 7 = _; rw [hF1.2.2 44 7 (by unfold W_ow; omega), hV]; rfl
        refine am_aload_n (q := 29) rfl (am_tab tk_X0_lookAt 16 rfl) rfl ?_
        refine am_putR (q := 32) (k := 0) (n := 14) (j := 8) (Ls_44 hL) (by decide) rfl (by decide) (Or.inl ⟨kf_X0_24, rfl⟩) (am_tab tk_X0_lookAt 17 rfl) rfl ?_
        have hLa : lay (am_setR (am_setN σ 44 7 1) 44 8 (some (3))) := lay_R hL (by decide)
        refine am_aload_n (q := 33) rfl (am_tab tk_X0_lookAt 18 rfl) rfl ?_
        refine am_aload_n (q := 34) rfl (am_tab tk_X0_lookAt 19 rfl) rfl ?_
        refine am_putR (q := 37) (k := 0) (n := 14) (j := 9) (Ls_44 hLa) (by decide) rfl (by decide) (Or.inl ⟨kf_X0_28, rfl⟩) (am_tab tk_X0_lookAt 20 rfl) rfl ?_
        by_cases ny : H.2.1 96 1 + 1 ≤ H.2.1 85 9
        · have hLb : lay (am_setR (am_setR (am_setN σ 44 7 1) 44 8 (some (3))) 44 9 (some (37))) := lay_R hLa (by decide)
          refine am_aload_n (q := 38) rfl (am_tab tk_X0_lookAt 21 rfl) rfl ?_
          refine am_getI (q := 41) (a := 37) (k := 1) (n := 11) (j := 1) (x := (H.2.1 96 1)) (Ls_37 hLb) (by decide) rfl hF.1.2.1 (by decide) (Or.inr kf_X0_42) (am_tab tk_X0_lookAt 22 rfl) rfl ?_
          refine am_aload_n (q := 42) rfl (am_tab tk_X0_lookAt 23 rfl) rfl ?_
          refine am_getI (q := 45) (a := 3) (k := 8) (n := 17) (j := 0) (x := (H.2.1 85 9)) (Ls_3 hLb) (by decide) rfl hT.days (by decide) (Or.inr kf_X0_46) (am_tab tk_X0_lookAt 24 rfl) rfl ?_
          refine am_icmp_lt (q := 48) (t := 52) (am_tab tk_X0_lookAt 25 rfl) (by decide) rfl (fun h45 => ?_) (fun h45 => ?_)
          · refine am_iconst (q := 53) (n := 0) (by decide) (am_tab tk_X0_lookAt 28 rfl) rfl ?_
            refine am_istore_n (q := 54) (by decide) (ls2 := [(3, am_i 0), (0, am_r 44), (1, am_r 3), (2, am_r 37)]) rfl (am_tab tk_X0_lookAt 29 rfl) rfl ?_
            have b0 : bgN H 0 = H.2.1 96 0 := by unfold bgN; rw [if_pos ny]; rfl
            have b1 : bgN H 1 = H.2.1 96 1 + 1 := by unfold bgN; rw [if_pos ny]; rfl
            have b2 : bgN H 2 = H.2.1 96 2 := by unfold bgN; rw [if_pos ny]; rfl
            refine am_aload_n (q := 55) rfl (am_tab tk_X0_lookAt 30 rfl) rfl ?_
            refine am_iload_n (q := 56) rfl (am_tab tk_X0_lookAt 31 rfl) rfl ?_
            refine am_if_eq (q := 59) (t := 68) (am_tab tk_X0_lookAt 32 rfl) (by decide) rfl (fun h56 => ?_) (fun h56 => ?_)
            · refine am_aload_n (q := 69) rfl (am_tab tk_X0_lookAt 38 rfl) rfl ?_
              refine am_getI (q := 72) (a := 37) (k := 1) (n := 11) (j := 0) (x := (H.2.1 96 0)) (Ls_37 hLb) (by decide) rfl hF.1.1 (by decide) (Or.inr kf_X0_51) (am_tab tk_X0_lookAt 39 rfl) rfl ?_
              refine am_putI (q := 75) (k := 0) (n := 14) (j := 0) (Ls_44 hLb) (by decide) rfl (by decide) (Or.inl ⟨kf_X0_54, rfl⟩) (am_tab tk_X0_lookAt 40 rfl) rfl ?_
              refine am_aload_n (q := 76) rfl (am_tab tk_X0_lookAt 41 rfl) rfl ?_
              refine am_iload_n (q := 77) rfl (am_tab tk_X0_lookAt 42 rfl) rfl ?_
              refine am_if_eq (q := 80) (t := 84) (am_tab tk_X0_lookAt 43 rfl) (by decide) rfl (fun h77 => ?_) (fun h77 => ?_)
              · refine am_aload_n (q := 85) rfl (am_tab tk_X0_lookAt 46 rfl) rfl ?_
                refine am_getI (q := 88) (a := 37) (k := 1) (n := 11) (j := 1) (x := (H.2.1 96 1)) (Ls_37 hLb) (by decide) rfl hF.1.2.1 (by decide) (Or.inr kf_X0_42) (am_tab tk_X0_lookAt 47 rfl) rfl ?_
                refine am_iconst (q := 89) (n := 1) (by decide) (am_tab tk_X0_lookAt 48 rfl) rfl ?_
                refine am_iadd (q := 90) (by omega) (am_tab tk_X0_lookAt 49 rfl) rfl ?_
                refine am_putI (q := 93) (k := 0) (n := 14) (j := 1) (Ls_44 hLb) (by decide) rfl (by decide) (Or.inl ⟨kf_X0_55, rfl⟩) (am_tab tk_X0_lookAt 50 rfl) rfl ?_
                refine am_aload_n (q := 94) rfl (am_tab tk_X0_lookAt 51 rfl) rfl ?_
                refine am_iload_n (q := 95) rfl (am_tab tk_X0_lookAt 52 rfl) rfl ?_
                refine am_if_eq (q := 98) (t := 102) (am_tab tk_X0_lookAt 53 rfl) (by decide) rfl (fun h95 => ?_) (fun h95 => ?_)
                · refine am_aload_n (q := 103) rfl (am_tab tk_X0_lookAt 56 rfl) rfl ?_
                  refine am_getI (q := 106) (a := 37) (k := 1) (n := 11) (j := 2) (x := (H.2.1 96 2)) (Ls_37 hLb) (by decide) rfl hF.1.2.2.1 (by decide) (Or.inr kf_X0_56) (am_tab tk_X0_lookAt 57 rfl) rfl ?_
                  refine am_putI (q := 109) (k := 0) (n := 14) (j := 2) (Ls_44 hLb) (by decide) rfl (by decide) (Or.inl ⟨kf_X0_59, rfl⟩) (am_tab tk_X0_lookAt 58 rfl) rfl ?_
                  refine am_aload_n (q := 110) rfl (am_tab tk_X0_lookAt 59 rfl) rfl ?_
                  refine am_getR (q := 113) (a := 44) (k := 0) (n := 14) (j := 10) (r := some (45)) (Ls_44 hLb) (by decide) rfl (Lr_44_10 hLb) (by decide) (Or.inl kf_X0_9) (am_tab tk_X0_lookAt 60 rfl) rfl ?_
                  refine am_bipush (q := 115) (n := 13) (by decide) rfl (am_tab tk_X0_lookAt 61 rfl) rfl ?_
                  refine am_aload_n (q := 116) rfl (am_tab tk_X0_lookAt 62 rfl) rfl ?_
                  refine am_getI (q := 119) (a := 44) (k := 0) (n := 14) (j := 1) (x := ((H.2.1 96 1) + 1)) (Ls_44 hLb) (by decide) rfl rfl (by decide) (Or.inl kf_X0_55) (am_tab tk_X0_lookAt 63 rfl) rfl ?_
                  refine am_iast (q := 120) (a := 45) (n := 34) (Ls_45 hLb) (by omega) (by omega) (am_tab tk_X0_lookAt 64 rfl) rfl ?_
                  refine am_aload_n (q := 121) rfl (am_tab tk_X0_lookAt 65 rfl) rfl ?_
                  refine am_getR (q := 124) (a := 44) (k := 0) (n := 14) (j := 10) (r := some (45)) (Ls_44 hLb) (by decide) rfl (Lr_44_10 hLb) (by decide) (Or.inl kf_X0_9) (am_tab tk_X0_lookAt 66 rfl) rfl ?_
                  refine am_bipush (q := 126) (n := 14) (by decide) rfl (am_tab tk_X0_lookAt 67 rfl) rfl ?_
                  refine am_aload_n (q := 127) rfl (am_tab tk_X0_lookAt 68 rfl) rfl ?_
                  refine am_getI (q := 130) (a := 44) (k := 0) (n := 14) (j := 0) (x := (H.2.1 96 0)) (Ls_44 hLb) (by decide) rfl rfl (by decide) (Or.inl kf_X0_54) (am_tab tk_X0_lookAt 69 rfl) rfl ?_
                  refine am_iast (q := 131) (a := 45) (n := 34) (Ls_45 hLb) (by omega) (by omega) (am_tab tk_X0_lookAt 70 rfl) rfl ?_
                  refine am_aload_n (q := 132) rfl (am_tab tk_X0_lookAt 71 rfl) rfl ?_
                  refine am_getR (q := 135) (a := 44) (k := 0) (n := 14) (j := 10) (r := some (45)) (Ls_44 hLb) (by decide) rfl (Lr_44_10 hLb) (by decide) (Or.inl kf_X0_9) (am_tab tk_X0_lookAt 72 rfl) rfl ?_
                  refine am_bipush (q := 137) (n := 7) (by decide) rfl (am_tab tk_X0_lookAt 73 rfl) rfl ?_
                  refine am_aload_n (q := 138) rfl (am_tab tk_X0_lookAt 74 rfl) rfl ?_
                  refine am_getR (q := 141) (a := 3) (k := 8) (n := 17) (j := 14) (r := some (10)) (Ls_3 hLb) (by decide) rfl (Lr_3_14 hLb) (by decide) (Or.inr kf_X0_62) (am_tab tk_X0_lookAt 75 rfl) rfl ?_
                  refine am_aload_n (q := 142) rfl (am_tab tk_X0_lookAt 76 rfl) rfl ?_
                  refine am_getI (q := 145) (a := 44) (k := 0) (n := 14) (j := 1) (x := ((H.2.1 96 1) + 1)) (Ls_44 hLb) (by decide) rfl rfl (by decide) (Or.inl kf_X0_55) (am_tab tk_X0_lookAt 77 rfl) rfl ?_
                  refine am_iald (q := 146) (a := 10) (n := 91) (x := (fzM (bgS H))) (Ls_10 hLb) (by omega) (by omega) (by rw [← b1]; exact hfz) (am_tab tk_X0_lookAt 78 rfl) rfl ?_
                  refine am_iast (q := 147) (a := 45) (n := 34) (Ls_45 hLb) (by omega) (by omega) (am_tab tk_X0_lookAt 79 rfl) rfl ?_
                  refine am_aload_n (q := 148) rfl (am_tab tk_X0_lookAt 80 rfl) rfl ?_
                  refine am_getR (q := 151) (a := 44) (k := 0) (n := 14) (j := 10) (r := some (45)) (Ls_44 hLb) (by decide) rfl (Lr_44_10 hLb) (by decide) (Or.inl kf_X0_9) (am_tab tk_X0_lookAt 81 rfl) rfl ?_
                  refine am_bipush (q := 153) (n := 16) (by decide) rfl (am_tab tk_X0_lookAt 82 rfl) rfl ?_
                  refine am_aload_n (q := 154) rfl (am_tab tk_X0_lookAt 83 rfl) rfl ?_
                  refine am_getI (q := 157) (a := 44) (k := 0) (n := 14) (j := 2) (x := (H.2.1 96 2)) (Ls_44 hLb) (by decide) rfl rfl (by decide) (Or.inl kf_X0_59) (am_tab tk_X0_lookAt 84 rfl) rfl ?_
                  refine am_if_ne (q := 160) (t := 164) (am_tab tk_X0_lookAt 85 rfl) (by decide) rfl (fun h157 => ?_) (fun h157 => ?_)
                  · refine am_iconst (q := 165) (n := 1) (by decide) (am_tab tk_X0_lookAt 88 rfl) rfl ?_
                    refine am_iast (q := 166) (a := 45) (n := 34) (Ls_45 hLb) (by omega) (by omega) (am_tab tk_X0_lookAt 89 rfl) rfl ?_
                    have hff : ffM (bgS H) = 1 := by
                      show (if 0 < bgN H 2 then (1 : Int) else 0) = 1
                      have := hfr
                      rw [if_pos (by omega)]
                    refine am_less (by intro q hq; simp only [List.mem_cons, List.not_mem_nil, or_false] at hq; rcases hq with rfl | rfl | rfl <;> simp) (L166 (_ + 1) (am_setN (am_setN (am_setN (am_setN (am_setN (am_setN (am_setN (am_setR (am_setR (am_setN σ 44 7 1) 44 8 (some (3))) 44 9 (some (37))) 44 0 (H.2.1 96 0)) 44 1 ((H.2.1 96 1) + 1)) 44 2 (H.2.1 96 2)) 45 13 ((H.2.1 96 1) + 1)) 45 14 (H.2.1 96 0)) 45 7 (fzM (bgS H))) 45 16 1) (by exact Nat.lt_succ_self _) (by rw [hff, b0, b1, b2]))
                  · refine am_iconst (q := 161) (n := 0) (by decide) (am_tab tk_X0_lookAt 86 rfl) rfl ?_
                    refine am_goto (t := 165) (am_tab tk_X0_lookAt 87 rfl) (by decide) ?_
                    refine am_iast (q := 166) (a := 45) (n := 34) (Ls_45 hLb) (by omega) (by omega) (am_tab tk_X0_lookAt 89 rfl) rfl ?_
                    have hff : ffM (bgS H) = 0 := by
                      show (if 0 < bgN H 2 then (1 : Int) else 0) = 0
                      have := hfr
                      rw [if_neg (by omega)]
                    refine am_less (by intro q hq; simp only [List.mem_cons, List.not_mem_nil, or_false] at hq; rcases hq with rfl | rfl | rfl <;> simp) (L166 (_ + 1) (am_setN (am_setN (am_setN (am_setN (am_setN (am_setN (am_setN (am_setR (am_setR (am_setN σ 44 7 1) 44 8 (some (3))) 44 9 (some (37))) 44 0 (H.2.1 96 0)) 44 1 ((H.2.1 96 1) + 1)) 44 2 (H.2.1 96 2)) 45 13 ((H.2.1 96 1) + 1)) 45 14 (H.2.1 96 0)) 45 7 (fzM (bgS H))) 45 16 0) (by exact Nat.lt_succ_self _) (by rw [hff, b0, b1, b2]))
                · exact absurd h95 (by decide)
              · exact absurd h77 (by decide)
            · exact absurd h56 (by decide)
          · exact absurd h45 (by omega)
        · have hLb : lay (am_setR (am_setR (am_setN σ 44 7 1) 44 8 (some (3))) 44 9 (some (37))) := lay_R hLa (by decide)
          refine am_aload_n (q := 38) rfl (am_tab tk_X0_lookAt 21 rfl) rfl ?_
          refine am_getI (q := 41) (a := 37) (k := 1) (n := 11) (j := 1) (x := (H.2.1 96 1)) (Ls_37 hLb) (by decide) rfl hF.1.2.1 (by decide) (Or.inr kf_X0_42) (am_tab tk_X0_lookAt 22 rfl) rfl ?_
          refine am_aload_n (q := 42) rfl (am_tab tk_X0_lookAt 23 rfl) rfl ?_
          refine am_getI (q := 45) (a := 3) (k := 8) (n := 17) (j := 0) (x := (H.2.1 85 9)) (Ls_3 hLb) (by decide) rfl hT.days (by decide) (Or.inr kf_X0_46) (am_tab tk_X0_lookAt 24 rfl) rfl ?_
          refine am_icmp_lt (q := 48) (t := 52) (am_tab tk_X0_lookAt 25 rfl) (by decide) rfl (fun h45 => ?_) (fun h45 => ?_)
          · exact absurd h45 (by omega)
          · refine am_iconst (q := 49) (n := 1) (by decide) (am_tab tk_X0_lookAt 26 rfl) rfl ?_
            refine am_goto (t := 53) (am_tab tk_X0_lookAt 27 rfl) (by decide) ?_
            refine am_istore_n (q := 54) (by decide) (ls2 := [(3, am_i 1), (0, am_r 44), (1, am_r 3), (2, am_r 37)]) rfl (am_tab tk_X0_lookAt 29 rfl) rfl ?_
            have b0 : bgN H 0 = H.2.1 96 0 + 1 := by unfold bgN; rw [if_neg ny]; rfl
            have b1 : bgN H 1 = 1 := by unfold bgN; rw [if_neg ny]; rfl
            have b2 : bgN H 2 = 0 := by unfold bgN; rw [if_neg ny]; rfl
            refine am_aload_n (q := 55) rfl (am_tab tk_X0_lookAt 30 rfl) rfl ?_
            refine am_iload_n (q := 56) rfl (am_tab tk_X0_lookAt 31 rfl) rfl ?_
            refine am_if_eq (q := 59) (t := 68) (am_tab tk_X0_lookAt 32 rfl) (by decide) rfl (fun h56 => ?_) (fun h56 => ?_)
            · exact absurd h56 (by decide)
            · refine am_aload_n (q := 60) rfl (am_tab tk_X0_lookAt 33 rfl) rfl ?_
              refine am_getI (q := 63) (a := 37) (k := 1) (n := 11) (j := 0) (x := (H.2.1 96 0)) (Ls_37 hLb) (by decide) rfl hF.1.1 (by decide) (Or.inr kf_X0_51) (am_tab tk_X0_lookAt 34 rfl) rfl ?_
              refine am_iconst (q := 64) (n := 1) (by decide) (am_tab tk_X0_lookAt 35 rfl) rfl ?_
              refine am_iadd (q := 65) (by omega) (am_tab tk_X0_lookAt 36 rfl) rfl ?_
              refine am_goto (t := 72) (am_tab tk_X0_lookAt 37 rfl) (by decide) ?_
              refine am_putI (q := 75) (k := 0) (n := 14) (j := 0) (Ls_44 hLb) (by decide) rfl (by decide) (Or.inl ⟨kf_X0_54, rfl⟩) (am_tab tk_X0_lookAt 40 rfl) rfl ?_
              refine am_aload_n (q := 76) rfl (am_tab tk_X0_lookAt 41 rfl) rfl ?_
              refine am_iload_n (q := 77) rfl (am_tab tk_X0_lookAt 42 rfl) rfl ?_
              refine am_if_eq (q := 80) (t := 84) (am_tab tk_X0_lookAt 43 rfl) (by decide) rfl (fun h77 => ?_) (fun h77 => ?_)
              · exact absurd h77 (by decide)
              · refine am_iconst (q := 81) (n := 1) (by decide) (am_tab tk_X0_lookAt 44 rfl) rfl ?_
                refine am_goto (t := 90) (am_tab tk_X0_lookAt 45 rfl) (by decide) ?_
                refine am_putI (q := 93) (k := 0) (n := 14) (j := 1) (Ls_44 hLb) (by decide) rfl (by decide) (Or.inl ⟨kf_X0_55, rfl⟩) (am_tab tk_X0_lookAt 50 rfl) rfl ?_
                refine am_aload_n (q := 94) rfl (am_tab tk_X0_lookAt 51 rfl) rfl ?_
                refine am_iload_n (q := 95) rfl (am_tab tk_X0_lookAt 52 rfl) rfl ?_
                refine am_if_eq (q := 98) (t := 102) (am_tab tk_X0_lookAt 53 rfl) (by decide) rfl (fun h95 => ?_) (fun h95 => ?_)
                · exact absurd h95 (by decide)
                · refine am_iconst (q := 99) (n := 0) (by decide) (am_tab tk_X0_lookAt 54 rfl) rfl ?_
                  refine am_goto (t := 106) (am_tab tk_X0_lookAt 55 rfl) (by decide) ?_
                  refine am_putI (q := 109) (k := 0) (n := 14) (j := 2) (Ls_44 hLb) (by decide) rfl (by decide) (Or.inl ⟨kf_X0_59, rfl⟩) (am_tab tk_X0_lookAt 58 rfl) rfl ?_
                  refine am_aload_n (q := 110) rfl (am_tab tk_X0_lookAt 59 rfl) rfl ?_
                  refine am_getR (q := 113) (a := 44) (k := 0) (n := 14) (j := 10) (r := some (45)) (Ls_44 hLb) (by decide) rfl (Lr_44_10 hLb) (by decide) (Or.inl kf_X0_9) (am_tab tk_X0_lookAt 60 rfl) rfl ?_
                  refine am_bipush (q := 115) (n := 13) (by decide) rfl (am_tab tk_X0_lookAt 61 rfl) rfl ?_
                  refine am_aload_n (q := 116) rfl (am_tab tk_X0_lookAt 62 rfl) rfl ?_
                  refine am_getI (q := 119) (a := 44) (k := 0) (n := 14) (j := 1) (x := 1) (Ls_44 hLb) (by decide) rfl rfl (by decide) (Or.inl kf_X0_55) (am_tab tk_X0_lookAt 63 rfl) rfl ?_
                  refine am_iast (q := 120) (a := 45) (n := 34) (Ls_45 hLb) (by omega) (by omega) (am_tab tk_X0_lookAt 64 rfl) rfl ?_
                  refine am_aload_n (q := 121) rfl (am_tab tk_X0_lookAt 65 rfl) rfl ?_
                  refine am_getR (q := 124) (a := 44) (k := 0) (n := 14) (j := 10) (r := some (45)) (Ls_44 hLb) (by decide) rfl (Lr_44_10 hLb) (by decide) (Or.inl kf_X0_9) (am_tab tk_X0_lookAt 66 rfl) rfl ?_
                  refine am_bipush (q := 126) (n := 14) (by decide) rfl (am_tab tk_X0_lookAt 67 rfl) rfl ?_
                  refine am_aload_n (q := 127) rfl (am_tab tk_X0_lookAt 68 rfl) rfl ?_
                  refine am_getI (q := 130) (a := 44) (k := 0) (n := 14) (j := 0) (x := ((H.2.1 96 0) + 1)) (Ls_44 hLb) (by decide) rfl rfl (by decide) (Or.inl kf_X0_54) (am_tab tk_X0_lookAt 69 rfl) rfl ?_
                  refine am_iast (q := 131) (a := 45) (n := 34) (Ls_45 hLb) (by omega) (by omega) (am_tab tk_X0_lookAt 70 rfl) rfl ?_
                  refine am_aload_n (q := 132) rfl (am_tab tk_X0_lookAt 71 rfl) rfl ?_
                  refine am_getR (q := 135) (a := 44) (k := 0) (n := 14) (j := 10) (r := some (45)) (Ls_44 hLb) (by decide) rfl (Lr_44_10 hLb) (by decide) (Or.inl kf_X0_9) (am_tab tk_X0_lookAt 72 rfl) rfl ?_
                  refine am_bipush (q := 137) (n := 7) (by decide) rfl (am_tab tk_X0_lookAt 73 rfl) rfl ?_
                  refine am_aload_n (q := 138) rfl (am_tab tk_X0_lookAt 74 rfl) rfl ?_
                  refine am_getR (q := 141) (a := 3) (k := 8) (n := 17) (j := 14) (r := some (10)) (Ls_3 hLb) (by decide) rfl (Lr_3_14 hLb) (by decide) (Or.inr kf_X0_62) (am_tab tk_X0_lookAt 75 rfl) rfl ?_
                  refine am_aload_n (q := 142) rfl (am_tab tk_X0_lookAt 76 rfl) rfl ?_
                  refine am_getI (q := 145) (a := 44) (k := 0) (n := 14) (j := 1) (x := 1) (Ls_44 hLb) (by decide) rfl rfl (by decide) (Or.inl kf_X0_55) (am_tab tk_X0_lookAt 77 rfl) rfl ?_
                  refine am_iald (q := 146) (a := 10) (n := 91) (x := (fzM (bgS H))) (Ls_10 hLb) (by omega) (by omega) (by rw [← b1]; exact hfz) (am_tab tk_X0_lookAt 78 rfl) rfl ?_
                  refine am_iast (q := 147) (a := 45) (n := 34) (Ls_45 hLb) (by omega) (by omega) (am_tab tk_X0_lookAt 79 rfl) rfl ?_
                  refine am_aload_n (q := 148) rfl (am_tab tk_X0_lookAt 80 rfl) rfl ?_
                  refine am_getR (q := 151) (a := 44) (k := 0) (n := 14) (j := 10) (r := some (45)) (Ls_44 hLb) (by decide) rfl (Lr_44_10 hLb) (by decide) (Or.inl kf_X0_9) (am_tab tk_X0_lookAt 81 rfl) rfl ?_
                  refine am_bipush (q := 153) (n := 16) (by decide) rfl (am_tab tk_X0_lookAt 82 rfl) rfl ?_
                  refine am_aload_n (q := 154) rfl (am_tab tk_X0_lookAt 83 rfl) rfl ?_
                  refine am_getI (q := 157) (a := 44) (k := 0) (n := 14) (j := 2) (x := 0) (Ls_44 hLb) (by decide) rfl rfl (by decide) (Or.inl kf_X0_59) (am_tab tk_X0_lookAt 84 rfl) rfl ?_
                  refine am_if_ne (q := 160) (t := 164) (am_tab tk_X0_lookAt 85 rfl) (by decide) rfl (fun h157 => ?_) (fun h157 => ?_)
                  · exact absurd h157 (by decide)
                  · refine am_iconst (q := 161) (n := 0) (by decide) (am_tab tk_X0_lookAt 86 rfl) rfl ?_
                    refine am_goto (t := 165) (am_tab tk_X0_lookAt 87 rfl) (by decide) ?_
                    refine am_iast (q := 166) (a := 45) (n := 34) (Ls_45 hLb) (by omega) (by omega) (am_tab tk_X0_lookAt 89 rfl) rfl ?_
                    have hff : ffM (bgS H) = 0 := by
                      show (if 0 < bgN H 2 then (1 : Int) else 0) = 0
                      have := hfr
                      rw [if_neg (by omega)]
                    refine am_less (by intro q hq; simp only [List.mem_cons, List.not_mem_nil, or_false] at hq; rcases hq with rfl | rfl | rfl <;> simp) (L166 (_ + 1) (am_setN (am_setN (am_setN (am_setN (am_setN (am_setN (am_setN (am_setR (am_setR (am_setN σ 44 7 1) 44 8 (some (3))) 44 9 (some (37))) 44 0 ((H.2.1 96 0) + 1)) 44 1 1) 44 2 0) 45 13 1) 45 14 ((H.2.1 96 0) + 1)) 45 7 (fzM (bgS H))) 45 16 0) (by exact Nat.lt_succ_self _) (by rw [hff, b0, b1, b2]))
      · exact absurd h22 (by decide)
  · refine am_aload_n (q := 1) rfl (am_tab tk_X0_lookAt 0 rfl) rfl ?_
    refine am_aload_n (q := 2) rfl (am_tab tk_X0_lookAt 1 rfl) rfl ?_
    refine am_aload_n (q := 3) rfl (am_tab tk_X0_lookAt 2 rfl) rfl ?_
    refine am_callV0 (q := 6) (me2 := M_X1_daysLeft) (b := 37) (kb := 1) (nb := 11) (As := [am_r 3]) (rest := [am_r 44]) (out := [am_i (dlM H), am_r 44]) (c_daysLeft_3_37 σ H hL hG hT hF) ⟨rfl, rfl⟩ (Ls_37 hL) (by decide) ⟨Or.inr km_X0_32, kc_X1_daysLeft, kn_X1, kd_X1_daysLeft, ⟨(Nat.le_of_ble_eq_true rfl), (Nat.le_of_ble_eq_true rfl)⟩, ⟨(Nat.le_of_ble_eq_true rfl), (Nat.le_of_ble_eq_true rfl)⟩, (Nat.le_of_ble_eq_true rfl)⟩ ki_X1_daysLeft ks_X1_daysLeft rfl rfl (am_tab tk_X0_lookAt 3 rfl) rfl ?_
    refine am_iconst (q := 7) (n := 1) (by decide) (am_tab tk_X0_lookAt 4 rfl) rfl ?_
    refine am_icmp_lt (q := 10) (t := 14) (am_tab tk_X0_lookAt 5 rfl) (by decide) rfl (fun h7 => ?_) (fun h7 => ?_)
    · refine am_iconst (q := 15) (n := 0) (by decide) (am_tab tk_X0_lookAt 8 rfl) rfl ?_
      refine am_putZ (q := 18) (k := 0) (n := 14) (j := 7) (Ls_44 hL) (by decide) rfl (by first | exact Or.inl rfl | exact Or.inr rfl | omega) (by decide) (Or.inl ⟨kf_X0_38, rfl⟩) (am_tab tk_X0_lookAt 9 rfl) rfl ?_
      refine am_aload_n (q := 19) rfl (am_tab tk_X0_lookAt 10 rfl) rfl ?_
      refine am_getI (q := 22) (a := 44) (k := 0) (n := 14) (j := 7) (x := 0) (Ls_44 hL) (by decide) rfl rfl (by decide) (Or.inl kf_X0_38) (am_tab tk_X0_lookAt 11 rfl) rfl ?_
      refine am_if_ne (q := 25) (t := 27) (am_tab tk_X0_lookAt 12 rfl) (by decide) rfl (fun h22 => ?_) (fun h22 => ?_)
      · exact absurd h22 (by decide)
      · refine am_iconst (q := 26) (n := 0) (by decide) (am_tab tk_X0_lookAt 13 rfl) rfl ?_
        refine am_iret (Or.inr ⟨rfl, by first | exact Or.inl rfl | exact Or.inr rfl | omega⟩) (Nat.le_of_ble_eq_true rfl) (Nat.le_of_ble_eq_true rfl) (am_tab tk_X0_lookAt 14 rfl) ?_
        refine hQ _ _ ?_
        rw [if_neg cm]
        exact ⟨rfl, rfl⟩
    · exact absurd h7 (by omega)
set_option maxRecDepth 100000 in
theorem c_lookAt_15_32 (σ H : am_H) (hL : lay σ) (hG : GD H) (hT : TWr 15 σ H) (hF : LF0 32 σ (fun k => H.2.1 96 k))   : am_met M_X0_lookAt [am_r 44, am_r 15, am_r 32] σ (fun r σ' => if 1 ≤ dlM H then r = some (am_i 1) ∧ DAW 15 32 (awS σ H 32) H σ' ∧ frw W_da (am_setR (am_setR σ 44 8 (some 15)) 44 9 (some 32)) σ' else r = some (am_i 0) ∧ σ' = am_setN σ 44 7 0) := by
  refine am_qq (fun Q hQ => ?_)
  refine am_enter (show plainFor yX0_lookAt = true by decide +kernel) rfl (Nat.le_of_ble_eq_true rfl) (fun _ _ _ => trivial) ?_
  have h8 : pN H ≤ 8 := by have := hG.R.P; unfold pN; omega
  have hYY := hG.R.Y
  have hdd := hG.R.day
  have hyy := hG.R.year
  have hff0 := hG.R.feast
  by_cases cm : 1 ≤ dlM H
  · refine am_aload_n (q := 1) rfl (am_tab tk_X0_lookAt 0 rfl) rfl ?_
    refine am_aload_n (q := 2) rfl (am_tab tk_X0_lookAt 1 rfl) rfl ?_
    refine am_aload_n (q := 3) rfl (am_tab tk_X0_lookAt 2 rfl) rfl ?_
    refine am_callV0 (q := 6) (me2 := M_X1_daysLeft) (b := 32) (kb := 1) (nb := 11) (As := [am_r 15]) (rest := [am_r 44]) (out := [am_i (dlM H), am_r 44]) (c_daysLeft_15_32 σ H hL hG hT hF) ⟨rfl, rfl⟩ (Ls_32 hL) (by decide) ⟨Or.inr km_X0_32, kc_X1_daysLeft, kn_X1, kd_X1_daysLeft, ⟨(Nat.le_of_ble_eq_true rfl), (Nat.le_of_ble_eq_true rfl)⟩, ⟨(Nat.le_of_ble_eq_true rfl), (Nat.le_of_ble_eq_true rfl)⟩, (Nat.le_of_ble_eq_true rfl)⟩ ki_X1_daysLeft ks_X1_daysLeft rfl rfl (am_tab tk_X0_lookAt 3 rfl) rfl ?_
    refine am_iconst (q := 7) (n := 1) (by decide) (am_tab tk_X0_lookAt 4 rfl) rfl ?_
    refine am_icmp_lt (q := 10) (t := 14) (am_tab tk_X0_lookAt 5 rfl) (by decide) rfl (fun h7 => ?_) (fun h7 => ?_)
    · exact absurd h7 (by omega)
    · refine am_iconst (q := 11) (n := 1) (by decide) (am_tab tk_X0_lookAt 6 rfl) rfl ?_
      refine am_goto (t := 15) (am_tab tk_X0_lookAt 7 rfl) (by decide) ?_
      refine am_putZ (q := 18) (k := 0) (n := 14) (j := 7) (Ls_44 hL) (by decide) rfl (by first | exact Or.inl rfl | exact Or.inr rfl | omega) (by decide) (Or.inl ⟨kf_X0_38, rfl⟩) (am_tab tk_X0_lookAt 9 rfl) rfl ?_
      refine am_aload_n (q := 19) rfl (am_tab tk_X0_lookAt 10 rfl) rfl ?_
      refine am_getI (q := 22) (a := 44) (k := 0) (n := 14) (j := 7) (x := 1) (Ls_44 hL) (by decide) rfl rfl (by decide) (Or.inl kf_X0_38) (am_tab tk_X0_lookAt 11 rfl) rfl ?_
      refine am_if_ne (q := 25) (t := 27) (am_tab tk_X0_lookAt 12 rfl) (by decide) rfl (fun h22 => ?_) (fun h22 => ?_)
      · have hc := cc_of hG.R cm
        have hGB := bgS_GD hG hc
        have hb1 := bg1_rng hG hc
        have hfr : 0 ≤ bgN H 2 := by unfold bgN; split; (show 0 ≤ H.2.1 96 2; omega); (show (0 : Int) ≤ 0; decide)
        have haw := aw_tb hG hc hF
        have hfz : σ.2.1 22 (Int.toNat (bgN H 1)) = fzM (bgS H) := by
          have h5 := hT.frost (bgN H 1).toNat (by omega) (by omega) (by omega)
          rw [show (((bgN H 1).toNat : Nat) : Int) = bgN H 1 by omega] at h5
          exact h5
        have hbs : σ.2.1 35 (Int.toNat (bgN H 1)) = bsD H := by
          have h5 := hF.2.2.2.2.2 (bgN H 1).toNat (by omega)
          unfold bsD
          rw [bgN_far (k := Int.toNat (111 + bgN H 1)) (by omega), show Int.toNat (111 + bgN H 1) = 111 + (bgN H 1).toNat by omega]
          exact h5
        have hts : σ.2.1 34 (Int.toNat (bgN H 1)) = tsD H := by
          have h5 := hF.2.2.2.2.1 (bgN H 1).toNat (by omega)
          unfold tsD
          rw [bgN_far (k := Int.toNat (20 + bgN H 1)) (by omega), show Int.toNat (20 + bgN H 1) = 20 + (bgN H 1).toNat by omega]
          exact h5
        refine am_aload_n (q := 28) rfl (am_tab tk_X0_lookAt 15 rfl) rfl ?_
        have L166 : ∀ (n166 : Nat) (V : am_H), 0 < n166 → V = (am_setN (am_setN (am_setN (am_setN (am_setN (am_setN (am_setN (am_setR (am_setR (am_setN σ 44 7 1) 44 8 (some (15))) 44 9 (some (32))) 44 0 (bgN H 0)) 44 1 (bgN H 1)) 44 2 (bgN H 2)) 45 13 (bgN H 1)) 45 14 (bgN H 0)) 45 7 (fzM (bgS H))) 45 16 (ffM (bgS H))) → am_wp M_X0_lookAt Q 0 0 166 [(0, am_r 44), (1, am_r 15), (2, am_r 32)] [] V := by
          intro n166
          induction n166 with
          | zero => intro V hn166; exact absurd hn166 (Nat.not_lt_zero _)
          | succ n166 ih166 =>
            intro V hn166 hV
            have hLV : lay V := by rw [hV]; exact lay_R (lay_R hL (by decide)) (by decide)
            refine am_aload_n (q := 167) rfl (am_tab tk_X0_lookAt 90 rfl) rfl ?_
            refine am_getR (q := 170) (a := 44) (k := 0) (n := 14) (j := 12) (r := some (47)) (Ls_44 hLV) (by decide) rfl (Lr_44_12 hLV) (by decide) (Or.inl kf_X0_18) (am_tab tk_X0_lookAt 91 rfl) rfl ?_
            refine am_iconst (q := 171) (n := 0) (by decide) (am_tab tk_X0_lookAt 92 rfl) rfl ?_
            refine am_callS0 (q := 174) (me2 := M_J7_fill_53178) (As := [am_r 47, am_i 0]) (rest := []) (out := []) (c_fill V 47 8 0 (Ls_47 hLV) (by decide)) ⟨rfl, rfl⟩ ⟨Or.inl km_X0_65, kc_J7_fill_53178, kn_J7, kd_J7_fill_53178, ⟨(Nat.le_of_ble_eq_true rfl), (Nat.le_of_ble_eq_true rfl)⟩, ⟨(Nat.le_of_ble_eq_true rfl), (Nat.le_of_ble_eq_true rfl)⟩, (Nat.le_of_ble_eq_true rfl)⟩ ki_J7_fill_53178 rfl rfl (am_tab tk_X0_lookAt 93 rfl) rfl ?_
            refine am_aload_n (q := 175) rfl (am_tab tk_X0_lookAt 94 rfl) rfl ?_
            refine am_getR (q := 178) (a := 44) (k := 0) (n := 14) (j := 13) (r := some (48)) (Ls_44 hLV) (by decide) rfl (Lr_44_13 hLV) (by decide) (Or.inl kf_X0_21) (am_tab tk_X0_lookAt 95 rfl) rfl ?_
            refine am_iconst (q := 179) (n := 0) (by decide) (am_tab tk_X0_lookAt 96 rfl) rfl ?_
            refine am_callS0 (q := 182) (me2 := M_J7_fill_53178) (As := [am_r 48, am_i 0]) (rest := []) (out := []) (c_fill (am_setA V 47 (fun k => if k < 8 then 0 else V.2.1 47 k)) 48 8 0 (Ls_48 hLV) (by decide)) ⟨rfl, rfl⟩ ⟨Or.inl km_X0_65, kc_J7_fill_53178, kn_J7, kd_J7_fill_53178, ⟨(Nat.le_of_ble_eq_true rfl), (Nat.le_of_ble_eq_true rfl)⟩, ⟨(Nat.le_of_ble_eq_true rfl), (Nat.le_of_ble_eq_true rfl)⟩, (Nat.le_of_ble_eq_true rfl)⟩ ki_J7_fill_53178 rfl rfl (am_tab tk_X0_lookAt 97 rfl) rfl ?_
            have hLV : lay V := by rw [hV]; exact lay_R (lay_R hL (by decide)) (by decide)
            have hFV : frw W_da (am_setR (am_setR σ 44 8 (some 15)) 44 9 (some 32)) V := by rw [hV]; exact (((((((((frw.refl W_da (am_setR (am_setR σ 44 8 (some 15)) 44 9 (some 32))).setN (by unfold W_da; omega)).setN (by unfold W_da; omega)).setN (by unfold W_da; omega)).setN (by unfold W_da; omega)).setN (by unfold W_da; omega)).setN (by unfold W_da; omega)).setN (by unfold W_da; omega)).setN (by unfold W_da; omega))
            have hTB : TWr 15 (am_setR (am_setR σ 44 8 (some 15)) 44 9 (some 32)) H := ⟨hT.1, hT.2.1, hT.2.2.1, hT.2.2.2.1, hT.2.2.2.2.1, hT.2.2.2.2.2.1, hT.2.2.2.2.2.2.1, hT.thinks, hT.hears⟩
            have hTV : TWr 15 (am_setA (am_setA V 47 (fun k => if k < 8 then 0 else V.2.1 47 k)) 48 (fun k => if k < 8 then 0 else (am_setA V 47 (fun k => if k < 8 then 0 else V.2.1 47 k)).2.1 48 k)) H := hTB.fr (W := W_da) (hFV.trans (((frw.refl W_da V).setA (by unfold W_da; omega)).setA (by unfold W_da; omega))) (by unfold W_da; omega)
            refine am_aload_n (q := 183) rfl (am_tab tk_X0_lookAt 98 rfl) rfl ?_
            refine am_aload_n (q := 184) rfl (am_tab tk_X0_lookAt 99 rfl) rfl ?_
            refine am_callV0 (q := 187) (me2 := M_X8_everybody) (b := 15) (kb := 8) (nb := 17) (As := []) (rest := [am_r 44]) (out := [am_i (mkS (fun _ => true) (pN H)), am_r 44]) (c_everybody_15 (am_setA (am_setA V 47 (fun k => if k < 8 then 0 else V.2.1 47 k)) 48 (fun k => if k < 8 then 0 else (am_setA V 47 (fun k => if k < 8 then 0 else V.2.1 47 k)).2.1 48 k)) H hLV hG hTV) ⟨rfl, rfl⟩ (Ls_15 hLV) (by decide) ⟨Or.inr km_X0_71, kc_X8_everybody, kn_X8, kd_X8_everybody, ⟨(Nat.le_of_ble_eq_true rfl), (Nat.le_of_ble_eq_true rfl)⟩, ⟨(Nat.le_of_ble_eq_true rfl), (Nat.le_of_ble_eq_true rfl)⟩, (Nat.le_of_ble_eq_true rfl)⟩ ki_X8_everybody ks_X8_everybody rfl rfl (am_tab tk_X0_lookAt 100 rfl) rfl ?_
            refine am_aload_n (q := 188) rfl (am_tab tk_X0_lookAt 101 rfl) rfl ?_
            refine am_getI (q := 191) (a := 32) (k := 1) (n := 11) (j := 4) (x := (σ.2.1 32 4)) (Ls_32 hLV) (by decide) rfl (by rw [hV]; rfl) (by decide) (Or.inr kf_X0_75) (am_tab tk_X0_lookAt 102 rfl) rfl ?_
            refine am_iconst (q := 192) (n := (-1)) (by decide) (am_tab tk_X0_lookAt 103 rfl) rfl ?_
            refine am_ixor (q := 193) (am_tab tk_X0_lookAt 104 rfl) rfl ?_
            refine am_iand (q := 194) (am_tab tk_X0_lookAt 105 rfl) rfl ?_
            refine am_aload_n (q := 195) rfl (am_tab tk_X0_lookAt 106 rfl) rfl ?_
            refine am_getR (q := 198) (a := 32) (k := 1) (n := 11) (j := 7) (r := some (35)) (Ls_32 hLV) (by decide) rfl (Lr_32_7 hLV) (by decide) (Or.inr kf_X0_78) (am_tab tk_X0_lookAt 107 rfl) rfl ?_
            refine am_aload_n (q := 199) rfl (am_tab tk_X0_lookAt 108 rfl) rfl ?_
            refine am_getI (q := 202) (a := 44) (k := 0) (n := 14) (j := 1) (x := (bgN H 1)) (Ls_44 hLV) (by decide) rfl (by rw [hV]; rfl) (by decide) (Or.inl kf_X0_55) (am_tab tk_X0_lookAt 109 rfl) rfl ?_
            refine am_iald (q := 203) (a := 35) (n := 91) (x := (bsD H)) (Ls_35 hLV) (by omega) (by omega) (by rw [hV]; exact hbs) (am_tab tk_X0_lookAt 110 rfl) rfl ?_
            refine am_iconst (q := 204) (n := (-1)) (by decide) (am_tab tk_X0_lookAt 111 rfl) rfl ?_
            refine am_ixor (q := 205) (am_tab tk_X0_lookAt 112 rfl) rfl ?_
            refine am_iand (q := 206) (am_tab tk_X0_lookAt 113 rfl) rfl ?_
            refine am_putI (q := 209) (k := 0) (n := 14) (j := 3) (Ls_44 hLV) (by decide) rfl (by decide) (Or.inl ⟨kf_X0_81, rfl⟩) (am_tab tk_X0_lookAt 114 rfl) rfl ?_
            have hF3 : frw W_da (am_setR (am_setR σ 44 8 (some 15)) 44 9 (some 32)) (am_setN (am_setA (am_setA V 47 (fun k => if k < 8 then 0 else V.2.1 47 k)) 48 (fun k => if k < 8 then 0 else (am_setA V 47 (fun k => if k < 8 then 0 else V.2.1 47 k)).2.1 48 k)) 44 3 (awS σ H 32)) := (hFV.trans (((frw.refl W_da V).setA (by unfold W_da; omega)).setA (by unfold W_da; omega))).setN (by unfold W_da; omega)
            have hD3 : DWr 15 32 (am_setN (am_setA (am_setA V 47 (fun k => if k < 8 then 0 else V.2.1 47 k)) 48 (fun k => if k < 8 then 0 else (am_setA V 47 (fun k => if k < 8 then 0 else V.2.1 47 k)).2.1 48 k)) 44 3 (awS σ H 32)) (bgS H) := ⟨⟨by rw [hV]; rfl, by rw [hV]; rfl⟩, by rw [hV]; rfl, ⟨by rw [hV]; rfl, by rw [hV]; rfl, by rw [hV]; rfl, by rw [hV]; rfl⟩, (hTB.fr (W := W_da) hF3 (by unfold W_da; omega)).H (fun a j _ h => by show (if a = 96 then bgN H j else H.2.1 a j) = _; rw [if_neg (by omega)]), fun p hp => by rw [hF3.2.2 33 p (by unfold W_da; omega)]; exact (hF.2.2.2.1 p hp).trans (bgN_far (by omega)).symm, fun d hd => by rw [hF3.2.2 34 d (by unfold W_da; omega)]; exact (hF.2.2.2.2.1 d hd).trans (bgN_far (by omega)).symm⟩
            have hM3 : MEM (am_setN (am_setA (am_setA V 47 (fun k => if k < 8 then 0 else V.2.1 47 k)) 48 (fun k => if k < 8 then 0 else (am_setA V 47 (fun k => if k < 8 then 0 else V.2.1 47 k)).2.1 48 k)) 44 3 (awS σ H 32)) (bgS H) := by
              intro p hp
              have e7 : (am_setN (am_setA (am_setA V 47 (fun k => if k < 8 then 0 else V.2.1 47 k)) 48 (fun k => if k < 8 then 0 else (am_setA V 47 (fun k => if k < 8 then 0 else V.2.1 47 k)).2.1 48 k)) 44 3 (awS σ H 32)).2.1 47 p = 0 := if_pos hp
              have e8 : (am_setN (am_setA (am_setA V 47 (fun k => if k < 8 then 0 else V.2.1 47 k)) 48 (fun k => if k < 8 then 0 else (am_setA V 47 (fun k => if k < 8 then 0 else V.2.1 47 k)).2.1 48 k)) 44 3 (awS σ H 32)).2.1 48 p = 0 := if_pos hp
              rw [e7, e8]
              refine ⟨by decide, by decide, fun q _ => ?_⟩
              have h2 : tb 0 (q : Int) = 0 := by unfold tb; simp
              rw [h2, if_neg (by decide)]
            refine am_aload_n (q := 210) rfl (am_tab tk_X0_lookAt 115 rfl) rfl ?_
            refine am_aload_n (q := 211) rfl (am_tab tk_X0_lookAt 116 rfl) rfl ?_
            refine am_aload_n (q := 212) rfl (am_tab tk_X0_lookAt 117 rfl) rfl ?_
            refine am_getI (q := 215) (a := 44) (k := 0) (n := 14) (j := 3) (x := (ao_and (ao_and (mkS (fun _ => true) (pN H)) (ao_xor (σ.2.1 32 4) (-1))) (ao_xor (bsD H) (-1)))) (Ls_44 hLV) (by decide) rfl rfl (by decide) (Or.inl kf_X0_81) (am_tab tk_X0_lookAt 118 rfl) rfl ?_
            refine am_aload_n (q := 216) rfl (am_tab tk_X0_lookAt 119 rfl) rfl ?_
            refine am_getR (q := 219) (a := 32) (k := 1) (n := 11) (j := 6) (r := some (34)) (Ls_32 hLV) (by decide) rfl (Lr_32_6 hLV) (by decide) (Or.inr kf_X0_84) (am_tab tk_X0_lookAt 120 rfl) rfl ?_
            refine am_aload_n (q := 220) rfl (am_tab tk_X0_lookAt 121 rfl) rfl ?_
            refine am_getI (q := 223) (a := 44) (k := 0) (n := 14) (j := 1) (x := (bgN H 1)) (Ls_44 hLV) (by decide) rfl (by rw [hV]; rfl) (by decide) (Or.inl kf_X0_55) (am_tab tk_X0_lookAt 122 rfl) rfl ?_
            refine am_iald (q := 224) (a := 34) (n := 91) (x := (tsD H)) (Ls_34 hLV) (by omega) (by omega) (by rw [hV]; exact hts) (am_tab tk_X0_lookAt 123 rfl) rfl ?_
            refine am_callVr (q := 227) (me2 := M_X0_ofThemselves) (b := 44) (kb := 0) (nb := 14) (As := [am_i ((ao_and (ao_and (mkS (fun _ => true) (pN H)) (ao_xor (σ.2.1 32 4) (-1))) (ao_xor (bsD H) (-1)))), am_i ((tsD H))]) (rest := [am_r 44]) (c_ofThemselves_15_32 (am_setN (am_setA (am_setA V 47 (fun k => if k < 8 then 0 else V.2.1 47 k)) 48 (fun k => if k < 8 then 0 else (am_setA V 47 (fun k => if k < 8 then 0 else V.2.1 47 k)).2.1 48 k)) 44 3 (awS σ H 32)) (bgS H) hLV hGB hD3 (awS σ H 32) (tsD H) haw.1 (tsD_rng hG.R hc) (fun q hq h => by rw [haw.2 q hq] at h; by_cases h5 : q < pN H; exact h5; rw [if_neg (fun z => h5 z.1)] at h; exact absurd h (by decide))) ⟨rfl, rfl⟩ (Ls_44 hLV) (by decide) ⟨Or.inl km_X0_87, kc_X0_ofThemselves, kn_X0, kd_X0_ofThemselves, ⟨(Nat.le_of_ble_eq_true rfl), (Nat.le_of_ble_eq_true rfl)⟩, ⟨(Nat.le_of_ble_eq_true rfl), (Nat.le_of_ble_eq_true rfl)⟩, (Nat.le_of_ble_eq_true rfl)⟩ ki_X0_ofThemselves ks_X0_ofThemselves rfl (am_tab tk_X0_lookAt 124 rfl) rfl ?_
            rintro r T1 ⟨hr, hF1⟩
            rw [sel_ow h8 haw.2] at hr
            subst hr
            have hL1 : lay T1 := hF1.L hLV
            have hAT1 : T1.2.1 44 3 = (awS σ H 32) := hF1.2.2 44 3 (by unfold W_ow; omega)
            have hBT1 : T1.2.1 44 2 = bgN H 2 := (hF1.2.2 44 2 (by unfold W_ow; omega)).trans (by rw [hV]; rfl)
            refine am_st (st2 := [am_i (sfD H), am_r 44]) rfl ?_
            refine am_putI (q := 230) (k := 0) (n := 14) (j := 4) (Ls_44 hL1) (by decide) rfl (by decide) (Or.inl ⟨kf_X0_91, rfl⟩) (am_tab tk_X0_lookAt 125 rfl) rfl ?_
            have hFp : frw W_da (am_setN (am_setA (am_setA V 47 (fun k => if k < 8 then 0 else V.2.1 47 k)) 48 (fun k => if k < 8 then 0 else (am_setA V 47 (fun k => if k < 8 then 0 else V.2.1 47 k)).2.1 48 k)) 44 3 (awS σ H 32)) (am_setN T1 44 4 (sfD H)) := (hF1.mono (fun _ _ h => by unfold W_ow at h; unfold W_da; omega)).setN (by unfold W_da; omega)
            have hD4 : DWr 15 32 (am_setN T1 44 4 (sfD H)) (bgS H) := (hD3.fr (W_ow_d hF1) (by decide) (by decide)).set4 (by decide)
            have hM4 : MEM (am_setN T1 44 4 (sfD H)) (bgS H) := (hM3.fr hF1 (by unfold W_ow; omega)).set4
            refine am_aload_n (q := 231) rfl (am_tab tk_X0_lookAt 126 rfl) rfl ?_
            refine am_aload_n (q := 232) rfl (am_tab tk_X0_lookAt 127 rfl) rfl ?_
            refine am_aload_n (q := 233) rfl (am_tab tk_X0_lookAt 128 rfl) rfl ?_
            refine am_getI (q := 236) (a := 44) (k := 0) (n := 14) (j := 4) (x := sfD H) (Ls_44 hL1) (by decide) rfl rfl (by decide) (Or.inl kf_X0_91) (am_tab tk_X0_lookAt 129 rfl) rfl ?_
            refine am_aload_n (q := 237) rfl (am_tab tk_X0_lookAt 130 rfl) rfl ?_
            refine am_getI (q := 240) (a := 44) (k := 0) (n := 14) (j := 3) (x := (awS σ H 32)) (Ls_44 hL1) (by decide) rfl hAT1 (by decide) (Or.inl kf_X0_81) (am_tab tk_X0_lookAt 131 rfl) rfl ?_
            refine am_callVr (q := 243) (me2 := M_X0_spread) (b := 44) (kb := 0) (nb := 14) (As := [am_i (sfD H), am_i ((awS σ H 32))]) (rest := [am_r 44]) (c_spread_15_32 (am_setN T1 44 4 (sfD H)) (bgS H) hL1 hGB hD4 (sfD H) (awS σ H 32) (bsD H) (sfD_rng hG hc) haw.1 (fun p hp => by rw [haw.2 p (show p < 8 by have h5 : p < pN H := hp; omega), show (bgS H).2.1 96 (12 + p) = H.2.1 96 (12 + p) from bgN_far (by omega)]; have h5 : p < pN H := hp; by_cases h6 : ¬ H.2.1 96 (12 + p) = 1 ∧ ¬ tb (bsD H) p = 1; rw [if_pos ⟨h5, h6⟩]; exact ⟨fun _ => h6, fun _ => rfl⟩; rw [if_neg (fun z => h6 z.2)]; exact ⟨fun h => absurd h (by decide), fun h => absurd h h6⟩) hM4) ⟨rfl, rfl⟩ (Ls_44 hL1) (by decide) ⟨Or.inl km_X0_93, kc_X0_spread, kn_X0, kd_X0_spread, ⟨(Nat.le_of_ble_eq_true rfl), (Nat.le_of_ble_eq_true rfl)⟩, ⟨(Nat.le_of_ble_eq_true rfl), (Nat.le_of_ble_eq_true rfl)⟩, (Nat.le_of_ble_eq_true rfl)⟩ ki_X0_spread ks_X0_spread rfl (am_tab tk_X0_lookAt 132 rfl) rfl ?_
            rintro r T2 ⟨hr, hM2, hF2⟩
            have hr2 : r = some (am_i (thD H)) := hr
            subst hr2
            have hL2 : lay T2 := hF2.L hL1
            have hBT2 : T2.2.1 44 2 = bgN H 2 := (hF2.2.2 44 2 (by unfold W_dw; omega)).trans hBT1
            refine am_st (st2 := [am_i (thD H), am_r 44]) rfl ?_
            refine am_putI (q := 246) (k := 0) (n := 14) (j := 5) (Ls_44 hL2) (by decide) rfl (by decide) (Or.inl ⟨kf_X0_96, rfl⟩) (am_tab tk_X0_lookAt 133 rfl) rfl ?_
            refine am_aload_n (q := 247) rfl (am_tab tk_X0_lookAt 134 rfl) rfl ?_
            refine am_aload_n (q := 248) rfl (am_tab tk_X0_lookAt 135 rfl) rfl ?_
            refine am_getI (q := 251) (a := 44) (k := 0) (n := 14) (j := 2) (x := (bgN H 2)) (Ls_44 hL2) (by decide) rfl hBT2 (by decide) (Or.inl kf_X0_59) (am_tab tk_X0_lookAt 136 rfl) rfl ?_
            refine am_if_ne (q := 254) (t := 265) (am_tab tk_X0_lookAt 137 rfl) (by decide) rfl (fun h251 => ?_) (fun h251 => ?_)
            · refine am_iconst (q := 266) (n := 0) (by decide) (am_tab tk_X0_lookAt 143 rfl) rfl ?_
              refine am_putZ (q := 269) (k := 0) (n := 14) (j := 6) (Ls_44 hL2) (by decide) rfl (by first | exact Or.inl rfl | exact Or.inr rfl | omega) (by decide) (Or.inl ⟨kf_X0_99, rfl⟩) (am_tab tk_X0_lookAt 144 rfl) rfl ?_
              refine am_iconst (q := 270) (n := 1) (by decide) (am_tab tk_X0_lookAt 145 rfl) rfl ?_
              refine am_iret (Or.inr ⟨rfl, by first | exact Or.inl rfl | exact Or.inr rfl | omega⟩) (Nat.le_of_ble_eq_true rfl) (Nat.le_of_ble_eq_true rfl) (am_tab tk_X0_lookAt 146 rfl) ?_
              refine hQ _ _ ?_
              rw [if_pos cm]
              have hfs : fsD H = 0 := by
                unfold fsD
                rw [if_neg (by omega)]
              have hFz : frw W_da (am_setR (am_setR σ 44 8 (some 15)) 44 9 (some 32)) (am_setN (am_setN T2 44 5 (thD H)) 44 6 0) := hF3.trans (hFp.trans (((hF2.mono (fun _ _ h => by unfold W_dw at h; unfold W_da; omega)).setN (by unfold W_da; omega)).setN (by unfold W_da; omega)))
              refine ⟨rfl, ⟨((hD4.fr hF2 (by decide) (by decide)).set4 (by decide)).set4 (by decide), hM2.set4.set4, ⟨?_, ?_, ?_, ?_⟩, ?_, rfl, hfs.symm, ?_⟩, hFz⟩
              · show T2.2.1 44 0 = _; rw [hF2.2.2 44 0 (by unfold W_dw; omega)]; show T1.2.1 44 0 = _; rw [hF1.2.2 44 0 (by unfold W_ow; omega), hV]; rfl
              · show T2.2.1 44 1 = _; rw [hF2.2.2 44 1 (by unfold W_dw; omega)]; show T1.2.1 44 1 = _; rw [hF1.2.2 44 1 (by unfold W_ow; omega), hV]; rfl
              · show T2.2.1 44 2 = _; rw [hF2.2.2 44 2 (by unfold W_dw; omega)]; show T1.2.1 44 2 = _; rw [hF1.2.2 44 2 (by unfold W_ow; omega), hV]; rfl
              · show T2.2.1 44 3 = _; rw [hF2.2.2 44 3 (by unfold W_dw; omega)]; exact hAT1
              · show T2.2.1 44 4 = _; rw [hF2.2.2 44 4 (by unfold W_dw; omega)]; rfl
              · show T2.2.1 44 7 = _; rw [hF2.2.2 44 7 (by unfold W_dw; omega)]; show T1.2.1 44 7 = _; rw [hF1.2.2 44 7 (by unfold W_ow; omega), hV]; rfl
            · refine am_aload_n (q := 255) rfl (am_tab tk_X0_lookAt 138 rfl) rfl ?_
              refine am_getI (q := 258) (a := 44) (k := 0) (n := 14) (j := 5) (x := thD H) (Ls_44 hL2) (by decide) rfl rfl (by decide) (Or.inl kf_X0_96) (am_tab tk_X0_lookAt 139 rfl) rfl ?_
              refine am_if_ne (q := 261) (t := 265) (am_tab tk_X0_lookAt 140 rfl) (by decide) rfl (fun h258 => ?_) (fun h258 => ?_)
              · refine am_iconst (q := 266) (n := 0) (by decide) (am_tab tk_X0_lookAt 143 rfl) rfl ?_
                refine am_putZ (q := 269) (k := 0) (n := 14) (j := 6) (Ls_44 hL2) (by decide) rfl (by first | exact Or.inl rfl | exact Or.inr rfl | omega) (by decide) (Or.inl ⟨kf_X0_99, rfl⟩) (am_tab tk_X0_lookAt 144 rfl) rfl ?_
                refine am_iconst (q := 270) (n := 1) (by decide) (am_tab tk_X0_lookAt 145 rfl) rfl ?_
                refine am_iret (Or.inr ⟨rfl, by first | exact Or.inl rfl | exact Or.inr rfl | omega⟩) (Nat.le_of_ble_eq_true rfl) (Nat.le_of_ble_eq_true rfl) (am_tab tk_X0_lookAt 146 rfl) ?_
                refine hQ _ _ ?_
                rw [if_pos cm]
                have hfs : fsD H = 0 := by
                  unfold fsD
                  rw [if_neg (by omega)]
                have hFz : frw W_da (am_setR (am_setR σ 44 8 (some 15)) 44 9 (some 32)) (am_setN (am_setN T2 44 5 (thD H)) 44 6 0) := hF3.trans (hFp.trans (((hF2.mono (fun _ _ h => by unfold W_dw at h; unfold W_da; omega)).setN (by unfold W_da; omega)).setN (by unfold W_da; omega)))
                refine ⟨rfl, ⟨((hD4.fr hF2 (by decide) (by decide)).set4 (by decide)).set4 (by decide), hM2.set4.set4, ⟨?_, ?_, ?_, ?_⟩, ?_, rfl, hfs.symm, ?_⟩, hFz⟩
                · show T2.2.1 44 0 = _; rw [hF2.2.2 44 0 (by unfold W_dw; omega)]; show T1.2.1 44 0 = _; rw [hF1.2.2 44 0 (by unfold W_ow; omega), hV]; rfl
                · show T2.2.1 44 1 = _; rw [hF2.2.2 44 1 (by unfold W_dw; omega)]; show T1.2.1 44 1 = _; rw [hF1.2.2 44 1 (by unfold W_ow; omega), hV]; rfl
                · show T2.2.1 44 2 = _; rw [hF2.2.2 44 2 (by unfold W_dw; omega)]; show T1.2.1 44 2 = _; rw [hF1.2.2 44 2 (by unfold W_ow; omega), hV]; rfl
                · show T2.2.1 44 3 = _; rw [hF2.2.2 44 3 (by unfold W_dw; omega)]; exact hAT1
                · show T2.2.1 44 4 = _; rw [hF2.2.2 44 4 (by unfold W_dw; omega)]; rfl
                · show T2.2.1 44 7 = _; rw [hF2.2.2 44 7 (by unfold W_dw; omega)]; show T1.2.1 44 7 = _; rw [hF1.2.2 44 7 (by unfold W_ow; omega), hV]; rfl
              · refine am_iconst (q := 262) (n := 1) (by decide) (am_tab tk_X0_lookAt 141 rfl) rfl ?_
                refine am_goto (t := 266) (am_tab tk_X0_lookAt 142 rfl) (by decide) ?_
                refine am_putZ (q := 269) (k := 0) (n := 14) (j := 6) (Ls_44 hL2) (by decide) rfl (by first | exact Or.inl rfl | exact Or.inr rfl | omega) (by decide) (Or.inl ⟨kf_X0_99, rfl⟩) (am_tab tk_X0_lookAt 144 rfl) rfl ?_
                refine am_iconst (q := 270) (n := 1) (by decide) (am_tab tk_X0_lookAt 145 rfl) rfl ?_
                refine am_iret (Or.inr ⟨rfl, by first | exact Or.inl rfl | exact Or.inr rfl | omega⟩) (Nat.le_of_ble_eq_true rfl) (Nat.le_of_ble_eq_true rfl) (am_tab tk_X0_lookAt 146 rfl) ?_
                refine hQ _ _ ?_
                rw [if_pos cm]
                have hfs : fsD H = 1 := by
                  unfold fsD
                  rw [if_pos ⟨by omega, by omega⟩]
                have hFz : frw W_da (am_setR (am_setR σ 44 8 (some 15)) 44 9 (some 32)) (am_setN (am_setN T2 44 5 (thD H)) 44 6 1) := hF3.trans (hFp.trans (((hF2.mono (fun _ _ h => by unfold W_dw at h; unfold W_da; omega)).setN (by unfold W_da; omega)).setN (by unfold W_da; omega)))
                refine ⟨rfl, ⟨((hD4.fr hF2 (by decide) (by decide)).set4 (by decide)).set4 (by decide), hM2.set4.set4, ⟨?_, ?_, ?_, ?_⟩, ?_, rfl, hfs.symm, ?_⟩, hFz⟩
                · show T2.2.1 44 0 = _; rw [hF2.2.2 44 0 (by unfold W_dw; omega)]; show T1.2.1 44 0 = _; rw [hF1.2.2 44 0 (by unfold W_ow; omega), hV]; rfl
                · show T2.2.1 44 1 = _; rw [hF2.2.2 44 1 (by unfold W_dw; omega)]; show T1.2.1 44 1 = _; rw [hF1.2.2 44 1 (by unfold W_ow; omega), hV]; rfl
                · show T2.2.1 44 2 = _; rw [hF2.2.2 44 2 (by unfold W_dw; omega)]; show T1.2.1 44 2 = _; rw [hF1.2.2 44 2 (by unfold W_ow; omega), hV]; rfl
                · show T2.2.1 44 3 = _; rw [hF2.2.2 44 3 (by unfold W_dw; omega)]; exact hAT1
                · show T2.2.1 44 4 = _; rw [hF2.2.2 44 4 (by unfold W_dw; omega)]; rfl
                · show T2.2.1 44 7 = _; rw [hF2.2.2 44 7 (by unfold W_dw; omega)]; show T1.2.1 44 7 = _; rw [hF1.2.2 44 7 (by unfold W_ow; omega), hV]; rfl
        refine am_aload_n (q := 29) rfl (am_tab tk_X0_lookAt 16 rfl) rfl ?_
        refine am_putR (q := 32) (k := 0) (n := 14) (j := 8) (Ls_44 hL) (by decide) rfl (by decide) (Or.inl ⟨kf_X0_24, rfl⟩) (am_tab tk_X0_lookAt 17 rfl) rfl ?_
        have hLa : lay (am_setR (am_setN σ 44 7 1) 44 8 (some (15))) := lay_R hL (by decide)
        refine am_aload_n (q := 33) rfl (am_tab tk_X0_lookAt 18 rfl) rfl ?_
        refine am_aload_n (q := 34) rfl (am_tab tk_X0_lookAt 19 rfl) rfl ?_
        refine am_putR (q := 37) (k := 0) (n := 14) (j := 9) (Ls_44 hLa) (by decide) rfl (by decide) (Or.inl ⟨kf_X0_28, rfl⟩) (am_tab tk_X0_lookAt 20 rfl) rfl ?_
        by_cases ny : H.2.1 96 1 + 1 ≤ H.2.1 85 9
        · have hLb : lay (am_setR (am_setR (am_setN σ 44 7 1) 44 8 (some (15))) 44 9 (some (32))) := lay_R hLa (by decide)
          refine am_aload_n (q := 38) rfl (am_tab tk_X0_lookAt 21 rfl) rfl ?_
          refine am_getI (q := 41) (a := 32) (k := 1) (n := 11) (j := 1) (x := (H.2.1 96 1)) (Ls_32 hLb) (by decide) rfl hF.1.2.1 (by decide) (Or.inr kf_X0_42) (am_tab tk_X0_lookAt 22 rfl) rfl ?_
          refine am_aload_n (q := 42) rfl (am_tab tk_X0_lookAt 23 rfl) rfl ?_
          refine am_getI (q := 45) (a := 15) (k := 8) (n := 17) (j := 0) (x := (H.2.1 85 9)) (Ls_15 hLb) (by decide) rfl hT.days (by decide) (Or.inr kf_X0_46) (am_tab tk_X0_lookAt 24 rfl) rfl ?_
          refine am_icmp_lt (q := 48) (t := 52) (am_tab tk_X0_lookAt 25 rfl) (by decide) rfl (fun h45 => ?_) (fun h45 => ?_)
          · refine am_iconst (q := 53) (n := 0) (by decide) (am_tab tk_X0_lookAt 28 rfl) rfl ?_
            refine am_istore_n (q := 54) (by decide) (ls2 := [(3, am_i 0), (0, am_r 44), (1, am_r 15), (2, am_r 32)]) rfl (am_tab tk_X0_lookAt 29 rfl) rfl ?_
            have b0 : bgN H 0 = H.2.1 96 0 := by unfold bgN; rw [if_pos ny]; rfl
            have b1 : bgN H 1 = H.2.1 96 1 + 1 := by unfold bgN; rw [if_pos ny]; rfl
            have b2 : bgN H 2 = H.2.1 96 2 := by unfold bgN; rw [if_pos ny]; rfl
            refine am_aload_n (q := 55) rfl (am_tab tk_X0_lookAt 30 rfl) rfl ?_
            refine am_iload_n (q := 56) rfl (am_tab tk_X0_lookAt 31 rfl) rfl ?_
            refine am_if_eq (q := 59) (t := 68) (am_tab tk_X0_lookAt 32 rfl) (by decide) rfl (fun h56 => ?_) (fun h56 => ?_)
            · refine am_aload_n (q := 69) rfl (am_tab tk_X0_lookAt 38 rfl) rfl ?_
              refine am_getI (q := 72) (a := 32) (k := 1) (n := 11) (j := 0) (x := (H.2.1 96 0)) (Ls_32 hLb) (by decide) rfl hF.1.1 (by decide) (Or.inr kf_X0_51) (am_tab tk_X0_lookAt 39 rfl) rfl ?_
              refine am_putI (q := 75) (k := 0) (n := 14) (j := 0) (Ls_44 hLb) (by decide) rfl (by decide) (Or.inl ⟨kf_X0_54, rfl⟩) (am_tab tk_X0_lookAt 40 rfl) rfl ?_
              refine am_aload_n (q := 76) rfl (am_tab tk_X0_lookAt 41 rfl) rfl ?_
              refine am_iload_n (q := 77) rfl (am_tab tk_X0_lookAt 42 rfl) rfl ?_
              refine am_if_eq (q := 80) (t := 84) (am_tab tk_X0_lookAt 43 rfl) (by decide) rfl (fun h77 => ?_) (fun h77 => ?_)
              · refine am_aload_n (q := 85) rfl (am_tab tk_X0_lookAt 46 rfl) rfl ?_
                refine am_getI (q := 88) (a := 32) (k := 1) (n := 11) (j := 1) (x := (H.2.1 96 1)) (Ls_32 hLb) (by decide) rfl hF.1.2.1 (by decide) (Or.inr kf_X0_42) (am_tab tk_X0_lookAt 47 rfl) rfl ?_
                refine am_iconst (q := 89) (n := 1) (by decide) (am_tab tk_X0_lookAt 48 rfl) rfl ?_
                refine am_iadd (q := 90) (by omega) (am_tab tk_X0_lookAt 49 rfl) rfl ?_
                refine am_putI (q := 93) (k := 0) (n := 14) (j := 1) (Ls_44 hLb) (by decide) rfl (by decide) (Or.inl ⟨kf_X0_55, rfl⟩) (am_tab tk_X0_lookAt 50 rfl) rfl ?_
                refine am_aload_n (q := 94) rfl (am_tab tk_X0_lookAt 51 rfl) rfl ?_
                refine am_iload_n (q := 95) rfl (am_tab tk_X0_lookAt 52 rfl) rfl ?_
                refine am_if_eq (q := 98) (t := 102) (am_tab tk_X0_lookAt 53 rfl) (by decide) rfl (fun h95 => ?_) (fun h95 => ?_)
                · refine am_aload_n (q := 103) rfl (am_tab tk_X0_lookAt 56 rfl) rfl ?_
                  refine am_getI (q := 106) (a := 32) (k := 1) (n := 11) (j := 2) (x := (H.2.1 96 2)) (Ls_32 hLb) (by decide) rfl hF.1.2.2.1 (by decide) (Or.inr kf_X0_56) (am_tab tk_X0_lookAt 57 rfl) rfl ?_
                  refine am_putI (q := 109) (k := 0) (n := 14) (j := 2) (Ls_44 hLb) (by decide) rfl (by decide) (Or.inl ⟨kf_X0_59, rfl⟩) (am_tab tk_X0_lookAt 58 rfl) rfl ?_
                  refine am_aload_n (q := 110) rfl (am_tab tk_X0_lookAt 59 rfl) rfl ?_
                  refine am_getR (q := 113) (a := 44) (k := 0) (n := 14) (j := 10) (r := some (45)) (Ls_44 hLb) (by decide) rfl (Lr_44_10 hLb) (by decide) (Or.inl kf_X0_9) (am_tab tk_X0_lookAt 60 rfl) rfl ?_
                  refine am_bipush (q := 115) (n := 13) (by decide) rfl (am_tab tk_X0_lookAt 61 rfl) rfl ?_
                  refine am_aload_n (q := 116) rfl (am_tab tk_X0_lookAt 62 rfl) rfl ?_
                  refine am_getI (q := 119) (a := 44) (k := 0) (n := 14) (j := 1) (x := ((H.2.1 96 1) + 1)) (Ls_44 hLb) (by decide) rfl rfl (by decide) (Or.inl kf_X0_55) (am_tab tk_X0_lookAt 63 rfl) rfl ?_
                  refine am_iast (q := 120) (a := 45) (n := 34) (Ls_45 hLb) (by omega) (by omega) (am_tab tk_X0_lookAt 64 rfl) rfl ?_
                  refine am_aload_n (q := 121) rfl (am_tab tk_X0_lookAt 65 rfl) rfl ?_
                  refine am_getR (q := 124) (a := 44) (k := 0) (n := 14) (j := 10) (r := some (45)) (Ls_44 hLb) (by decide) rfl (Lr_44_10 hLb) (by decide) (Or.inl kf_X0_9) (am_tab tk_X0_lookAt 66 rfl) rfl ?_
                  refine am_bipush (q := 126) (n := 14) (by decide) rfl (am_tab tk_X0_lookAt 67 rfl) rfl ?_
                  refine am_aload_n (q := 127) rfl (am_tab tk_X0_lookAt 68 rfl) rfl ?_
                  refine am_getI (q := 130) (a := 44) (k := 0) (n := 14) (j := 0) (x := (H.2.1 96 0)) (Ls_44 hLb) (by decide) rfl rfl (by decide) (Or.inl kf_X0_54) (am_tab tk_X0_lookAt 69 rfl) rfl ?_
                  refine am_iast (q := 131) (a := 45) (n := 34) (Ls_45 hLb) (by omega) (by omega) (am_tab tk_X0_lookAt 70 rfl) rfl ?_
                  refine am_aload_n (q := 132) rfl (am_tab tk_X0_lookAt 71 rfl) rfl ?_
                  refine am_getR (q := 135) (a := 44) (k := 0) (n := 14) (j := 10) (r := some (45)) (Ls_44 hLb) (by decide) rfl (Lr_44_10 hLb) (by decide) (Or.inl kf_X0_9) (am_tab tk_X0_lookAt 72 rfl) rfl ?_
                  refine am_bipush (q := 137) (n := 7) (by decide) rfl (am_tab tk_X0_lookAt 73 rfl) rfl ?_
                  refine am_aload_n (q := 138) rfl (am_tab tk_X0_lookAt 74 rfl) rfl ?_
                  refine am_getR (q := 141) (a := 15) (k := 8) (n := 17) (j := 14) (r := some (22)) (Ls_15 hLb) (by decide) rfl (Lr_15_14 hLb) (by decide) (Or.inr kf_X0_62) (am_tab tk_X0_lookAt 75 rfl) rfl ?_
                  refine am_aload_n (q := 142) rfl (am_tab tk_X0_lookAt 76 rfl) rfl ?_
                  refine am_getI (q := 145) (a := 44) (k := 0) (n := 14) (j := 1) (x := ((H.2.1 96 1) + 1)) (Ls_44 hLb) (by decide) rfl rfl (by decide) (Or.inl kf_X0_55) (am_tab tk_X0_lookAt 77 rfl) rfl ?_
                  refine am_iald (q := 146) (a := 22) (n := 91) (x := (fzM (bgS H))) (Ls_22 hLb) (by omega) (by omega) (by rw [← b1]; exact hfz) (am_tab tk_X0_lookAt 78 rfl) rfl ?_
                  refine am_iast (q := 147) (a := 45) (n := 34) (Ls_45 hLb) (by omega) (by omega) (am_tab tk_X0_lookAt 79 rfl) rfl ?_
                  refine am_aload_n (q := 148) rfl (am_tab tk_X0_lookAt 80 rfl) rfl ?_
                  refine am_getR (q := 151) (a := 44) (k := 0) (n := 14) (j := 10) (r := some (45)) (Ls_44 hLb) (by decide) rfl (Lr_44_10 hLb) (by decide) (Or.inl kf_X0_9) (am_tab tk_X0_lookAt 81 rfl) rfl ?_
                  refine am_bipush (q := 153) (n := 16) (by decide) rfl (am_tab tk_X0_lookAt 82 rfl) rfl ?_
                  refine am_aload_n (q := 154) rfl (am_tab tk_X0_lookAt 83 rfl) rfl ?_
                  refine am_getI (q := 157) (a := 44) (k := 0) (n := 14) (j := 2) (x := (H.2.1 96 2)) (Ls_44 hLb) (by decide) rfl rfl (by decide) (Or.inl kf_X0_59) (am_tab tk_X0_lookAt 84 rfl) rfl ?_
                  refine am_if_ne (q := 160) (t := 164) (am_tab tk_X0_lookAt 85 rfl) (by decide) rfl (fun h157 => ?_) (fun h157 => ?_)
                  · refine am_iconst (q := 165) (n := 1) (by decide) (am_tab tk_X0_lookAt 88 rfl) rfl ?_
                    refine am_iast (q := 166) (a := 45) (n := 34) (Ls_45 hLb) (by omega) (by omega) (am_tab tk_X0_lookAt 89 rfl) rfl ?_
                    have hff : ffM (bgS H) = 1 := by
                      show (if 0 < bgN H 2 then (1 : Int) else 0) = 1
                      have := hfr
                      rw [if_pos (by omega)]
                    refine am_less (by intro q hq; simp only [List.mem_cons, List.not_mem_nil, or_false] at hq; rcases hq with rfl | rfl | rfl <;> simp) (L166 (_ + 1) (am_setN (am_setN (am_setN (am_setN (am_setN (am_setN (am_setN (am_setR (am_setR (am_setN σ 44 7 1) 44 8 (some (15))) 44 9 (some (32))) 44 0 (H.2.1 96 0)) 44 1 ((H.2.1 96 1) + 1)) 44 2 (H.2.1 96 2)) 45 13 ((H.2.1 96 1) + 1)) 45 14 (H.2.1 96 0)) 45 7 (fzM (bgS H))) 45 16 1) (by exact Nat.lt_succ_self _) (by rw [hff, b0, b1, b2]))
                  · refine am_iconst (q := 161) (n := 0) (by decide) (am_tab tk_X0_lookAt 86 rfl) rfl ?_
                    refine am_goto (t := 165) (am_tab tk_X0_lookAt 87 rfl) (by decide) ?_
                    refine am_iast (q := 166) (a := 45) (n := 34) (Ls_45 hLb) (by omega) (by omega) (am_tab tk_X0_lookAt 89 rfl) rfl ?_
                    have hff : ffM (bgS H) = 0 := by
                      show (if 0 < bgN H 2 then (1 : Int) else 0) = 0
                      have := hfr
                      rw [if_neg (by omega)]
                    refine am_less (by intro q hq; simp only [List.mem_cons, List.not_mem_nil, or_false] at hq; rcases hq with rfl | rfl | rfl <;> simp) (L166 (_ + 1) (am_setN (am_setN (am_setN (am_setN (am_setN (am_setN (am_setN (am_setR (am_setR (am_setN σ 44 7 1) 44 8 (some (15))) 44 9 (some (32))) 44 0 (H.2.1 96 0)) 44 1 ((H.2.1 96 1) + 1)) 44 2 (H.2.1 96 2)) 45 13 ((H.2.1 96 1) + 1)) 45 14 (H.2.1 96 0)) 45 7 (fzM (bgS H))) 45 16 0) (by exact Nat.lt_succ_self _) (by rw [hff, b0, b1, b2]))
                · exact absurd h95 (by decide)
              · exact absurd h77 (by decide)
            · exact absurd h56 (by decide)
          · exact absurd h45 (by omega)
        · have hLb : lay (am_setR (am_setR (am_setN σ 44 7 1) 44 8 (some (15))) 44 9 (some (32))) := lay_R hLa (by decide)
          refine am_aload_n (q := 38) rfl (am_tab tk_X0_lookAt 21 rfl) rfl ?_
          refine am_getI (q := 41) (a := 32) (k := 1) (n := 11) (j := 1) (x := (H.2.1 96 1)) (Ls_32 hLb) (by decide) rfl hF.1.2.1 (by decide) (Or.inr kf_X0_42) (am_tab tk_X0_lookAt 22 rfl) rfl ?_
          refine am_aload_n (q := 42) rfl (am_tab tk_X0_lookAt 23 rfl) rfl ?_
          refine am_getI (q := 45) (a := 15) (k := 8) (n := 17) (j := 0) (x := (H.2.1 85 9)) (Ls_15 hLb) (by decide) rfl hT.days (by decide) (Or.inr kf_X0_46) (am_tab tk_X0_lookAt 24 rfl) rfl ?_
          refine am_icmp_lt (q := 48) (t := 52) (am_tab tk_X0_lookAt 25 rfl) (by decide) rfl (fun h45 => ?_) (fun h45 => ?_)
          · exact absurd h45 (by omega)
          · refine am_iconst (q := 49) (n := 1) (by decide) (am_tab tk_X0_lookAt 26 rfl) rfl ?_
            refine am_goto (t := 53) (am_tab tk_X0_lookAt 27 rfl) (by decide) ?_
            refine am_istore_n (q := 54) (by decide) (ls2 := [(3, am_i 1), (0, am_r 44), (1, am_r 15), (2, am_r 32)]) rfl (am_tab tk_X0_lookAt 29 rfl) rfl ?_
            have b0 : bgN H 0 = H.2.1 96 0 + 1 := by unfold bgN; rw [if_neg ny]; rfl
            have b1 : bgN H 1 = 1 := by unfold bgN; rw [if_neg ny]; rfl
            have b2 : bgN H 2 = 0 := by unfold bgN; rw [if_neg ny]; rfl
            refine am_aload_n (q := 55) rfl (am_tab tk_X0_lookAt 30 rfl) rfl ?_
            refine am_iload_n (q := 56) rfl (am_tab tk_X0_lookAt 31 rfl) rfl ?_
            refine am_if_eq (q := 59) (t := 68) (am_tab tk_X0_lookAt 32 rfl) (by decide) rfl (fun h56 => ?_) (fun h56 => ?_)
            · exact absurd h56 (by decide)
            · refine am_aload_n (q := 60) rfl (am_tab tk_X0_lookAt 33 rfl) rfl ?_
              refine am_getI (q := 63) (a := 32) (k := 1) (n := 11) (j := 0) (x := (H.2.1 96 0)) (Ls_32 hLb) (by decide) rfl hF.1.1 (by decide) (Or.inr kf_X0_51) (am_tab tk_X0_lookAt 34 rfl) rfl ?_
              refine am_iconst (q := 64) (n := 1) (by decide) (am_tab tk_X0_lookAt 35 rfl) rfl ?_
              refine am_iadd (q := 65) (by omega) (am_tab tk_X0_lookAt 36 rfl) rfl ?_
              refine am_goto (t := 72) (am_tab tk_X0_lookAt 37 rfl) (by decide) ?_
              refine am_putI (q := 75) (k := 0) (n := 14) (j := 0) (Ls_44 hLb) (by decide) rfl (by decide) (Or.inl ⟨kf_X0_54, rfl⟩) (am_tab tk_X0_lookAt 40 rfl) rfl ?_
              refine am_aload_n (q := 76) rfl (am_tab tk_X0_lookAt 41 rfl) rfl ?_
              refine am_iload_n (q := 77) rfl (am_tab tk_X0_lookAt 42 rfl) rfl ?_
              refine am_if_eq (q := 80) (t := 84) (am_tab tk_X0_lookAt 43 rfl) (by decide) rfl (fun h77 => ?_) (fun h77 => ?_)
              · exact absurd h77 (by decide)
              · refine am_iconst (q := 81) (n := 1) (by decide) (am_tab tk_X0_lookAt 44 rfl) rfl ?_
                refine am_goto (t := 90) (am_tab tk_X0_lookAt 45 rfl) (by decide) ?_
                refine am_putI (q := 93) (k := 0) (n := 14) (j := 1) (Ls_44 hLb) (by decide) rfl (by decide) (Or.inl ⟨kf_X0_55, rfl⟩) (am_tab tk_X0_lookAt 50 rfl) rfl ?_
                refine am_aload_n (q := 94) rfl (am_tab tk_X0_lookAt 51 rfl) rfl ?_
                refine am_iload_n (q := 95) rfl (am_tab tk_X0_lookAt 52 rfl) rfl ?_
                refine am_if_eq (q := 98) (t := 102) (am_tab tk_X0_lookAt 53 rfl) (by decide) rfl (fun h95 => ?_) (fun h95 => ?_)
                · exact absurd h95 (by decide)
                · refine am_iconst (q := 99) (n := 0) (by decide) (am_tab tk_X0_lookAt 54 rfl) rfl ?_
                  refine am_goto (t := 106) (am_tab tk_X0_lookAt 55 rfl) (by decide) ?_
                  refine am_putI (q := 109) (k := 0) (n := 14) (j := 2) (Ls_44 hLb) (by decide) rfl (by decide) (Or.inl ⟨kf_X0_59, rfl⟩) (am_tab tk_X0_lookAt 58 rfl) rfl ?_
                  refine am_aload_n (q := 110) rfl (am_tab tk_X0_lookAt 59 rfl) rfl ?_
                  refine am_getR (q := 113) (a := 44) (k := 0) (n := 14) (j := 10) (r := some (45)) (Ls_44 hLb) (by decide) rfl (Lr_44_10 hLb) (by decide) (Or.inl kf_X0_9) (am_tab tk_X0_lookAt 60 rfl) rfl ?_
                  refine am_bipush (q := 115) (n := 13) (by decide) rfl (am_tab tk_X0_lookAt 61 rfl) rfl ?_
                  refine am_aload_n (q := 116) rfl (am_tab tk_X0_lookAt 62 rfl) rfl ?_
                  refine am_getI (q := 119) (a := 44) (k := 0) (n := 14) (j := 1) (x := 1) (Ls_44 hLb) (by decide) rfl rfl (by decide) (Or.inl kf_X0_55) (am_tab tk_X0_lookAt 63 rfl) rfl ?_
                  refine am_iast (q := 120) (a := 45) (n := 34) (Ls_45 hLb) (by omega) (by omega) (am_tab tk_X0_lookAt 64 rfl) rfl ?_
                  refine am_aload_n (q := 121) rfl (am_tab tk_X0_lookAt 65 rfl) rfl ?_
                  refine am_getR (q := 124) (a := 44) (k := 0) (n := 14) (j := 10) (r := some (45)) (Ls_44 hLb) (by decide) rfl (Lr_44_10 hLb) (by decide) (Or.inl kf_X0_9) (am_tab tk_X0_lookAt 66 rfl) rfl ?_
                  refine am_bipush (q := 126) (n := 14) (by decide) rfl (am_tab tk_X0_lookAt 67 rfl) rfl ?_
                  refine am_aload_n (q := 127) rfl (am_tab tk_X0_lookAt 68 rfl) rfl ?_
                  refine am_getI (q := 130) (a := 44) (k := 0) (n := 14) (j := 0) (x := ((H.2.1 96 0) + 1)) (Ls_44 hLb) (by decide) rfl rfl (by decide) (Or.inl kf_X0_54) (am_tab tk_X0_lookAt 69 rfl) rfl ?_
                  refine am_iast (q := 131) (a := 45) (n := 34) (Ls_45 hLb) (by omega) (by omega) (am_tab tk_X0_lookAt 70 rfl) rfl ?_
                  refine am_aload_n (q := 132) rfl (am_tab tk_X0_lookAt 71 rfl) rfl ?_
                  refine am_getR (q := 135) (a := 44) (k := 0) (n := 14) (j := 10) (r := some (45)) (Ls_44 hLb) (by decide) rfl (Lr_44_10 hLb) (by decide) (Or.inl kf_X0_9) (am_tab tk_X0_lookAt 72 rfl) rfl ?_
                  refine am_bipush (q := 137) (n := 7) (by decide) rfl (am_tab tk_X0_lookAt 73 rfl) rfl ?_
                  refine am_aload_n (q := 138) rfl (am_tab tk_X0_lookAt 74 rfl) rfl ?_
                  refine am_getR (q := 141) (a := 15) (k := 8) (n := 17) (j := 14) (r := some (22)) (Ls_15 hLb) (by decide) rfl (Lr_15_14 hLb) (by decide) (Or.inr kf_X0_62) (am_tab tk_X0_lookAt 75 rfl) rfl ?_
                  refine am_aload_n (q := 142) rfl (am_tab tk_X0_lookAt 76 rfl) rfl ?_
                  refine am_getI (q := 145) (a := 44) (k := 0) (n := 14) (j := 1) (x := 1) (Ls_44 hLb) (by decide) rfl rfl (by decide) (Or.inl kf_X0_55) (am_tab tk_X0_lookAt 77 rfl) rfl ?_
                  refine am_iald (q := 146) (a := 22) (n := 91) (x := (fzM (bgS H))) (Ls_22 hLb) (by omega) (by omega) (by rw [← b1]; exact hfz) (am_tab tk_X0_lookAt 78 rfl) rfl ?_
                  refine am_iast (q := 147) (a := 45) (n := 34) (Ls_45 hLb) (by omega) (by omega) (am_tab tk_X0_lookAt 79 rfl) rfl ?_
                  refine am_aload_n (q := 148) rfl (am_tab tk_X0_lookAt 80 rfl) rfl ?_
                  refine am_getR (q := 151) (a := 44) (k := 0) (n := 14) (j := 10) (r := some (45)) (Ls_44 hLb) (by decide) rfl (Lr_44_10 hLb) (by decide) (Or.inl kf_X0_9) (am_tab tk_X0_lookAt 81 rfl) rfl ?_
                  refine am_bipush (q := 153) (n := 16) (by decide) rfl (am_tab tk_X0_lookAt 82 rfl) rfl ?_
                  refine am_aload_n (q := 154) rfl (am_tab tk_X0_lookAt 83 rfl) rfl ?_
                  refine am_getI (q := 157) (a := 44) (k := 0) (n := 14) (j := 2) (x := 0) (Ls_44 hLb) (by decide) rfl rfl (by decide) (Or.inl kf_X0_59) (am_tab tk_X0_lookAt 84 rfl) rfl ?_
                  refine am_if_ne (q := 160) (t := 164) (am_tab tk_X0_lookAt 85 rfl) (by decide) rfl (fun h157 => ?_) (fun h157 => ?_)
                  · exact absurd h157 (by decide)
                  · refine am_iconst (q := 161) (n := 0) (by decide) (am_tab tk_X0_lookAt 86 rfl) rfl ?_
                    refine am_goto (t := 165) (am_tab tk_X0_lookAt 87 rfl) (by decide) ?_
                    refine am_iast (q := 166) (a := 45) (n := 34) (Ls_45 hLb) (by omega) (by omega) (am_tab tk_X0_lookAt 89 rfl) rfl ?_
                    have hff : ffM (bgS H) = 0 := by
                      show (if 0 < bgN H 2 then (1 : Int) else 0) = 0
                      have := hfr
                      rw [if_neg (by omega)]
                    refine am_less (by intro q hq; simp only [List.mem_cons, List.not_mem_nil, or_false] at hq; rcases hq with rfl | rfl | rfl <;> simp) (L166 (_ + 1) (am_setN (am_setN (am_setN (am_setN (am_setN (am_setN (am_setN (am_setR (am_setR (am_setN σ 44 7 1) 44 8 (some (15))) 44 9 (some (32))) 44 0 ((H.2.1 96 0) + 1)) 44 1 1) 44 2 0) 45 13 1) 45 14 ((H.2.1 96 0) + 1)) 45 7 (fzM (bgS H))) 45 16 0) (by exact Nat.lt_succ_self _) (by rw [hff, b0, b1, b2]))
      · exact absurd h22 (by decide)
  · refine am_aload_n (q := 1) rfl (am_tab tk_X0_lookAt 0 rfl) rfl ?_
    refine am_aload_n (q := 2) rfl (am_tab tk_X0_lookAt 1 rfl) rfl ?_
    refine am_aload_n (q := 3) rfl (am_tab tk_X0_lookAt 2 rfl) rfl ?_
    refine am_callV0 (q := 6) (me2 := M_X1_daysLeft) (b := 32) (kb := 1) (nb := 11) (As := [am_r 15]) (rest := [am_r 44]) (out := [am_i (dlM H), am_r 44]) (c_daysLeft_15_32 σ H hL hG hT hF) ⟨rfl, rfl⟩ (Ls_32 hL) (by decide) ⟨Or.inr km_X0_32, kc_X1_daysLeft, kn_X1, kd_X1_daysLeft, ⟨(Nat.le_of_ble_eq_true rfl), (Nat.le_of_ble_eq_true rfl)⟩, ⟨(Nat.le_of_ble_eq_true rfl), (Nat.le_of_ble_eq_true rfl)⟩, (Nat.le_of_ble_eq_true rfl)⟩ ki_X1_daysLeft ks_X1_daysLeft rfl rfl (am_tab tk_X0_lookAt 3 rfl) rfl ?_
    refine am_iconst (q := 7) (n := 1) (by decide) (am_tab tk_X0_lookAt 4 rfl) rfl ?_
    refine am_icmp_lt (q := 10) (t := 14) (am_tab tk_X0_lookAt 5 rfl) (by decide) rfl (fun h7 => ?_) (fun h7 => ?_)
    · refine am_iconst (q := 15) (n := 0) (by decide) (am_tab tk_X0_lookAt 8 rfl) rfl ?_
      refine am_putZ (q := 18) (k := 0) (n := 14) (j := 7) (Ls_44 hL) (by decide) rfl (by first | exact Or.inl rfl | exact Or.inr rfl | omega) (by decide) (Or.inl ⟨kf_X0_38, rfl⟩) (am_tab tk_X0_lookAt 9 rfl) rfl ?_
      refine am_aload_n (q := 19) rfl (am_tab tk_X0_lookAt 10 rfl) rfl ?_
      refine am_getI (q := 22) (a := 44) (k := 0) (n := 14) (j := 7) (x := 0) (Ls_44 hL) (by decide) rfl rfl (by decide) (Or.inl kf_X0_38) (am_tab tk_X0_lookAt 11 rfl) rfl ?_
      refine am_if_ne (q := 25) (t := 27) (am_tab tk_X0_lookAt 12 rfl) (by decide) rfl (fun h22 => ?_) (fun h22 => ?_)
      · exact absurd h22 (by decide)
      · refine am_iconst (q := 26) (n := 0) (by decide) (am_tab tk_X0_lookAt 13 rfl) rfl ?_
        refine am_iret (Or.inr ⟨rfl, by first | exact Or.inl rfl | exact Or.inr rfl | omega⟩) (Nat.le_of_ble_eq_true rfl) (Nat.le_of_ble_eq_true rfl) (am_tab tk_X0_lookAt 14 rfl) ?_
        refine hQ _ _ ?_
        rw [if_neg cm]
        exact ⟨rfl, rfl⟩
    · exact absurd h7 (by omega)
set_option maxRecDepth 100000 in
theorem c_lookAt_15_37 (σ H : am_H) (hL : lay σ) (hG : GD H) (hT : TWr 15 σ H) (hF : LF0 37 σ (fun k => H.2.1 96 k))   : am_met M_X0_lookAt [am_r 44, am_r 15, am_r 37] σ (fun r σ' => if 1 ≤ dlM H then r = some (am_i 1) ∧ DAW 15 37 (awS σ H 37) H σ' ∧ frw W_da (am_setR (am_setR σ 44 8 (some 15)) 44 9 (some 37)) σ' else r = some (am_i 0) ∧ σ' = am_setN σ 44 7 0) := by
  refine am_qq (fun Q hQ => ?_)
  refine am_enter (show plainFor yX0_lookAt = true by decide +kernel) rfl (Nat.le_of_ble_eq_true rfl) (fun _ _ _ => trivial) ?_
  have h8 : pN H ≤ 8 := by have := hG.R.P; unfold pN; omega
  have hYY := hG.R.Y
  have hdd := hG.R.day
  have hyy := hG.R.year
  have hff0 := hG.R.feast
  by_cases cm : 1 ≤ dlM H
  · refine am_aload_n (q := 1) rfl (am_tab tk_X0_lookAt 0 rfl) rfl ?_
    refine am_aload_n (q := 2) rfl (am_tab tk_X0_lookAt 1 rfl) rfl ?_
    refine am_aload_n (q := 3) rfl (am_tab tk_X0_lookAt 2 rfl) rfl ?_
    refine am_callV0 (q := 6) (me2 := M_X1_daysLeft) (b := 37) (kb := 1) (nb := 11) (As := [am_r 15]) (rest := [am_r 44]) (out := [am_i (dlM H), am_r 44]) (c_daysLeft_15_37 σ H hL hG hT hF) ⟨rfl, rfl⟩ (Ls_37 hL) (by decide) ⟨Or.inr km_X0_32, kc_X1_daysLeft, kn_X1, kd_X1_daysLeft, ⟨(Nat.le_of_ble_eq_true rfl), (Nat.le_of_ble_eq_true rfl)⟩, ⟨(Nat.le_of_ble_eq_true rfl), (Nat.le_of_ble_eq_true rfl)⟩, (Nat.le_of_ble_eq_true rfl)⟩ ki_X1_daysLeft ks_X1_daysLeft rfl rfl (am_tab tk_X0_lookAt 3 rfl) rfl ?_
    refine am_iconst (q := 7) (n := 1) (by decide) (am_tab tk_X0_lookAt 4 rfl) rfl ?_
    refine am_icmp_lt (q := 10) (t := 14) (am_tab tk_X0_lookAt 5 rfl) (by decide) rfl (fun h7 => ?_) (fun h7 => ?_)
    · exact absurd h7 (by omega)
    · refine am_iconst (q := 11) (n := 1) (by decide) (am_tab tk_X0_lookAt 6 rfl) rfl ?_
      refine am_goto (t := 15) (am_tab tk_X0_lookAt 7 rfl) (by decide) ?_
      refine am_putZ (q := 18) (k := 0) (n := 14) (j := 7) (Ls_44 hL) (by decide) rfl (by first | exact Or.inl rfl | exact Or.inr rfl | omega) (by decide) (Or.inl ⟨kf_X0_38, rfl⟩) (am_tab tk_X0_lookAt 9 rfl) rfl ?_
      refine am_aload_n (q := 19) rfl (am_tab tk_X0_lookAt 10 rfl) rfl ?_
      refine am_getI (q := 22) (a := 44) (k := 0) (n := 14) (j := 7) (x := 1) (Ls_44 hL) (by decide) rfl rfl (by decide) (Or.inl kf_X0_38) (am_tab tk_X0_lookAt 11 rfl) rfl ?_
      refine am_if_ne (q := 25) (t := 27) (am_tab tk_X0_lookAt 12 rfl) (by decide) rfl (fun h22 => ?_) (fun h22 => ?_)
      · have hc := cc_of hG.R cm
        have hGB := bgS_GD hG hc
        have hb1 := bg1_rng hG hc
        have hfr : 0 ≤ bgN H 2 := by unfold bgN; split; (show 0 ≤ H.2.1 96 2; omega); (show (0 : Int) ≤ 0; decide)
        have haw := aw_tb hG hc hF
        have hfz : σ.2.1 22 (Int.toNat (bgN H 1)) = fzM (bgS H) := by
          have h5 := hT.frost (bgN H 1).toNat (by omega) (by omega) (by omega)
          rw [show (((bgN H 1).toNat : Nat) : Int) = bgN H 1 by omega] at h5
          exact h5
        have hbs : σ.2.1 40 (Int.toNat (bgN H 1)) = bsD H := by
          have h5 := hF.2.2.2.2.2 (bgN H 1).toNat (by omega)
          unfold bsD
          rw [bgN_far (k := Int.toNat (111 + bgN H 1)) (by omega), show Int.toNat (111 + bgN H 1) = 111 + (bgN H 1).toNat by omega]
          exact h5
        have hts : σ.2.1 39 (Int.toNat (bgN H 1)) = tsD H := by
          have h5 := hF.2.2.2.2.1 (bgN H 1).toNat (by omega)
          unfold tsD
          rw [bgN_far (k := Int.toNat (20 + bgN H 1)) (by omega), show Int.toNat (20 + bgN H 1) = 20 + (bgN H 1).toNat by omega]
          exact h5
        refine am_aload_n (q := 28) rfl (am_tab tk_X0_lookAt 15 rfl) rfl ?_
        have L166 : ∀ (n166 : Nat) (V : am_H), 0 < n166 → V = (am_setN (am_setN (am_setN (am_setN (am_setN (am_setN (am_setN (am_setR (am_setR (am_setN σ 44 7 1) 44 8 (some (15))) 44 9 (some (37))) 44 0 (bgN H 0)) 44 1 (bgN H 1)) 44 2 (bgN H 2)) 45 13 (bgN H 1)) 45 14 (bgN H 0)) 45 7 (fzM (bgS H))) 45 16 (ffM (bgS H))) → am_wp M_X0_lookAt Q 0 0 166 [(0, am_r 44), (1, am_r 15), (2, am_r 37)] [] V := by
          intro n166
          induction n166 with
          | zero => intro V hn166; exact absurd hn166 (Nat.not_lt_zero _)
          | succ n166 ih166 =>
            intro V hn166 hV
            have hLV : lay V := by rw [hV]; exact lay_R (lay_R hL (by decide)) (by decide)
            refine am_aload_n (q := 167) rfl (am_tab tk_X0_lookAt 90 rfl) rfl ?_
            refine am_getR (q := 170) (a := 44) (k := 0) (n := 14) (j := 12) (r := some (47)) (Ls_44 hLV) (by decide) rfl (Lr_44_12 hLV) (by decide) (Or.inl kf_X0_18) (am_tab tk_X0_lookAt 91 rfl) rfl ?_
            refine am_iconst (q := 171) (n := 0) (by decide) (am_tab tk_X0_lookAt 92 rfl) rfl ?_
            refine am_callS0 (q := 174) (me2 := M_J7_fill_53178) (As := [am_r 47, am_i 0]) (rest := []) (out := []) (c_fill V 47 8 0 (Ls_47 hLV) (by decide)) ⟨rfl, rfl⟩ ⟨Or.inl km_X0_65, kc_J7_fill_53178, kn_J7, kd_J7_fill_53178, ⟨(Nat.le_of_ble_eq_true rfl), (Nat.le_of_ble_eq_true rfl)⟩, ⟨(Nat.le_of_ble_eq_true rfl), (Nat.le_of_ble_eq_true rfl)⟩, (Nat.le_of_ble_eq_true rfl)⟩ ki_J7_fill_53178 rfl rfl (am_tab tk_X0_lookAt 93 rfl) rfl ?_
            refine am_aload_n (q := 175) rfl (am_tab tk_X0_lookAt 94 rfl) rfl ?_
            refine am_getR (q := 178) (a := 44) (k := 0) (n := 14) (j := 13) (r := some (48)) (Ls_44 hLV) (by decide) rfl (Lr_44_13 hLV) (by decide) (Or.inl kf_X0_21) (am_tab tk_X0_lookAt 95 rfl) rfl ?_
            refine am_iconst (q := 179) (n := 0) (by decide) (am_tab tk_X0_lookAt 96 rfl) rfl ?_
            refine am_callS0 (q := 182) (me2 := M_J7_fill_53178) (As := [am_r 48, am_i 0]) (rest := []) (out := []) (c_fill (am_setA V 47 (fun k => if k < 8 then 0 else V.2.1 47 k)) 48 8 0 (Ls_48 hLV) (by decide)) ⟨rfl, rfl⟩ ⟨Or.inl km_X0_65, kc_J7_fill_53178, kn_J7, kd_J7_fill_53178, ⟨(Nat.le_of_ble_eq_true rfl), (Nat.le_of_ble_eq_true rfl)⟩, ⟨(Nat.le_of_ble_eq_true rfl), (Nat.le_of_ble_eq_true rfl)⟩, (Nat.le_of_ble_eq_true rfl)⟩ ki_J7_fill_53178 rfl rfl (am_tab tk_X0_lookAt 97 rfl) rfl ?_
            have hLV : lay V := by rw [hV]; exact lay_R (lay_R hL (by decide)) (by decide)
            have hFV : frw W_da (am_setR (am_setR σ 44 8 (some 15)) 44 9 (some 37)) V := by rw [hV]; exact (((((((((frw.refl W_da (am_setR (am_setR σ 44 8 (some 15)) 44 9 (some 37))).setN (by unfold W_da; omega)).setN (by unfold W_da; omega)).setN (by unfold W_da; omega)).setN (by unfold W_da; omega)).setN (by unfold W_da; omega)).setN (by unfold W_da; omega)).setN (by unfold W_da; omega)).setN (by unfold W_da; omega))
            have hTB : TWr 15 (am_setR (am_setR σ 44 8 (some 15)) 44 9 (some 37)) H := ⟨hT.1, hT.2.1, hT.2.2.1, hT.2.2.2.1, hT.2.2.2.2.1, hT.2.2.2.2.2.1, hT.2.2.2.2.2.2.1, hT.thinks, hT.hears⟩
            have hTV : TWr 15 (am_setA (am_setA V 47 (fun k => if k < 8 then 0 else V.2.1 47 k)) 48 (fun k => if k < 8 then 0 else (am_setA V 47 (fun k => if k < 8 then 0 else V.2.1 47 k)).2.1 48 k)) H := hTB.fr (W := W_da) (hFV.trans (((frw.refl W_da V).setA (by unfold W_da; omega)).setA (by unfold W_da; omega))) (by unfold W_da; omega)
            refine am_aload_n (q := 183) rfl (am_tab tk_X0_lookAt 98 rfl) rfl ?_
            refine am_aload_n (q := 184) rfl (am_tab tk_X0_lookAt 99 rfl) rfl ?_
            refine am_callV0 (q := 187) (me2 := M_X8_everybody) (b := 15) (kb := 8) (nb := 17) (As := []) (rest := [am_r 44]) (out := [am_i (mkS (fun _ => true) (pN H)), am_r 44]) (c_everybody_15 (am_setA (am_setA V 47 (fun k => if k < 8 then 0 else V.2.1 47 k)) 48 (fun k => if k < 8 then 0 else (am_setA V 47 (fun k => if k < 8 then 0 else V.2.1 47 k)).2.1 48 k)) H hLV hG hTV) ⟨rfl, rfl⟩ (Ls_15 hLV) (by decide) ⟨Or.inr km_X0_71, kc_X8_everybody, kn_X8, kd_X8_everybody, ⟨(Nat.le_of_ble_eq_true rfl), (Nat.le_of_ble_eq_true rfl)⟩, ⟨(Nat.le_of_ble_eq_true rfl), (Nat.le_of_ble_eq_true rfl)⟩, (Nat.le_of_ble_eq_true rfl)⟩ ki_X8_everybody ks_X8_everybody rfl rfl (am_tab tk_X0_lookAt 100 rfl) rfl ?_
            refine am_aload_n (q := 188) rfl (am_tab tk_X0_lookAt 101 rfl) rfl ?_
            refine am_getI (q := 191) (a := 37) (k := 1) (n := 11) (j := 4) (x := (σ.2.1 37 4)) (Ls_37 hLV) (by decide) rfl (by rw [hV]; rfl) (by decide) (Or.inr kf_X0_75) (am_tab tk_X0_lookAt 102 rfl) rfl ?_
            refine am_iconst (q := 192) (n := (-1)) (by decide) (am_tab tk_X0_lookAt 103 rfl) rfl ?_
            refine am_ixor (q := 193) (am_tab tk_X0_lookAt 104 rfl) rfl ?_
            refine am_iand (q := 194) (am_tab tk_X0_lookAt 105 rfl) rfl ?_
            refine am_aload_n (q := 195) rfl (am_tab tk_X0_lookAt 106 rfl) rfl ?_
            refine am_getR (q := 198) (a := 37) (k := 1) (n := 11) (j := 7) (r := some (40)) (Ls_37 hLV) (by decide) rfl (Lr_37_7 hLV) (by decide) (Or.inr kf_X0_78) (am_tab tk_X0_lookAt 107 rfl) rfl ?_
            refine am_aload_n (q := 199) rfl (am_tab tk_X0_lookAt 108 rfl) rfl ?_
            refine am_getI (q := 202) (a := 44) (k := 0) (n := 14) (j := 1) (x := (bgN H 1)) (Ls_44 hLV) (by decide) rfl (by rw [hV]; rfl) (by decide) (Or.inl kf_X0_55) (am_tab tk_X0_lookAt 109 rfl) rfl ?_
            refine am_iald (q := 203) (a := 40) (n := 91) (x := (bsD H)) (Ls_40 hLV) (by omega) (by omega) (by rw [hV]; exact hbs) (am_tab tk_X0_lookAt 110 rfl) rfl ?_
            refine am_iconst (q := 204) (n := (-1)) (by decide) (am_tab tk_X0_lookAt 111 rfl) rfl ?_
            refine am_ixor (q := 205) (am_tab tk_X0_lookAt 112 rfl) rfl ?_
            refine am_iand (q := 206) (am_tab tk_X0_lookAt 113 rfl) rfl ?_
            refine am_putI (q := 209) (k := 0) (n := 14) (j := 3) (Ls_44 hLV) (by decide) rfl (by decide) (Or.inl ⟨kf_X0_81, rfl⟩) (am_tab tk_X0_lookAt 114 rfl) rfl ?_
            have hF3 : frw W_da (am_setR (am_setR σ 44 8 (some 15)) 44 9 (some 37)) (am_setN (am_setA (am_setA V 47 (fun k => if k < 8 then 0 else V.2.1 47 k)) 48 (fun k => if k < 8 then 0 else (am_setA V 47 (fun k => if k < 8 then 0 else V.2.1 47 k)).2.1 48 k)) 44 3 (awS σ H 37)) := (hFV.trans (((frw.refl W_da V).setA (by unfold W_da; omega)).setA (by unfold W_da; omega))).setN (by unfold W_da; omega)
            have hD3 : DWr 15 37 (am_setN (am_setA (am_setA V 47 (fun k => if k < 8 then 0 else V.2.1 47 k)) 48 (fun k => if k < 8 then 0 else (am_setA V 47 (fun k => if k < 8 then 0 else V.2.1 47 k)).2.1 48 k)) 44 3 (awS σ H 37)) (bgS H) := ⟨⟨by rw [hV]; rfl, by rw [hV]; rfl⟩, by rw [hV]; rfl, ⟨by rw [hV]; rfl, by rw [hV]; rfl, by rw [hV]; rfl, by rw [hV]; rfl⟩, (hTB.fr (W := W_da) hF3 (by unfold W_da; omega)).H (fun a j _ h => by show (if a = 96 then bgN H j else H.2.1 a j) = _; rw [if_neg (by omega)]), fun p hp => by rw [hF3.2.2 38 p (by unfold W_da; omega)]; exact (hF.2.2.2.1 p hp).trans (bgN_far (by omega)).symm, fun d hd => by rw [hF3.2.2 39 d (by unfold W_da; omega)]; exact (hF.2.2.2.2.1 d hd).trans (bgN_far (by omega)).symm⟩
            have hM3 : MEM (am_setN (am_setA (am_setA V 47 (fun k => if k < 8 then 0 else V.2.1 47 k)) 48 (fun k => if k < 8 then 0 else (am_setA V 47 (fun k => if k < 8 then 0 else V.2.1 47 k)).2.1 48 k)) 44 3 (awS σ H 37)) (bgS H) := by
              intro p hp
              have e7 : (am_setN (am_setA (am_setA V 47 (fun k => if k < 8 then 0 else V.2.1 47 k)) 48 (fun k => if k < 8 then 0 else (am_setA V 47 (fun k => if k < 8 then 0 else V.2.1 47 k)).2.1 48 k)) 44 3 (awS σ H 37)).2.1 47 p = 0 := if_pos hp
              have e8 : (am_setN (am_setA (am_setA V 47 (fun k => if k < 8 then 0 else V.2.1 47 k)) 48 (fun k => if k < 8 then 0 else (am_setA V 47 (fun k => if k < 8 then 0 else V.2.1 47 k)).2.1 48 k)) 44 3 (awS σ H 37)).2.1 48 p = 0 := if_pos hp
              rw [e7, e8]
              refine ⟨by decide, by decide, fun q _ => ?_⟩
              have h2 : tb 0 (q : Int) = 0 := by unfold tb; simp
              rw [h2, if_neg (by decide)]
            refine am_aload_n (q := 210) rfl (am_tab tk_X0_lookAt 115 rfl) rfl ?_
            refine am_aload_n (q := 211) rfl (am_tab tk_X0_lookAt 116 rfl) rfl ?_
            refine am_aload_n (q := 212) rfl (am_tab tk_X0_lookAt 117 rfl) rfl ?_
            refine am_getI (q := 215) (a := 44) (k := 0) (n := 14) (j := 3) (x := (ao_and (ao_and (mkS (fun _ => true) (pN H)) (ao_xor (σ.2.1 37 4) (-1))) (ao_xor (bsD H) (-1)))) (Ls_44 hLV) (by decide) rfl rfl (by decide) (Or.inl kf_X0_81) (am_tab tk_X0_lookAt 118 rfl) rfl ?_
            refine am_aload_n (q := 216) rfl (am_tab tk_X0_lookAt 119 rfl) rfl ?_
            refine am_getR (q := 219) (a := 37) (k := 1) (n := 11) (j := 6) (r := some (39)) (Ls_37 hLV) (by decide) rfl (Lr_37_6 hLV) (by decide) (Or.inr kf_X0_84) (am_tab tk_X0_lookAt 120 rfl) rfl ?_
            refine am_aload_n (q := 220) rfl (am_tab tk_X0_lookAt 121 rfl) rfl ?_
            refine am_getI (q := 223) (a := 44) (k := 0) (n := 14) (j := 1) (x := (bgN H 1)) (Ls_44 hLV) (by decide) rfl (by rw [hV]; rfl) (by decide) (Or.inl kf_X0_55) (am_tab tk_X0_lookAt 122 rfl) rfl ?_
            refine am_iald (q := 224) (a := 39) (n := 91) (x := (tsD H)) (Ls_39 hLV) (by omega) (by omega) (by rw [hV]; exact hts) (am_tab tk_X0_lookAt 123 rfl) rfl ?_
            refine am_callVr (q := 227) (me2 := M_X0_ofThemselves) (b := 44) (kb := 0) (nb := 14) (As := [am_i ((ao_and (ao_and (mkS (fun _ => true) (pN H)) (ao_xor (σ.2.1 37 4) (-1))) (ao_xor (bsD H) (-1)))), am_i ((tsD H))]) (rest := [am_r 44]) (c_ofThemselves_15_37 (am_setN (am_setA (am_setA V 47 (fun k => if k < 8 then 0 else V.2.1 47 k)) 48 (fun k => if k < 8 then 0 else (am_setA V 47 (fun k => if k < 8 then 0 else V.2.1 47 k)).2.1 48 k)) 44 3 (awS σ H 37)) (bgS H) hLV hGB hD3 (awS σ H 37) (tsD H) haw.1 (tsD_rng hG.R hc) (fun q hq h => by rw [haw.2 q hq] at h; by_cases h5 : q < pN H; exact h5; rw [if_neg (fun z => h5 z.1)] at h; exact absurd h (by decide))) ⟨rfl, rfl⟩ (Ls_44 hLV) (by decide) ⟨Or.inl km_X0_87, kc_X0_ofThemselves, kn_X0, kd_X0_ofThemselves, ⟨(Nat.le_of_ble_eq_true rfl), (Nat.le_of_ble_eq_true rfl)⟩, ⟨(Nat.le_of_ble_eq_true rfl), (Nat.le_of_ble_eq_true rfl)⟩, (Nat.le_of_ble_eq_true rfl)⟩ ki_X0_ofThemselves ks_X0_ofThemselves rfl (am_tab tk_X0_lookAt 124 rfl) rfl ?_
            rintro r T1 ⟨hr, hF1⟩
            rw [sel_ow h8 haw.2] at hr
            subst hr
            have hL1 : lay T1 := hF1.L hLV
            have hAT1 : T1.2.1 44 3 = (awS σ H 37) := hF1.2.2 44 3 (by unfold W_ow; omega)
            have hBT1 : T1.2.1 44 2 = bgN H 2 := (hF1.2.2 44 2 (by unfold W_ow; omega)).trans (by rw [hV]; rfl)
            refine am_st (st2 := [am_i (sfD H), am_r 44]) rfl ?_
            refine am_putI (q := 230) (k := 0) (n := 14) (j := 4) (Ls_44 hL1) (by decide) rfl (by decide) (Or.inl ⟨kf_X0_91, rfl⟩) (am_tab tk_X0_lookAt 125 rfl) rfl ?_
            have hFp : frw W_da (am_setN (am_setA (am_setA V 47 (fun k => if k < 8 then 0 else V.2.1 47 k)) 48 (fun k => if k < 8 then 0 else (am_setA V 47 (fun k => if k < 8 then 0 else V.2.1 47 k)).2.1 48 k)) 44 3 (awS σ H 37)) (am_setN T1 44 4 (sfD H)) := (hF1.mono (fun _ _ h => by unfold W_ow at h; unfold W_da; omega)).setN (by unfold W_da; omega)
            have hD4 : DWr 15 37 (am_setN T1 44 4 (sfD H)) (bgS H) := (hD3.fr (W_ow_d hF1) (by decide) (by decide)).set4 (by decide)
            have hM4 : MEM (am_setN T1 44 4 (sfD H)) (bgS H) := (hM3.fr hF1 (by unfold W_ow; omega)).set4
            refine am_aload_n (q := 231) rfl (am_tab tk_X0_lookAt 126 rfl) rfl ?_
            refine am_aload_n (q := 232) rfl (am_tab tk_X0_lookAt 127 rfl) rfl ?_
            refine am_aload_n (q := 233) rfl (am_tab tk_X0_lookAt 128 rfl) rfl ?_
            refine am_getI (q := 236) (a := 44) (k := 0) (n := 14) (j := 4) (x := sfD H) (Ls_44 hL1) (by decide) rfl rfl (by decide) (Or.inl kf_X0_91) (am_tab tk_X0_lookAt 129 rfl) rfl ?_
            refine am_aload_n (q := 237) rfl (am_tab tk_X0_lookAt 130 rfl) rfl ?_
            refine am_getI (q := 240) (a := 44) (k := 0) (n := 14) (j := 3) (x := (awS σ H 37)) (Ls_44 hL1) (by decide) rfl hAT1 (by decide) (Or.inl kf_X0_81) (am_tab tk_X0_lookAt 131 rfl) rfl ?_
            refine am_callVr (q := 243) (me2 := M_X0_spread) (b := 44) (kb := 0) (nb := 14) (As := [am_i (sfD H), am_i ((awS σ H 37))]) (rest := [am_r 44]) (c_spread_15_37 (am_setN T1 44 4 (sfD H)) (bgS H) hL1 hGB hD4 (sfD H) (awS σ H 37) (bsD H) (sfD_rng hG hc) haw.1 (fun p hp => by rw [haw.2 p (show p < 8 by have h5 : p < pN H := hp; omega), show (bgS H).2.1 96 (12 + p) = H.2.1 96 (12 + p) from bgN_far (by omega)]; have h5 : p < pN H := hp; by_cases h6 : ¬ H.2.1 96 (12 + p) = 1 ∧ ¬ tb (bsD H) p = 1; rw [if_pos ⟨h5, h6⟩]; exact ⟨fun _ => h6, fun _ => rfl⟩; rw [if_neg (fun z => h6 z.2)]; exact ⟨fun h => absurd h (by decide), fun h => absurd h h6⟩) hM4) ⟨rfl, rfl⟩ (Ls_44 hL1) (by decide) ⟨Or.inl km_X0_93, kc_X0_spread, kn_X0, kd_X0_spread, ⟨(Nat.le_of_ble_eq_true rfl), (Nat.le_of_ble_eq_true rfl)⟩, ⟨(Nat.le_of_ble_eq_true rfl), (Nat.le_of_ble_eq_true rfl)⟩, (Nat.le_of_ble_eq_true rfl)⟩ ki_X0_spread ks_X0_spread rfl (am_tab tk_X0_lookAt 132 rfl) rfl ?_
            rintro r T2 ⟨hr, hM2, hF2⟩
            have hr2 : r = some (am_i (thD H)) := hr
            subst hr2
            have hL2 : lay T2 := hF2.L hL1
            have hBT2 : T2.2.1 44 2 = bgN H 2 := (hF2.2.2 44 2 (by unfold W_dw; omega)).trans hBT1
            refine am_st (st2 := [am_i (thD H), am_r 44]) rfl ?_
            refine am_putI (q := 246) (k := 0) (n := 14) (j := 5) (Ls_44 hL2) (by decide) rfl (by decide) (Or.inl ⟨kf_X0_96, rfl⟩) (am_tab tk_X0_lookAt 133 rfl) rfl ?_
            refine am_aload_n (q := 247) rfl (am_tab tk_X0_lookAt 134 rfl) rfl ?_
            refine am_aload_n (q := 248) rfl (am_tab tk_X0_lookAt 135 rfl) rfl ?_
            refine am_getI (q := 251) (a := 44) (k := 0) (n := 14) (j := 2) (x := (bgN H 2)) (Ls_44 hL2) (by decide) rfl hBT2 (by decide) (Or.inl kf_X0_59) (am_tab tk_X0_lookAt 136 rfl) rfl ?_
            refine am_if_ne (q := 254) (t := 265) (am_tab tk_X0_lookAt 137 rfl) (by decide) rfl (fun h251 => ?_) (fun h251 => ?_)
            · refine am_iconst (q := 266) (n := 0) (by decide) (am_tab tk_X0_lookAt 143 rfl) rfl ?_
              refine am_putZ (q := 269) (k := 0) (n := 14) (j := 6) (Ls_44 hL2) (by decide) rfl (by first | exact Or.inl rfl | exact Or.inr rfl | omega) (by decide) (Or.inl ⟨kf_X0_99, rfl⟩) (am_tab tk_X0_lookAt 144 rfl) rfl ?_
              refine am_iconst (q := 270) (n := 1) (by decide) (am_tab tk_X0_lookAt 145 rfl) rfl ?_
              refine am_iret (Or.inr ⟨rfl, by first | exact Or.inl rfl | exact Or.inr rfl | omega⟩) (Nat.le_of_ble_eq_true rfl) (Nat.le_of_ble_eq_true rfl) (am_tab tk_X0_lookAt 146 rfl) ?_
              refine hQ _ _ ?_
              rw [if_pos cm]
              have hfs : fsD H = 0 := by
                unfold fsD
                rw [if_neg (by omega)]
              have hFz : frw W_da (am_setR (am_setR σ 44 8 (some 15)) 44 9 (some 37)) (am_setN (am_setN T2 44 5 (thD H)) 44 6 0) := hF3.trans (hFp.trans (((hF2.mono (fun _ _ h => by unfold W_dw at h; unfold W_da; omega)).setN (by unfold W_da; omega)).setN (by unfold W_da; omega)))
              refine ⟨rfl, ⟨((hD4.fr hF2 (by decide) (by decide)).set4 (by decide)).set4 (by decide), hM2.set4.set4, ⟨?_, ?_, ?_, ?_⟩, ?_, rfl, hfs.symm, ?_⟩, hFz⟩
              · show T2.2.1 44 0 = _; rw [hF2.2.2 44 0 (by unfold W_dw; omega)]; show T1.2.1 44 0 = _; rw [hF1.2.2 44 0 (by unfold W_ow; omega), hV]; rfl
              · show T2.2.1 44 1 = _; rw [hF2.2.2 44 1 (by unfold W_dw; omega)]; show T1.2.1 44 1 = _; rw [hF1.2.2 44 1 (by unfold W_ow; omega), hV]; rfl
              · show T2.2.1 44 2 = _; rw [hF2.2.2 44 2 (by unfold W_dw; omega)]; show T1.2.1 44 2 = _; rw [hF1.2.2 44 2 (by unfold W_ow; omega), hV]; rfl
              · show T2.2.1 44 3 = _; rw [hF2.2.2 44 3 (by unfold W_dw; omega)]; exact hAT1
              · show T2.2.1 44 4 = _; rw [hF2.2.2 44 4 (by unfold W_dw; omega)]; rfl
              · show T2.2.1 44 7 = _; rw [hF2.2.2 44 7 (by unfold W_dw; omega)]; show T1.2.1 44 7 = _; rw [hF1.2.2 44 7 (by unfold W_ow; omega), hV]; rfl
            · refine am_aload_n (q := 255) rfl (am_tab tk_X0_lookAt 138 rfl) rfl ?_
              refine am_getI (q := 258) (a := 44) (k := 0) (n := 14) (j := 5) (x := thD H) (Ls_44 hL2) (by decide) rfl rfl (by decide) (Or.inl kf_X0_96) (am_tab tk_X0_lookAt 139 rfl) rfl ?_
              refine am_if_ne (q := 261) (t := 265) (am_tab tk_X0_lookAt 140 rfl) (by decide) rfl (fun h258 => ?_) (fun h258 => ?_)
              · refine am_iconst (q := 266) (n := 0) (by decide) (am_tab tk_X0_lookAt 143 rfl) rfl ?_
                refine am_putZ (q := 269) (k := 0) (n := 14) (j := 6) (Ls_44 hL2) (by decide) rfl (by first | exact Or.inl rfl | exact Or.inr rfl | omega) (by decide) (Or.inl ⟨kf_X0_99, rfl⟩) (am_tab tk_X0_lookAt 144 rfl) rfl ?_
                refine am_iconst (q := 270) (n := 1) (by decide) (am_tab tk_X0_lookAt 145 rfl) rfl ?_
                refine am_iret (Or.inr ⟨rfl, by first | exact Or.inl rfl | exact Or.inr rfl | omega⟩) (Nat.le_of_ble_eq_true rfl) (Nat.le_of_ble_eq_true rfl) (am_tab tk_X0_lookAt 146 rfl) ?_
                refine hQ _ _ ?_
                rw [if_pos cm]
                have hfs : fsD H = 0 := by
                  unfold fsD
                  rw [if_neg (by omega)]
                have hFz : frw W_da (am_setR (am_setR σ 44 8 (some 15)) 44 9 (some 37)) (am_setN (am_setN T2 44 5 (thD H)) 44 6 0) := hF3.trans (hFp.trans (((hF2.mono (fun _ _ h => by unfold W_dw at h; unfold W_da; omega)).setN (by unfold W_da; omega)).setN (by unfold W_da; omega)))
                refine ⟨rfl, ⟨((hD4.fr hF2 (by decide) (by decide)).set4 (by decide)).set4 (by decide), hM2.set4.set4, ⟨?_, ?_, ?_, ?_⟩, ?_, rfl, hfs.symm, ?_⟩, hFz⟩
                · show T2.2.1 44 0 = _; rw [hF2.2.2 44 0 (by unfold W_dw; omega)]; show T1.2.1 44 0 = _; rw [hF1.2.2 44 0 (by unfold W_ow; omega), hV]; rfl
                · show T2.2.1 44 1 = _; rw [hF2.2.2 44 1 (by unfold W_dw; omega)]; show T1.2.1 44 1 = _; rw [hF1.2.2 44 1 (by unfold W_ow; omega), hV]; rfl
                · show T2.2.1 44 2 = _; rw [hF2.2.2 44 2 (by unfold W_dw; omega)]; show T1.2.1 44 2 = _; rw [hF1.2.2 44 2 (by unfold W_ow; omega), hV]; rfl
                · show T2.2.1 44 3 = _; rw [hF2.2.2 44 3 (by unfold W_dw; omega)]; exact hAT1
                · show T2.2.1 44 4 = _; rw [hF2.2.2 44 4 (by unfold W_dw; omega)]; rfl
                · show T2.2.1 44 7 = _; rw [hF2.2.2 44 7 (by unfold W_dw; omega)]; show T1.2.1 44 7 = _; rw [hF1.2.2 44 7 (by unfold W_ow; omega), hV]; rfl
              · refine am_iconst (q := 262) (n := 1) (by decide) (am_tab tk_X0_lookAt 141 rfl) rfl ?_
                refine am_goto (t := 266) (am_tab tk_X0_lookAt 142 rfl) (by decide) ?_
                refine am_putZ (q := 269) (k := 0) (n := 14) (j := 6) (Ls_44 hL2) (by decide) rfl (by first | exact Or.inl rfl | exact Or.inr rfl | omega) (by decide) (Or.inl ⟨kf_X0_99, rfl⟩) (am_tab tk_X0_lookAt 144 rfl) rfl ?_
                refine am_iconst (q := 270) (n := 1) (by decide) (am_tab tk_X0_lookAt 145 rfl) rfl ?_
                refine am_iret (Or.inr ⟨rfl, by first | exact Or.inl rfl | exact Or.inr rfl | omega⟩) (Nat.le_of_ble_eq_true rfl) (Nat.le_of_ble_eq_true rfl) (am_tab tk_X0_lookAt 146 rfl) ?_
                refine hQ _ _ ?_
                rw [if_pos cm]
                have hfs : fsD H = 1 := by
                  unfold fsD
                  rw [if_pos ⟨by omega, by omega⟩]
                have hFz : frw W_da (am_setR (am_setR σ 44 8 (some 15)) 44 9 (some 37)) (am_setN (am_setN T2 44 5 (thD H)) 44 6 1) := hF3.trans (hFp.trans (((hF2.mono (fun _ _ h => by unfold W_dw at h; unfold W_da; omega)).setN (by unfold W_da; omega)).setN (by unfold W_da; omega)))
                refine ⟨rfl, ⟨((hD4.fr hF2 (by decide) (by decide)).set4 (by decide)).set4 (by decide), hM2.set4.set4, ⟨?_, ?_, ?_, ?_⟩, ?_, rfl, hfs.symm, ?_⟩, hFz⟩
                · show T2.2.1 44 0 = _; rw [hF2.2.2 44 0 (by unfold W_dw; omega)]; show T1.2.1 44 0 = _; rw [hF1.2.2 44 0 (by unfold W_ow; omega), hV]; rfl
                · show T2.2.1 44 1 = _; rw [hF2.2.2 44 1 (by unfold W_dw; omega)]; show T1.2.1 44 1 = _; rw [hF1.2.2 44 1 (by unfold W_ow; omega), hV]; rfl
                · show T2.2.1 44 2 = _; rw [hF2.2.2 44 2 (by unfold W_dw; omega)]; show T1.2.1 44 2 = _; rw [hF1.2.2 44 2 (by unfold W_ow; omega), hV]; rfl
                · show T2.2.1 44 3 = _; rw [hF2.2.2 44 3 (by unfold W_dw; omega)]; exact hAT1
                · show T2.2.1 44 4 = _; rw [hF2.2.2 44 4 (by unfold W_dw; omega)]; rfl
                · show T2.2.1 44 7 = _; rw [hF2.2.2 44 7 (by unfold W_dw; omega)]; show T1.2.1 44 7 = _; rw [hF1.2.2 44 7 (by unfold W_ow; omega), hV]; rfl
        refine am_aload_n (q := 29) rfl (am_tab tk_X0_lookAt 16 rfl) rfl ?_
        refine am_putR (q := 32) (k := 0) (n := 14) (j := 8) (Ls_44 hL) (by decide) rfl (by decide) (Or.inl ⟨kf_X0_24, rfl⟩) (am_tab tk_X0_lookAt 17 rfl) rfl ?_
        have hLa : lay (am_setR (am_setN σ 44 7 1) 44 8 (some (15))) := lay_R hL (by decide)
        refine am_aload_n (q := 33) rfl (am_tab tk_X0_lookAt 18 rfl) rfl ?_
        refine am_aload_n (q := 34) rfl (am_tab tk_X0_lookAt 19 rfl) rfl ?_
        refine am_putR (q := 37) (k := 0) (n := 14) (j := 9) (Ls_44 hLa) (by decide) rfl (by decide) (Or.inl ⟨kf_X0_28, rfl⟩) (am_tab tk_X0_lookAt 20 rfl) rfl ?_
        by_cases ny : H.2.1 96 1 + 1 ≤ H.2.1 85 9
        · have hLb : lay (am_setR (am_setR (am_setN σ 44 7 1) 44 8 (some (15))) 44 9 (some (37))) := lay_R hLa (by decide)
          refine am_aload_n (q := 38) rfl (am_tab tk_X0_lookAt 21 rfl) rfl ?_
          refine am_getI (q := 41) (a := 37) (k := 1) (n := 11) (j := 1) (x := (H.2.1 96 1)) (Ls_37 hLb) (by decide) rfl hF.1.2.1 (by decide) (Or.inr kf_X0_42) (am_tab tk_X0_lookAt 22 rfl) rfl ?_
          refine am_aload_n (q := 42) rfl (am_tab tk_X0_lookAt 23 rfl) rfl ?_
          refine am_getI (q := 45) (a := 15) (k := 8) (n := 17) (j := 0) (x := (H.2.1 85 9)) (Ls_15 hLb) (by decide) rfl hT.days (by decide) (Or.inr kf_X0_46) (am_tab tk_X0_lookAt 24 rfl) rfl ?_
          refine am_icmp_lt (q := 48) (t := 52) (am_tab tk_X0_lookAt 25 rfl) (by decide) rfl (fun h45 => ?_) (fun h45 => ?_)
          · refine am_iconst (q := 53) (n := 0) (by decide) (am_tab tk_X0_lookAt 28 rfl) rfl ?_
            refine am_istore_n (q := 54) (by decide) (ls2 := [(3, am_i 0), (0, am_r 44), (1, am_r 15), (2, am_r 37)]) rfl (am_tab tk_X0_lookAt 29 rfl) rfl ?_
            have b0 : bgN H 0 = H.2.1 96 0 := by unfold bgN; rw [if_pos ny]; rfl
            have b1 : bgN H 1 = H.2.1 96 1 + 1 := by unfold bgN; rw [if_pos ny]; rfl
            have b2 : bgN H 2 = H.2.1 96 2 := by unfold bgN; rw [if_pos ny]; rfl
            refine am_aload_n (q := 55) rfl (am_tab tk_X0_lookAt 30 rfl) rfl ?_
            refine am_iload_n (q := 56) rfl (am_tab tk_X0_lookAt 31 rfl) rfl ?_
            refine am_if_eq (q := 59) (t := 68) (am_tab tk_X0_lookAt 32 rfl) (by decide) rfl (fun h56 => ?_) (fun h56 => ?_)
            · refine am_aload_n (q := 69) rfl (am_tab tk_X0_lookAt 38 rfl) rfl ?_
              refine am_getI (q := 72) (a := 37) (k := 1) (n := 11) (j := 0) (x := (H.2.1 96 0)) (Ls_37 hLb) (by decide) rfl hF.1.1 (by decide) (Or.inr kf_X0_51) (am_tab tk_X0_lookAt 39 rfl) rfl ?_
              refine am_putI (q := 75) (k := 0) (n := 14) (j := 0) (Ls_44 hLb) (by decide) rfl (by decide) (Or.inl ⟨kf_X0_54, rfl⟩) (am_tab tk_X0_lookAt 40 rfl) rfl ?_
              refine am_aload_n (q := 76) rfl (am_tab tk_X0_lookAt 41 rfl) rfl ?_
              refine am_iload_n (q := 77) rfl (am_tab tk_X0_lookAt 42 rfl) rfl ?_
              refine am_if_eq (q := 80) (t := 84) (am_tab tk_X0_lookAt 43 rfl) (by decide) rfl (fun h77 => ?_) (fun h77 => ?_)
              · refine am_aload_n (q := 85) rfl (am_tab tk_X0_lookAt 46 rfl) rfl ?_
                refine am_getI (q := 88) (a := 37) (k := 1) (n := 11) (j := 1) (x := (H.2.1 96 1)) (Ls_37 hLb) (by decide) rfl hF.1.2.1 (by decide) (Or.inr kf_X0_42) (am_tab tk_X0_lookAt 47 rfl) rfl ?_
                refine am_iconst (q := 89) (n := 1) (by decide) (am_tab tk_X0_lookAt 48 rfl) rfl ?_
                refine am_iadd (q := 90) (by omega) (am_tab tk_X0_lookAt 49 rfl) rfl ?_
                refine am_putI (q := 93) (k := 0) (n := 14) (j := 1) (Ls_44 hLb) (by decide) rfl (by decide) (Or.inl ⟨kf_X0_55, rfl⟩) (am_tab tk_X0_lookAt 50 rfl) rfl ?_
                refine am_aload_n (q := 94) rfl (am_tab tk_X0_lookAt 51 rfl) rfl ?_
                refine am_iload_n (q := 95) rfl (am_tab tk_X0_lookAt 52 rfl) rfl ?_
                refine am_if_eq (q := 98) (t := 102) (am_tab tk_X0_lookAt 53 rfl) (by decide) rfl (fun h95 => ?_) (fun h95 => ?_)
                · refine am_aload_n (q := 103) rfl (am_tab tk_X0_lookAt 56 rfl) rfl ?_
                  refine am_getI (q := 106) (a := 37) (k := 1) (n := 11) (j := 2) (x := (H.2.1 96 2)) (Ls_37 hLb) (by decide) rfl hF.1.2.2.1 (by decide) (Or.inr kf_X0_56) (am_tab tk_X0_lookAt 57 rfl) rfl ?_
                  refine am_putI (q := 109) (k := 0) (n := 14) (j := 2) (Ls_44 hLb) (by decide) rfl (by decide) (Or.inl ⟨kf_X0_59, rfl⟩) (am_tab tk_X0_lookAt 58 rfl) rfl ?_
                  refine am_aload_n (q := 110) rfl (am_tab tk_X0_lookAt 59 rfl) rfl ?_
                  refine am_getR (q := 113) (a := 44) (k := 0) (n := 14) (j := 10) (r := some (45)) (Ls_44 hLb) (by decide) rfl (Lr_44_10 hLb) (by decide) (Or.inl kf_X0_9) (am_tab tk_X0_lookAt 60 rfl) rfl ?_
                  refine am_bipush (q := 115) (n := 13) (by decide) rfl (am_tab tk_X0_lookAt 61 rfl) rfl ?_
                  refine am_aload_n (q := 116) rfl (am_tab tk_X0_lookAt 62 rfl) rfl ?_
                  refine am_getI (q := 119) (a := 44) (k := 0) (n := 14) (j := 1) (x := ((H.2.1 96 1) + 1)) (Ls_44 hLb) (by decide) rfl rfl (by decide) (Or.inl kf_X0_55) (am_tab tk_X0_lookAt 63 rfl) rfl ?_
                  refine am_iast (q := 120) (a := 45) (n := 34) (Ls_45 hLb) (by omega) (by omega) (am_tab tk_X0_lookAt 64 rfl) rfl ?_
                  refine am_aload_n (q := 121) rfl (am_tab tk_X0_lookAt 65 rfl) rfl ?_
                  refine am_getR (q := 124) (a := 44) (k := 0) (n := 14) (j := 10) (r := some (45)) (Ls_44 hLb) (by decide) rfl (Lr_44_10 hLb) (by decide) (Or.inl kf_X0_9) (am_tab tk_X0_lookAt 66 rfl) rfl ?_
                  refine am_bipush (q := 126) (n := 14) (by decide) rfl (am_tab tk_X0_lookAt 67 rfl) rfl ?_
                  refine am_aload_n (q := 127) rfl (am_tab tk_X0_lookAt 68 rfl) rfl ?_
                  refine am_getI (q := 130) (a := 44) (k := 0) (n := 14) (j := 0) (x := (H.2.1 96 0)) (Ls_44 hLb) (by decide) rfl rfl (by decide) (Or.inl kf_X0_54) (am_tab tk_X0_lookAt 69 rfl) rfl ?_
                  refine am_iast (q := 131) (a := 45) (n := 34) (Ls_45 hLb) (by omega) (by omega) (am_tab tk_X0_lookAt 70 rfl) rfl ?_
                  refine am_aload_n (q := 132) rfl (am_tab tk_X0_lookAt 71 rfl) rfl ?_
                  refine am_getR (q := 135) (a := 44) (k := 0) (n := 14) (j := 10) (r := some (45)) (Ls_44 hLb) (by decide) rfl (Lr_44_10 hLb) (by decide) (Or.inl kf_X0_9) (am_tab tk_X0_lookAt 72 rfl) rfl ?_
                  refine am_bipush (q := 137) (n := 7) (by decide) rfl (am_tab tk_X0_lookAt 73 rfl) rfl ?_
                  refine am_aload_n (q := 138) rfl (am_tab tk_X0_lookAt 74 rfl) rfl ?_
                  refine am_getR (q := 141) (a := 15) (k := 8) (n := 17) (j := 14) (r := some (22)) (Ls_15 hLb) (by decide) rfl (Lr_15_14 hLb) (by decide) (Or.inr kf_X0_62) (am_tab tk_X0_lookAt 75 rfl) rfl ?_
                  refine am_aload_n (q := 142) rfl (am_tab tk_X0_lookAt 76 rfl) rfl ?_
                  refine am_getI (q := 145) (a := 44) (k := 0) (n := 14) (j := 1) (x := ((H.2.1 96 1) + 1)) (Ls_44 hLb) (by decide) rfl rfl (by decide) (Or.inl kf_X0_55) (am_tab tk_X0_lookAt 77 rfl) rfl ?_
                  refine am_iald (q := 146) (a := 22) (n := 91) (x := (fzM (bgS H))) (Ls_22 hLb) (by omega) (by omega) (by rw [← b1]; exact hfz) (am_tab tk_X0_lookAt 78 rfl) rfl ?_
                  refine am_iast (q := 147) (a := 45) (n := 34) (Ls_45 hLb) (by omega) (by omega) (am_tab tk_X0_lookAt 79 rfl) rfl ?_
                  refine am_aload_n (q := 148) rfl (am_tab tk_X0_lookAt 80 rfl) rfl ?_
                  refine am_getR (q := 151) (a := 44) (k := 0) (n := 14) (j := 10) (r := some (45)) (Ls_44 hLb) (by decide) rfl (Lr_44_10 hLb) (by decide) (Or.inl kf_X0_9) (am_tab tk_X0_lookAt 81 rfl) rfl ?_
                  refine am_bipush (q := 153) (n := 16) (by decide) rfl (am_tab tk_X0_lookAt 82 rfl) rfl ?_
                  refine am_aload_n (q := 154) rfl (am_tab tk_X0_lookAt 83 rfl) rfl ?_
                  refine am_getI (q := 157) (a := 44) (k := 0) (n := 14) (j := 2) (x := (H.2.1 96 2)) (Ls_44 hLb) (by decide) rfl rfl (by decide) (Or.inl kf_X0_59) (am_tab tk_X0_lookAt 84 rfl) rfl ?_
                  refine am_if_ne (q := 160) (t := 164) (am_tab tk_X0_lookAt 85 rfl) (by decide) rfl (fun h157 => ?_) (fun h157 => ?_)
                  · refine am_iconst (q := 165) (n := 1) (by decide) (am_tab tk_X0_lookAt 88 rfl) rfl ?_
                    refine am_iast (q := 166) (a := 45) (n := 34) (Ls_45 hLb) (by omega) (by omega) (am_tab tk_X0_lookAt 89 rfl) rfl ?_
                    have hff : ffM (bgS H) = 1 := by
                      show (if 0 < bgN H 2 then (1 : Int) else 0) = 1
                      have := hfr
                      rw [if_pos (by omega)]
                    refine am_less (by intro q hq; simp only [List.mem_cons, List.not_mem_nil, or_false] at hq; rcases hq with rfl | rfl | rfl <;> simp) (L166 (_ + 1) (am_setN (am_setN (am_setN (am_setN (am_setN (am_setN (am_setN (am_setR (am_setR (am_setN σ 44 7 1) 44 8 (some (15))) 44 9 (some (37))) 44 0 (H.2.1 96 0)) 44 1 ((H.2.1 96 1) + 1)) 44 2 (H.2.1 96 2)) 45 13 ((H.2.1 96 1) + 1)) 45 14 (H.2.1 96 0)) 45 7 (fzM (bgS H))) 45 16 1) (by exact Nat.lt_succ_self _) (by rw [hff, b0, b1, b2]))
                  · refine am_iconst (q := 161) (n := 0) (by decide) (am_tab tk_X0_lookAt 86 rfl) rfl ?_
                    refine am_goto (t := 165) (am_tab tk_X0_lookAt 87 rfl) (by decide) ?_
                    refine am_iast (q := 166) (a := 45) (n := 34) (Ls_45 hLb) (by omega) (by omega) (am_tab tk_X0_lookAt 89 rfl) rfl ?_
                    have hff : ffM (bgS H) = 0 := by
                      show (if 0 < bgN H 2 then (1 : Int) else 0) = 0
                      have := hfr
                      rw [if_neg (by omega)]
                    refine am_less (by intro q hq; simp only [List.mem_cons, List.not_mem_nil, or_false] at hq; rcases hq with rfl | rfl | rfl <;> simp) (L166 (_ + 1) (am_setN (am_setN (am_setN (am_setN (am_setN (am_setN (am_setN (am_setR (am_setR (am_setN σ 44 7 1) 44 8 (some (15))) 44 9 (some (37))) 44 0 (H.2.1 96 0)) 44 1 ((H.2.1 96 1) + 1)) 44 2 (H.2.1 96 2)) 45 13 ((H.2.1 96 1) + 1)) 45 14 (H.2.1 96 0)) 45 7 (fzM (bgS H))) 45 16 0) (by exact Nat.lt_succ_self _) (by rw [hff, b0, b1, b2]))
                · exact absurd h95 (by decide)
              · exact absurd h77 (by decide)
            · exact absurd h56 (by decide)
          · exact absurd h45 (by omega)
        · have hLb : lay (am_setR (am_setR (am_setN σ 44 7 1) 44 8 (some (15))) 44 9 (some (37))) := lay_R hLa (by decide)
          refine am_aload_n (q := 38) rfl (am_tab tk_X0_lookAt 21 rfl) rfl ?_
          refine am_getI (q := 41) (a := 37) (k := 1) (n := 11) (j := 1) (x := (H.2.1 96 1)) (Ls_37 hLb) (by decide) rfl hF.1.2.1 (by decide) (Or.inr kf_X0_42) (am_tab tk_X0_lookAt 22 rfl) rfl ?_
          refine am_aload_n (q := 42) rfl (am_tab tk_X0_lookAt 23 rfl) rfl ?_
          refine am_getI (q := 45) (a := 15) (k := 8) (n := 17) (j := 0) (x := (H.2.1 85 9)) (Ls_15 hLb) (by decide) rfl hT.days (by decide) (Or.inr kf_X0_46) (am_tab tk_X0_lookAt 24 rfl) rfl ?_
          refine am_icmp_lt (q := 48) (t := 52) (am_tab tk_X0_lookAt 25 rfl) (by decide) rfl (fun h45 => ?_) (fun h45 => ?_)
          · exact absurd h45 (by omega)
          · refine am_iconst (q := 49) (n := 1) (by decide) (am_tab tk_X0_lookAt 26 rfl) rfl ?_
            refine am_goto (t := 53) (am_tab tk_X0_lookAt 27 rfl) (by decide) ?_
            refine am_istore_n (q := 54) (by decide) (ls2 := [(3, am_i 1), (0, am_r 44), (1, am_r 15), (2, am_r 37)]) rfl (am_tab tk_X0_lookAt 29 rfl) rfl ?_
            have b0 : bgN H 0 = H.2.1 96 0 + 1 := by unfold bgN; rw [if_neg ny]; rfl
            have b1 : bgN H 1 = 1 := by unfold bgN; rw [if_neg ny]; rfl
            have b2 : bgN H 2 = 0 := by unfold bgN; rw [if_neg ny]; rfl
            refine am_aload_n (q := 55) rfl (am_tab tk_X0_lookAt 30 rfl) rfl ?_
            refine am_iload_n (q := 56) rfl (am_tab tk_X0_lookAt 31 rfl) rfl ?_
            refine am_if_eq (q := 59) (t := 68) (am_tab tk_X0_lookAt 32 rfl) (by decide) rfl (fun h56 => ?_) (fun h56 => ?_)
            · exact absurd h56 (by decide)
            · refine am_aload_n (q := 60) rfl (am_tab tk_X0_lookAt 33 rfl) rfl ?_
              refine am_getI (q := 63) (a := 37) (k := 1) (n := 11) (j := 0) (x := (H.2.1 96 0)) (Ls_37 hLb) (by decide) rfl hF.1.1 (by decide) (Or.inr kf_X0_51) (am_tab tk_X0_lookAt 34 rfl) rfl ?_
              refine am_iconst (q := 64) (n := 1) (by decide) (am_tab tk_X0_lookAt 35 rfl) rfl ?_
              refine am_iadd (q := 65) (by omega) (am_tab tk_X0_lookAt 36 rfl) rfl ?_
              refine am_goto (t := 72) (am_tab tk_X0_lookAt 37 rfl) (by decide) ?_
              refine am_putI (q := 75) (k := 0) (n := 14) (j := 0) (Ls_44 hLb) (by decide) rfl (by decide) (Or.inl ⟨kf_X0_54, rfl⟩) (am_tab tk_X0_lookAt 40 rfl) rfl ?_
              refine am_aload_n (q := 76) rfl (am_tab tk_X0_lookAt 41 rfl) rfl ?_
              refine am_iload_n (q := 77) rfl (am_tab tk_X0_lookAt 42 rfl) rfl ?_
              refine am_if_eq (q := 80) (t := 84) (am_tab tk_X0_lookAt 43 rfl) (by decide) rfl (fun h77 => ?_) (fun h77 => ?_)
              · exact absurd h77 (by decide)
              · refine am_iconst (q := 81) (n := 1) (by decide) (am_tab tk_X0_lookAt 44 rfl) rfl ?_
                refine am_goto (t := 90) (am_tab tk_X0_lookAt 45 rfl) (by decide) ?_
                refine am_putI (q := 93) (k := 0) (n := 14) (j := 1) (Ls_44 hLb) (by decide) rfl (by decide) (Or.inl ⟨kf_X0_55, rfl⟩) (am_tab tk_X0_lookAt 50 rfl) rfl ?_
                refine am_aload_n (q := 94) rfl (am_tab tk_X0_lookAt 51 rfl) rfl ?_
                refine am_iload_n (q := 95) rfl (am_tab tk_X0_lookAt 52 rfl) rfl ?_
                refine am_if_eq (q := 98) (t := 102) (am_tab tk_X0_lookAt 53 rfl) (by decide) rfl (fun h95 => ?_) (fun h95 => ?_)
                · exact absurd h95 (by decide)
                · refine am_iconst (q := 99) (n := 0) (by decide) (am_tab tk_X0_lookAt 54 rfl) rfl ?_
                  refine am_goto (t := 106) (am_tab tk_X0_lookAt 55 rfl) (by decide) ?_
                  refine am_putI (q := 109) (k := 0) (n := 14) (j := 2) (Ls_44 hLb) (by decide) rfl (by decide) (Or.inl ⟨kf_X0_59, rfl⟩) (am_tab tk_X0_lookAt 58 rfl) rfl ?_
                  refine am_aload_n (q := 110) rfl (am_tab tk_X0_lookAt 59 rfl) rfl ?_
                  refine am_getR (q := 113) (a := 44) (k := 0) (n := 14) (j := 10) (r := some (45)) (Ls_44 hLb) (by decide) rfl (Lr_44_10 hLb) (by decide) (Or.inl kf_X0_9) (am_tab tk_X0_lookAt 60 rfl) rfl ?_
                  refine am_bipush (q := 115) (n := 13) (by decide) rfl (am_tab tk_X0_lookAt 61 rfl) rfl ?_
                  refine am_aload_n (q := 116) rfl (am_tab tk_X0_lookAt 62 rfl) rfl ?_
                  refine am_getI (q := 119) (a := 44) (k := 0) (n := 14) (j := 1) (x := 1) (Ls_44 hLb) (by decide) rfl rfl (by decide) (Or.inl kf_X0_55) (am_tab tk_X0_lookAt 63 rfl) rfl ?_
                  refine am_iast (q := 120) (a := 45) (n := 34) (Ls_45 hLb) (by omega) (by omega) (am_tab tk_X0_lookAt 64 rfl) rfl ?_
                  refine am_aload_n (q := 121) rfl (am_tab tk_X0_lookAt 65 rfl) rfl ?_
                  refine am_getR (q := 124) (a := 44) (k := 0) (n := 14) (j := 10) (r := some (45)) (Ls_44 hLb) (by decide) rfl (Lr_44_10 hLb) (by decide) (Or.inl kf_X0_9) (am_tab tk_X0_lookAt 66 rfl) rfl ?_
                  refine am_bipush (q := 126) (n := 14) (by decide) rfl (am_tab tk_X0_lookAt 67 rfl) rfl ?_
                  refine am_aload_n (q := 127) rfl (am_tab tk_X0_lookAt 68 rfl) rfl ?_
                  refine am_getI (q := 130) (a := 44) (k := 0) (n := 14) (j := 0) (x := ((H.2.1 96 0) + 1)) (Ls_44 hLb) (by decide) rfl rfl (by decide) (Or.inl kf_X0_54) (am_tab tk_X0_lookAt 69 rfl) rfl ?_
                  refine am_iast (q := 131) (a := 45) (n := 34) (Ls_45 hLb) (by omega) (by omega) (am_tab tk_X0_lookAt 70 rfl) rfl ?_
                  refine am_aload_n (q := 132) rfl (am_tab tk_X0_lookAt 71 rfl) rfl ?_
                  refine am_getR (q := 135) (a := 44) (k := 0) (n := 14) (j := 10) (r := some (45)) (Ls_44 hLb) (by decide) rfl (Lr_44_10 hLb) (by decide) (Or.inl kf_X0_9) (am_tab tk_X0_lookAt 72 rfl) rfl ?_
                  refine am_bipush (q := 137) (n := 7) (by decide) rfl (am_tab tk_X0_lookAt 73 rfl) rfl ?_
                  refine am_aload_n (q := 138) rfl (am_tab tk_X0_lookAt 74 rfl) rfl ?_
                  refine am_getR (q := 141) (a := 15) (k := 8) (n := 17) (j := 14) (r := some (22)) (Ls_15 hLb) (by decide) rfl (Lr_15_14 hLb) (by decide) (Or.inr kf_X0_62) (am_tab tk_X0_lookAt 75 rfl) rfl ?_
                  refine am_aload_n (q := 142) rfl (am_tab tk_X0_lookAt 76 rfl) rfl ?_
                  refine am_getI (q := 145) (a := 44) (k := 0) (n := 14) (j := 1) (x := 1) (Ls_44 hLb) (by decide) rfl rfl (by decide) (Or.inl kf_X0_55) (am_tab tk_X0_lookAt 77 rfl) rfl ?_
                  refine am_iald (q := 146) (a := 22) (n := 91) (x := (fzM (bgS H))) (Ls_22 hLb) (by omega) (by omega) (by rw [← b1]; exact hfz) (am_tab tk_X0_lookAt 78 rfl) rfl ?_
                  refine am_iast (q := 147) (a := 45) (n := 34) (Ls_45 hLb) (by omega) (by omega) (am_tab tk_X0_lookAt 79 rfl) rfl ?_
                  refine am_aload_n (q := 148) rfl (am_tab tk_X0_lookAt 80 rfl) rfl ?_
                  refine am_getR (q := 151) (a := 44) (k := 0) (n := 14) (j := 10) (r := some (45)) (Ls_44 hLb) (by decide) rfl (Lr_44_10 hLb) (by decide) (Or.inl kf_X0_9) (am_tab tk_X0_lookAt 81 rfl) rfl ?_
                  refine am_bipush (q := 153) (n := 16) (by decide) rfl (am_tab tk_X0_lookAt 82 rfl) rfl ?_
                  refine am_aload_n (q := 154) rfl (am_tab tk_X0_lookAt 83 rfl) rfl ?_
                  refine am_getI (q := 157) (a := 44) (k := 0) (n := 14) (j := 2) (x := 0) (Ls_44 hLb) (by decide) rfl rfl (by decide) (Or.inl kf_X0_59) (am_tab tk_X0_lookAt 84 rfl) rfl ?_
                  refine am_if_ne (q := 160) (t := 164) (am_tab tk_X0_lookAt 85 rfl) (by decide) rfl (fun h157 => ?_) (fun h157 => ?_)
                  · exact absurd h157 (by decide)
                  · refine am_iconst (q := 161) (n := 0) (by decide) (am_tab tk_X0_lookAt 86 rfl) rfl ?_
                    refine am_goto (t := 165) (am_tab tk_X0_lookAt 87 rfl) (by decide) ?_
                    refine am_iast (q := 166) (a := 45) (n := 34) (Ls_45 hLb) (by omega) (by omega) (am_tab tk_X0_lookAt 89 rfl) rfl ?_
                    have hff : ffM (bgS H) = 0 := by
                      show (if 0 < bgN H 2 then (1 : Int) else 0) = 0
                      have := hfr
                      rw [if_neg (by omega)]
                    refine am_less (by intro q hq; simp only [List.mem_cons, List.not_mem_nil, or_false] at hq; rcases hq with rfl | rfl | rfl <;> simp) (L166 (_ + 1) (am_setN (am_setN (am_setN (am_setN (am_setN (am_setN (am_setN (am_setR (am_setR (am_setN σ 44 7 1) 44 8 (some (15))) 44 9 (some (37))) 44 0 ((H.2.1 96 0) + 1)) 44 1 1) 44 2 0) 45 13 1) 45 14 ((H.2.1 96 0) + 1)) 45 7 (fzM (bgS H))) 45 16 0) (by exact Nat.lt_succ_self _) (by rw [hff, b0, b1, b2]))
      · exact absurd h22 (by decide)
  · refine am_aload_n (q := 1) rfl (am_tab tk_X0_lookAt 0 rfl) rfl ?_
    refine am_aload_n (q := 2) rfl (am_tab tk_X0_lookAt 1 rfl) rfl ?_
    refine am_aload_n (q := 3) rfl (am_tab tk_X0_lookAt 2 rfl) rfl ?_
    refine am_callV0 (q := 6) (me2 := M_X1_daysLeft) (b := 37) (kb := 1) (nb := 11) (As := [am_r 15]) (rest := [am_r 44]) (out := [am_i (dlM H), am_r 44]) (c_daysLeft_15_37 σ H hL hG hT hF) ⟨rfl, rfl⟩ (Ls_37 hL) (by decide) ⟨Or.inr km_X0_32, kc_X1_daysLeft, kn_X1, kd_X1_daysLeft, ⟨(Nat.le_of_ble_eq_true rfl), (Nat.le_of_ble_eq_true rfl)⟩, ⟨(Nat.le_of_ble_eq_true rfl), (Nat.le_of_ble_eq_true rfl)⟩, (Nat.le_of_ble_eq_true rfl)⟩ ki_X1_daysLeft ks_X1_daysLeft rfl rfl (am_tab tk_X0_lookAt 3 rfl) rfl ?_
    refine am_iconst (q := 7) (n := 1) (by decide) (am_tab tk_X0_lookAt 4 rfl) rfl ?_
    refine am_icmp_lt (q := 10) (t := 14) (am_tab tk_X0_lookAt 5 rfl) (by decide) rfl (fun h7 => ?_) (fun h7 => ?_)
    · refine am_iconst (q := 15) (n := 0) (by decide) (am_tab tk_X0_lookAt 8 rfl) rfl ?_
      refine am_putZ (q := 18) (k := 0) (n := 14) (j := 7) (Ls_44 hL) (by decide) rfl (by first | exact Or.inl rfl | exact Or.inr rfl | omega) (by decide) (Or.inl ⟨kf_X0_38, rfl⟩) (am_tab tk_X0_lookAt 9 rfl) rfl ?_
      refine am_aload_n (q := 19) rfl (am_tab tk_X0_lookAt 10 rfl) rfl ?_
      refine am_getI (q := 22) (a := 44) (k := 0) (n := 14) (j := 7) (x := 0) (Ls_44 hL) (by decide) rfl rfl (by decide) (Or.inl kf_X0_38) (am_tab tk_X0_lookAt 11 rfl) rfl ?_
      refine am_if_ne (q := 25) (t := 27) (am_tab tk_X0_lookAt 12 rfl) (by decide) rfl (fun h22 => ?_) (fun h22 => ?_)
      · exact absurd h22 (by decide)
      · refine am_iconst (q := 26) (n := 0) (by decide) (am_tab tk_X0_lookAt 13 rfl) rfl ?_
        refine am_iret (Or.inr ⟨rfl, by first | exact Or.inl rfl | exact Or.inr rfl | omega⟩) (Nat.le_of_ble_eq_true rfl) (Nat.le_of_ble_eq_true rfl) (am_tab tk_X0_lookAt 14 rfl) ?_
        refine hQ _ _ ?_
        rw [if_neg cm]
        exact ⟨rfl, rfl⟩
    · exact absurd h7 (by omega)
