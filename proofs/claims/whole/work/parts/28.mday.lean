def askH (σ : am_H) (ts : Int) : am_H := am_setN (am_setN (am_setN σ 55 56 ts) 55 57 (if 0 < σ.2.1 96 2 then 1 else 0)) 55 58 (if frM σ (σ.2.1 96 1) = true then 1 else 0)
theorem c_X10_asksDay (σ : am_H) (hL : lay σ) (ts : Int) (hR : MR σ) : am_met M_X10_asksDay [am_r 55, am_i ts] σ (fun r σ' => r = none ∧ σ' = askH σ ts) := by
  refine am_enter (show plainFor yX10_asksDay = true by decide +kernel) rfl (Nat.le_of_ble_eq_true rfl) (fun _ _ _ => trivial) ?_
  have hY := hR.Y
  have hD := hR.day
  refine am_aload_n (q := 1) rfl (am_tab tk_X10_asksDay 0 rfl) rfl ?_
  refine am_iload_n (q := 2) rfl (am_tab tk_X10_asksDay 1 rfl) rfl ?_
  refine am_putI (q := 5) (k := 10) (n := 108) (j := 56) (Ls_55 hL) (by decide) rfl (by decide) (Or.inl ⟨kf_X10_417, rfl⟩) (am_tab tk_X10_asksDay 2 rfl) rfl ?_
  refine am_aload_n (q := 6) rfl (am_tab tk_X10_asksDay 3 rfl) rfl ?_
  refine am_aload_n (q := 7) rfl (am_tab tk_X10_asksDay 4 rfl) rfl ?_
  refine am_getR (q := 10) (a := 55) (k := 10) (n := 108) (j := 54) (r := some (96)) (Ls_55 hL) (by decide) rfl (Lr_55_54 hL) (by decide) (Or.inl kf_X10_136) (am_tab tk_X10_asksDay 5 rfl) rfl ?_
  refine am_iconst (q := 11) (n := 2) (by decide) (am_tab tk_X10_asksDay 6 rfl) rfl ?_
  refine am_iald (q := 12) (a := 96) (n := 443) (x := (σ.2.1 96 2)) (Ls_96 hL) (by omega) (by omega) rfl (am_tab tk_X10_asksDay 7 rfl) rfl ?_
  refine am_if_le (q := 15) (t := 19) (am_tab tk_X10_asksDay 8 rfl) (by decide) rfl (fun h12 => ?_) (fun h12 => ?_)
  · refine am_lconst0 (q := 20) (am_tab tk_X10_asksDay 11 rfl) rfl ?_
    refine am_putL (q := 23) (k := 10) (n := 108) (j := 57) (Ls_55 hL) (by decide) rfl (by decide) (Or.inl ⟨kf_X10_420, rfl⟩) (am_tab tk_X10_asksDay 12 rfl) rfl ?_
    refine am_aload_n (q := 24) rfl (am_tab tk_X10_asksDay 13 rfl) rfl ?_
    refine am_aload_n (q := 25) rfl (am_tab tk_X10_asksDay 14 rfl) rfl ?_
    refine am_aload_n (q := 26) rfl (am_tab tk_X10_asksDay 15 rfl) rfl ?_
    refine am_getR (q := 29) (a := 55) (k := 10) (n := 108) (j := 54) (r := some (96)) (Ls_55 hL) (by decide) rfl (Lr_55_54 hL) (by decide) (Or.inl kf_X10_136) (am_tab tk_X10_asksDay 16 rfl) rfl ?_
    refine am_iconst (q := 30) (n := 1) (by decide) (am_tab tk_X10_asksDay 17 rfl) rfl ?_
    refine am_iald (q := 31) (a := 96) (n := 443) (x := (σ.2.1 96 1)) (Ls_96 hL) (by omega) (by omega) rfl (am_tab tk_X10_asksDay 18 rfl) rfl ?_
    refine am_callV0 (q := 34) (me2 := M_X10_isFrost) (b := 55) (kb := 10) (nb := 108) (As := [am_i ((σ.2.1 96 1))]) (rest := [am_r 55]) (out := [am_i (if frM ((am_setN (am_setN σ 55 56 ts) 55 57 0)) (σ.2.1 96 1) = true then 1 else 0), am_r 55]) (c_X10_isFrost ((am_setN (am_setN σ 55 56 ts) 55 57 0)) hL (σ.2.1 96 1) (fN ((am_setN (am_setN σ 55 56 ts) 55 57 0))) (fN_eq hR) (fN_4 hR) (by omega) (fun k hk => hR.fro k (Nat.lt_of_lt_of_le hk (fN_4 hR)))) ⟨rfl, rfl⟩ (Ls_55 hL) (by decide) ⟨Or.inl km_X10_423, kc_X10_isFrost, kn_X10, kd_X10_isFrost, ⟨(Nat.le_of_ble_eq_true rfl), (Nat.le_of_ble_eq_true rfl)⟩, ⟨(Nat.le_of_ble_eq_true rfl), (Nat.le_of_ble_eq_true rfl)⟩, (Nat.le_of_ble_eq_true rfl)⟩ ki_X10_isFrost ks_X10_isFrost rfl rfl (am_tab tk_X10_asksDay 19 rfl) rfl ?_
    refine am_if_eq (q := 37) (t := 41) (am_tab tk_X10_asksDay 20 rfl) (by decide) rfl (fun h34 => ?_) (fun h34 => ?_)
    · replace h34 := b01z h34
      refine am_lconst0 (q := 42) (am_tab tk_X10_asksDay 23 rfl) rfl ?_
      refine am_putL (q := 45) (k := 10) (n := 108) (j := 58) (Ls_55 hL) (by decide) rfl (by decide) (Or.inl ⟨kf_X10_426, rfl⟩) (am_tab tk_X10_asksDay 24 rfl) rfl ?_
      refine am_vret rfl (Nat.le_of_ble_eq_true rfl) (Nat.le_of_ble_eq_true rfl) (am_tab tk_X10_asksDay 25 rfl) ?_
      refine ⟨rfl, ?_⟩
      unfold askH
      first
        | (rw [if_pos (show 0 < σ.2.1 96 2 by assumption), if_pos (show frM σ (σ.2.1 96 1) = true by assumption)])
        | (rw [if_pos (show 0 < σ.2.1 96 2 by assumption), if_neg (show ¬ frM σ (σ.2.1 96 1) = true by assumption)])
        | (rw [if_neg (show ¬ 0 < σ.2.1 96 2 by (have h12b : σ.2.1 96 2 ≤ 0 := h12; omega)), if_pos (show frM σ (σ.2.1 96 1) = true by assumption)])
        | (rw [if_neg (show ¬ 0 < σ.2.1 96 2 by (have h12b : σ.2.1 96 2 ≤ 0 := h12; omega)), if_neg (show ¬ frM σ (σ.2.1 96 1) = true by assumption)])
        | (rw [if_pos (show 0 < σ.2.1 96 2 by (have h12b : ¬ σ.2.1 96 2 ≤ 0 := h12; omega)), if_pos (show frM σ (σ.2.1 96 1) = true by assumption)])
        | (rw [if_pos (show 0 < σ.2.1 96 2 by (have h12b : ¬ σ.2.1 96 2 ≤ 0 := h12; omega)), if_neg (show ¬ frM σ (σ.2.1 96 1) = true by assumption)])
    · replace h34 := b01n h34
      refine am_lconst1 (q := 38) (am_tab tk_X10_asksDay 21 rfl) rfl ?_
      refine am_goto (t := 42) (am_tab tk_X10_asksDay 22 rfl) (by decide) ?_
      refine am_putL (q := 45) (k := 10) (n := 108) (j := 58) (Ls_55 hL) (by decide) rfl (by decide) (Or.inl ⟨kf_X10_426, rfl⟩) (am_tab tk_X10_asksDay 24 rfl) rfl ?_
      refine am_vret rfl (Nat.le_of_ble_eq_true rfl) (Nat.le_of_ble_eq_true rfl) (am_tab tk_X10_asksDay 25 rfl) ?_
      refine ⟨rfl, ?_⟩
      unfold askH
      first
        | (rw [if_pos (show 0 < σ.2.1 96 2 by assumption), if_pos (show frM σ (σ.2.1 96 1) = true by assumption)])
        | (rw [if_pos (show 0 < σ.2.1 96 2 by assumption), if_neg (show ¬ frM σ (σ.2.1 96 1) = true by assumption)])
        | (rw [if_neg (show ¬ 0 < σ.2.1 96 2 by (have h12b : σ.2.1 96 2 ≤ 0 := h12; omega)), if_pos (show frM σ (σ.2.1 96 1) = true by assumption)])
        | (rw [if_neg (show ¬ 0 < σ.2.1 96 2 by (have h12b : σ.2.1 96 2 ≤ 0 := h12; omega)), if_neg (show ¬ frM σ (σ.2.1 96 1) = true by assumption)])
        | (rw [if_pos (show 0 < σ.2.1 96 2 by (have h12b : ¬ σ.2.1 96 2 ≤ 0 := h12; omega)), if_pos (show frM σ (σ.2.1 96 1) = true by assumption)])
        | (rw [if_pos (show 0 < σ.2.1 96 2 by (have h12b : ¬ σ.2.1 96 2 ≤ 0 := h12; omega)), if_neg (show ¬ frM σ (σ.2.1 96 1) = true by assumption)])
  · refine am_lconst1 (q := 16) (am_tab tk_X10_asksDay 9 rfl) rfl ?_
    refine am_goto (t := 20) (am_tab tk_X10_asksDay 10 rfl) (by decide) ?_
    refine am_putL (q := 23) (k := 10) (n := 108) (j := 57) (Ls_55 hL) (by decide) rfl (by decide) (Or.inl ⟨kf_X10_420, rfl⟩) (am_tab tk_X10_asksDay 12 rfl) rfl ?_
    refine am_aload_n (q := 24) rfl (am_tab tk_X10_asksDay 13 rfl) rfl ?_
    refine am_aload_n (q := 25) rfl (am_tab tk_X10_asksDay 14 rfl) rfl ?_
    refine am_aload_n (q := 26) rfl (am_tab tk_X10_asksDay 15 rfl) rfl ?_
    refine am_getR (q := 29) (a := 55) (k := 10) (n := 108) (j := 54) (r := some (96)) (Ls_55 hL) (by decide) rfl (Lr_55_54 hL) (by decide) (Or.inl kf_X10_136) (am_tab tk_X10_asksDay 16 rfl) rfl ?_
    refine am_iconst (q := 30) (n := 1) (by decide) (am_tab tk_X10_asksDay 17 rfl) rfl ?_
    refine am_iald (q := 31) (a := 96) (n := 443) (x := (σ.2.1 96 1)) (Ls_96 hL) (by omega) (by omega) rfl (am_tab tk_X10_asksDay 18 rfl) rfl ?_
    refine am_callV0 (q := 34) (me2 := M_X10_isFrost) (b := 55) (kb := 10) (nb := 108) (As := [am_i ((σ.2.1 96 1))]) (rest := [am_r 55]) (out := [am_i (if frM ((am_setN (am_setN σ 55 56 ts) 55 57 1)) (σ.2.1 96 1) = true then 1 else 0), am_r 55]) (c_X10_isFrost ((am_setN (am_setN σ 55 56 ts) 55 57 1)) hL (σ.2.1 96 1) (fN ((am_setN (am_setN σ 55 56 ts) 55 57 1))) (fN_eq hR) (fN_4 hR) (by omega) (fun k hk => hR.fro k (Nat.lt_of_lt_of_le hk (fN_4 hR)))) ⟨rfl, rfl⟩ (Ls_55 hL) (by decide) ⟨Or.inl km_X10_423, kc_X10_isFrost, kn_X10, kd_X10_isFrost, ⟨(Nat.le_of_ble_eq_true rfl), (Nat.le_of_ble_eq_true rfl)⟩, ⟨(Nat.le_of_ble_eq_true rfl), (Nat.le_of_ble_eq_true rfl)⟩, (Nat.le_of_ble_eq_true rfl)⟩ ki_X10_isFrost ks_X10_isFrost rfl rfl (am_tab tk_X10_asksDay 19 rfl) rfl ?_
    refine am_if_eq (q := 37) (t := 41) (am_tab tk_X10_asksDay 20 rfl) (by decide) rfl (fun h34 => ?_) (fun h34 => ?_)
    · replace h34 := b01z h34
      refine am_lconst0 (q := 42) (am_tab tk_X10_asksDay 23 rfl) rfl ?_
      refine am_putL (q := 45) (k := 10) (n := 108) (j := 58) (Ls_55 hL) (by decide) rfl (by decide) (Or.inl ⟨kf_X10_426, rfl⟩) (am_tab tk_X10_asksDay 24 rfl) rfl ?_
      refine am_vret rfl (Nat.le_of_ble_eq_true rfl) (Nat.le_of_ble_eq_true rfl) (am_tab tk_X10_asksDay 25 rfl) ?_
      refine ⟨rfl, ?_⟩
      unfold askH
      first
        | (rw [if_pos (show 0 < σ.2.1 96 2 by assumption), if_pos (show frM σ (σ.2.1 96 1) = true by assumption)])
        | (rw [if_pos (show 0 < σ.2.1 96 2 by assumption), if_neg (show ¬ frM σ (σ.2.1 96 1) = true by assumption)])
        | (rw [if_neg (show ¬ 0 < σ.2.1 96 2 by (have h12b : σ.2.1 96 2 ≤ 0 := h12; omega)), if_pos (show frM σ (σ.2.1 96 1) = true by assumption)])
        | (rw [if_neg (show ¬ 0 < σ.2.1 96 2 by (have h12b : σ.2.1 96 2 ≤ 0 := h12; omega)), if_neg (show ¬ frM σ (σ.2.1 96 1) = true by assumption)])
        | (rw [if_pos (show 0 < σ.2.1 96 2 by (have h12b : ¬ σ.2.1 96 2 ≤ 0 := h12; omega)), if_pos (show frM σ (σ.2.1 96 1) = true by assumption)])
        | (rw [if_pos (show 0 < σ.2.1 96 2 by (have h12b : ¬ σ.2.1 96 2 ≤ 0 := h12; omega)), if_neg (show ¬ frM σ (σ.2.1 96 1) = true by assumption)])
    · replace h34 := b01n h34
      refine am_lconst1 (q := 38) (am_tab tk_X10_asksDay 21 rfl) rfl ?_
      refine am_goto (t := 42) (am_tab tk_X10_asksDay 22 rfl) (by decide) ?_
      refine am_putL (q := 45) (k := 10) (n := 108) (j := 58) (Ls_55 hL) (by decide) rfl (by decide) (Or.inl ⟨kf_X10_426, rfl⟩) (am_tab tk_X10_asksDay 24 rfl) rfl ?_
      refine am_vret rfl (Nat.le_of_ble_eq_true rfl) (Nat.le_of_ble_eq_true rfl) (am_tab tk_X10_asksDay 25 rfl) ?_
      refine ⟨rfl, ?_⟩
      unfold askH
      first
        | (rw [if_pos (show 0 < σ.2.1 96 2 by assumption), if_pos (show frM σ (σ.2.1 96 1) = true by assumption)])
        | (rw [if_pos (show 0 < σ.2.1 96 2 by assumption), if_neg (show ¬ frM σ (σ.2.1 96 1) = true by assumption)])
        | (rw [if_neg (show ¬ 0 < σ.2.1 96 2 by (have h12b : σ.2.1 96 2 ≤ 0 := h12; omega)), if_pos (show frM σ (σ.2.1 96 1) = true by assumption)])
        | (rw [if_neg (show ¬ 0 < σ.2.1 96 2 by (have h12b : σ.2.1 96 2 ≤ 0 := h12; omega)), if_neg (show ¬ frM σ (σ.2.1 96 1) = true by assumption)])
        | (rw [if_pos (show 0 < σ.2.1 96 2 by (have h12b : ¬ σ.2.1 96 2 ≤ 0 := h12; omega)), if_pos (show frM σ (σ.2.1 96 1) = true by assumption)])
        | (rw [if_pos (show 0 < σ.2.1 96 2 by (have h12b : ¬ σ.2.1 96 2 ≤ 0 := h12; omega)), if_neg (show ¬ frM σ (σ.2.1 96 1) = true by assumption)])
def begH (σ : am_H) : am_H := if σ.2.1 96 1 + 1 ≤ σ.2.1 85 9 then am_setN σ 96 1 (σ.2.1 96 1 + 1) else am_setN (am_setN (am_setN (am_setN σ 96 1 (σ.2.1 96 1 + 1)) 96 0 (σ.2.1 96 0 + 1)) 96 1 1) 96 2 0
theorem c_X10_begins (σ : am_H) (hL : lay σ)  (hR : MR σ) : am_met M_X10_begins [am_r 55] σ (fun r σ' => r = none ∧ σ' = begH σ) := by
  refine am_enter (show plainFor yX10_begins = true by decide +kernel) rfl (Nat.le_of_ble_eq_true rfl) (fun _ _ _ => trivial) ?_
  have hY := hR.Y
  have hD := hR.day
  have hy := hR.year
  refine am_aload_n (q := 1) rfl (am_tab tk_X10_begins 0 rfl) rfl ?_
  refine am_getR (q := 4) (a := 55) (k := 10) (n := 108) (j := 54) (r := some (96)) (Ls_55 hL) (by decide) rfl (Lr_55_54 hL) (by decide) (Or.inl kf_X10_136) (am_tab tk_X10_begins 1 rfl) rfl ?_
  refine am_iconst (q := 5) (n := 1) (by decide) (am_tab tk_X10_begins 2 rfl) rfl ?_
  refine am_dup2 (q := 6) rfl rfl (am_tab tk_X10_begins 3 rfl) rfl ?_
  refine am_iald (q := 7) (a := 96) (n := 443) (x := (σ.2.1 96 1)) (Ls_96 hL) (by omega) (by omega) rfl (am_tab tk_X10_begins 4 rfl) rfl ?_
  refine am_iconst (q := 8) (n := 1) (by decide) (am_tab tk_X10_begins 5 rfl) rfl ?_
  refine am_iadd (q := 9) (by omega) (am_tab tk_X10_begins 6 rfl) rfl ?_
  refine am_iast (q := 10) (a := 96) (n := 443) (Ls_96 hL) (by omega) (by omega) (am_tab tk_X10_begins 7 rfl) rfl ?_
  refine am_aload_n (q := 11) rfl (am_tab tk_X10_begins 8 rfl) rfl ?_
  refine am_getR (q := 14) (a := 55) (k := 10) (n := 108) (j := 54) (r := some (96)) (Ls_55 hL) (by decide) rfl (Lr_55_54 hL) (by decide) (Or.inl kf_X10_136) (am_tab tk_X10_begins 9 rfl) rfl ?_
  refine am_iconst (q := 15) (n := 1) (by decide) (am_tab tk_X10_begins 10 rfl) rfl ?_
  refine am_iald (q := 16) (a := 96) (n := 443) (x := ((σ.2.1 96 1) + 1)) (Ls_96 hL) (by omega) (by omega) rfl (am_tab tk_X10_begins 11 rfl) rfl ?_
  refine am_aload_n (q := 17) rfl (am_tab tk_X10_begins 12 rfl) rfl ?_
  refine am_callV0 (q := 20) (me2 := M_X10_yearDays) (b := 55) (kb := 10) (nb := 108) (As := []) (rest := [am_i (((σ.2.1 96 1) + 1))]) (out := [am_i (σ.2.1 85 9), am_i (((σ.2.1 96 1) + 1))]) (c_X10_yearDays ((am_setN σ 96 1 (((σ.2.1 96 1) + 1)))) hL  ) ⟨rfl, rfl⟩ (Ls_55 hL) (by decide) ⟨Or.inl km_X10_397, kc_X10_yearDays, kn_X10, kd_X10_yearDays, ⟨(Nat.le_of_ble_eq_true rfl), (Nat.le_of_ble_eq_true rfl)⟩, ⟨(Nat.le_of_ble_eq_true rfl), (Nat.le_of_ble_eq_true rfl)⟩, (Nat.le_of_ble_eq_true rfl)⟩ ki_X10_yearDays ks_X10_yearDays rfl rfl (am_tab tk_X10_begins 13 rfl) rfl ?_
  refine am_icmp_gt (q := 23) (t := 24) (am_tab tk_X10_begins 14 rfl) (by decide) rfl (fun h20 => ?_) (fun h20 => ?_)
  · refine am_aload_n (q := 25) rfl (am_tab tk_X10_begins 16 rfl) rfl ?_
    refine am_getR (q := 28) (a := 55) (k := 10) (n := 108) (j := 54) (r := some (96)) (Ls_55 hL) (by decide) rfl (Lr_55_54 hL) (by decide) (Or.inl kf_X10_136) (am_tab tk_X10_begins 17 rfl) rfl ?_
    refine am_iconst (q := 29) (n := 0) (by decide) (am_tab tk_X10_begins 18 rfl) rfl ?_
    refine am_dup2 (q := 30) rfl rfl (am_tab tk_X10_begins 19 rfl) rfl ?_
    refine am_iald (q := 31) (a := 96) (n := 443) (x := (σ.2.1 96 0)) (Ls_96 hL) (by omega) (by omega) rfl (am_tab tk_X10_begins 20 rfl) rfl ?_
    refine am_iconst (q := 32) (n := 1) (by decide) (am_tab tk_X10_begins 21 rfl) rfl ?_
    refine am_iadd (q := 33) (by omega) (am_tab tk_X10_begins 22 rfl) rfl ?_
    refine am_iast (q := 34) (a := 96) (n := 443) (Ls_96 hL) (by omega) (by omega) (am_tab tk_X10_begins 23 rfl) rfl ?_
    refine am_aload_n (q := 35) rfl (am_tab tk_X10_begins 24 rfl) rfl ?_
    refine am_getR (q := 38) (a := 55) (k := 10) (n := 108) (j := 54) (r := some (96)) (Ls_55 hL) (by decide) rfl (Lr_55_54 hL) (by decide) (Or.inl kf_X10_136) (am_tab tk_X10_begins 25 rfl) rfl ?_
    refine am_iconst (q := 39) (n := 1) (by decide) (am_tab tk_X10_begins 26 rfl) rfl ?_
    refine am_iconst (q := 40) (n := 1) (by decide) (am_tab tk_X10_begins 27 rfl) rfl ?_
    refine am_iast (q := 41) (a := 96) (n := 443) (Ls_96 hL) (by omega) (by omega) (am_tab tk_X10_begins 28 rfl) rfl ?_
    refine am_aload_n (q := 42) rfl (am_tab tk_X10_begins 29 rfl) rfl ?_
    refine am_getR (q := 45) (a := 55) (k := 10) (n := 108) (j := 54) (r := some (96)) (Ls_55 hL) (by decide) rfl (Lr_55_54 hL) (by decide) (Or.inl kf_X10_136) (am_tab tk_X10_begins 30 rfl) rfl ?_
    refine am_iconst (q := 46) (n := 2) (by decide) (am_tab tk_X10_begins 31 rfl) rfl ?_
    refine am_iconst (q := 47) (n := 0) (by decide) (am_tab tk_X10_begins 32 rfl) rfl ?_
    refine am_iast (q := 48) (a := 96) (n := 443) (Ls_96 hL) (by omega) (by omega) (am_tab tk_X10_begins 33 rfl) rfl ?_
    refine am_vret rfl (Nat.le_of_ble_eq_true rfl) (Nat.le_of_ble_eq_true rfl) (am_tab tk_X10_begins 34 rfl) ?_
    refine ⟨rfl, ?_⟩
    unfold begH
    first | rw [if_pos (show σ.2.1 96 1 + 1 ≤ σ.2.1 85 9 by (have h20b : ¬ σ.2.1 85 9 < σ.2.1 96 1 + 1 := h20; omega))] | (rw [if_neg (show ¬ σ.2.1 96 1 + 1 ≤ σ.2.1 85 9 by (have h20b : σ.2.1 85 9 < σ.2.1 96 1 + 1 := h20; omega))]; rfl)
  · refine am_vret rfl (Nat.le_of_ble_eq_true rfl) (Nat.le_of_ble_eq_true rfl) (am_tab tk_X10_begins 15 rfl) ?_
    refine ⟨rfl, ?_⟩
    unfold begH
    first | rw [if_pos (show σ.2.1 96 1 + 1 ≤ σ.2.1 85 9 by (have h20b : ¬ σ.2.1 85 9 < σ.2.1 96 1 + 1 := h20; omega))] | (rw [if_neg (show ¬ σ.2.1 96 1 + 1 ≤ σ.2.1 85 9 by (have h20b : σ.2.1 85 9 < σ.2.1 96 1 + 1 := h20; omega))]; rfl)
def rB (σ : am_H) (wh : Nat) : Nat := (σ.2.1 93 (2 + wh)).toNat
def rE (σ : am_H) (wh : Nat) : Nat := (σ.2.1 94 (2 + wh)).toNat
/-- the codes of rule wh (0 thinks, 1 hears) -/
def ruM (σ : am_H) (wh : Nat) : List Int := (List.range (rE σ wh - rB σ wh)).map (fun i => σ.2.1 95 (1600 + rB σ wh + i))
/-- each rule is none, or well made -/
def RK (σ : am_H) : Prop := ∀ wh, wh < 2 → σ.2.1 93 (2 + wh) = -1 ∨ (0 ≤ σ.2.1 93 (2 + wh) ∧ σ.2.1 93 (2 + wh) ≤ σ.2.1 94 (2 + wh) ∧ σ.2.1 94 (2 + wh) ≤ 1600 ∧ okT (ruM σ wh) [] = true)
def tdM (σ : am_H) (wh p : Nat) : Int := (evL (ptM σ p) [] (ruM σ wh)).headD 0
theorem ruM_len (σ : am_H) (wh : Nat) : (ruM σ wh).length = rE σ wh - rB σ wh := by simp [ruM]
theorem ruM_at (σ : am_H) (wh i : Nat) (h : i < (ruM σ wh).length) : σ.2.1 95 (1600 + rB σ wh + i) = (ruM σ wh).getD i 0 := by
  rw [ruM_len] at h
  simp [ruM, h]
theorem ptM_rng {σ : am_H} (hR : MR σ) {p : Nat} (hp : p < 8) (ho : 0 ≤ σ.2.1 55 59 ∧ σ.2.1 55 59 ≤ 99) (hf : 0 ≤ σ.2.1 55 57 ∧ σ.2.1 55 57 ≤ 1) (hz : 0 ≤ σ.2.1 55 58 ∧ σ.2.1 55 58 ≤ 1) : ∀ w, 0 ≤ w → w < 8 → -1000000 ≤ ptM σ p w ∧ ptM σ p w ≤ 1000000 := by
  intro w h0 h8
  have h1 := hR.day
  have h2 := hR.Y
  have h3 := hR.year
  have h4 := hR.ago p hp
  have h5 := hR.mind p hp
  have h6 := tb_01 (σ.2.1 55 56) p
  unfold ptM
  rcases (show w = 0 ∨ w = 1 ∨ w = 2 ∨ w = 3 ∨ w = 4 ∨ w = 5 ∨ w = 6 ∨ w = 7 by omega) with rfl | rfl | rfl | rfl | rfl | rfl | rfl | rfl <;> simp <;> omega
theorem c_told (σ : am_H) (hL : lay σ) (hR : MR σ) (hK : RK σ) (wh p : Nat) (hwh : wh < 2) (hp : p < 8) (ha : 0 ≤ σ.2.1 55 56 ∧ σ.2.1 55 56 < 256) (ht : 0 ≤ σ.2.1 55 61 ∧ σ.2.1 55 61 < 256) (ho : 0 ≤ σ.2.1 55 59 ∧ σ.2.1 55 59 ≤ 99) (hf : 0 ≤ σ.2.1 55 57 ∧ σ.2.1 55 57 ≤ 1) (hz : 0 ≤ σ.2.1 55 58 ∧ σ.2.1 55 58 ≤ 1) (hn : ¬ σ.2.1 93 (2 + wh) = -1) : am_met M_X10_isTold [am_r 55, am_i (wh : Int), am_i (p : Int)] σ (fun r σ' => r = some (am_i (if tdM σ wh p = 1 then 1 else 0)) ∧ ∃ g : Nat → Int, ∃ z : Int, σ' = am_setN (am_setA σ 129 g) 55 103 z) := by
  rcases hK wh hwh with h | ⟨h1, h2, h3, h4⟩
  · exact absurd h hn
  · exact c_X10_isTold σ hL wh p hwh hp ha ht (rB σ wh) (rE σ wh) (ruM σ wh) (by unfold rB; omega) (by unfold rE; omega) (by unfold rE; omega) (by rw [ruM_len]; unfold rB rE; omega) (fun i hi => ruM_at σ wh i hi) h4 (ptM_rng hR hp ho hf hz)
