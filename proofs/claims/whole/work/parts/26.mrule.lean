def ptM (σ : am_H) (p : Nat) (w : Int) : Int := if w = 0 then σ.2.1 96 1 else if w = 1 then tb (σ.2.1 55 56) p else if w = 2 then σ.2.1 96 (4 + p) else if w = 3 then σ.2.1 87 (8 + p) else if w = 4 then σ.2.1 55 57 else if w = 5 then σ.2.1 96 0 else if w = 6 then σ.2.1 55 58 else if w = 7 then σ.2.1 55 59 else if w = 8 then (p : Int) else if w = 9 then (if σ.2.1 96 (12 + p) = 1 then 1 else 0) else tb (σ.2.1 55 61) p
theorem c_X10_qPartOf (σ : am_H) (hL : lay σ) (w : Int) (p : Nat) (hp : p < 8) (ha : 0 ≤ σ.2.1 55 56 ∧ σ.2.1 55 56 < 256) (ht : 0 ≤ σ.2.1 55 61 ∧ σ.2.1 55 61 < 256) : am_met M_X10_qPartOf [am_r 55, am_i w, am_i ((p : Int))] σ (fun r σ' => r = some (am_l (ptM σ p w)) ∧ σ' = σ) := by
  refine am_enter (show plainFor yX10_qPartOf = true by decide +kernel) rfl (Nat.le_of_ble_eq_true rfl) (fun _ _ _ => trivial) ?_
  have e4 : ((4 : Int) + (p : Int)).toNat = 4 + p := by omega
  have e8 : ((8 : Int) + (p : Int)).toNat = 8 + p := by omega
  have e12 : ((12 : Int) + (p : Int)).toNat = 12 + p := by omega
  refine am_iload_n (q := 1) rfl (am_tab tk_X10_qPartOf 0 rfl) rfl ?_
  rcases (show w = 0 ∨ w = 1 ∨ w = 2 ∨ w = 3 ∨ w = 4 ∨ w = 5 ∨ w = 6 ∨ w = 7 ∨ w = 8 ∨ w = 9 ∨ (w < 0 ∨ 9 < w) by omega) with e1 | e1 | e1 | e1 | e1 | e1 | e1 | e1 | e1 | e1 | e1
  · refine am_tableIn (t := 56) (off := 55) (by omega) (by omega) (by rw [e1]; rfl) dsw_X10_qPartOf_1 (by decide) ?_
    refine am_aload_n (q := 57) rfl (am_tab tk_X10_qPartOf 2 rfl) rfl ?_
    refine am_getR (q := 60) (a := 55) (k := 10) (n := 108) (j := 54) (r := some (96)) (Ls_55 hL) (by decide) rfl (Lr_55_54 hL) (by decide) (Or.inl kf_X10_136) (am_tab tk_X10_qPartOf 3 rfl) rfl ?_
    refine am_iconst (q := 61) (n := 1) (by decide) (am_tab tk_X10_qPartOf 4 rfl) rfl ?_
    refine am_iald (q := 62) (a := 96) (n := 443) (x := (σ.2.1 96 1)) (Ls_96 hL) (by omega) (by omega) rfl (am_tab tk_X10_qPartOf 5 rfl) rfl ?_
    refine am_i2l (q := 63) (am_tab tk_X10_qPartOf 6 rfl) rfl ?_
    refine am_lret rfl (Nat.le_of_ble_eq_true rfl) (Nat.le_of_ble_eq_true rfl) (am_tab tk_X10_qPartOf 7 rfl) ?_
    refine ⟨congrArg (fun z => some (am_l z)) ?_, rfl⟩
    try rw [e4]
    try rw [e8]
    try rw [e12] at h119
    try rw [tb_eq ha ⟨by omega, by omega⟩]
    try rw [tb_eq ht ⟨by omega, by omega⟩]
    unfold ptM
    first
      | (rw [if_neg (by omega), if_neg (by omega), if_neg (by omega), if_neg (by omega), if_neg (by omega), if_neg (by omega), if_neg (by omega), if_neg (by omega), if_neg (by omega), if_pos (by omega)]; first | rw [if_pos (by assumption)] | rw [if_neg (by assumption)])
      | rw [if_pos (by omega)]
      | rw [if_neg (by omega), if_pos (by omega)]
      | rw [if_neg (by omega), if_neg (by omega), if_pos (by omega)]
      | rw [if_neg (by omega), if_neg (by omega), if_neg (by omega), if_pos (by omega)]
      | rw [if_neg (by omega), if_neg (by omega), if_neg (by omega), if_neg (by omega), if_pos (by omega)]
      | rw [if_neg (by omega), if_neg (by omega), if_neg (by omega), if_neg (by omega), if_neg (by omega), if_pos (by omega)]
      | rw [if_neg (by omega), if_neg (by omega), if_neg (by omega), if_neg (by omega), if_neg (by omega), if_neg (by omega), if_pos (by omega)]
      | rw [if_neg (by omega), if_neg (by omega), if_neg (by omega), if_neg (by omega), if_neg (by omega), if_neg (by omega), if_neg (by omega), if_pos (by omega)]
      | rw [if_neg (by omega), if_neg (by omega), if_neg (by omega), if_neg (by omega), if_neg (by omega), if_neg (by omega), if_neg (by omega), if_neg (by omega), if_pos (by omega)]
      | rw [if_neg (by omega), if_neg (by omega), if_neg (by omega), if_neg (by omega), if_neg (by omega), if_neg (by omega), if_neg (by omega), if_neg (by omega), if_neg (by omega), if_pos (by omega)]
      | rw [if_neg (by omega), if_neg (by omega), if_neg (by omega), if_neg (by omega), if_neg (by omega), if_neg (by omega), if_neg (by omega), if_neg (by omega), if_neg (by omega), if_neg (by omega)]
  · refine am_tableIn (t := 64) (off := 63) (by omega) (by omega) (by rw [e1]; rfl) dsw_X10_qPartOf_1 (by decide) ?_
    refine am_aload_n (q := 65) rfl (am_tab tk_X10_qPartOf 8 rfl) rfl ?_
    refine am_getI (q := 68) (a := 55) (k := 10) (n := 108) (j := 56) (x := (σ.2.1 55 56)) (Ls_55 hL) (by decide) rfl rfl (by decide) (Or.inl kf_X10_417) (am_tab tk_X10_qPartOf 9 rfl) rfl ?_
    refine am_iload_n (q := 69) rfl (am_tab tk_X10_qPartOf 10 rfl) rfl ?_
    refine am_ishr (q := 70) (am_tab tk_X10_qPartOf 11 rfl) rfl ?_
    refine am_iconst (q := 71) (n := 1) (by decide) (am_tab tk_X10_qPartOf 12 rfl) rfl ?_
    refine am_iand (q := 72) (am_tab tk_X10_qPartOf 13 rfl) rfl ?_
    refine am_i2l (q := 73) (am_tab tk_X10_qPartOf 14 rfl) rfl ?_
    refine am_lret rfl (Nat.le_of_ble_eq_true rfl) (Nat.le_of_ble_eq_true rfl) (am_tab tk_X10_qPartOf 15 rfl) ?_
    refine ⟨congrArg (fun z => some (am_l z)) ?_, rfl⟩
    try rw [e4]
    try rw [e8]
    try rw [e12] at h119
    try rw [tb_eq ha ⟨by omega, by omega⟩]
    try rw [tb_eq ht ⟨by omega, by omega⟩]
    unfold ptM
    first
      | (rw [if_neg (by omega), if_neg (by omega), if_neg (by omega), if_neg (by omega), if_neg (by omega), if_neg (by omega), if_neg (by omega), if_neg (by omega), if_neg (by omega), if_pos (by omega)]; first | rw [if_pos (by assumption)] | rw [if_neg (by assumption)])
      | rw [if_pos (by omega)]
      | rw [if_neg (by omega), if_pos (by omega)]
      | rw [if_neg (by omega), if_neg (by omega), if_pos (by omega)]
      | rw [if_neg (by omega), if_neg (by omega), if_neg (by omega), if_pos (by omega)]
      | rw [if_neg (by omega), if_neg (by omega), if_neg (by omega), if_neg (by omega), if_pos (by omega)]
      | rw [if_neg (by omega), if_neg (by omega), if_neg (by omega), if_neg (by omega), if_neg (by omega), if_pos (by omega)]
      | rw [if_neg (by omega), if_neg (by omega), if_neg (by omega), if_neg (by omega), if_neg (by omega), if_neg (by omega), if_pos (by omega)]
      | rw [if_neg (by omega), if_neg (by omega), if_neg (by omega), if_neg (by omega), if_neg (by omega), if_neg (by omega), if_neg (by omega), if_pos (by omega)]
      | rw [if_neg (by omega), if_neg (by omega), if_neg (by omega), if_neg (by omega), if_neg (by omega), if_neg (by omega), if_neg (by omega), if_neg (by omega), if_pos (by omega)]
      | rw [if_neg (by omega), if_neg (by omega), if_neg (by omega), if_neg (by omega), if_neg (by omega), if_neg (by omega), if_neg (by omega), if_neg (by omega), if_neg (by omega), if_pos (by omega)]
      | rw [if_neg (by omega), if_neg (by omega), if_neg (by omega), if_neg (by omega), if_neg (by omega), if_neg (by omega), if_neg (by omega), if_neg (by omega), if_neg (by omega), if_neg (by omega)]
  · refine am_tableIn (t := 74) (off := 73) (by omega) (by omega) (by rw [e1]; rfl) dsw_X10_qPartOf_1 (by decide) ?_
    refine am_aload_n (q := 75) rfl (am_tab tk_X10_qPartOf 16 rfl) rfl ?_
    refine am_iload_n (q := 76) rfl (am_tab tk_X10_qPartOf 17 rfl) rfl ?_
    refine am_callV0 (q := 79) (me2 := M_X10_agoOf) (b := 55) (kb := 10) (nb := 108) (As := [am_i ((p : Int))]) (rest := []) (out := [am_i (σ.2.1 96 (4 + (p : Int)).toNat)]) (c_X10_agoOf σ hL (p : Int) (by omega)) ⟨rfl, rfl⟩ (Ls_55 hL) (by decide) ⟨Or.inl km_X10_467, kc_X10_agoOf, kn_X10, kd_X10_agoOf, ⟨(Nat.le_of_ble_eq_true rfl), (Nat.le_of_ble_eq_true rfl)⟩, ⟨(Nat.le_of_ble_eq_true rfl), (Nat.le_of_ble_eq_true rfl)⟩, (Nat.le_of_ble_eq_true rfl)⟩ ki_X10_agoOf ks_X10_agoOf rfl rfl (am_tab tk_X10_qPartOf 18 rfl) rfl ?_
    refine am_i2l (q := 80) (am_tab tk_X10_qPartOf 19 rfl) rfl ?_
    refine am_lret rfl (Nat.le_of_ble_eq_true rfl) (Nat.le_of_ble_eq_true rfl) (am_tab tk_X10_qPartOf 20 rfl) ?_
    refine ⟨congrArg (fun z => some (am_l z)) ?_, rfl⟩
    try rw [e4]
    try rw [e8]
    try rw [e12] at h119
    try rw [tb_eq ha ⟨by omega, by omega⟩]
    try rw [tb_eq ht ⟨by omega, by omega⟩]
    unfold ptM
    first
      | (rw [if_neg (by omega), if_neg (by omega), if_neg (by omega), if_neg (by omega), if_neg (by omega), if_neg (by omega), if_neg (by omega), if_neg (by omega), if_neg (by omega), if_pos (by omega)]; first | rw [if_pos (by assumption)] | rw [if_neg (by assumption)])
      | rw [if_pos (by omega)]
      | rw [if_neg (by omega), if_pos (by omega)]
      | rw [if_neg (by omega), if_neg (by omega), if_pos (by omega)]
      | rw [if_neg (by omega), if_neg (by omega), if_neg (by omega), if_pos (by omega)]
      | rw [if_neg (by omega), if_neg (by omega), if_neg (by omega), if_neg (by omega), if_pos (by omega)]
      | rw [if_neg (by omega), if_neg (by omega), if_neg (by omega), if_neg (by omega), if_neg (by omega), if_pos (by omega)]
      | rw [if_neg (by omega), if_neg (by omega), if_neg (by omega), if_neg (by omega), if_neg (by omega), if_neg (by omega), if_pos (by omega)]
      | rw [if_neg (by omega), if_neg (by omega), if_neg (by omega), if_neg (by omega), if_neg (by omega), if_neg (by omega), if_neg (by omega), if_pos (by omega)]
      | rw [if_neg (by omega), if_neg (by omega), if_neg (by omega), if_neg (by omega), if_neg (by omega), if_neg (by omega), if_neg (by omega), if_neg (by omega), if_pos (by omega)]
      | rw [if_neg (by omega), if_neg (by omega), if_neg (by omega), if_neg (by omega), if_neg (by omega), if_neg (by omega), if_neg (by omega), if_neg (by omega), if_neg (by omega), if_pos (by omega)]
      | rw [if_neg (by omega), if_neg (by omega), if_neg (by omega), if_neg (by omega), if_neg (by omega), if_neg (by omega), if_neg (by omega), if_neg (by omega), if_neg (by omega), if_neg (by omega)]
  · refine am_tableIn (t := 81) (off := 80) (by omega) (by omega) (by rw [e1]; rfl) dsw_X10_qPartOf_1 (by decide) ?_
    refine am_aload_n (q := 82) rfl (am_tab tk_X10_qPartOf 21 rfl) rfl ?_
    refine am_iload_n (q := 83) rfl (am_tab tk_X10_qPartOf 22 rfl) rfl ?_
    refine am_callV0 (q := 86) (me2 := M_X10_mindOf) (b := 55) (kb := 10) (nb := 108) (As := [am_i ((p : Int))]) (rest := []) (out := [am_i (σ.2.1 87 (8 + (p : Int)).toNat)]) (c_X10_mindOf σ hL (p : Int) (by omega)) ⟨rfl, rfl⟩ (Ls_55 hL) (by decide) ⟨Or.inl km_X10_439, kc_X10_mindOf, kn_X10, kd_X10_mindOf, ⟨(Nat.le_of_ble_eq_true rfl), (Nat.le_of_ble_eq_true rfl)⟩, ⟨(Nat.le_of_ble_eq_true rfl), (Nat.le_of_ble_eq_true rfl)⟩, (Nat.le_of_ble_eq_true rfl)⟩ ki_X10_mindOf ks_X10_mindOf rfl rfl (am_tab tk_X10_qPartOf 23 rfl) rfl ?_
    refine am_i2l (q := 87) (am_tab tk_X10_qPartOf 24 rfl) rfl ?_
    refine am_lret rfl (Nat.le_of_ble_eq_true rfl) (Nat.le_of_ble_eq_true rfl) (am_tab tk_X10_qPartOf 25 rfl) ?_
    refine ⟨congrArg (fun z => some (am_l z)) ?_, rfl⟩
    try rw [e4]
    try rw [e8]
    try rw [e12] at h119
    try rw [tb_eq ha ⟨by omega, by omega⟩]
    try rw [tb_eq ht ⟨by omega, by omega⟩]
    unfold ptM
    first
      | (rw [if_neg (by omega), if_neg (by omega), if_neg (by omega), if_neg (by omega), if_neg (by omega), if_neg (by omega), if_neg (by omega), if_neg (by omega), if_neg (by omega), if_pos (by omega)]; first | rw [if_pos (by assumption)] | rw [if_neg (by assumption)])
      | rw [if_pos (by omega)]
      | rw [if_neg (by omega), if_pos (by omega)]
      | rw [if_neg (by omega), if_neg (by omega), if_pos (by omega)]
      | rw [if_neg (by omega), if_neg (by omega), if_neg (by omega), if_pos (by omega)]
      | rw [if_neg (by omega), if_neg (by omega), if_neg (by omega), if_neg (by omega), if_pos (by omega)]
      | rw [if_neg (by omega), if_neg (by omega), if_neg (by omega), if_neg (by omega), if_neg (by omega), if_pos (by omega)]
      | rw [if_neg (by omega), if_neg (by omega), if_neg (by omega), if_neg (by omega), if_neg (by omega), if_neg (by omega), if_pos (by omega)]
      | rw [if_neg (by omega), if_neg (by omega), if_neg (by omega), if_neg (by omega), if_neg (by omega), if_neg (by omega), if_neg (by omega), if_pos (by omega)]
      | rw [if_neg (by omega), if_neg (by omega), if_neg (by omega), if_neg (by omega), if_neg (by omega), if_neg (by omega), if_neg (by omega), if_neg (by omega), if_pos (by omega)]
      | rw [if_neg (by omega), if_neg (by omega), if_neg (by omega), if_neg (by omega), if_neg (by omega), if_neg (by omega), if_neg (by omega), if_neg (by omega), if_neg (by omega), if_pos (by omega)]
      | rw [if_neg (by omega), if_neg (by omega), if_neg (by omega), if_neg (by omega), if_neg (by omega), if_neg (by omega), if_neg (by omega), if_neg (by omega), if_neg (by omega), if_neg (by omega)]
  · refine am_tableIn (t := 88) (off := 87) (by omega) (by omega) (by rw [e1]; rfl) dsw_X10_qPartOf_1 (by decide) ?_
    refine am_aload_n (q := 89) rfl (am_tab tk_X10_qPartOf 26 rfl) rfl ?_
    refine am_getL (q := 92) (a := 55) (k := 10) (n := 108) (j := 57) (x := (σ.2.1 55 57)) (Ls_55 hL) (by decide) rfl rfl (by decide) (Or.inl kf_X10_420) (am_tab tk_X10_qPartOf 27 rfl) rfl ?_
    refine am_lret rfl (Nat.le_of_ble_eq_true rfl) (Nat.le_of_ble_eq_true rfl) (am_tab tk_X10_qPartOf 28 rfl) ?_
    refine ⟨congrArg (fun z => some (am_l z)) ?_, rfl⟩
    try rw [e4]
    try rw [e8]
    try rw [e12] at h119
    try rw [tb_eq ha ⟨by omega, by omega⟩]
    try rw [tb_eq ht ⟨by omega, by omega⟩]
    unfold ptM
    first
      | (rw [if_neg (by omega), if_neg (by omega), if_neg (by omega), if_neg (by omega), if_neg (by omega), if_neg (by omega), if_neg (by omega), if_neg (by omega), if_neg (by omega), if_pos (by omega)]; first | rw [if_pos (by assumption)] | rw [if_neg (by assumption)])
      | rw [if_pos (by omega)]
      | rw [if_neg (by omega), if_pos (by omega)]
      | rw [if_neg (by omega), if_neg (by omega), if_pos (by omega)]
      | rw [if_neg (by omega), if_neg (by omega), if_neg (by omega), if_pos (by omega)]
      | rw [if_neg (by omega), if_neg (by omega), if_neg (by omega), if_neg (by omega), if_pos (by omega)]
      | rw [if_neg (by omega), if_neg (by omega), if_neg (by omega), if_neg (by omega), if_neg (by omega), if_pos (by omega)]
      | rw [if_neg (by omega), if_neg (by omega), if_neg (by omega), if_neg (by omega), if_neg (by omega), if_neg (by omega), if_pos (by omega)]
      | rw [if_neg (by omega), if_neg (by omega), if_neg (by omega), if_neg (by omega), if_neg (by omega), if_neg (by omega), if_neg (by omega), if_pos (by omega)]
      | rw [if_neg (by omega), if_neg (by omega), if_neg (by omega), if_neg (by omega), if_neg (by omega), if_neg (by omega), if_neg (by omega), if_neg (by omega), if_pos (by omega)]
      | rw [if_neg (by omega), if_neg (by omega), if_neg (by omega), if_neg (by omega), if_neg (by omega), if_neg (by omega), if_neg (by omega), if_neg (by omega), if_neg (by omega), if_pos (by omega)]
      | rw [if_neg (by omega), if_neg (by omega), if_neg (by omega), if_neg (by omega), if_neg (by omega), if_neg (by omega), if_neg (by omega), if_neg (by omega), if_neg (by omega), if_neg (by omega)]
  · refine am_tableIn (t := 93) (off := 92) (by omega) (by omega) (by rw [e1]; rfl) dsw_X10_qPartOf_1 (by decide) ?_
    refine am_aload_n (q := 94) rfl (am_tab tk_X10_qPartOf 29 rfl) rfl ?_
    refine am_getR (q := 97) (a := 55) (k := 10) (n := 108) (j := 54) (r := some (96)) (Ls_55 hL) (by decide) rfl (Lr_55_54 hL) (by decide) (Or.inl kf_X10_136) (am_tab tk_X10_qPartOf 30 rfl) rfl ?_
    refine am_iconst (q := 98) (n := 0) (by decide) (am_tab tk_X10_qPartOf 31 rfl) rfl ?_
    refine am_iald (q := 99) (a := 96) (n := 443) (x := (σ.2.1 96 0)) (Ls_96 hL) (by omega) (by omega) rfl (am_tab tk_X10_qPartOf 32 rfl) rfl ?_
    refine am_i2l (q := 100) (am_tab tk_X10_qPartOf 33 rfl) rfl ?_
    refine am_lret rfl (Nat.le_of_ble_eq_true rfl) (Nat.le_of_ble_eq_true rfl) (am_tab tk_X10_qPartOf 34 rfl) ?_
    refine ⟨congrArg (fun z => some (am_l z)) ?_, rfl⟩
    try rw [e4]
    try rw [e8]
    try rw [e12] at h119
    try rw [tb_eq ha ⟨by omega, by omega⟩]
    try rw [tb_eq ht ⟨by omega, by omega⟩]
    unfold ptM
    first
      | (rw [if_neg (by omega), if_neg (by omega), if_neg (by omega), if_neg (by omega), if_neg (by omega), if_neg (by omega), if_neg (by omega), if_neg (by omega), if_neg (by omega), if_pos (by omega)]; first | rw [if_pos (by assumption)] | rw [if_neg (by assumption)])
      | rw [if_pos (by omega)]
      | rw [if_neg (by omega), if_pos (by omega)]
      | rw [if_neg (by omega), if_neg (by omega), if_pos (by omega)]
      | rw [if_neg (by omega), if_neg (by omega), if_neg (by omega), if_pos (by omega)]
      | rw [if_neg (by omega), if_neg (by omega), if_neg (by omega), if_neg (by omega), if_pos (by omega)]
      | rw [if_neg (by omega), if_neg (by omega), if_neg (by omega), if_neg (by omega), if_neg (by omega), if_pos (by omega)]
      | rw [if_neg (by omega), if_neg (by omega), if_neg (by omega), if_neg (by omega), if_neg (by omega), if_neg (by omega), if_pos (by omega)]
      | rw [if_neg (by omega), if_neg (by omega), if_neg (by omega), if_neg (by omega), if_neg (by omega), if_neg (by omega), if_neg (by omega), if_pos (by omega)]
      | rw [if_neg (by omega), if_neg (by omega), if_neg (by omega), if_neg (by omega), if_neg (by omega), if_neg (by omega), if_neg (by omega), if_neg (by omega), if_pos (by omega)]
      | rw [if_neg (by omega), if_neg (by omega), if_neg (by omega), if_neg (by omega), if_neg (by omega), if_neg (by omega), if_neg (by omega), if_neg (by omega), if_neg (by omega), if_pos (by omega)]
      | rw [if_neg (by omega), if_neg (by omega), if_neg (by omega), if_neg (by omega), if_neg (by omega), if_neg (by omega), if_neg (by omega), if_neg (by omega), if_neg (by omega), if_neg (by omega)]
  · refine am_tableIn (t := 101) (off := 100) (by omega) (by omega) (by rw [e1]; rfl) dsw_X10_qPartOf_1 (by decide) ?_
    refine am_aload_n (q := 102) rfl (am_tab tk_X10_qPartOf 35 rfl) rfl ?_
    refine am_getL (q := 105) (a := 55) (k := 10) (n := 108) (j := 58) (x := (σ.2.1 55 58)) (Ls_55 hL) (by decide) rfl rfl (by decide) (Or.inl kf_X10_426) (am_tab tk_X10_qPartOf 36 rfl) rfl ?_
    refine am_lret rfl (Nat.le_of_ble_eq_true rfl) (Nat.le_of_ble_eq_true rfl) (am_tab tk_X10_qPartOf 37 rfl) ?_
    refine ⟨congrArg (fun z => some (am_l z)) ?_, rfl⟩
    try rw [e4]
    try rw [e8]
    try rw [e12] at h119
    try rw [tb_eq ha ⟨by omega, by omega⟩]
    try rw [tb_eq ht ⟨by omega, by omega⟩]
    unfold ptM
    first
      | (rw [if_neg (by omega), if_neg (by omega), if_neg (by omega), if_neg (by omega), if_neg (by omega), if_neg (by omega), if_neg (by omega), if_neg (by omega), if_neg (by omega), if_pos (by omega)]; first | rw [if_pos (by assumption)] | rw [if_neg (by assumption)])
      | rw [if_pos (by omega)]
      | rw [if_neg (by omega), if_pos (by omega)]
      | rw [if_neg (by omega), if_neg (by omega), if_pos (by omega)]
      | rw [if_neg (by omega), if_neg (by omega), if_neg (by omega), if_pos (by omega)]
      | rw [if_neg (by omega), if_neg (by omega), if_neg (by omega), if_neg (by omega), if_pos (by omega)]
      | rw [if_neg (by omega), if_neg (by omega), if_neg (by omega), if_neg (by omega), if_neg (by omega), if_pos (by omega)]
      | rw [if_neg (by omega), if_neg (by omega), if_neg (by omega), if_neg (by omega), if_neg (by omega), if_neg (by omega), if_pos (by omega)]
      | rw [if_neg (by omega), if_neg (by omega), if_neg (by omega), if_neg (by omega), if_neg (by omega), if_neg (by omega), if_neg (by omega), if_pos (by omega)]
      | rw [if_neg (by omega), if_neg (by omega), if_neg (by omega), if_neg (by omega), if_neg (by omega), if_neg (by omega), if_neg (by omega), if_neg (by omega), if_pos (by omega)]
      | rw [if_neg (by omega), if_neg (by omega), if_neg (by omega), if_neg (by omega), if_neg (by omega), if_neg (by omega), if_neg (by omega), if_neg (by omega), if_neg (by omega), if_pos (by omega)]
      | rw [if_neg (by omega), if_neg (by omega), if_neg (by omega), if_neg (by omega), if_neg (by omega), if_neg (by omega), if_neg (by omega), if_neg (by omega), if_neg (by omega), if_neg (by omega)]
  · refine am_tableIn (t := 106) (off := 105) (by omega) (by omega) (by rw [e1]; rfl) dsw_X10_qPartOf_1 (by decide) ?_
    refine am_aload_n (q := 107) rfl (am_tab tk_X10_qPartOf 38 rfl) rfl ?_
    refine am_getL (q := 110) (a := 55) (k := 10) (n := 108) (j := 59) (x := (σ.2.1 55 59)) (Ls_55 hL) (by decide) rfl rfl (by decide) (Or.inl kf_X10_443) (am_tab tk_X10_qPartOf 39 rfl) rfl ?_
    refine am_lret rfl (Nat.le_of_ble_eq_true rfl) (Nat.le_of_ble_eq_true rfl) (am_tab tk_X10_qPartOf 40 rfl) ?_
    refine ⟨congrArg (fun z => some (am_l z)) ?_, rfl⟩
    try rw [e4]
    try rw [e8]
    try rw [e12] at h119
    try rw [tb_eq ha ⟨by omega, by omega⟩]
    try rw [tb_eq ht ⟨by omega, by omega⟩]
    unfold ptM
    first
      | (rw [if_neg (by omega), if_neg (by omega), if_neg (by omega), if_neg (by omega), if_neg (by omega), if_neg (by omega), if_neg (by omega), if_neg (by omega), if_neg (by omega), if_pos (by omega)]; first | rw [if_pos (by assumption)] | rw [if_neg (by assumption)])
      | rw [if_pos (by omega)]
      | rw [if_neg (by omega), if_pos (by omega)]
      | rw [if_neg (by omega), if_neg (by omega), if_pos (by omega)]
      | rw [if_neg (by omega), if_neg (by omega), if_neg (by omega), if_pos (by omega)]
      | rw [if_neg (by omega), if_neg (by omega), if_neg (by omega), if_neg (by omega), if_pos (by omega)]
      | rw [if_neg (by omega), if_neg (by omega), if_neg (by omega), if_neg (by omega), if_neg (by omega), if_pos (by omega)]
      | rw [if_neg (by omega), if_neg (by omega), if_neg (by omega), if_neg (by omega), if_neg (by omega), if_neg (by omega), if_pos (by omega)]
      | rw [if_neg (by omega), if_neg (by omega), if_neg (by omega), if_neg (by omega), if_neg (by omega), if_neg (by omega), if_neg (by omega), if_pos (by omega)]
      | rw [if_neg (by omega), if_neg (by omega), if_neg (by omega), if_neg (by omega), if_neg (by omega), if_neg (by omega), if_neg (by omega), if_neg (by omega), if_pos (by omega)]
      | rw [if_neg (by omega), if_neg (by omega), if_neg (by omega), if_neg (by omega), if_neg (by omega), if_neg (by omega), if_neg (by omega), if_neg (by omega), if_neg (by omega), if_pos (by omega)]
      | rw [if_neg (by omega), if_neg (by omega), if_neg (by omega), if_neg (by omega), if_neg (by omega), if_neg (by omega), if_neg (by omega), if_neg (by omega), if_neg (by omega), if_neg (by omega)]
  · refine am_tableIn (t := 111) (off := 110) (by omega) (by omega) (by rw [e1]; rfl) dsw_X10_qPartOf_1 (by decide) ?_
    refine am_iload_n (q := 112) rfl (am_tab tk_X10_qPartOf 41 rfl) rfl ?_
    refine am_i2l (q := 113) (am_tab tk_X10_qPartOf 42 rfl) rfl ?_
    refine am_lret rfl (Nat.le_of_ble_eq_true rfl) (Nat.le_of_ble_eq_true rfl) (am_tab tk_X10_qPartOf 43 rfl) ?_
    refine ⟨congrArg (fun z => some (am_l z)) ?_, rfl⟩
    try rw [e4]
    try rw [e8]
    try rw [e12] at h119
    try rw [tb_eq ha ⟨by omega, by omega⟩]
    try rw [tb_eq ht ⟨by omega, by omega⟩]
    unfold ptM
    first
      | (rw [if_neg (by omega), if_neg (by omega), if_neg (by omega), if_neg (by omega), if_neg (by omega), if_neg (by omega), if_neg (by omega), if_neg (by omega), if_neg (by omega), if_pos (by omega)]; first | rw [if_pos (by assumption)] | rw [if_neg (by assumption)])
      | rw [if_pos (by omega)]
      | rw [if_neg (by omega), if_pos (by omega)]
      | rw [if_neg (by omega), if_neg (by omega), if_pos (by omega)]
      | rw [if_neg (by omega), if_neg (by omega), if_neg (by omega), if_pos (by omega)]
      | rw [if_neg (by omega), if_neg (by omega), if_neg (by omega), if_neg (by omega), if_pos (by omega)]
      | rw [if_neg (by omega), if_neg (by omega), if_neg (by omega), if_neg (by omega), if_neg (by omega), if_pos (by omega)]
      | rw [if_neg (by omega), if_neg (by omega), if_neg (by omega), if_neg (by omega), if_neg (by omega), if_neg (by omega), if_pos (by omega)]
      | rw [if_neg (by omega), if_neg (by omega), if_neg (by omega), if_neg (by omega), if_neg (by omega), if_neg (by omega), if_neg (by omega), if_pos (by omega)]
      | rw [if_neg (by omega), if_neg (by omega), if_neg (by omega), if_neg (by omega), if_neg (by omega), if_neg (by omega), if_neg (by omega), if_neg (by omega), if_pos (by omega)]
      | rw [if_neg (by omega), if_neg (by omega), if_neg (by omega), if_neg (by omega), if_neg (by omega), if_neg (by omega), if_neg (by omega), if_neg (by omega), if_neg (by omega), if_pos (by omega)]
      | rw [if_neg (by omega), if_neg (by omega), if_neg (by omega), if_neg (by omega), if_neg (by omega), if_neg (by omega), if_neg (by omega), if_neg (by omega), if_neg (by omega), if_neg (by omega)]
  · refine am_tableIn (t := 114) (off := 113) (by omega) (by omega) (by rw [e1]; rfl) dsw_X10_qPartOf_1 (by decide) ?_
    refine am_aload_n (q := 115) rfl (am_tab tk_X10_qPartOf 44 rfl) rfl ?_
    refine am_iload_n (q := 116) rfl (am_tab tk_X10_qPartOf 45 rfl) rfl ?_
    refine am_callV0 (q := 119) (me2 := M_X10_isDead) (b := 55) (kb := 10) (nb := 108) (As := [am_i ((p : Int))]) (rest := []) (out := [am_i (if σ.2.1 96 (12 + (p : Int)).toNat = 1 then 1 else 0)]) (c_X10_isDead σ hL (p : Int) (by omega)) ⟨rfl, rfl⟩ (Ls_55 hL) (by decide) ⟨Or.inl km_X10_400, kc_X10_isDead, kn_X10, kd_X10_isDead, ⟨(Nat.le_of_ble_eq_true rfl), (Nat.le_of_ble_eq_true rfl)⟩, ⟨(Nat.le_of_ble_eq_true rfl), (Nat.le_of_ble_eq_true rfl)⟩, (Nat.le_of_ble_eq_true rfl)⟩ ki_X10_isDead ks_X10_isDead rfl rfl (am_tab tk_X10_qPartOf 46 rfl) rfl ?_
    refine am_if_eq (q := 122) (t := 126) (am_tab tk_X10_qPartOf 47 rfl) (by decide) rfl (fun h119 => ?_) (fun h119 => ?_)
    · replace h119 := b01z h119
      refine am_lconst0 (q := 127) (am_tab tk_X10_qPartOf 50 rfl) rfl ?_
      refine am_lret rfl (Nat.le_of_ble_eq_true rfl) (Nat.le_of_ble_eq_true rfl) (am_tab tk_X10_qPartOf 51 rfl) ?_
      refine ⟨congrArg (fun z => some (am_l z)) ?_, rfl⟩
      try rw [e4]
      try rw [e8]
      try rw [e12] at h119
      try rw [tb_eq ha ⟨by omega, by omega⟩]
      try rw [tb_eq ht ⟨by omega, by omega⟩]
      unfold ptM
      first
        | (rw [if_neg (by omega), if_neg (by omega), if_neg (by omega), if_neg (by omega), if_neg (by omega), if_neg (by omega), if_neg (by omega), if_neg (by omega), if_neg (by omega), if_pos (by omega)]; first | rw [if_pos (by assumption)] | rw [if_neg (by assumption)])
        | rw [if_pos (by omega)]
        | rw [if_neg (by omega), if_pos (by omega)]
        | rw [if_neg (by omega), if_neg (by omega), if_pos (by omega)]
        | rw [if_neg (by omega), if_neg (by omega), if_neg (by omega), if_pos (by omega)]
        | rw [if_neg (by omega), if_neg (by omega), if_neg (by omega), if_neg (by omega), if_pos (by omega)]
        | rw [if_neg (by omega), if_neg (by omega), if_neg (by omega), if_neg (by omega), if_neg (by omega), if_pos (by omega)]
        | rw [if_neg (by omega), if_neg (by omega), if_neg (by omega), if_neg (by omega), if_neg (by omega), if_neg (by omega), if_pos (by omega)]
        | rw [if_neg (by omega), if_neg (by omega), if_neg (by omega), if_neg (by omega), if_neg (by omega), if_neg (by omega), if_neg (by omega), if_pos (by omega)]
        | rw [if_neg (by omega), if_neg (by omega), if_neg (by omega), if_neg (by omega), if_neg (by omega), if_neg (by omega), if_neg (by omega), if_neg (by omega), if_pos (by omega)]
        | rw [if_neg (by omega), if_neg (by omega), if_neg (by omega), if_neg (by omega), if_neg (by omega), if_neg (by omega), if_neg (by omega), if_neg (by omega), if_neg (by omega), if_pos (by omega)]
        | rw [if_neg (by omega), if_neg (by omega), if_neg (by omega), if_neg (by omega), if_neg (by omega), if_neg (by omega), if_neg (by omega), if_neg (by omega), if_neg (by omega), if_neg (by omega)]
    · replace h119 := b01n h119
      refine am_lconst1 (q := 123) (am_tab tk_X10_qPartOf 48 rfl) rfl ?_
      refine am_goto (t := 127) (am_tab tk_X10_qPartOf 49 rfl) (by decide) ?_
      refine am_lret rfl (Nat.le_of_ble_eq_true rfl) (Nat.le_of_ble_eq_true rfl) (am_tab tk_X10_qPartOf 51 rfl) ?_
      refine ⟨congrArg (fun z => some (am_l z)) ?_, rfl⟩
      try rw [e4]
      try rw [e8]
      try rw [e12] at h119
      try rw [tb_eq ha ⟨by omega, by omega⟩]
      try rw [tb_eq ht ⟨by omega, by omega⟩]
      unfold ptM
      first
        | (rw [if_neg (by omega), if_neg (by omega), if_neg (by omega), if_neg (by omega), if_neg (by omega), if_neg (by omega), if_neg (by omega), if_neg (by omega), if_neg (by omega), if_pos (by omega)]; first | rw [if_pos (by assumption)] | rw [if_neg (by assumption)])
        | rw [if_pos (by omega)]
        | rw [if_neg (by omega), if_pos (by omega)]
        | rw [if_neg (by omega), if_neg (by omega), if_pos (by omega)]
        | rw [if_neg (by omega), if_neg (by omega), if_neg (by omega), if_pos (by omega)]
        | rw [if_neg (by omega), if_neg (by omega), if_neg (by omega), if_neg (by omega), if_pos (by omega)]
        | rw [if_neg (by omega), if_neg (by omega), if_neg (by omega), if_neg (by omega), if_neg (by omega), if_pos (by omega)]
        | rw [if_neg (by omega), if_neg (by omega), if_neg (by omega), if_neg (by omega), if_neg (by omega), if_neg (by omega), if_pos (by omega)]
        | rw [if_neg (by omega), if_neg (by omega), if_neg (by omega), if_neg (by omega), if_neg (by omega), if_neg (by omega), if_neg (by omega), if_pos (by omega)]
        | rw [if_neg (by omega), if_neg (by omega), if_neg (by omega), if_neg (by omega), if_neg (by omega), if_neg (by omega), if_neg (by omega), if_neg (by omega), if_pos (by omega)]
        | rw [if_neg (by omega), if_neg (by omega), if_neg (by omega), if_neg (by omega), if_neg (by omega), if_neg (by omega), if_neg (by omega), if_neg (by omega), if_neg (by omega), if_pos (by omega)]
        | rw [if_neg (by omega), if_neg (by omega), if_neg (by omega), if_neg (by omega), if_neg (by omega), if_neg (by omega), if_neg (by omega), if_neg (by omega), if_neg (by omega), if_neg (by omega)]
  · refine am_tableOut (t := 128) e1 dsw_X10_qPartOf_1 (by decide) ?_
    refine am_aload_n (q := 129) rfl (am_tab tk_X10_qPartOf 52 rfl) rfl ?_
    refine am_getI (q := 132) (a := 55) (k := 10) (n := 108) (j := 61) (x := (σ.2.1 55 61)) (Ls_55 hL) (by decide) rfl rfl (by decide) (Or.inl kf_X10_461) (am_tab tk_X10_qPartOf 53 rfl) rfl ?_
    refine am_iload_n (q := 133) rfl (am_tab tk_X10_qPartOf 54 rfl) rfl ?_
    refine am_ishr (q := 134) (am_tab tk_X10_qPartOf 55 rfl) rfl ?_
    refine am_iconst (q := 135) (n := 1) (by decide) (am_tab tk_X10_qPartOf 56 rfl) rfl ?_
    refine am_iand (q := 136) (am_tab tk_X10_qPartOf 57 rfl) rfl ?_
    refine am_i2l (q := 137) (am_tab tk_X10_qPartOf 58 rfl) rfl ?_
    refine am_lret rfl (Nat.le_of_ble_eq_true rfl) (Nat.le_of_ble_eq_true rfl) (am_tab tk_X10_qPartOf 59 rfl) ?_
    refine ⟨congrArg (fun z => some (am_l z)) ?_, rfl⟩
    try rw [e4]
    try rw [e8]
    try rw [e12] at h119
    try rw [tb_eq ha ⟨by omega, by omega⟩]
    try rw [tb_eq ht ⟨by omega, by omega⟩]
    unfold ptM
    first
      | (rw [if_neg (by omega), if_neg (by omega), if_neg (by omega), if_neg (by omega), if_neg (by omega), if_neg (by omega), if_neg (by omega), if_neg (by omega), if_neg (by omega), if_pos (by omega)]; first | rw [if_pos (by assumption)] | rw [if_neg (by assumption)])
      | rw [if_pos (by omega)]
      | rw [if_neg (by omega), if_pos (by omega)]
      | rw [if_neg (by omega), if_neg (by omega), if_pos (by omega)]
      | rw [if_neg (by omega), if_neg (by omega), if_neg (by omega), if_pos (by omega)]
      | rw [if_neg (by omega), if_neg (by omega), if_neg (by omega), if_neg (by omega), if_pos (by omega)]
      | rw [if_neg (by omega), if_neg (by omega), if_neg (by omega), if_neg (by omega), if_neg (by omega), if_pos (by omega)]
      | rw [if_neg (by omega), if_neg (by omega), if_neg (by omega), if_neg (by omega), if_neg (by omega), if_neg (by omega), if_pos (by omega)]
      | rw [if_neg (by omega), if_neg (by omega), if_neg (by omega), if_neg (by omega), if_neg (by omega), if_neg (by omega), if_neg (by omega), if_pos (by omega)]
      | rw [if_neg (by omega), if_neg (by omega), if_neg (by omega), if_neg (by omega), if_neg (by omega), if_neg (by omega), if_neg (by omega), if_neg (by omega), if_pos (by omega)]
      | rw [if_neg (by omega), if_neg (by omega), if_neg (by omega), if_neg (by omega), if_neg (by omega), if_neg (by omega), if_neg (by omega), if_neg (by omega), if_neg (by omega), if_pos (by omega)]
      | rw [if_neg (by omega), if_neg (by omega), if_neg (by omega), if_neg (by omega), if_neg (by omega), if_neg (by omega), if_neg (by omega), if_neg (by omega), if_neg (by omega), if_neg (by omega)]
/-- the values on a pile, the top first -/
def pl (f : Nat → Int) : Nat → List Int
  | 0 => []
  | n + 1 => f n :: pl f n
theorem pl_up (f : Nat → Int) (k : Nat) (x : Int) : ∀ n, n ≤ k → pl (fun i => if i = k then x else f i) n = pl f n
  | 0, _ => rfl
  | n + 1, h => by
    unfold pl
    rw [if_neg (by omega), pl_up f k x n (by omega)]
theorem pl_push (f : Nat → Int) (n : Nat) (x : Int) : pl (fun i => if i = n then x else f i) (n + 1) = x :: pl f n := by
  show (if n = n then x else f n) :: pl _ n = _
  rw [if_pos rfl, pl_up f n x n (Nat.le_refl _)]
theorem pl_len (f : Nat → Int) : ∀ n, (pl f n).length = n
  | 0 => rfl
  | n + 1 => by show (pl f n).length + 1 = n + 1; rw [pl_len f n]
/-- one code of a rule, on values; env tells the parts -/
def ev1 (env : Int → Int) (st : List Int) (v : Int) : List Int :=
  if 1000 ≤ v then (v - 1000) :: st else if 40 ≤ v then env (v - 40) :: st else if v = 13 then 1 :: st else
  match st with
  | [] => []
  | b :: t => if v = 12 then (1 - b) :: t else match t with
    | [] => [b]
    | a :: t2 => jn v a b :: t2
def evL (env : Int → Int) : List Int → List Int → List Int
  | st, [] => st
  | st, v :: cs => evL env (ev1 env st v) cs
/-- kinds of values: true a truth, false a number -/
def ty1 (ts : List Bool) (v : Int) : Option (List Bool) :=
  if 1000 ≤ v then (if v < 11000 then some (false :: ts) else none) else if 40 ≤ v then (if v < 48 then some (false :: ts) else none) else if v = 13 then some (true :: ts) else
  match ts with
  | true :: t => if v = 12 then some (true :: t) else match t with
    | true :: t2 => if v = 10 ∨ v = 11 then some (true :: t2) else none
    | _ => none
  | false :: false :: t => if 1 ≤ v ∧ v ≤ 6 then some (false :: t) else if 7 ≤ v ∧ v ≤ 9 then some (true :: t) else none
  | _ => none
def okT : List Int → List Bool → Bool
  | [], ts => ts == [true]
  | v :: cs, ts => match ty1 ts v with
    | some t => decide (t.length ≤ 60) && okT cs t
    | none => false
def vOK (t : Bool) (x : Int) : Prop := if t then x = 0 ∨ x = 1 else -1000000 ≤ x ∧ x ≤ 1000000
def tyOK : List Bool → List Int → Prop
  | [], [] => True
  | t :: ts, x :: xs => vOK t x ∧ tyOK ts xs
  | _, _ => False
theorem vOK_r {t : Bool} {x : Int} (h : vOK t x) : -1000000 ≤ x ∧ x ≤ 1000000 := by cases t <;> simp [vOK] at h <;> omega
theorem tyOK_len : ∀ {ts : List Bool} {st : List Int}, tyOK ts st → ts.length = st.length
  | [], [], _ => rfl
  | _ :: _, _ :: _, h => congrArg (· + 1) (tyOK_len h.2)
  | [], _ :: _, h => h.elim
  | _ :: _, [], h => h.elim
theorem jn_01 {v a b : Int} (ha : a = 0 ∨ a = 1) (hb : b = 0 ∨ b = 1) (hv : v = 10 ∨ v = 11) : jn v a b = 0 ∨ jn v a b = 1 := by
  rcases hv with rfl | rfl <;> rcases ha with rfl | rfl <;> rcases hb with rfl | rfl <;> decide
theorem jn_79 {v a b : Int} (hv : 7 ≤ v ∧ v ≤ 9) : jn v a b = 0 ∨ jn v a b = 1 := by
  rcases (show v = 7 ∨ v = 8 ∨ v = 9 by omega) with rfl | rfl | rfl
  · show (if a < b then (1 : Int) else 0) = 0 ∨ (if a < b then (1 : Int) else 0) = 1
    split <;> simp
  · show (if b < a then (1 : Int) else 0) = 0 ∨ (if b < a then (1 : Int) else 0) = 1
    split <;> simp
  · show (if a = b then (1 : Int) else 0) = 0 ∨ (if a = b then (1 : Int) else 0) = 1
    split <;> simp
/-- a code that fits the kinds: what is on the pile fits behind it -/
theorem ty1_ok {env : Int → Int} (he : ∀ w, 0 ≤ w → w < 8 → -1000000 ≤ env w ∧ env w ≤ 1000000) {ts t : List Bool} {st : List Int} {v : Int} (h : tyOK ts st) (ht : ty1 ts v = some t) : tyOK t (ev1 env st v) := by
  unfold ty1 at ht
  unfold ev1
  split at ht
  · rename_i h1
    rw [if_pos h1]
    split at ht
    · cases ht; exact ⟨by simp [vOK]; omega, h⟩
    · cases ht
  · rename_i h1
    rw [if_neg h1]
    split at ht
    · rename_i h2
      rw [if_pos h2]
      split at ht
      · cases ht; exact ⟨by simp only [vOK]; exact he _ (by omega) (by omega), h⟩
      · cases ht
    · rename_i h2
      rw [if_neg h2]
      split at ht
      · rename_i h3
        rw [if_pos h3]
        cases ht; exact ⟨Or.inr rfl, h⟩
      · rename_i h3
        rw [if_neg h3]
        split at ht
        · rename_i t0
          match st, h with
          | b :: xs, h =>
            obtain ⟨hb, hx⟩ := h
            have hb : b = 0 ∨ b = 1 := hb
            split at ht
            · rename_i h4
              cases ht
              simp only [h4, if_true]
              exact ⟨by rcases hb with rfl | rfl; exact Or.inr rfl; exact Or.inl rfl, hx⟩
            · rename_i h4
              simp only [h4, if_false]
              split at ht
              · match xs, hx with
                | a :: ys, hx =>
                  obtain ⟨ha, hy⟩ := hx
                  have ha : a = 0 ∨ a = 1 := ha
                  split at ht
                  · rename_i h5
                    cases ht
                    exact ⟨jn_01 ha hb h5, hy⟩
                  · cases ht
              · cases ht
        · rename_i t0
          match st, h with
          | b :: a :: ys, h =>
            obtain ⟨hb, ha, hy⟩ := h
            have hb := vOK_r hb
            have ha := vOK_r ha
            split at ht
            · rename_i h4
              cases ht
              simp only [show ¬ v = 12 by omega, if_false]
              exact ⟨by simp only [vOK]; exact jn_rng ha hb (fun h => by omega), hy⟩
            · split at ht
              · rename_i h4
                cases ht
                simp only [show ¬ v = 12 by omega, if_false]
                exact ⟨jn_79 h4, hy⟩
              · cases ht
        · cases ht
theorem nf129 (σ : am_H) (f : Nat → Int) (k : Nat) (x y z : Int) : am_setN (am_setN (am_setN (am_setA σ 129 f) 55 103 x) 129 k y) 55 103 z = am_setN (am_setA σ 129 (fun i => if i = k then y else f i)) 55 103 z := by
  refine am_Hext rfl (fun b i => ?_) (fun _ _ => rfl)
  simp only [am_setN, am_setA]
  by_cases h1 : b = 55 ∧ i = 103
  · simp [h1]
  · by_cases h2 : b = 129
    · simp [h2]
    · simp [h1, h2]
theorem nf129n (σ : am_H) (f : Nat → Int) (k : Nat) (x y : Int) : am_setN (am_setN (am_setA σ 129 f) 55 103 x) 129 k y = am_setN (am_setA σ 129 (fun i => if i = k then y else f i)) 55 103 x := by
  refine am_Hext rfl (fun b i => ?_) (fun _ _ => rfl)
  simp only [am_setN, am_setA]
  by_cases h1 : b = 55 ∧ i = 103
  · simp [h1]
  · by_cases h2 : b = 129
    · simp [h2]
    · simp [h1, h2]
