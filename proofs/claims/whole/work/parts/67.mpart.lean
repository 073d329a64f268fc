theorem c_X10_qAsksWord (b : Nat → Int) (E i : Nat) (S : am_H) (hZ : ZS b E i S) (k : Int) (hk : pwI (zK b E i) = k) (h0 : 0 ≤ k) : am_met M_X10_qAsksWord [am_r 55, am_i k] S (fun r σ' => r = none ∧ ZS b E (i + 1) σ' ∧ frw W_sc S σ') := by
  refine am_qq (fun Q hQ => ?_)
  refine am_enter (show plainFor yX10_qAsksWord = true by decide +kernel) rfl (Nat.le_of_ble_eq_true rfl) (fun _ _ _ => trivial) ?_
  have hL := hZ.1
  have h9 := pw_inv hk h0
  have hkr := pwI_rng (zK b E i)
  refine am_iload_n (q := 1) rfl (am_tab tk_X10_qAsksWord 0 rfl) rfl ?_
  rcases (show k = 0 ∨ k = 1 ∨ k = 2 ∨ k = 3 ∨ k = 4 ∨ k = 5 ∨ k = 6 ∨ k = 7 ∨ k = 8 ∨ k = 9 ∨ k = 10 ∨ (k < 0 ∨ 10 < k) by omega) with e1 | e1 | e1 | e1 | e1 | e1 | e1 | e1 | e1 | e1 | e1 | e1
  · refine am_tableIn (t := 60) (off := 59) (by omega) (by omega) (by rw [e1]; rfl) dsw_X10_qAsksWord_1 (by decide) ?_
    refine am_aload_n (q := 61) rfl (am_tab tk_X10_qAsksWord 2 rfl) rfl ?_
    refine am_aload_n (q := 62) rfl (am_tab tk_X10_qAsksWord 3 rfl) rfl ?_
    refine am_getR (q := 65) (a := 55) (k := 10) (n := 108) (j := 84) (r := some (115)) (Ls_55 hL) (by decide) rfl (Lr_55_84 hL) (by decide) (Or.inl kf_X10_197) (am_tab tk_X10_qAsksWord 4 rfl) rfl ?_
    refine am_callVr (q := 68) (me2 := M_X10_asks) (b := 55) (kb := 10) (nb := 108) (As := [am_r 115]) (rest := []) (c_asksY b E i S hZ 115 13 (by decide) (h9.trans (by rw [show k = 0 by omega]; decide))) ⟨rfl, rfl⟩ (Ls_55 hL) (by decide) ⟨Or.inl km_X10_317, kc_X10_asks, kn_X10, kd_X10_asks, ⟨(Nat.le_of_ble_eq_true rfl), (Nat.le_of_ble_eq_true rfl)⟩, ⟨(Nat.le_of_ble_eq_true rfl), (Nat.le_of_ble_eq_true rfl)⟩, (Nat.le_of_ble_eq_true rfl)⟩ ki_X10_asks ks_X10_asks rfl (am_tab tk_X10_qAsksWord 5 rfl) rfl ?_
    rintro r T1 ⟨rfl, hZ1, hF1⟩
    refine am_st (st2 := []) rfl ?_
    refine am_goto (t := 189) (am_tab tk_X10_qAsksWord 6 rfl) (by decide) ?_
    refine am_vret rfl (Nat.le_of_ble_eq_true rfl) (Nat.le_of_ble_eq_true rfl) (am_tab tk_X10_qAsksWord 61 rfl) ?_
    refine hQ _ _ ?_
    exact ⟨rfl, hZ1, hF1⟩
  · refine am_tableIn (t := 71) (off := 70) (by omega) (by omega) (by rw [e1]; rfl) dsw_X10_qAsksWord_1 (by decide) ?_
    refine am_aload_n (q := 72) rfl (am_tab tk_X10_qAsksWord 7 rfl) rfl ?_
    refine am_aload_n (q := 73) rfl (am_tab tk_X10_qAsksWord 8 rfl) rfl ?_
    refine am_getR (q := 76) (a := 55) (k := 10) (n := 108) (j := 85) (r := some (116)) (Ls_55 hL) (by decide) rfl (Lr_55_85 hL) (by decide) (Or.inl kf_X10_200) (am_tab tk_X10_qAsksWord 9 rfl) rfl ?_
    refine am_callVr (q := 79) (me2 := M_X10_asks) (b := 55) (kb := 10) (nb := 108) (As := [am_r 116]) (rest := []) (c_asksY b E i S hZ 116 4 (by decide) (h9.trans (by rw [show k = 1 by omega]; decide))) ⟨rfl, rfl⟩ (Ls_55 hL) (by decide) ⟨Or.inl km_X10_317, kc_X10_asks, kn_X10, kd_X10_asks, ⟨(Nat.le_of_ble_eq_true rfl), (Nat.le_of_ble_eq_true rfl)⟩, ⟨(Nat.le_of_ble_eq_true rfl), (Nat.le_of_ble_eq_true rfl)⟩, (Nat.le_of_ble_eq_true rfl)⟩ ki_X10_asks ks_X10_asks rfl (am_tab tk_X10_qAsksWord 10 rfl) rfl ?_
    rintro r T1 ⟨rfl, hZ1, hF1⟩
    refine am_st (st2 := []) rfl ?_
    refine am_goto (t := 189) (am_tab tk_X10_qAsksWord 11 rfl) (by decide) ?_
    refine am_vret rfl (Nat.le_of_ble_eq_true rfl) (Nat.le_of_ble_eq_true rfl) (am_tab tk_X10_qAsksWord 61 rfl) ?_
    refine hQ _ _ ?_
    exact ⟨rfl, hZ1, hF1⟩
  · refine am_tableIn (t := 82) (off := 81) (by omega) (by omega) (by rw [e1]; rfl) dsw_X10_qAsksWord_1 (by decide) ?_
    refine am_aload_n (q := 83) rfl (am_tab tk_X10_qAsksWord 12 rfl) rfl ?_
    refine am_aload_n (q := 84) rfl (am_tab tk_X10_qAsksWord 13 rfl) rfl ?_
    refine am_getR (q := 87) (a := 55) (k := 10) (n := 108) (j := 86) (r := some (117)) (Ls_55 hL) (by decide) rfl (Lr_55_86 hL) (by decide) (Or.inl kf_X10_203) (am_tab tk_X10_qAsksWord 14 rfl) rfl ?_
    refine am_callVr (q := 90) (me2 := M_X10_asks) (b := 55) (kb := 10) (nb := 108) (As := [am_r 117]) (rest := []) (c_asksY b E i S hZ 117 15 (by decide) (h9.trans (by rw [show k = 2 by omega]; decide))) ⟨rfl, rfl⟩ (Ls_55 hL) (by decide) ⟨Or.inl km_X10_317, kc_X10_asks, kn_X10, kd_X10_asks, ⟨(Nat.le_of_ble_eq_true rfl), (Nat.le_of_ble_eq_true rfl)⟩, ⟨(Nat.le_of_ble_eq_true rfl), (Nat.le_of_ble_eq_true rfl)⟩, (Nat.le_of_ble_eq_true rfl)⟩ ki_X10_asks ks_X10_asks rfl (am_tab tk_X10_qAsksWord 15 rfl) rfl ?_
    rintro r T1 ⟨rfl, hZ1, hF1⟩
    refine am_st (st2 := []) rfl ?_
    refine am_goto (t := 189) (am_tab tk_X10_qAsksWord 16 rfl) (by decide) ?_
    refine am_vret rfl (Nat.le_of_ble_eq_true rfl) (Nat.le_of_ble_eq_true rfl) (am_tab tk_X10_qAsksWord 61 rfl) ?_
    refine hQ _ _ ?_
    exact ⟨rfl, hZ1, hF1⟩
  · refine am_tableIn (t := 93) (off := 92) (by omega) (by omega) (by rw [e1]; rfl) dsw_X10_qAsksWord_1 (by decide) ?_
    refine am_aload_n (q := 94) rfl (am_tab tk_X10_qAsksWord 17 rfl) rfl ?_
    refine am_aload_n (q := 95) rfl (am_tab tk_X10_qAsksWord 18 rfl) rfl ?_
    refine am_getR (q := 98) (a := 55) (k := 10) (n := 108) (j := 87) (r := some (118)) (Ls_55 hL) (by decide) rfl (Lr_55_87 hL) (by decide) (Or.inl kf_X10_206) (am_tab tk_X10_qAsksWord 19 rfl) rfl ?_
    refine am_callVr (q := 101) (me2 := M_X10_asks) (b := 55) (kb := 10) (nb := 108) (As := [am_r 118]) (rest := []) (c_asksY b E i S hZ 118 2 (by decide) (h9.trans (by rw [show k = 3 by omega]; decide))) ⟨rfl, rfl⟩ (Ls_55 hL) (by decide) ⟨Or.inl km_X10_317, kc_X10_asks, kn_X10, kd_X10_asks, ⟨(Nat.le_of_ble_eq_true rfl), (Nat.le_of_ble_eq_true rfl)⟩, ⟨(Nat.le_of_ble_eq_true rfl), (Nat.le_of_ble_eq_true rfl)⟩, (Nat.le_of_ble_eq_true rfl)⟩ ki_X10_asks ks_X10_asks rfl (am_tab tk_X10_qAsksWord 20 rfl) rfl ?_
    rintro r T1 ⟨rfl, hZ1, hF1⟩
    refine am_st (st2 := []) rfl ?_
    refine am_goto (t := 189) (am_tab tk_X10_qAsksWord 21 rfl) (by decide) ?_
    refine am_vret rfl (Nat.le_of_ble_eq_true rfl) (Nat.le_of_ble_eq_true rfl) (am_tab tk_X10_qAsksWord 61 rfl) ?_
    refine hQ _ _ ?_
    exact ⟨rfl, hZ1, hF1⟩
  · refine am_tableIn (t := 104) (off := 103) (by omega) (by omega) (by rw [e1]; rfl) dsw_X10_qAsksWord_1 (by decide) ?_
    refine am_aload_n (q := 105) rfl (am_tab tk_X10_qAsksWord 22 rfl) rfl ?_
    refine am_aload_n (q := 106) rfl (am_tab tk_X10_qAsksWord 23 rfl) rfl ?_
    refine am_getR (q := 109) (a := 55) (k := 10) (n := 108) (j := 88) (r := some (119)) (Ls_55 hL) (by decide) rfl (Lr_55_88 hL) (by decide) (Or.inl kf_X10_209) (am_tab tk_X10_qAsksWord 24 rfl) rfl ?_
    refine am_callVr (q := 112) (me2 := M_X10_asks) (b := 55) (kb := 10) (nb := 108) (As := [am_r 119]) (rest := []) (c_asksY b E i S hZ 119 16 (by decide) (h9.trans (by rw [show k = 4 by omega]; decide))) ⟨rfl, rfl⟩ (Ls_55 hL) (by decide) ⟨Or.inl km_X10_317, kc_X10_asks, kn_X10, kd_X10_asks, ⟨(Nat.le_of_ble_eq_true rfl), (Nat.le_of_ble_eq_true rfl)⟩, ⟨(Nat.le_of_ble_eq_true rfl), (Nat.le_of_ble_eq_true rfl)⟩, (Nat.le_of_ble_eq_true rfl)⟩ ki_X10_asks ks_X10_asks rfl (am_tab tk_X10_qAsksWord 25 rfl) rfl ?_
    rintro r T1 ⟨rfl, hZ1, hF1⟩
    refine am_st (st2 := []) rfl ?_
    refine am_goto (t := 189) (am_tab tk_X10_qAsksWord 26 rfl) (by decide) ?_
    refine am_vret rfl (Nat.le_of_ble_eq_true rfl) (Nat.le_of_ble_eq_true rfl) (am_tab tk_X10_qAsksWord 61 rfl) ?_
    refine hQ _ _ ?_
    exact ⟨rfl, hZ1, hF1⟩
  · refine am_tableIn (t := 115) (off := 114) (by omega) (by omega) (by rw [e1]; rfl) dsw_X10_qAsksWord_1 (by decide) ?_
    refine am_aload_n (q := 116) rfl (am_tab tk_X10_qAsksWord 27 rfl) rfl ?_
    refine am_aload_n (q := 117) rfl (am_tab tk_X10_qAsksWord 28 rfl) rfl ?_
    refine am_getR (q := 120) (a := 55) (k := 10) (n := 108) (j := 89) (r := some (120)) (Ls_55 hL) (by decide) rfl (Lr_55_89 hL) (by decide) (Or.inl kf_X10_212) (am_tab tk_X10_qAsksWord 29 rfl) rfl ?_
    refine am_callVr (q := 123) (me2 := M_X10_asks) (b := 55) (kb := 10) (nb := 108) (As := [am_r 120]) (rest := []) (c_asksY b E i S hZ 120 14 (by decide) (h9.trans (by rw [show k = 5 by omega]; decide))) ⟨rfl, rfl⟩ (Ls_55 hL) (by decide) ⟨Or.inl km_X10_317, kc_X10_asks, kn_X10, kd_X10_asks, ⟨(Nat.le_of_ble_eq_true rfl), (Nat.le_of_ble_eq_true rfl)⟩, ⟨(Nat.le_of_ble_eq_true rfl), (Nat.le_of_ble_eq_true rfl)⟩, (Nat.le_of_ble_eq_true rfl)⟩ ki_X10_asks ks_X10_asks rfl (am_tab tk_X10_qAsksWord 30 rfl) rfl ?_
    rintro r T1 ⟨rfl, hZ1, hF1⟩
    refine am_st (st2 := []) rfl ?_
    refine am_goto (t := 189) (am_tab tk_X10_qAsksWord 31 rfl) (by decide) ?_
    refine am_vret rfl (Nat.le_of_ble_eq_true rfl) (Nat.le_of_ble_eq_true rfl) (am_tab tk_X10_qAsksWord 61 rfl) ?_
    refine hQ _ _ ?_
    exact ⟨rfl, hZ1, hF1⟩
  · refine am_tableIn (t := 126) (off := 125) (by omega) (by omega) (by rw [e1]; rfl) dsw_X10_qAsksWord_1 (by decide) ?_
    refine am_aload_n (q := 127) rfl (am_tab tk_X10_qAsksWord 32 rfl) rfl ?_
    refine am_aload_n (q := 128) rfl (am_tab tk_X10_qAsksWord 33 rfl) rfl ?_
    refine am_getR (q := 131) (a := 55) (k := 10) (n := 108) (j := 90) (r := some (121)) (Ls_55 hL) (by decide) rfl (Lr_55_90 hL) (by decide) (Or.inl kf_X10_215) (am_tab tk_X10_qAsksWord 34 rfl) rfl ?_
    refine am_callVr (q := 134) (me2 := M_X10_asks) (b := 55) (kb := 10) (nb := 108) (As := [am_r 121]) (rest := []) (c_asksY b E i S hZ 121 7 (by decide) (h9.trans (by rw [show k = 6 by omega]; decide))) ⟨rfl, rfl⟩ (Ls_55 hL) (by decide) ⟨Or.inl km_X10_317, kc_X10_asks, kn_X10, kd_X10_asks, ⟨(Nat.le_of_ble_eq_true rfl), (Nat.le_of_ble_eq_true rfl)⟩, ⟨(Nat.le_of_ble_eq_true rfl), (Nat.le_of_ble_eq_true rfl)⟩, (Nat.le_of_ble_eq_true rfl)⟩ ki_X10_asks ks_X10_asks rfl (am_tab tk_X10_qAsksWord 35 rfl) rfl ?_
    rintro r T1 ⟨rfl, hZ1, hF1⟩
    refine am_st (st2 := []) rfl ?_
    refine am_goto (t := 189) (am_tab tk_X10_qAsksWord 36 rfl) (by decide) ?_
    refine am_vret rfl (Nat.le_of_ble_eq_true rfl) (Nat.le_of_ble_eq_true rfl) (am_tab tk_X10_qAsksWord 61 rfl) ?_
    refine hQ _ _ ?_
    exact ⟨rfl, hZ1, hF1⟩
  · refine am_tableIn (t := 137) (off := 136) (by omega) (by omega) (by rw [e1]; rfl) dsw_X10_qAsksWord_1 (by decide) ?_
    refine am_aload_n (q := 138) rfl (am_tab tk_X10_qAsksWord 37 rfl) rfl ?_
    refine am_aload_n (q := 139) rfl (am_tab tk_X10_qAsksWord 38 rfl) rfl ?_
    refine am_getR (q := 142) (a := 55) (k := 10) (n := 108) (j := 91) (r := some (122)) (Ls_55 hL) (by decide) rfl (Lr_55_91 hL) (by decide) (Or.inl kf_X10_218) (am_tab tk_X10_qAsksWord 39 rfl) rfl ?_
    refine am_callVr (q := 145) (me2 := M_X10_asks) (b := 55) (kb := 10) (nb := 108) (As := [am_r 122]) (rest := []) (c_asksY b E i S hZ 122 17 (by decide) (h9.trans (by rw [show k = 7 by omega]; decide))) ⟨rfl, rfl⟩ (Ls_55 hL) (by decide) ⟨Or.inl km_X10_317, kc_X10_asks, kn_X10, kd_X10_asks, ⟨(Nat.le_of_ble_eq_true rfl), (Nat.le_of_ble_eq_true rfl)⟩, ⟨(Nat.le_of_ble_eq_true rfl), (Nat.le_of_ble_eq_true rfl)⟩, (Nat.le_of_ble_eq_true rfl)⟩ ki_X10_asks ks_X10_asks rfl (am_tab tk_X10_qAsksWord 40 rfl) rfl ?_
    rintro r T1 ⟨rfl, hZ1, hF1⟩
    refine am_st (st2 := []) rfl ?_
    refine am_goto (t := 189) (am_tab tk_X10_qAsksWord 41 rfl) (by decide) ?_
    refine am_vret rfl (Nat.le_of_ble_eq_true rfl) (Nat.le_of_ble_eq_true rfl) (am_tab tk_X10_qAsksWord 61 rfl) ?_
    refine hQ _ _ ?_
    exact ⟨rfl, hZ1, hF1⟩
  · refine am_tableIn (t := 148) (off := 147) (by omega) (by omega) (by rw [e1]; rfl) dsw_X10_qAsksWord_1 (by decide) ?_
    refine am_aload_n (q := 149) rfl (am_tab tk_X10_qAsksWord 42 rfl) rfl ?_
    refine am_aload_n (q := 150) rfl (am_tab tk_X10_qAsksWord 43 rfl) rfl ?_
    refine am_getR (q := 153) (a := 55) (k := 10) (n := 108) (j := 92) (r := some (123)) (Ls_55 hL) (by decide) rfl (Lr_55_92 hL) (by decide) (Or.inl kf_X10_221) (am_tab tk_X10_qAsksWord 44 rfl) rfl ?_
    refine am_callVr (q := 156) (me2 := M_X10_asks) (b := 55) (kb := 10) (nb := 108) (As := [am_r 123]) (rest := []) (c_asksY b E i S hZ 123 18 (by decide) (h9.trans (by rw [show k = 8 by omega]; decide))) ⟨rfl, rfl⟩ (Ls_55 hL) (by decide) ⟨Or.inl km_X10_317, kc_X10_asks, kn_X10, kd_X10_asks, ⟨(Nat.le_of_ble_eq_true rfl), (Nat.le_of_ble_eq_true rfl)⟩, ⟨(Nat.le_of_ble_eq_true rfl), (Nat.le_of_ble_eq_true rfl)⟩, (Nat.le_of_ble_eq_true rfl)⟩ ki_X10_asks ks_X10_asks rfl (am_tab tk_X10_qAsksWord 45 rfl) rfl ?_
    rintro r T1 ⟨rfl, hZ1, hF1⟩
    refine am_st (st2 := []) rfl ?_
    refine am_goto (t := 189) (am_tab tk_X10_qAsksWord 46 rfl) (by decide) ?_
    refine am_vret rfl (Nat.le_of_ble_eq_true rfl) (Nat.le_of_ble_eq_true rfl) (am_tab tk_X10_qAsksWord 61 rfl) ?_
    refine hQ _ _ ?_
    exact ⟨rfl, hZ1, hF1⟩
  · refine am_tableIn (t := 159) (off := 158) (by omega) (by omega) (by rw [e1]; rfl) dsw_X10_qAsksWord_1 (by decide) ?_
    refine am_aload_n (q := 160) rfl (am_tab tk_X10_qAsksWord 47 rfl) rfl ?_
    refine am_aload_n (q := 161) rfl (am_tab tk_X10_qAsksWord 48 rfl) rfl ?_
    refine am_getR (q := 164) (a := 55) (k := 10) (n := 108) (j := 93) (r := some (124)) (Ls_55 hL) (by decide) rfl (Lr_55_93 hL) (by decide) (Or.inl kf_X10_224) (am_tab tk_X10_qAsksWord 49 rfl) rfl ?_
    refine am_callVr (q := 167) (me2 := M_X10_asks) (b := 55) (kb := 10) (nb := 108) (As := [am_r 124]) (rest := []) (c_asksY b E i S hZ 124 19 (by decide) (h9.trans (by rw [show k = 9 by omega]; decide))) ⟨rfl, rfl⟩ (Ls_55 hL) (by decide) ⟨Or.inl km_X10_317, kc_X10_asks, kn_X10, kd_X10_asks, ⟨(Nat.le_of_ble_eq_true rfl), (Nat.le_of_ble_eq_true rfl)⟩, ⟨(Nat.le_of_ble_eq_true rfl), (Nat.le_of_ble_eq_true rfl)⟩, (Nat.le_of_ble_eq_true rfl)⟩ ki_X10_asks ks_X10_asks rfl (am_tab tk_X10_qAsksWord 50 rfl) rfl ?_
    rintro r T1 ⟨rfl, hZ1, hF1⟩
    refine am_st (st2 := []) rfl ?_
    refine am_goto (t := 189) (am_tab tk_X10_qAsksWord 51 rfl) (by decide) ?_
    refine am_vret rfl (Nat.le_of_ble_eq_true rfl) (Nat.le_of_ble_eq_true rfl) (am_tab tk_X10_qAsksWord 61 rfl) ?_
    refine hQ _ _ ?_
    exact ⟨rfl, hZ1, hF1⟩
  · refine am_tableIn (t := 170) (off := 169) (by omega) (by omega) (by rw [e1]; rfl) dsw_X10_qAsksWord_1 (by decide) ?_
    refine am_aload_n (q := 171) rfl (am_tab tk_X10_qAsksWord 52 rfl) rfl ?_
    refine am_aload_n (q := 172) rfl (am_tab tk_X10_qAsksWord 53 rfl) rfl ?_
    refine am_getR (q := 175) (a := 55) (k := 10) (n := 108) (j := 94) (r := some (125)) (Ls_55 hL) (by decide) rfl (Lr_55_94 hL) (by decide) (Or.inl kf_X10_227) (am_tab tk_X10_qAsksWord 54 rfl) rfl ?_
    refine am_callVr (q := 178) (me2 := M_X10_asks) (b := 55) (kb := 10) (nb := 108) (As := [am_r 125]) (rest := []) (c_asksY b E i S hZ 125 9 (by decide) (h9.trans (by rw [show k = 10 by omega]; decide))) ⟨rfl, rfl⟩ (Ls_55 hL) (by decide) ⟨Or.inl km_X10_317, kc_X10_asks, kn_X10, kd_X10_asks, ⟨(Nat.le_of_ble_eq_true rfl), (Nat.le_of_ble_eq_true rfl)⟩, ⟨(Nat.le_of_ble_eq_true rfl), (Nat.le_of_ble_eq_true rfl)⟩, (Nat.le_of_ble_eq_true rfl)⟩ ki_X10_asks ks_X10_asks rfl (am_tab tk_X10_qAsksWord 55 rfl) rfl ?_
    rintro r T1 ⟨rfl, hZ1, hF1⟩
    refine am_st (st2 := []) rfl ?_
    refine am_goto (t := 189) (am_tab tk_X10_qAsksWord 56 rfl) (by decide) ?_
    refine am_vret rfl (Nat.le_of_ble_eq_true rfl) (Nat.le_of_ble_eq_true rfl) (am_tab tk_X10_qAsksWord 61 rfl) ?_
    refine hQ _ _ ?_
    exact ⟨rfl, hZ1, hF1⟩
  · refine am_tableOut (t := 181) e1 dsw_X10_qAsksWord_1 (by decide) ?_
    refine am_aload_n (q := 182) rfl (am_tab tk_X10_qAsksWord 57 rfl) rfl ?_
    refine am_aload_n (q := 183) rfl (am_tab tk_X10_qAsksWord 58 rfl) rfl ?_
    refine am_getR (q := 186) (a := 55) (k := 10) (n := 108) (j := 95) (r := some (126)) (Ls_55 hL) (by decide) rfl (Lr_55_95 hL) (by decide) (Or.inl kf_X10_230) (am_tab tk_X10_qAsksWord 59 rfl) rfl ?_
    refine am_callVr (q := 189) (me2 := M_X10_asks) (b := 55) (kb := 10) (nb := 108) (As := [am_r 126]) (rest := []) (c_asksY b E i S hZ 126 20 (by decide) (h9.trans (by rw [show k = 11 by omega]; decide))) ⟨rfl, rfl⟩ (Ls_55 hL) (by decide) ⟨Or.inl km_X10_317, kc_X10_asks, kn_X10, kd_X10_asks, ⟨(Nat.le_of_ble_eq_true rfl), (Nat.le_of_ble_eq_true rfl)⟩, ⟨(Nat.le_of_ble_eq_true rfl), (Nat.le_of_ble_eq_true rfl)⟩, (Nat.le_of_ble_eq_true rfl)⟩ ki_X10_asks ks_X10_asks rfl (am_tab tk_X10_qAsksWord 60 rfl) rfl ?_
    rintro r T1 ⟨rfl, hZ1, hF1⟩
    refine am_st (st2 := []) rfl ?_
    refine am_vret rfl (Nat.le_of_ble_eq_true rfl) (Nat.le_of_ble_eq_true rfl) (am_tab tk_X10_qAsksWord 61 rfl) ?_
    refine hQ _ _ ?_
    exact ⟨rfl, hZ1, hF1⟩
theorem c_qAsksWord0 (b : Nat → Int) (E : Nat) (kk pl : Int) (S : am_H) (hZ : ZB b E kk pl S) (k : Int)  : am_met M_X10_qAsksWord [am_r 55, am_i k] S (fun r σ' => r = none ∧ σ' = S) := by
  refine am_qq (fun Q hQ => ?_)
  refine am_enter (show plainFor yX10_qAsksWord = true by decide +kernel) rfl (Nat.le_of_ble_eq_true rfl) (fun _ _ _ => trivial) ?_
  have hL := hZ.1
  refine am_iload_n (q := 1) rfl (am_tab tk_X10_qAsksWord 0 rfl) rfl ?_
  rcases (show k = 0 ∨ k = 1 ∨ k = 2 ∨ k = 3 ∨ k = 4 ∨ k = 5 ∨ k = 6 ∨ k = 7 ∨ k = 8 ∨ k = 9 ∨ k = 10 ∨ (k < 0 ∨ 10 < k) by omega) with e1 | e1 | e1 | e1 | e1 | e1 | e1 | e1 | e1 | e1 | e1 | e1
  · refine am_tableIn (t := 60) (off := 59) (by omega) (by omega) (by rw [e1]; rfl) dsw_X10_qAsksWord_1 (by decide) ?_
    refine am_aload_n (q := 61) rfl (am_tab tk_X10_qAsksWord 2 rfl) rfl ?_
    refine am_aload_n (q := 62) rfl (am_tab tk_X10_qAsksWord 3 rfl) rfl ?_
    refine am_getR (q := 65) (a := 55) (k := 10) (n := 108) (j := 84) (r := some (115)) (Ls_55 hL) (by decide) rfl (Lr_55_84 hL) (by decide) (Or.inl kf_X10_197) (am_tab tk_X10_qAsksWord 4 rfl) rfl ?_
    refine am_callV0 (q := 68) (me2 := M_X10_asks) (b := 55) (kb := 10) (nb := 108) (As := [am_r 115]) (rest := []) (out := []) (c_asks0 b E kk pl S hZ 115) ⟨rfl, rfl⟩ (Ls_55 hL) (by decide) ⟨Or.inl km_X10_317, kc_X10_asks, kn_X10, kd_X10_asks, ⟨(Nat.le_of_ble_eq_true rfl), (Nat.le_of_ble_eq_true rfl)⟩, ⟨(Nat.le_of_ble_eq_true rfl), (Nat.le_of_ble_eq_true rfl)⟩, (Nat.le_of_ble_eq_true rfl)⟩ ki_X10_asks ks_X10_asks rfl rfl (am_tab tk_X10_qAsksWord 5 rfl) rfl ?_
    refine am_goto (t := 189) (am_tab tk_X10_qAsksWord 6 rfl) (by decide) ?_
    refine am_vret rfl (Nat.le_of_ble_eq_true rfl) (Nat.le_of_ble_eq_true rfl) (am_tab tk_X10_qAsksWord 61 rfl) ?_
    refine hQ _ _ ?_
    exact ⟨rfl, rfl⟩
  · refine am_tableIn (t := 71) (off := 70) (by omega) (by omega) (by rw [e1]; rfl) dsw_X10_qAsksWord_1 (by decide) ?_
    refine am_aload_n (q := 72) rfl (am_tab tk_X10_qAsksWord 7 rfl) rfl ?_
    refine am_aload_n (q := 73) rfl (am_tab tk_X10_qAsksWord 8 rfl) rfl ?_
    refine am_getR (q := 76) (a := 55) (k := 10) (n := 108) (j := 85) (r := some (116)) (Ls_55 hL) (by decide) rfl (Lr_55_85 hL) (by decide) (Or.inl kf_X10_200) (am_tab tk_X10_qAsksWord 9 rfl) rfl ?_
    refine am_callV0 (q := 79) (me2 := M_X10_asks) (b := 55) (kb := 10) (nb := 108) (As := [am_r 116]) (rest := []) (out := []) (c_asks0 b E kk pl S hZ 116) ⟨rfl, rfl⟩ (Ls_55 hL) (by decide) ⟨Or.inl km_X10_317, kc_X10_asks, kn_X10, kd_X10_asks, ⟨(Nat.le_of_ble_eq_true rfl), (Nat.le_of_ble_eq_true rfl)⟩, ⟨(Nat.le_of_ble_eq_true rfl), (Nat.le_of_ble_eq_true rfl)⟩, (Nat.le_of_ble_eq_true rfl)⟩ ki_X10_asks ks_X10_asks rfl rfl (am_tab tk_X10_qAsksWord 10 rfl) rfl ?_
    refine am_goto (t := 189) (am_tab tk_X10_qAsksWord 11 rfl) (by decide) ?_
    refine am_vret rfl (Nat.le_of_ble_eq_true rfl) (Nat.le_of_ble_eq_true rfl) (am_tab tk_X10_qAsksWord 61 rfl) ?_
    refine hQ _ _ ?_
    exact ⟨rfl, rfl⟩
  · refine am_tableIn (t := 82) (off := 81) (by omega) (by omega) (by rw [e1]; rfl) dsw_X10_qAsksWord_1 (by decide) ?_
    refine am_aload_n (q := 83) rfl (am_tab tk_X10_qAsksWord 12 rfl) rfl ?_
    refine am_aload_n (q := 84) rfl (am_tab tk_X10_qAsksWord 13 rfl) rfl ?_
    refine am_getR (q := 87) (a := 55) (k := 10) (n := 108) (j := 86) (r := some (117)) (Ls_55 hL) (by decide) rfl (Lr_55_86 hL) (by decide) (Or.inl kf_X10_203) (am_tab tk_X10_qAsksWord 14 rfl) rfl ?_
    refine am_callV0 (q := 90) (me2 := M_X10_asks) (b := 55) (kb := 10) (nb := 108) (As := [am_r 117]) (rest := []) (out := []) (c_asks0 b E kk pl S hZ 117) ⟨rfl, rfl⟩ (Ls_55 hL) (by decide) ⟨Or.inl km_X10_317, kc_X10_asks, kn_X10, kd_X10_asks, ⟨(Nat.le_of_ble_eq_true rfl), (Nat.le_of_ble_eq_true rfl)⟩, ⟨(Nat.le_of_ble_eq_true rfl), (Nat.le_of_ble_eq_true rfl)⟩, (Nat.le_of_ble_eq_true rfl)⟩ ki_X10_asks ks_X10_asks rfl rfl (am_tab tk_X10_qAsksWord 15 rfl) rfl ?_
    refine am_goto (t := 189) (am_tab tk_X10_qAsksWord 16 rfl) (by decide) ?_
    refine am_vret rfl (Nat.le_of_ble_eq_true rfl) (Nat.le_of_ble_eq_true rfl) (am_tab tk_X10_qAsksWord 61 rfl) ?_
    refine hQ _ _ ?_
    exact ⟨rfl, rfl⟩
  · refine am_tableIn (t := 93) (off := 92) (by omega) (by omega) (by rw [e1]; rfl) dsw_X10_qAsksWord_1 (by decide) ?_
    refine am_aload_n (q := 94) rfl (am_tab tk_X10_qAsksWord 17 rfl) rfl ?_
    refine am_aload_n (q := 95) rfl (am_tab tk_X10_qAsksWord 18 rfl) rfl ?_
    refine am_getR (q := 98) (a := 55) (k := 10) (n := 108) (j := 87) (r := some (118)) (Ls_55 hL) (by decide) rfl (Lr_55_87 hL) (by decide) (Or.inl kf_X10_206) (am_tab tk_X10_qAsksWord 19 rfl) rfl ?_
    refine am_callV0 (q := 101) (me2 := M_X10_asks) (b := 55) (kb := 10) (nb := 108) (As := [am_r 118]) (rest := []) (out := []) (c_asks0 b E kk pl S hZ 118) ⟨rfl, rfl⟩ (Ls_55 hL) (by decide) ⟨Or.inl km_X10_317, kc_X10_asks, kn_X10, kd_X10_asks, ⟨(Nat.le_of_ble_eq_true rfl), (Nat.le_of_ble_eq_true rfl)⟩, ⟨(Nat.le_of_ble_eq_true rfl), (Nat.le_of_ble_eq_true rfl)⟩, (Nat.le_of_ble_eq_true rfl)⟩ ki_X10_asks ks_X10_asks rfl rfl (am_tab tk_X10_qAsksWord 20 rfl) rfl ?_
    refine am_goto (t := 189) (am_tab tk_X10_qAsksWord 21 rfl) (by decide) ?_
    refine am_vret rfl (Nat.le_of_ble_eq_true rfl) (Nat.le_of_ble_eq_true rfl) (am_tab tk_X10_qAsksWord 61 rfl) ?_
    refine hQ _ _ ?_
    exact ⟨rfl, rfl⟩
  · refine am_tableIn (t := 104) (off := 103) (by omega) (by omega) (by rw [e1]; rfl) dsw_X10_qAsksWord_1 (by decide) ?_
    refine am_aload_n (q := 105) rfl (am_tab tk_X10_qAsksWord 22 rfl) rfl ?_
    refine am_aload_n (q := 106) rfl (am_tab tk_X10_qAsksWord 23 rfl) rfl ?_
    refine am_getR (q := 109) (a := 55) (k := 10) (n := 108) (j := 88) (r := some (119)) (Ls_55 hL) (by decide) rfl (Lr_55_88 hL) (by decide) (Or.inl kf_X10_209) (am_tab tk_X10_qAsksWord 24 rfl) rfl ?_
    refine am_callV0 (q := 112) (me2 := M_X10_asks) (b := 55) (kb := 10) (nb := 108) (As := [am_r 119]) (rest := []) (out := []) (c_asks0 b E kk pl S hZ 119) ⟨rfl, rfl⟩ (Ls_55 hL) (by decide) ⟨Or.inl km_X10_317, kc_X10_asks, kn_X10, kd_X10_asks, ⟨(Nat.le_of_ble_eq_true rfl), (Nat.le_of_ble_eq_true rfl)⟩, ⟨(Nat.le_of_ble_eq_true rfl), (Nat.le_of_ble_eq_true rfl)⟩, (Nat.le_of_ble_eq_true rfl)⟩ ki_X10_asks ks_X10_asks rfl rfl (am_tab tk_X10_qAsksWord 25 rfl) rfl ?_
    refine am_goto (t := 189) (am_tab tk_X10_qAsksWord 26 rfl) (by decide) ?_
    refine am_vret rfl (Nat.le_of_ble_eq_true rfl) (Nat.le_of_ble_eq_true rfl) (am_tab tk_X10_qAsksWord 61 rfl) ?_
    refine hQ _ _ ?_
    exact ⟨rfl, rfl⟩
  · refine am_tableIn (t := 115) (off := 114) (by omega) (by omega) (by rw [e1]; rfl) dsw_X10_qAsksWord_1 (by decide) ?_
    refine am_aload_n (q := 116) rfl (am_tab tk_X10_qAsksWord 27 rfl) rfl ?_
    refine am_aload_n (q := 117) rfl (am_tab tk_X10_qAsksWord 28 rfl) rfl ?_
    refine am_getR (q := 120) (a := 55) (k := 10) (n := 108) (j := 89) (r := some (120)) (Ls_55 hL) (by decide) rfl (Lr_55_89 hL) (by decide) (Or.inl kf_X10_212) (am_tab tk_X10_qAsksWord 29 rfl) rfl ?_
    refine am_callV0 (q := 123) (me2 := M_X10_asks) (b := 55) (kb := 10) (nb := 108) (As := [am_r 120]) (rest := []) (out := []) (c_asks0 b E kk pl S hZ 120) ⟨rfl, rfl⟩ (Ls_55 hL) (by decide) ⟨Or.inl km_X10_317, kc_X10_asks, kn_X10, kd_X10_asks, ⟨(Nat.le_of_ble_eq_true rfl), (Nat.le_of_ble_eq_true rfl)⟩, ⟨(Nat.le_of_ble_eq_true rfl), (Nat.le_of_ble_eq_true rfl)⟩, (Nat.le_of_ble_eq_true rfl)⟩ ki_X10_asks ks_X10_asks rfl rfl (am_tab tk_X10_qAsksWord 30 rfl) rfl ?_
    refine am_goto (t := 189) (am_tab tk_X10_qAsksWord 31 rfl) (by decide) ?_
    refine am_vret rfl (Nat.le_of_ble_eq_true rfl) (Nat.le_of_ble_eq_true rfl) (am_tab tk_X10_qAsksWord 61 rfl) ?_
    refine hQ _ _ ?_
    exact ⟨rfl, rfl⟩
  · refine am_tableIn (t := 126) (off := 125) (by omega) (by omega) (by rw [e1]; rfl) dsw_X10_qAsksWord_1 (by decide) ?_
    refine am_aload_n (q := 127) rfl (am_tab tk_X10_qAsksWord 32 rfl) rfl ?_
    refine am_aload_n (q := 128) rfl (am_tab tk_X10_qAsksWord 33 rfl) rfl ?_
    refine am_getR (q := 131) (a := 55) (k := 10) (n := 108) (j := 90) (r := some (121)) (Ls_55 hL) (by decide) rfl (Lr_55_90 hL) (by decide) (Or.inl kf_X10_215) (am_tab tk_X10_qAsksWord 34 rfl) rfl ?_
    refine am_callV0 (q := 134) (me2 := M_X10_asks) (b := 55) (kb := 10) (nb := 108) (As := [am_r 121]) (rest := []) (out := []) (c_asks0 b E kk pl S hZ 121) ⟨rfl, rfl⟩ (Ls_55 hL) (by decide) ⟨Or.inl km_X10_317, kc_X10_asks, kn_X10, kd_X10_asks, ⟨(Nat.le_of_ble_eq_true rfl), (Nat.le_of_ble_eq_true rfl)⟩, ⟨(Nat.le_of_ble_eq_true rfl), (Nat.le_of_ble_eq_true rfl)⟩, (Nat.le_of_ble_eq_true rfl)⟩ ki_X10_asks ks_X10_asks rfl rfl (am_tab tk_X10_qAsksWord 35 rfl) rfl ?_
    refine am_goto (t := 189) (am_tab tk_X10_qAsksWord 36 rfl) (by decide) ?_
    refine am_vret rfl (Nat.le_of_ble_eq_true rfl) (Nat.le_of_ble_eq_true rfl) (am_tab tk_X10_qAsksWord 61 rfl) ?_
    refine hQ _ _ ?_
    exact ⟨rfl, rfl⟩
  · refine am_tableIn (t := 137) (off := 136) (by omega) (by omega) (by rw [e1]; rfl) dsw_X10_qAsksWord_1 (by decide) ?_
    refine am_aload_n (q := 138) rfl (am_tab tk_X10_qAsksWord 37 rfl) rfl ?_
    refine am_aload_n (q := 139) rfl (am_tab tk_X10_qAsksWord 38 rfl) rfl ?_
    refine am_getR (q := 142) (a := 55) (k := 10) (n := 108) (j := 91) (r := some (122)) (Ls_55 hL) (by decide) rfl (Lr_55_91 hL) (by decide) (Or.inl kf_X10_218) (am_tab tk_X10_qAsksWord 39 rfl) rfl ?_
    refine am_callV0 (q := 145) (me2 := M_X10_asks) (b := 55) (kb := 10) (nb := 108) (As := [am_r 122]) (rest := []) (out := []) (c_asks0 b E kk pl S hZ 122) ⟨rfl, rfl⟩ (Ls_55 hL) (by decide) ⟨Or.inl km_X10_317, kc_X10_asks, kn_X10, kd_X10_asks, ⟨(Nat.le_of_ble_eq_true rfl), (Nat.le_of_ble_eq_true rfl)⟩, ⟨(Nat.le_of_ble_eq_true rfl), (Nat.le_of_ble_eq_true rfl)⟩, (Nat.le_of_ble_eq_true rfl)⟩ ki_X10_asks ks_X10_asks rfl rfl (am_tab tk_X10_qAsksWord 40 rfl) rfl ?_
    refine am_goto (t := 189) (am_tab tk_X10_qAsksWord 41 rfl) (by decide) ?_
    refine am_vret rfl (Nat.le_of_ble_eq_true rfl) (Nat.le_of_ble_eq_true rfl) (am_tab tk_X10_qAsksWord 61 rfl) ?_
    refine hQ _ _ ?_
    exact ⟨rfl, rfl⟩
  · refine am_tableIn (t := 148) (off := 147) (by omega) (by omega) (by rw [e1]; rfl) dsw_X10_qAsksWord_1 (by decide) ?_
    refine am_aload_n (q := 149) rfl (am_tab tk_X10_qAsksWord 42 rfl) rfl ?_
    refine am_aload_n (q := 150) rfl (am_tab tk_X10_qAsksWord 43 rfl) rfl ?_
    refine am_getR (q := 153) (a := 55) (k := 10) (n := 108) (j := 92) (r := some (123)) (Ls_55 hL) (by decide) rfl (Lr_55_92 hL) (by decide) (Or.inl kf_X10_221) (am_tab tk_X10_qAsksWord 44 rfl) rfl ?_
    refine am_callV0 (q := 156) (me2 := M_X10_asks) (b := 55) (kb := 10) (nb := 108) (As := [am_r 123]) (rest := []) (out := []) (c_asks0 b E kk pl S hZ 123) ⟨rfl, rfl⟩ (Ls_55 hL) (by decide) ⟨Or.inl km_X10_317, kc_X10_asks, kn_X10, kd_X10_asks, ⟨(Nat.le_of_ble_eq_true rfl), (Nat.le_of_ble_eq_true rfl)⟩, ⟨(Nat.le_of_ble_eq_true rfl), (Nat.le_of_ble_eq_true rfl)⟩, (Nat.le_of_ble_eq_true rfl)⟩ ki_X10_asks ks_X10_asks rfl rfl (am_tab tk_X10_qAsksWord 45 rfl) rfl ?_
    refine am_goto (t := 189) (am_tab tk_X10_qAsksWord 46 rfl) (by decide) ?_
    refine am_vret rfl (Nat.le_of_ble_eq_true rfl) (Nat.le_of_ble_eq_true rfl) (am_tab tk_X10_qAsksWord 61 rfl) ?_
    refine hQ _ _ ?_
    exact ⟨rfl, rfl⟩
  · refine am_tableIn (t := 159) (off := 158) (by omega) (by omega) (by rw [e1]; rfl) dsw_X10_qAsksWord_1 (by decide) ?_
    refine am_aload_n (q := 160) rfl (am_tab tk_X10_qAsksWord 47 rfl) rfl ?_
    refine am_aload_n (q := 161) rfl (am_tab tk_X10_qAsksWord 48 rfl) rfl ?_
    refine am_getR (q := 164) (a := 55) (k := 10) (n := 108) (j := 93) (r := some (124)) (Ls_55 hL) (by decide) rfl (Lr_55_93 hL) (by decide) (Or.inl kf_X10_224) (am_tab tk_X10_qAsksWord 49 rfl) rfl ?_
    refine am_callV0 (q := 167) (me2 := M_X10_asks) (b := 55) (kb := 10) (nb := 108) (As := [am_r 124]) (rest := []) (out := []) (c_asks0 b E kk pl S hZ 124) ⟨rfl, rfl⟩ (Ls_55 hL) (by decide) ⟨Or.inl km_X10_317, kc_X10_asks, kn_X10, kd_X10_asks, ⟨(Nat.le_of_ble_eq_true rfl), (Nat.le_of_ble_eq_true rfl)⟩, ⟨(Nat.le_of_ble_eq_true rfl), (Nat.le_of_ble_eq_true rfl)⟩, (Nat.le_of_ble_eq_true rfl)⟩ ki_X10_asks ks_X10_asks rfl rfl (am_tab tk_X10_qAsksWord 50 rfl) rfl ?_
    refine am_goto (t := 189) (am_tab tk_X10_qAsksWord 51 rfl) (by decide) ?_
    refine am_vret rfl (Nat.le_of_ble_eq_true rfl) (Nat.le_of_ble_eq_true rfl) (am_tab tk_X10_qAsksWord 61 rfl) ?_
    refine hQ _ _ ?_
    exact ⟨rfl, rfl⟩
  · refine am_tableIn (t := 170) (off := 169) (by omega) (by omega) (by rw [e1]; rfl) dsw_X10_qAsksWord_1 (by decide) ?_
    refine am_aload_n (q := 171) rfl (am_tab tk_X10_qAsksWord 52 rfl) rfl ?_
    refine am_aload_n (q := 172) rfl (am_tab tk_X10_qAsksWord 53 rfl) rfl ?_
    refine am_getR (q := 175) (a := 55) (k := 10) (n := 108) (j := 94) (r := some (125)) (Ls_55 hL) (by decide) rfl (Lr_55_94 hL) (by decide) (Or.inl kf_X10_227) (am_tab tk_X10_qAsksWord 54 rfl) rfl ?_
    refine am_callV0 (q := 178) (me2 := M_X10_asks) (b := 55) (kb := 10) (nb := 108) (As := [am_r 125]) (rest := []) (out := []) (c_asks0 b E kk pl S hZ 125) ⟨rfl, rfl⟩ (Ls_55 hL) (by decide) ⟨Or.inl km_X10_317, kc_X10_asks, kn_X10, kd_X10_asks, ⟨(Nat.le_of_ble_eq_true rfl), (Nat.le_of_ble_eq_true rfl)⟩, ⟨(Nat.le_of_ble_eq_true rfl), (Nat.le_of_ble_eq_true rfl)⟩, (Nat.le_of_ble_eq_true rfl)⟩ ki_X10_asks ks_X10_asks rfl rfl (am_tab tk_X10_qAsksWord 55 rfl) rfl ?_
    refine am_goto (t := 189) (am_tab tk_X10_qAsksWord 56 rfl) (by decide) ?_
    refine am_vret rfl (Nat.le_of_ble_eq_true rfl) (Nat.le_of_ble_eq_true rfl) (am_tab tk_X10_qAsksWord 61 rfl) ?_
    refine hQ _ _ ?_
    exact ⟨rfl, rfl⟩
  · refine am_tableOut (t := 181) e1 dsw_X10_qAsksWord_1 (by decide) ?_
    refine am_aload_n (q := 182) rfl (am_tab tk_X10_qAsksWord 57 rfl) rfl ?_
    refine am_aload_n (q := 183) rfl (am_tab tk_X10_qAsksWord 58 rfl) rfl ?_
    refine am_getR (q := 186) (a := 55) (k := 10) (n := 108) (j := 95) (r := some (126)) (Ls_55 hL) (by decide) rfl (Lr_55_95 hL) (by decide) (Or.inl kf_X10_230) (am_tab tk_X10_qAsksWord 59 rfl) rfl ?_
    refine am_callV0 (q := 189) (me2 := M_X10_asks) (b := 55) (kb := 10) (nb := 108) (As := [am_r 126]) (rest := []) (out := []) (c_asks0 b E kk pl S hZ 126) ⟨rfl, rfl⟩ (Ls_55 hL) (by decide) ⟨Or.inl km_X10_317, kc_X10_asks, kn_X10, kd_X10_asks, ⟨(Nat.le_of_ble_eq_true rfl), (Nat.le_of_ble_eq_true rfl)⟩, ⟨(Nat.le_of_ble_eq_true rfl), (Nat.le_of_ble_eq_true rfl)⟩, (Nat.le_of_ble_eq_true rfl)⟩ ki_X10_asks ks_X10_asks rfl rfl (am_tab tk_X10_qAsksWord 60 rfl) rfl ?_
    refine am_vret rfl (Nat.le_of_ble_eq_true rfl) (Nat.le_of_ble_eq_true rfl) (am_tab tk_X10_qAsksWord 61 rfl) ?_
    refine hQ _ _ ?_
    exact ⟨rfl, rfl⟩
abbrev QZ : Type := Nat × List Int × List Int × Int
def leafF (b : Nat → Int) (E : Nat) (tk : Int) (i : Nat) (rc ws : List Int) (o : Int) : QZ ⊕ (Int × Int) :=
  if ¬ wof tk (zK b E i) 0 11 = -1 then .inl (i + 1, endF ((40 + wof tk (zK b E i) 0 11) :: rc) ws o)
  else if zK b E i = 1 then .inl (i + 1, endF ((1000 + zV b E i) :: rc) ws o) else .inr (nfK b E i, nfP b E i)
/-- a part: what opens, and then what it is -/
def partF (b : Nat → Int) (E : Nat) (tk : Int) : Nat → Nat → List Int → List Int → Int → QZ ⊕ (Int × Int)
  | 0, _, _, _, _ => .inr (0, 0)
  | f + 1, i, rc, ws, o =>
    if zK b E i = 40 then (if o = 6 then .inr (4, (zP b E i : Int)) else partF b E tk f (i + 1) rc (20 :: ws) (o + 1))
    else if zK b E i = 153 ∨ zK b E i = 154 then (if zK b E (i + 1) = 40 then (if o = 6 then .inr (4, (zP b E (i + 1) : Int)) else partF b E tk f (i + 2) rc ((if zK b E i = 153 then 21 else 22) :: ws) (o + 1)) else .inr (1, (zP b E (i + 1) : Int)))
    else if ¬ wof tk (zK b E i) 11 12 = -1 then (if o = 6 then .inr (4, (zP b E i : Int)) else partF b E tk f (i + 1) rc (((60 + wof tk (zK b E i) 11 12) - 11) :: ws) (o + 1))
    else leafF b E tk i rc ws o
/-- how many are open -/
def opn : List Int → Int
  | [] => 0
  | w :: t => (if w = 12 ∨ 20 ≤ w then 1 else 0) + opn t
theorem opn_nn : ∀ l, 0 ≤ opn l
  | [] => Int.le_refl _
  | w :: t => by have := opn_nn t; unfold opn; split <;> omega
theorem opn_app : ∀ a c, opn (a ++ c) = opn a + opn c
  | [], c => by show opn c = 0 + opn c; omega
  | w :: t, c => by show (if _ then _ else _) + opn (t ++ c) = (if _ then _ else _) + opn t + opn c; rw [opn_app t c]; omega
theorem endF_opn : ∀ (ws rc : List Int) (o : Int), (endF rc ws o).2.2 - opn (endF rc ws o).2.1 = o - opn ws
  | [], _, _ => rfl
  | w :: t, rc, o => by
    unfold endF
    split
    · have ih := endF_opn t (w :: rc) (o - 1)
      have e : opn (w :: t) = (if w = 12 ∨ 20 ≤ w then 1 else 0) + opn t := rfl
      rw [if_pos (by omega)] at e
      omega
    · rfl
/-- the model stands ahead of place i, with these codes, this stack -/
def QT (b : Nat → Int) (E : Nat) (tk : Int) (i : Nat) (rc ws out : List Int) (o : Int) (S : am_H) : Prop := ZS b E i S ∧ QV rc (ws ++ out) o (out.length : Int) S ∧ S.2.1 55 53 = tk ∧ (o = opn (ws ++ out) ∧ o ≤ 6) ∧ rc.length + ws.length + out.length ≤ i ∧ i ≤ zP b E i
def QB (b : Nat → Int) (E : Nat) (k pl : Int) (m : Int) (S : am_H) : Prop := ZB b E k pl S ∧ (0 ≤ S.2.1 55 97 ∧ S.2.1 55 97 ≤ m) ∧ (0 ≤ S.2.1 55 99 ∧ S.2.1 55 99 ≤ m)
def PR (b : Nat → Int) (E : Nat) (tk : Int) (out : List Int) (S : am_H) : QZ ⊕ (Int × Int) → Prop
  | .inl q => QT b E tk q.1 q.2.1 q.2.2.1 out q.2.2.2 S
  | .inr e => QB b E e.1 e.2 1650 S
def W_p (a j : Nat) : Prop := W_sc a j ∨ W_q a j
theorem W_sc_p {S T : am_H} (h : frw W_sc S T) : frw W_p S T := h.mono (fun _ _ h => Or.inl h)
theorem W_q_p {S T : am_H} (h : frw W_q S T) : frw W_p S T := h.mono (fun _ _ h => Or.inr h)
theorem ZS.q {b : Nat → Int} {E i : Nat} {S T : am_H} (h : ZS b E i S) (hF : frw W_q S T) : ZS b E i T := by
  have e : ∀ j, j < 50 → T.2.1 55 j = S.2.1 55 j := fun j hj => hF.2.2 55 j (by unfold W_q; omega)
  refine ⟨hF.L h.1, h.2.1.fr hF (by unfold W_q; omega), ?_⟩
  have hS := h.2.2
  unfold TS TX at *
  rw [e 2 (by omega), e 3 (by omega), e 4 (by omega), e 5 (by omega), e 6 (by omega)]
  exact ⟨⟨fun j => (hF.2.2 56 j (by unfold W_q; omega)).trans (hS.1.1 j), hS.1.2⟩, hS.2⟩
theorem ZB.q {b : Nat → Int} {E : Nat} {k pl : Int} {S T : am_H} (h : ZB b E k pl S) (hF : frw W_q S T) : ZB b E k pl T := by
  have e : ∀ j, j < 50 → T.2.1 55 j = S.2.1 55 j := fun j hj => hF.2.2 55 j (by unfold W_q; omega)
  refine ⟨hF.L h.1, h.2.1.fr hF (by unfold W_q; omega), ?_⟩
  have hS := h.2.2
  unfold BD TX at *
  rw [e 2 (by omega), e 3 (by omega), e 5 (by omega), e 6 (by omega)]
  exact ⟨⟨fun j => (hF.2.2 56 j (by unfold W_q; omega)).trans (hS.1.1 j), hS.1.2⟩, hS.2⟩
theorem QV.sc {rc ws : List Int} {o bs : Int} {S T : am_H} (h : QV rc ws o bs S) (hF : frw W_sc S T) : QV rc ws o bs T := h.fr hF (by unfold W_q W_sc; omega)
theorem zP_up {b : Nat → Int} {E i : Nat} (h : zP b E i < E) : zP b E i + 1 ≤ zP b E (i + 1) := by
  have hp := zP_rng b E i
  have hL := rn_rng isL b hp
  have hD := rn_rng isDg b hp
  show zP b E i + 1 ≤ (nxz b E (zP b E i)).1
  unfold nxz
  rw [if_neg (by omega)]
  by_cases h1 : isL (b (zP b E i)) = true
  · rw [if_pos h1]
    have h2 := rn_step (p := isL) h h1
    have h3 := rn_rng isL b (E := E) (x := zP b E i + 1) (by omega)
    have h4 := rn_rng isBl b hL.2
    show _ ≤ sk b E (rn isL b E (zP b E i))
    unfold sk
    omega
  · rw [if_neg h1]
    by_cases h2 : isDg (b (zP b E i)) = true
    · rw [if_pos h2]
      have h5 := rn_step (p := isDg) h h2
      have h3 := rn_rng isDg b (E := E) (x := zP b E i + 1) (by omega)
      have h4 := rn_rng isBl b hD.2
      show _ ≤ sk b E (rn isDg b E (zP b E i))
      unfold sk
      omega
    · rw [if_neg h2]
      have h4 := rn_rng isBl b (E := E) (x := zP b E i + 1) (by omega)
      show _ ≤ sk b E (zP b E i + 1)
      unfold sk
      omega
theorem zK_6 {b : Nat → Int} {E i : Nat} (h : ¬ zK b E i = 6) : zP b E i < E := by
  by_cases h1 : zP b E i < E
  · exact h1
  · exfalso
    apply h
    unfold zK zk
    rw [if_pos h1]
theorem zP_on {b : Nat → Int} {E i : Nat} (h : ¬ zK b E i = 6) (hi : i ≤ zP b E i) : i + 1 ≤ zP b E (i + 1) := by
  have := zP_up (zK_6 h)
  omega
theorem endF_len : ∀ (ws rc : List Int) (o : Int), (endF rc ws o).1.length + (endF rc ws o).2.1.length = rc.length + ws.length ∧ (endF rc ws o).2.2 + (ws.length : Int) = o + ((endF rc ws o).2.1.length : Int) ∧ (endF rc ws o).2.1.length ≤ ws.length
  | [], rc, o => ⟨rfl, rfl, Nat.le_refl _⟩
  | w :: t, rc, o => by
    unfold endF
    split
    · have ih := endF_len t (w :: rc) (o - 1)
      simp only [List.length_cons] at ih ⊢
      omega
    · exact ⟨rfl, rfl, Nat.le_refl _⟩
