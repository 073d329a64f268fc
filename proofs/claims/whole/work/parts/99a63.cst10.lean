set_option maxRecDepth 100000 in
theorem c_first_thinks_3 (b : Nat → Int) (E : Nat) (cv : Nat → Int) (M : Nat) (σ : am_H) (hX : RY b E cv M σ (.inl 0)) (hR : σ.2.2 27 2 = some 3) (hCL : CLt 3 0 0 σ) (hK : zK b E 0 = 137) (hC : CDt 3 σ) (h7 : σ.2.1 27 7 = 0) (h11 : σ.2.1 27 11 = 0) : am_met (M_X4_readStatement 1 1600) [am_r 27] σ (fun r σ' => r = none ∧ RY b E cv M σ' (.inr (1, (zP b E 0 : Int))) ∧ CDt 3 σ' ∧ GFR 3 σ σ' ∧ σ'.2.2 27 2 = σ.2.2 27 2) := by
  refine am_qq (fun Q hQ => ?_)
  refine am_enter (show plainFor yX4_readStatement = true by decide +kernel) rfl (Nat.le_of_ble_eq_true rfl) (fun _ _ _ => trivial) ?_
  have hu1 := hCL.1.2.1
  have hu2 := hCL.1.2.2 2 (by decide) (by decide)
  have hu3 := hCL.1.2.2 3 (by decide) (by decide)
  have hu4 := hCL.1.2.2 4 (by decide) (by decide)
  have hu5 := hCL.1.2.2 5 (by decide) (by decide)
  have hu8 : σ.2.1 11 1 = 0 := hCL.2.2.2.1
  have hu9 : σ.2.1 13 1 = 0 := hCL.2.2.2.2
  refine st_head_3_1 b E cv M 0 σ hX hR 137 (by exact hK) (by omega) Q (fun pA T1 hX1 hG1 hc0 => ?_)
  have hpA : pA = .inl 1 := by
    rcases hc0 with h | ⟨_, h⟩
    · exact h.1
    · rw [hu1, hu2, hu3, hu4, hu5, hu8, hu9] at h; omega
  rw [hpA] at hX1
  have hs1 : T1.2.1 3 1 = 0 := (hG1.2.2 3 1 (by unfold W_rz; omega)).trans hu1
  have hR1 : T1.2.2 27 2 = some 3 := by rw [hG1.2.1]; exact hR
  refine am_iload_n (q := 44) rfl (am_tab tk_X4_readStatement 22 rfl) rfl ?_
  refine am_sipush (q := 47) (n := 128) (by decide) rfl (am_tab tk_X4_readStatement 23 rfl) rfl ?_
  refine am_icmp_ne (q := 50) (t := 54) (am_tab tk_X4_readStatement 24 rfl) (by decide) rfl (fun h47 => ?_) (fun h47 => ?_)
  · refine am_iconst (q := 55) (n := 0) (by decide) (am_tab tk_X4_readStatement 27 rfl) rfl ?_
    refine am_aload_n (q := 56) rfl (am_tab tk_X4_readStatement 28 rfl) rfl ?_
    refine am_getR (q := 59) (a := 27) (k := 4) (n := 13) (j := 2) (r := some (3)) (Ls_27 hX1.1) (by decide) rfl (show T1.2.2 27 2 = some 3 by rw [hG1.2.1]; exact hR) (by decide) (Or.inl kf_X4_29) (am_tab tk_X4_readStatement 29 rfl) rfl ?_
    refine am_getI (q := 62) (a := 3) (k := 8) (n := 17) (j := 1) (x := (T1.2.1 3 1)) (Ls_3 hX1.1) (by decide) rfl rfl (by decide) (Or.inr kf_X4_52) (am_tab tk_X4_readStatement 30 rfl) rfl ?_
    refine am_if_ne (q := 65) (t := 69) (am_tab tk_X4_readStatement 31 rfl) (by decide) rfl (fun h62 => ?_) (fun h62 => ?_)
    · exact absurd hs1 h62
    · refine am_iconst (q := 66) (n := 1) (by decide) (am_tab tk_X4_readStatement 32 rfl) rfl ?_
      refine am_goto (t := 70) (am_tab tk_X4_readStatement 33 rfl) (by decide) ?_
      refine am_icmp_eq (q := 73) (t := 79) (am_tab tk_X4_readStatement 35 rfl) (by decide) rfl (fun h70 => ?_) (fun h70 => ?_)
      · exact absurd h70 (by decide)
      · refine am_aload_n (q := 74) rfl (am_tab tk_X4_readStatement 36 rfl) rfl ?_
        refine am_iconst (q := 75) (n := 1) (by decide) (am_tab tk_X4_readStatement 37 rfl) rfl ?_
        refine am_iload_n (q := 76) rfl (am_tab tk_X4_readStatement 38 rfl) rfl ?_
        refine am_callVr (q := 79) (me2 := M_X4_fail) (b := 27) (kb := 4) (nb := 13) (As := [am_i 1, am_i ((zP b E 0 : Int))]) (rest := []) (c_failY hX1 1 (zP b E 0 : Int) (by decide)) ⟨rfl, rfl⟩ (Ls_27 hX1.1) (by decide) ⟨Or.inl km_X4_58, kc_X4_fail, kn_X4, kd_X4_fail, ⟨(Nat.le_of_ble_eq_true rfl), (Nat.le_of_ble_eq_true rfl)⟩, ⟨(Nat.le_of_ble_eq_true rfl), (Nat.le_of_ble_eq_true rfl)⟩, (Nat.le_of_ble_eq_true rfl)⟩ ki_X4_fail ks_X4_fail rfl (am_tab tk_X4_readStatement 39 rfl) rfl ?_
        rintro r T2 ⟨rfl, hX2a, hG⟩
        have hX2 : RY b E cv M T2 (.inr (1, (zP b E 0 : Int)) : PZ) := hX2a
        have hG2 := hG1.trans hG
        have hR2 : T2.2.2 27 2 = some 3 := by rw [hG2.2.1]; exact hR
        refine am_iload_n (q := 80) rfl (am_tab tk_X4_readStatement 40 rfl) rfl ?_
        refine am_tableIn (t := 193) (off := 113) (by omega) (by omega) rfl dsw_X4_readStatement_80 (by decide) ?_
        refine am_aload_n (q := 194) rfl (am_tab tk_X4_readStatement 62 rfl) rfl ?_
        refine am_getR (q := 197) (a := 27) (k := 4) (n := 13) (j := 1) (r := some (28)) (Ls_27 hX2.1) (by decide) rfl (Lr_27_1 hX2.1) (by decide) (Or.inl kf_X4_14) (am_tab tk_X4_readStatement 63 rfl) rfl ?_
        refine am_iconst (q := 198) (n := 0) (by decide) (am_tab tk_X4_readStatement 64 rfl) rfl ?_
        refine am_putI (q := 201) (k := 5) (n := 2) (j := 1) (Ls_28 hX2.1) (by decide) rfl (by decide) (Or.inr (Or.inl ⟨kf_X4_65, rfl⟩)) (am_tab tk_X4_readStatement 65 rfl) rfl ?_
        refine am_aload_n (q := 202) rfl (am_tab tk_X4_readStatement 66 rfl) rfl ?_
        refine am_iload_n (q := 203) rfl (am_tab tk_X4_readStatement 67 rfl) rfl ?_
        refine am_sipush (q := 206) (n := 138) (by decide) rfl (am_tab tk_X4_readStatement 68 rfl) rfl ?_
        refine am_icmp_ne (q := 209) (t := 213) (am_tab tk_X4_readStatement 69 rfl) (by decide) rfl (fun h206 => ?_) (fun h206 => ?_)
        · refine am_iconst (q := 214) (n := 0) (by decide) (am_tab tk_X4_readStatement 72 rfl) rfl ?_
          refine am_putZ (q := 217) (k := 4) (n := 13) (j := 12) (Ls_27 hX2.1) (by decide) rfl (by first | exact Or.inl rfl | exact Or.inr rfl | omega) (by decide) (Or.inl ⟨kf_X4_130, rfl⟩) (am_tab tk_X4_readStatement 73 rfl) rfl ?_
          have hFs : frw (fun a j => (a = 28 ∧ j = 1) ∨ (a = 27 ∧ j = 12)) T2 (am_setN (am_setN T2 28 1 0) 27 12 0) := ((frw.refl (fun a j => (a = 28 ∧ j = 1) ∨ (a = 27 ∧ j = 12)) T2).setN (Or.inl ⟨rfl, rfl⟩)).setN (Or.inr ⟨rfl, rfl⟩)
          have hXy : RY b E cv M (am_setN (am_setN T2 28 1 0) 27 12 0) (.inr (1, (zP b E 0 : Int)) : PZ) := ⟨hFs.L hX2.1, ⟨hX2.2.1.1, hX2.2.1.2⟩, hX2.2.2.1, hX2.2.2.2.1, hX2.2.2.2.2⟩
          have hXs : RX b E cv M ((0 : Nat) : Int) (am_setN (am_setN T2 28 1 0) 27 12 0) (sx0 (.inr (1, (zP b E 0 : Int)) : PZ)) := RX_of hXy ((hG2.2.2 27 7 (by unfold W_rz; omega)).trans h7) ((hG2.2.2 27 11 (by unfold W_rz; omega)).trans h11) rfl rfl (by decide)
          refine am_aload_n (q := 218) rfl (am_tab tk_X4_readStatement 74 rfl) rfl ?_
          refine am_callVr (q := 221) (me2 := (M_X4_readTest 6)) (b := 27) (kb := 4) (nb := 13) (As := []) (rest := []) (RC_test b E cv M ((0 : Nat) : Int) 6 _ (sx0 (.inr (1, (zP b E 0 : Int)) : PZ)) hXs rfl) ⟨rfl, rfl⟩ (Ls_27 hX2.1) (by decide) ⟨Or.inl km_X4_75, kc_X4_readTest, kn_X4, kd_X4_readTest, ⟨(Nat.le_of_ble_eq_true rfl), (Nat.le_of_ble_eq_true rfl)⟩, ⟨(Nat.le_of_ble_eq_true rfl), (Nat.le_of_ble_eq_true rfl)⟩, (Nat.le_of_ble_eq_true rfl)⟩ ki_X4_readTest ks_X4_readTest rfl (am_tab tk_X4_readStatement 75 rfl) rfl ?_
          rintro r T3 ⟨rfl, hX3, hF3⟩
          have hG3 : frw W_ru σ T3 := (hG2.mono (fun a j h => Or.inl (by unfold W_rz at h; unfold W_ps; omega))).trans (((((frw.refl W_ru T2).setN (by unfold W_ru W_ps; omega)).setN (by unfold W_ru; omega))).trans (hF3.mono (fun a j h => Or.inl h)))
          obtain ⟨s, hs⟩ := Int.eq_ofNat_of_zero_le hX3.s0.1
          have hC3 := hC.fr hG3
          refine am_aload_n (q := 222) rfl (am_tab tk_X4_readStatement 76 rfl) rfl ?_
          refine am_getR (q := 225) (a := 27) (k := 4) (n := 13) (j := 2) (r := some (3)) (Ls_27 hX3.1.1) (by decide) rfl (show T3.2.2 27 2 = some 3 by rw [hG3.2.1]; exact hR) (by decide) (Or.inl kf_X4_29) (am_tab tk_X4_readStatement 77 rfl) rfl ?_
          refine am_iload_n (q := 226) rfl (am_tab tk_X4_readStatement 78 rfl) rfl ?_
          refine am_callVr (q := 229) (me2 := M_X8_ruleOf) (b := 3) (kb := 8) (nb := 17) (As := [am_i 137]) (rest := []) (c_ruleOf_3_137 T3 hX3.1.1) ⟨rfl, rfl⟩ (Ls_3 hX3.1.1) (by decide) ⟨Or.inr km_X4_133, kc_X8_ruleOf, kn_X8, kd_X8_ruleOf, ⟨(Nat.le_of_ble_eq_true rfl), (Nat.le_of_ble_eq_true rfl)⟩, ⟨(Nat.le_of_ble_eq_true rfl), (Nat.le_of_ble_eq_true rfl)⟩, (Nat.le_of_ble_eq_true rfl)⟩ ki_X8_ruleOf ks_X8_ruleOf rfl (am_tab tk_X4_readStatement 79 rfl) rfl ?_
          rintro r τ9 ⟨rfl, hτ9⟩
          rw [hτ9]
          obtain ⟨c, m, d, k, ⟨c1, c2, c3, c4⟩, ⟨d1, d2, d3, d4⟩, hcd⟩ := id hC3
          have hcr : T3.2.2 11 0 = some c := c1
          have hcm := c2
          have hc0c : cdC0 c := c3
          have hcl := c4
          refine am_aload_n (q := 230) rfl (am_tab tk_X4_readStatement 80 rfl) rfl ?_
          refine am_getR (q := 233) (a := 27) (k := 4) (n := 13) (j := 1) (r := some (28)) (Ls_27 hX3.1.1) (by decide) rfl (Lr_27_1 hX3.1.1) (by decide) (Or.inl kf_X4_14) (am_tab tk_X4_readStatement 81 rfl) rfl ?_
          refine am_callV (q := 236) (me2 := (M_X5_copyFrom 1 1600)) (b := 11) (kb := 5) (nb := 2) (As := [am_r 28]) (rest := []) (c_copyFrom hX3.1.1 (Ls_11 hX3.1.1) hcr hcm hs (by have := hX3.s0; omega) hcl (by decide) (by unfold cdC0 at hc0c; omega) (by unfold cdC0 at hc0c; omega) (by unfold cdC0 at hc0c; omega) (by decide)) (Ls_11 hX3.1.1) (by decide) ⟨Or.inr km_X4_137, kc_X5_copyFrom, kn_X5, kd_X5_copyFrom, ⟨(Nat.le_of_ble_eq_true rfl), (Nat.le_of_ble_eq_true rfl)⟩, ⟨(Nat.le_of_ble_eq_true rfl), (Nat.le_of_ble_eq_true rfl)⟩, (Nat.le_of_ble_eq_true rfl)⟩ ki_X5_copyFrom ks_X5_copyFrom rfl (am_tab tk_X4_readStatement 82 rfl) rfl ?_
          rintro r T4 ⟨rfl, hCR⟩
          have hCR2 : CR (3 + 8 + 2 * 0) s T3 T4 := hCR
          obtain ⟨hL4, hC4, hG4⟩ := hCR2.cd (Or.inl rfl) (Or.inl rfl) hX3.1.1 hC3
          refine am_goto (t := 280) (am_tab tk_X4_readStatement 83 rfl) (by decide) ?_
          have hXz : RY b E cv M T4 (.inr (1, (zP b E 0 : Int)) : PZ) := by
            have := hX3.ry.cells hL4 (fun a j h => hCR2.cells (Or.inl rfl) (Or.inl rfl) hX3.1.1 hC3 a j (by omega))
            rw [show SZ (testB b E (factX b E ((0 : Nat) : Int) 6) (sx0 (.inr (1, (zP b E 0 : Int)) : PZ))) = (.inr (1, (zP b E 0 : Int)) : PZ) from ruP_r _] at this
            exact this
          have hRz : T4.2.2 27 2 = some 3 := by
            rw [hCR.ref 27 2 (by omega) (by have := len131 hX3.1.1; omega), hG3.2.1]
            exact hR
          have hez : T4.2.1 3 1 = 0 := by rw [hCR2.cells (Or.inl rfl) (Or.inl rfl) hX3.1.1 hC3 3 1 (by omega), hG3.2.2 3 1 (by unfold W_ru W_ps; omega)]; exact hu1
          refine am_less (by intro q hq; simp only [List.mem_cons, List.not_mem_nil, or_false] at hq; rcases hq with rfl | rfl | rfl <;> simp) (st_tail_3_1 b E cv M _ T4 hXz hRz (by omega) 137 (zP b E 0 : Int) Q (fun r τ hτ => hQ r τ ?_))
          obtain ⟨rfl, hXt, hFt⟩ := hτ
          have hFs2 : frw (W_ts 3) T4 τ := ((frw.refl (W_ts 3) T4).setN (by unfold W_ts; omega)).trans (hFt.mono (fun a j h => Or.inr h))
          have hru : ∀ a j, W_ru a j → 27 ≤ a ∧ a ≤ 31 := fun a j h => by unfold W_ru W_ps at h; omega
          refine ⟨rfl, hXt, hC4.fr hFs2, (GFR.of hG3 (fun a j h => Or.inr (hru a j h))).trans (hG4.trans (GFR.of hFs2 (fun a j h => by unfold W_ts W_rz at h; omega))), ?_⟩
          rw [hFs2.2.1, hRz, hR]
        · exact absurd h206 (by decide)
  · exact absurd h47 (by decide)
set_option maxRecDepth 100000 in
theorem c_first_hears_3 (b : Nat → Int) (E : Nat) (cv : Nat → Int) (M : Nat) (σ : am_H) (hX : RY b E cv M σ (.inl 0)) (hR : σ.2.2 27 2 = some 3) (hCL : CLt 3 0 0 σ) (hK : zK b E 0 = 138) (hC : CDt 3 σ) (h7 : σ.2.1 27 7 = 0) (h11 : σ.2.1 27 11 = 0) : am_met (M_X4_readStatement 1 1600) [am_r 27] σ (fun r σ' => r = none ∧ RY b E cv M σ' (.inr (1, (zP b E 0 : Int))) ∧ CDt 3 σ' ∧ GFR 3 σ σ' ∧ σ'.2.2 27 2 = σ.2.2 27 2) := by
  refine am_qq (fun Q hQ => ?_)
  refine am_enter (show plainFor yX4_readStatement = true by decide +kernel) rfl (Nat.le_of_ble_eq_true rfl) (fun _ _ _ => trivial) ?_
  have hu1 := hCL.1.2.1
  have hu2 := hCL.1.2.2 2 (by decide) (by decide)
  have hu3 := hCL.1.2.2 3 (by decide) (by decide)
  have hu4 := hCL.1.2.2 4 (by decide) (by decide)
  have hu5 := hCL.1.2.2 5 (by decide) (by decide)
  have hu8 : σ.2.1 11 1 = 0 := hCL.2.2.2.1
  have hu9 : σ.2.1 13 1 = 0 := hCL.2.2.2.2
  refine st_head_3_1 b E cv M 0 σ hX hR 138 (by exact hK) (by omega) Q (fun pA T1 hX1 hG1 hc0 => ?_)
  have hpA : pA = .inl 1 := by
    rcases hc0 with h | ⟨_, h⟩
    · exact h.1
    · rw [hu1, hu2, hu3, hu4, hu5, hu8, hu9] at h; omega
  rw [hpA] at hX1
  have hs1 : T1.2.1 3 1 = 0 := (hG1.2.2 3 1 (by unfold W_rz; omega)).trans hu1
  have hR1 : T1.2.2 27 2 = some 3 := by rw [hG1.2.1]; exact hR
  refine am_iload_n (q := 44) rfl (am_tab tk_X4_readStatement 22 rfl) rfl ?_
  refine am_sipush (q := 47) (n := 128) (by decide) rfl (am_tab tk_X4_readStatement 23 rfl) rfl ?_
  refine am_icmp_ne (q := 50) (t := 54) (am_tab tk_X4_readStatement 24 rfl) (by decide) rfl (fun h47 => ?_) (fun h47 => ?_)
  · refine am_iconst (q := 55) (n := 0) (by decide) (am_tab tk_X4_readStatement 27 rfl) rfl ?_
    refine am_aload_n (q := 56) rfl (am_tab tk_X4_readStatement 28 rfl) rfl ?_
    refine am_getR (q := 59) (a := 27) (k := 4) (n := 13) (j := 2) (r := some (3)) (Ls_27 hX1.1) (by decide) rfl (show T1.2.2 27 2 = some 3 by rw [hG1.2.1]; exact hR) (by decide) (Or.inl kf_X4_29) (am_tab tk_X4_readStatement 29 rfl) rfl ?_
    refine am_getI (q := 62) (a := 3) (k := 8) (n := 17) (j := 1) (x := (T1.2.1 3 1)) (Ls_3 hX1.1) (by decide) rfl rfl (by decide) (Or.inr kf_X4_52) (am_tab tk_X4_readStatement 30 rfl) rfl ?_
    refine am_if_ne (q := 65) (t := 69) (am_tab tk_X4_readStatement 31 rfl) (by decide) rfl (fun h62 => ?_) (fun h62 => ?_)
    · exact absurd hs1 h62
    · refine am_iconst (q := 66) (n := 1) (by decide) (am_tab tk_X4_readStatement 32 rfl) rfl ?_
      refine am_goto (t := 70) (am_tab tk_X4_readStatement 33 rfl) (by decide) ?_
      refine am_icmp_eq (q := 73) (t := 79) (am_tab tk_X4_readStatement 35 rfl) (by decide) rfl (fun h70 => ?_) (fun h70 => ?_)
      · exact absurd h70 (by decide)
      · refine am_aload_n (q := 74) rfl (am_tab tk_X4_readStatement 36 rfl) rfl ?_
        refine am_iconst (q := 75) (n := 1) (by decide) (am_tab tk_X4_readStatement 37 rfl) rfl ?_
        refine am_iload_n (q := 76) rfl (am_tab tk_X4_readStatement 38 rfl) rfl ?_
        refine am_callVr (q := 79) (me2 := M_X4_fail) (b := 27) (kb := 4) (nb := 13) (As := [am_i 1, am_i ((zP b E 0 : Int))]) (rest := []) (c_failY hX1 1 (zP b E 0 : Int) (by decide)) ⟨rfl, rfl⟩ (Ls_27 hX1.1) (by decide) ⟨Or.inl km_X4_58, kc_X4_fail, kn_X4, kd_X4_fail, ⟨(Nat.le_of_ble_eq_true rfl), (Nat.le_of_ble_eq_true rfl)⟩, ⟨(Nat.le_of_ble_eq_true rfl), (Nat.le_of_ble_eq_true rfl)⟩, (Nat.le_of_ble_eq_true rfl)⟩ ki_X4_fail ks_X4_fail rfl (am_tab tk_X4_readStatement 39 rfl) rfl ?_
        rintro r T2 ⟨rfl, hX2a, hG⟩
        have hX2 : RY b E cv M T2 (.inr (1, (zP b E 0 : Int)) : PZ) := hX2a
        have hG2 := hG1.trans hG
        have hR2 : T2.2.2 27 2 = some 3 := by rw [hG2.2.1]; exact hR
        refine am_iload_n (q := 80) rfl (am_tab tk_X4_readStatement 40 rfl) rfl ?_
        refine am_tableIn (t := 193) (off := 113) (by omega) (by omega) rfl dsw_X4_readStatement_80 (by decide) ?_
        refine am_aload_n (q := 194) rfl (am_tab tk_X4_readStatement 62 rfl) rfl ?_
        refine am_getR (q := 197) (a := 27) (k := 4) (n := 13) (j := 1) (r := some (28)) (Ls_27 hX2.1) (by decide) rfl (Lr_27_1 hX2.1) (by decide) (Or.inl kf_X4_14) (am_tab tk_X4_readStatement 63 rfl) rfl ?_
        refine am_iconst (q := 198) (n := 0) (by decide) (am_tab tk_X4_readStatement 64 rfl) rfl ?_
        refine am_putI (q := 201) (k := 5) (n := 2) (j := 1) (Ls_28 hX2.1) (by decide) rfl (by decide) (Or.inr (Or.inl ⟨kf_X4_65, rfl⟩)) (am_tab tk_X4_readStatement 65 rfl) rfl ?_
        refine am_aload_n (q := 202) rfl (am_tab tk_X4_readStatement 66 rfl) rfl ?_
        refine am_iload_n (q := 203) rfl (am_tab tk_X4_readStatement 67 rfl) rfl ?_
        refine am_sipush (q := 206) (n := 138) (by decide) rfl (am_tab tk_X4_readStatement 68 rfl) rfl ?_
        refine am_icmp_ne (q := 209) (t := 213) (am_tab tk_X4_readStatement 69 rfl) (by decide) rfl (fun h206 => ?_) (fun h206 => ?_)
        · exact absurd rfl h206
        · refine am_iconst (q := 210) (n := 1) (by decide) (am_tab tk_X4_readStatement 70 rfl) rfl ?_
          refine am_goto (t := 214) (am_tab tk_X4_readStatement 71 rfl) (by decide) ?_
          refine am_putZ (q := 217) (k := 4) (n := 13) (j := 12) (Ls_27 hX2.1) (by decide) rfl (by first | exact Or.inl rfl | exact Or.inr rfl | omega) (by decide) (Or.inl ⟨kf_X4_130, rfl⟩) (am_tab tk_X4_readStatement 73 rfl) rfl ?_
          have hFs : frw (fun a j => (a = 28 ∧ j = 1) ∨ (a = 27 ∧ j = 12)) T2 (am_setN (am_setN T2 28 1 0) 27 12 1) := ((frw.refl (fun a j => (a = 28 ∧ j = 1) ∨ (a = 27 ∧ j = 12)) T2).setN (Or.inl ⟨rfl, rfl⟩)).setN (Or.inr ⟨rfl, rfl⟩)
          have hXy : RY b E cv M (am_setN (am_setN T2 28 1 0) 27 12 1) (.inr (1, (zP b E 0 : Int)) : PZ) := ⟨hFs.L hX2.1, ⟨hX2.2.1.1, hX2.2.1.2⟩, hX2.2.2.1, hX2.2.2.2.1, hX2.2.2.2.2⟩
          have hXs : RX b E cv M ((1 : Nat) : Int) (am_setN (am_setN T2 28 1 0) 27 12 1) (sx0 (.inr (1, (zP b E 0 : Int)) : PZ)) := RX_of hXy ((hG2.2.2 27 7 (by unfold W_rz; omega)).trans h7) ((hG2.2.2 27 11 (by unfold W_rz; omega)).trans h11) rfl rfl (by decide)
          refine am_aload_n (q := 218) rfl (am_tab tk_X4_readStatement 74 rfl) rfl ?_
          refine am_callVr (q := 221) (me2 := (M_X4_readTest 6)) (b := 27) (kb := 4) (nb := 13) (As := []) (rest := []) (RC_test b E cv M ((1 : Nat) : Int) 6 _ (sx0 (.inr (1, (zP b E 0 : Int)) : PZ)) hXs rfl) ⟨rfl, rfl⟩ (Ls_27 hX2.1) (by decide) ⟨Or.inl km_X4_75, kc_X4_readTest, kn_X4, kd_X4_readTest, ⟨(Nat.le_of_ble_eq_true rfl), (Nat.le_of_ble_eq_true rfl)⟩, ⟨(Nat.le_of_ble_eq_true rfl), (Nat.le_of_ble_eq_true rfl)⟩, (Nat.le_of_ble_eq_true rfl)⟩ ki_X4_readTest ks_X4_readTest rfl (am_tab tk_X4_readStatement 75 rfl) rfl ?_
          rintro r T3 ⟨rfl, hX3, hF3⟩
          have hG3 : frw W_ru σ T3 := (hG2.mono (fun a j h => Or.inl (by unfold W_rz at h; unfold W_ps; omega))).trans (((((frw.refl W_ru T2).setN (by unfold W_ru W_ps; omega)).setN (by unfold W_ru; omega))).trans (hF3.mono (fun a j h => Or.inl h)))
          obtain ⟨s, hs⟩ := Int.eq_ofNat_of_zero_le hX3.s0.1
          have hC3 := hC.fr hG3
          refine am_aload_n (q := 222) rfl (am_tab tk_X4_readStatement 76 rfl) rfl ?_
          refine am_getR (q := 225) (a := 27) (k := 4) (n := 13) (j := 2) (r := some (3)) (Ls_27 hX3.1.1) (by decide) rfl (show T3.2.2 27 2 = some 3 by rw [hG3.2.1]; exact hR) (by decide) (Or.inl kf_X4_29) (am_tab tk_X4_readStatement 77 rfl) rfl ?_
          refine am_iload_n (q := 226) rfl (am_tab tk_X4_readStatement 78 rfl) rfl ?_
          refine am_callVr (q := 229) (me2 := M_X8_ruleOf) (b := 3) (kb := 8) (nb := 17) (As := [am_i 138]) (rest := []) (c_ruleOf_3_138 T3 hX3.1.1) ⟨rfl, rfl⟩ (Ls_3 hX3.1.1) (by decide) ⟨Or.inr km_X4_133, kc_X8_ruleOf, kn_X8, kd_X8_ruleOf, ⟨(Nat.le_of_ble_eq_true rfl), (Nat.le_of_ble_eq_true rfl)⟩, ⟨(Nat.le_of_ble_eq_true rfl), (Nat.le_of_ble_eq_true rfl)⟩, (Nat.le_of_ble_eq_true rfl)⟩ ki_X8_ruleOf ks_X8_ruleOf rfl (am_tab tk_X4_readStatement 79 rfl) rfl ?_
          rintro r τ9 ⟨rfl, hτ9⟩
          rw [hτ9]
          obtain ⟨c, m, d, k, ⟨c1, c2, c3, c4⟩, ⟨d1, d2, d3, d4⟩, hcd⟩ := id hC3
          have hcr : T3.2.2 13 0 = some d := d1
          have hcm := d2
          have hc0c : cdC0 d := d3
          have hcl := d4
          refine am_aload_n (q := 230) rfl (am_tab tk_X4_readStatement 80 rfl) rfl ?_
          refine am_getR (q := 233) (a := 27) (k := 4) (n := 13) (j := 1) (r := some (28)) (Ls_27 hX3.1.1) (by decide) rfl (Lr_27_1 hX3.1.1) (by decide) (Or.inl kf_X4_14) (am_tab tk_X4_readStatement 81 rfl) rfl ?_
          refine am_callV (q := 236) (me2 := (M_X5_copyFrom 1 1600)) (b := 13) (kb := 5) (nb := 2) (As := [am_r 28]) (rest := []) (c_copyFrom hX3.1.1 (Ls_13 hX3.1.1) hcr hcm hs (by have := hX3.s0; omega) hcl (by decide) (by unfold cdC0 at hc0c; omega) (by unfold cdC0 at hc0c; omega) (by unfold cdC0 at hc0c; omega) (by decide)) (Ls_13 hX3.1.1) (by decide) ⟨Or.inr km_X4_137, kc_X5_copyFrom, kn_X5, kd_X5_copyFrom, ⟨(Nat.le_of_ble_eq_true rfl), (Nat.le_of_ble_eq_true rfl)⟩, ⟨(Nat.le_of_ble_eq_true rfl), (Nat.le_of_ble_eq_true rfl)⟩, (Nat.le_of_ble_eq_true rfl)⟩ ki_X5_copyFrom ks_X5_copyFrom rfl (am_tab tk_X4_readStatement 82 rfl) rfl ?_
          rintro r T4 ⟨rfl, hCR⟩
          have hCR2 : CR (3 + 8 + 2 * 1) s T3 T4 := hCR
          obtain ⟨hL4, hC4, hG4⟩ := hCR2.cd (Or.inl rfl) (Or.inr rfl) hX3.1.1 hC3
          refine am_goto (t := 280) (am_tab tk_X4_readStatement 83 rfl) (by decide) ?_
          have hXz : RY b E cv M T4 (.inr (1, (zP b E 0 : Int)) : PZ) := by
            have := hX3.ry.cells hL4 (fun a j h => hCR2.cells (Or.inl rfl) (Or.inr rfl) hX3.1.1 hC3 a j (by omega))
            rw [show SZ (testB b E (factX b E ((1 : Nat) : Int) 6) (sx0 (.inr (1, (zP b E 0 : Int)) : PZ))) = (.inr (1, (zP b E 0 : Int)) : PZ) from ruP_r _] at this
            exact this
          have hRz : T4.2.2 27 2 = some 3 := by
            rw [hCR.ref 27 2 (by omega) (by have := len131 hX3.1.1; omega), hG3.2.1]
            exact hR
          have hez : T4.2.1 3 1 = 0 := by rw [hCR2.cells (Or.inl rfl) (Or.inr rfl) hX3.1.1 hC3 3 1 (by omega), hG3.2.2 3 1 (by unfold W_ru W_ps; omega)]; exact hu1
          refine am_less (by intro q hq; simp only [List.mem_cons, List.not_mem_nil, or_false] at hq; rcases hq with rfl | rfl | rfl <;> simp) (st_tail_3_1 b E cv M _ T4 hXz hRz (by omega) 138 (zP b E 0 : Int) Q (fun r τ hτ => hQ r τ ?_))
          obtain ⟨rfl, hXt, hFt⟩ := hτ
          have hFs2 : frw (W_ts 3) T4 τ := ((frw.refl (W_ts 3) T4).setN (by unfold W_ts; omega)).trans (hFt.mono (fun a j h => Or.inr h))
          have hru : ∀ a j, W_ru a j → 27 ≤ a ∧ a ≤ 31 := fun a j h => by unfold W_ru W_ps at h; omega
          refine ⟨rfl, hXt, hC4.fr hFs2, (GFR.of hG3 (fun a j h => Or.inr (hru a j h))).trans (hG4.trans (GFR.of hFs2 (fun a j h => by unfold W_ts W_rz at h; omega))), ?_⟩
          rw [hFs2.2.1, hRz, hR]
  · exact absurd h47 (by decide)
set_option maxRecDepth 100000 in
theorem c_first_thinks_15 (b : Nat → Int) (E : Nat) (cv : Nat → Int) (M : Nat) (σ : am_H) (hX : RY b E cv M σ (.inl 0)) (hR : σ.2.2 27 2 = some 15) (hCL : CLt 15 0 0 σ) (hK : zK b E 0 = 137) (hC : CDt 15 σ) (h7 : σ.2.1 27 7 = 0) (h11 : σ.2.1 27 11 = 0) : am_met (M_X4_readStatement 1 1600) [am_r 27] σ (fun r σ' => r = none ∧ RY b E cv M σ' (.inr (1, (zP b E 0 : Int))) ∧ CDt 15 σ' ∧ GFR 15 σ σ' ∧ σ'.2.2 27 2 = σ.2.2 27 2) := by
  refine am_qq (fun Q hQ => ?_)
  refine am_enter (show plainFor yX4_readStatement = true by decide +kernel) rfl (Nat.le_of_ble_eq_true rfl) (fun _ _ _ => trivial) ?_
  have hu1 := hCL.1.2.1
  have hu2 := hCL.1.2.2 2 (by decide) (by decide)
  have hu3 := hCL.1.2.2 3 (by decide) (by decide)
  have hu4 := hCL.1.2.2 4 (by decide) (by decide)
  have hu5 := hCL.1.2.2 5 (by decide) (by decide)
  have hu8 : σ.2.1 23 1 = 0 := hCL.2.2.2.1
  have hu9 : σ.2.1 25 1 = 0 := hCL.2.2.2.2
  refine st_head_15_1 b E cv M 0 σ hX hR 137 (by exact hK) (by omega) Q (fun pA T1 hX1 hG1 hc0 => ?_)
  have hpA : pA = .inl 1 := by
    rcases hc0 with h | ⟨_, h⟩
    · exact h.1
    · rw [hu1, hu2, hu3, hu4, hu5, hu8, hu9] at h; omega
  rw [hpA] at hX1
  have hs1 : T1.2.1 15 1 = 0 := (hG1.2.2 15 1 (by unfold W_rz; omega)).trans hu1
  have hR1 : T1.2.2 27 2 = some 15 := by rw [hG1.2.1]; exact hR
  refine am_iload_n (q := 44) rfl (am_tab tk_X4_readStatement 22 rfl) rfl ?_
  refine am_sipush (q := 47) (n := 128) (by decide) rfl (am_tab tk_X4_readStatement 23 rfl) rfl ?_
  refine am_icmp_ne (q := 50) (t := 54) (am_tab tk_X4_readStatement 24 rfl) (by decide) rfl (fun h47 => ?_) (fun h47 => ?_)
  · refine am_iconst (q := 55) (n := 0) (by decide) (am_tab tk_X4_readStatement 27 rfl) rfl ?_
    refine am_aload_n (q := 56) rfl (am_tab tk_X4_readStatement 28 rfl) rfl ?_
    refine am_getR (q := 59) (a := 27) (k := 4) (n := 13) (j := 2) (r := some (15)) (Ls_27 hX1.1) (by decide) rfl (show T1.2.2 27 2 = some 15 by rw [hG1.2.1]; exact hR) (by decide) (Or.inl kf_X4_29) (am_tab tk_X4_readStatement 29 rfl) rfl ?_
    refine am_getI (q := 62) (a := 15) (k := 8) (n := 17) (j := 1) (x := (T1.2.1 15 1)) (Ls_15 hX1.1) (by decide) rfl rfl (by decide) (Or.inr kf_X4_52) (am_tab tk_X4_readStatement 30 rfl) rfl ?_
    refine am_if_ne (q := 65) (t := 69) (am_tab tk_X4_readStatement 31 rfl) (by decide) rfl (fun h62 => ?_) (fun h62 => ?_)
    · exact absurd hs1 h62
    · refine am_iconst (q := 66) (n := 1) (by decide) (am_tab tk_X4_readStatement 32 rfl) rfl ?_
      refine am_goto (t := 70) (am_tab tk_X4_readStatement 33 rfl) (by decide) ?_
      refine am_icmp_eq (q := 73) (t := 79) (am_tab tk_X4_readStatement 35 rfl) (by decide) rfl (fun h70 => ?_) (fun h70 => ?_)
      · exact absurd h70 (by decide)
      · refine am_aload_n (q := 74) rfl (am_tab tk_X4_readStatement 36 rfl) rfl ?_
        refine am_iconst (q := 75) (n := 1) (by decide) (am_tab tk_X4_readStatement 37 rfl) rfl ?_
        refine am_iload_n (q := 76) rfl (am_tab tk_X4_readStatement 38 rfl) rfl ?_
        refine am_callVr (q := 79) (me2 := M_X4_fail) (b := 27) (kb := 4) (nb := 13) (As := [am_i 1, am_i ((zP b E 0 : Int))]) (rest := []) (c_failY hX1 1 (zP b E 0 : Int) (by decide)) ⟨rfl, rfl⟩ (Ls_27 hX1.1) (by decide) ⟨Or.inl km_X4_58, kc_X4_fail, kn_X4, kd_X4_fail, ⟨(Nat.le_of_ble_eq_true rfl), (Nat.le_of_ble_eq_true rfl)⟩, ⟨(Nat.le_of_ble_eq_true rfl), (Nat.le_of_ble_eq_true rfl)⟩, (Nat.le_of_ble_eq_true rfl)⟩ ki_X4_fail ks_X4_fail rfl (am_tab tk_X4_readStatement 39 rfl) rfl ?_
        rintro r T2 ⟨rfl, hX2a, hG⟩
        have hX2 : RY b E cv M T2 (.inr (1, (zP b E 0 : Int)) : PZ) := hX2a
        have hG2 := hG1.trans hG
        have hR2 : T2.2.2 27 2 = some 15 := by rw [hG2.2.1]; exact hR
        refine am_iload_n (q := 80) rfl (am_tab tk_X4_readStatement 40 rfl) rfl ?_
        refine am_tableIn (t := 193) (off := 113) (by omega) (by omega) rfl dsw_X4_readStatement_80 (by decide) ?_
        refine am_aload_n (q := 194) rfl (am_tab tk_X4_readStatement 62 rfl) rfl ?_
        refine am_getR (q := 197) (a := 27) (k := 4) (n := 13) (j := 1) (r := some (28)) (Ls_27 hX2.1) (by decide) rfl (Lr_27_1 hX2.1) (by decide) (Or.inl kf_X4_14) (am_tab tk_X4_readStatement 63 rfl) rfl ?_
        refine am_iconst (q := 198) (n := 0) (by decide) (am_tab tk_X4_readStatement 64 rfl) rfl ?_
        refine am_putI (q := 201) (k := 5) (n := 2) (j := 1) (Ls_28 hX2.1) (by decide) rfl (by decide) (Or.inr (Or.inl ⟨kf_X4_65, rfl⟩)) (am_tab tk_X4_readStatement 65 rfl) rfl ?_
        refine am_aload_n (q := 202) rfl (am_tab tk_X4_readStatement 66 rfl) rfl ?_
        refine am_iload_n (q := 203) rfl (am_tab tk_X4_readStatement 67 rfl) rfl ?_
        refine am_sipush (q := 206) (n := 138) (by decide) rfl (am_tab tk_X4_readStatement 68 rfl) rfl ?_
        refine am_icmp_ne (q := 209) (t := 213) (am_tab tk_X4_readStatement 69 rfl) (by decide) rfl (fun h206 => ?_) (fun h206 => ?_)
        · refine am_iconst (q := 214) (n := 0) (by decide) (am_tab tk_X4_readStatement 72 rfl) rfl ?_
          refine am_putZ (q := 217) (k := 4) (n := 13) (j := 12) (Ls_27 hX2.1) (by decide) rfl (by first | exact Or.inl rfl | exact Or.inr rfl | omega) (by decide) (Or.inl ⟨kf_X4_130, rfl⟩) (am_tab tk_X4_readStatement 73 rfl) rfl ?_
          have hFs : frw (fun a j => (a = 28 ∧ j = 1) ∨ (a = 27 ∧ j = 12)) T2 (am_setN (am_setN T2 28 1 0) 27 12 0) := ((frw.refl (fun a j => (a = 28 ∧ j = 1) ∨ (a = 27 ∧ j = 12)) T2).setN (Or.inl ⟨rfl, rfl⟩)).setN (Or.inr ⟨rfl, rfl⟩)
          have hXy : RY b E cv M (am_setN (am_setN T2 28 1 0) 27 12 0) (.inr (1, (zP b E 0 : Int)) : PZ) := ⟨hFs.L hX2.1, ⟨hX2.2.1.1, hX2.2.1.2⟩, hX2.2.2.1, hX2.2.2.2.1, hX2.2.2.2.2⟩
          have hXs : RX b E cv M ((0 : Nat) : Int) (am_setN (am_setN T2 28 1 0) 27 12 0) (sx0 (.inr (1, (zP b E 0 : Int)) : PZ)) := RX_of hXy ((hG2.2.2 27 7 (by unfold W_rz; omega)).trans h7) ((hG2.2.2 27 11 (by unfold W_rz; omega)).trans h11) rfl rfl (by decide)
          refine am_aload_n (q := 218) rfl (am_tab tk_X4_readStatement 74 rfl) rfl ?_
          refine am_callVr (q := 221) (me2 := (M_X4_readTest 6)) (b := 27) (kb := 4) (nb := 13) (As := []) (rest := []) (RC_test b E cv M ((0 : Nat) : Int) 6 _ (sx0 (.inr (1, (zP b E 0 : Int)) : PZ)) hXs rfl) ⟨rfl, rfl⟩ (Ls_27 hX2.1) (by decide) ⟨Or.inl km_X4_75, kc_X4_readTest, kn_X4, kd_X4_readTest, ⟨(Nat.le_of_ble_eq_true rfl), (Nat.le_of_ble_eq_true rfl)⟩, ⟨(Nat.le_of_ble_eq_true rfl), (Nat.le_of_ble_eq_true rfl)⟩, (Nat.le_of_ble_eq_true rfl)⟩ ki_X4_readTest ks_X4_readTest rfl (am_tab tk_X4_readStatement 75 rfl) rfl ?_
          rintro r T3 ⟨rfl, hX3, hF3⟩
          have hG3 : frw W_ru σ T3 := (hG2.mono (fun a j h => Or.inl (by unfold W_rz at h; unfold W_ps; omega))).trans (((((frw.refl W_ru T2).setN (by unfold W_ru W_ps; omega)).setN (by unfold W_ru; omega))).trans (hF3.mono (fun a j h => Or.inl h)))
          obtain ⟨s, hs⟩ := Int.eq_ofNat_of_zero_le hX3.s0.1
          have hC3 := hC.fr hG3
          refine am_aload_n (q := 222) rfl (am_tab tk_X4_readStatement 76 rfl) rfl ?_
          refine am_getR (q := 225) (a := 27) (k := 4) (n := 13) (j := 2) (r := some (15)) (Ls_27 hX3.1.1) (by decide) rfl (show T3.2.2 27 2 = some 15 by rw [hG3.2.1]; exact hR) (by decide) (Or.inl kf_X4_29) (am_tab tk_X4_readStatement 77 rfl) rfl ?_
          refine am_iload_n (q := 226) rfl (am_tab tk_X4_readStatement 78 rfl) rfl ?_
          refine am_callVr (q := 229) (me2 := M_X8_ruleOf) (b := 15) (kb := 8) (nb := 17) (As := [am_i 137]) (rest := []) (c_ruleOf_15_137 T3 hX3.1.1) ⟨rfl, rfl⟩ (Ls_15 hX3.1.1) (by decide) ⟨Or.inr km_X4_133, kc_X8_ruleOf, kn_X8, kd_X8_ruleOf, ⟨(Nat.le_of_ble_eq_true rfl), (Nat.le_of_ble_eq_true rfl)⟩, ⟨(Nat.le_of_ble_eq_true rfl), (Nat.le_of_ble_eq_true rfl)⟩, (Nat.le_of_ble_eq_true rfl)⟩ ki_X8_ruleOf ks_X8_ruleOf rfl (am_tab tk_X4_readStatement 79 rfl) rfl ?_
          rintro r τ9 ⟨rfl, hτ9⟩
          rw [hτ9]
          obtain ⟨c, m, d, k, ⟨c1, c2, c3, c4⟩, ⟨d1, d2, d3, d4⟩, hcd⟩ := id hC3
          have hcr : T3.2.2 23 0 = some c := c1
          have hcm := c2
          have hc0c : cdC0 c := c3
          have hcl := c4
          refine am_aload_n (q := 230) rfl (am_tab tk_X4_readStatement 80 rfl) rfl ?_
          refine am_getR (q := 233) (a := 27) (k := 4) (n := 13) (j := 1) (r := some (28)) (Ls_27 hX3.1.1) (by decide) rfl (Lr_27_1 hX3.1.1) (by decide) (Or.inl kf_X4_14) (am_tab tk_X4_readStatement 81 rfl) rfl ?_
          refine am_callV (q := 236) (me2 := (M_X5_copyFrom 1 1600)) (b := 23) (kb := 5) (nb := 2) (As := [am_r 28]) (rest := []) (c_copyFrom hX3.1.1 (Ls_23 hX3.1.1) hcr hcm hs (by have := hX3.s0; omega) hcl (by decide) (by unfold cdC0 at hc0c; omega) (by unfold cdC0 at hc0c; omega) (by unfold cdC0 at hc0c; omega) (by decide)) (Ls_23 hX3.1.1) (by decide) ⟨Or.inr km_X4_137, kc_X5_copyFrom, kn_X5, kd_X5_copyFrom, ⟨(Nat.le_of_ble_eq_true rfl), (Nat.le_of_ble_eq_true rfl)⟩, ⟨(Nat.le_of_ble_eq_true rfl), (Nat.le_of_ble_eq_true rfl)⟩, (Nat.le_of_ble_eq_true rfl)⟩ ki_X5_copyFrom ks_X5_copyFrom rfl (am_tab tk_X4_readStatement 82 rfl) rfl ?_
          rintro r T4 ⟨rfl, hCR⟩
          have hCR2 : CR (15 + 8 + 2 * 0) s T3 T4 := hCR
          obtain ⟨hL4, hC4, hG4⟩ := hCR2.cd (Or.inr rfl) (Or.inl rfl) hX3.1.1 hC3
          refine am_goto (t := 280) (am_tab tk_X4_readStatement 83 rfl) (by decide) ?_
          have hXz : RY b E cv M T4 (.inr (1, (zP b E 0 : Int)) : PZ) := by
            have := hX3.ry.cells hL4 (fun a j h => hCR2.cells (Or.inr rfl) (Or.inl rfl) hX3.1.1 hC3 a j (by omega))
            rw [show SZ (testB b E (factX b E ((0 : Nat) : Int) 6) (sx0 (.inr (1, (zP b E 0 : Int)) : PZ))) = (.inr (1, (zP b E 0 : Int)) : PZ) from ruP_r _] at this
            exact this
          have hRz : T4.2.2 27 2 = some 15 := by
            rw [hCR.ref 27 2 (by omega) (by have := len131 hX3.1.1; omega), hG3.2.1]
            exact hR
          have hez : T4.2.1 15 1 = 0 := by rw [hCR2.cells (Or.inr rfl) (Or.inl rfl) hX3.1.1 hC3 15 1 (by omega), hG3.2.2 15 1 (by unfold W_ru W_ps; omega)]; exact hu1
          refine am_less (by intro q hq; simp only [List.mem_cons, List.not_mem_nil, or_false] at hq; rcases hq with rfl | rfl | rfl <;> simp) (st_tail_15_1 b E cv M _ T4 hXz hRz (by omega) 137 (zP b E 0 : Int) Q (fun r τ hτ => hQ r τ ?_))
          obtain ⟨rfl, hXt, hFt⟩ := hτ
          have hFs2 : frw (W_ts 15) T4 τ := ((frw.refl (W_ts 15) T4).setN (by unfold W_ts; omega)).trans (hFt.mono (fun a j h => Or.inr h))
          have hru : ∀ a j, W_ru a j → 27 ≤ a ∧ a ≤ 31 := fun a j h => by unfold W_ru W_ps at h; omega
          refine ⟨rfl, hXt, hC4.fr hFs2, (GFR.of hG3 (fun a j h => Or.inr (hru a j h))).trans (hG4.trans (GFR.of hFs2 (fun a j h => by unfold W_ts W_rz at h; omega))), ?_⟩
          rw [hFs2.2.1, hRz, hR]
        · exact absurd h206 (by decide)
  · exact absurd h47 (by decide)
set_option maxRecDepth 100000 in
theorem c_first_hears_15 (b : Nat → Int) (E : Nat) (cv : Nat → Int) (M : Nat) (σ : am_H) (hX : RY b E cv M σ (.inl 0)) (hR : σ.2.2 27 2 = some 15) (hCL : CLt 15 0 0 σ) (hK : zK b E 0 = 138) (hC : CDt 15 σ) (h7 : σ.2.1 27 7 = 0) (h11 : σ.2.1 27 11 = 0) : am_met (M_X4_readStatement 1 1600) [am_r 27] σ (fun r σ' => r = none ∧ RY b E cv M σ' (.inr (1, (zP b E 0 : Int))) ∧ CDt 15 σ' ∧ GFR 15 σ σ' ∧ σ'.2.2 27 2 = σ.2.2 27 2) := by
  refine am_qq (fun Q hQ => ?_)
  refine am_enter (show plainFor yX4_readStatement = true by decide +kernel) rfl (Nat.le_of_ble_eq_true rfl) (fun _ _ _ => trivial) ?_
  have hu1 := hCL.1.2.1
  have hu2 := hCL.1.2.2 2 (by decide) (by decide)
  have hu3 := hCL.1.2.2 3 (by decide) (by decide)
  have hu4 := hCL.1.2.2 4 (by decide) (by decide)
  have hu5 := hCL.1.2.2 5 (by decide) (by decide)
  have hu8 : σ.2.1 23 1 = 0 := hCL.2.2.2.1
  have hu9 : σ.2.1 25 1 = 0 := hCL.2.2.2.2
  refine st_head_15_1 b E cv M 0 σ hX hR 138 (by exact hK) (by omega) Q (fun pA T1 hX1 hG1 hc0 => ?_)
  have hpA : pA = .inl 1 := by
    rcases hc0 with h | ⟨_, h⟩
    · exact h.1
    · rw [hu1, hu2, hu3, hu4, hu5, hu8, hu9] at h; omega
  rw [hpA] at hX1
  have hs1 : T1.2.1 15 1 = 0 := (hG1.2.2 15 1 (by unfold W_rz; omega)).trans hu1
  have hR1 : T1.2.2 27 2 = some 15 := by rw [hG1.2.1]; exact hR
  refine am_iload_n (q := 44) rfl (am_tab tk_X4_readStatement 22 rfl) rfl ?_
  refine am_sipush (q := 47) (n := 128) (by decide) rfl (am_tab tk_X4_readStatement 23 rfl) rfl ?_
  refine am_icmp_ne (q := 50) (t := 54) (am_tab tk_X4_readStatement 24 rfl) (by decide) rfl (fun h47 => ?_) (fun h47 => ?_)
  · refine am_iconst (q := 55) (n := 0) (by decide) (am_tab tk_X4_readStatement 27 rfl) rfl ?_
    refine am_aload_n (q := 56) rfl (am_tab tk_X4_readStatement 28 rfl) rfl ?_
    refine am_getR (q := 59) (a := 27) (k := 4) (n := 13) (j := 2) (r := some (15)) (Ls_27 hX1.1) (by decide) rfl (show T1.2.2 27 2 = some 15 by rw [hG1.2.1]; exact hR) (by decide) (Or.inl kf_X4_29) (am_tab tk_X4_readStatement 29 rfl) rfl ?_
    refine am_getI (q := 62) (a := 15) (k := 8) (n := 17) (j := 1) (x := (T1.2.1 15 1)) (Ls_15 hX1.1) (by decide) rfl rfl (by decide) (Or.inr kf_X4_52) (am_tab tk_X4_readStatement 30 rfl) rfl ?_
    refine am_if_ne (q := 65) (t := 69) (am_tab tk_X4_readStatement 31 rfl) (by decide) rfl (fun h62 => ?_) (fun h62 => ?_)
    · exact absurd hs1 h62
    · refine am_iconst (q := 66) (n := 1) (by decide) (am_tab tk_X4_readStatement 32 rfl) rfl ?_
      refine am_goto (t := 70) (am_tab tk_X4_readStatement 33 rfl) (by decide) ?_
      refine am_icmp_eq (q := 73) (t := 79) (am_tab tk_X4_readStatement 35 rfl) (by decide) rfl (fun h70 => ?_) (fun h70 => ?_)
      · exact absurd h70 (by decide)
      · refine am_aload_n (q := 74) rfl (am_tab tk_X4_readStatement 36 rfl) rfl ?_
        refine am_iconst (q := 75) (n := 1) (by decide) (am_tab tk_X4_readStatement 37 rfl) rfl ?_
        refine am_iload_n (q := 76) rfl (am_tab tk_X4_readStatement 38 rfl) rfl ?_
        refine am_callVr (q := 79) (me2 := M_X4_fail) (b := 27) (kb := 4) (nb := 13) (As := [am_i 1, am_i ((zP b E 0 : Int))]) (rest := []) (c_failY hX1 1 (zP b E 0 : Int) (by decide)) ⟨rfl, rfl⟩ (Ls_27 hX1.1) (by decide) ⟨Or.inl km_X4_58, kc_X4_fail, kn_X4, kd_X4_fail, ⟨(Nat.le_of_ble_eq_true rfl), (Nat.le_of_ble_eq_true rfl)⟩, ⟨(Nat.le_of_ble_eq_true rfl), (Nat.le_of_ble_eq_true rfl)⟩, (Nat.le_of_ble_eq_true rfl)⟩ ki_X4_fail ks_X4_fail rfl (am_tab tk_X4_readStatement 39 rfl) rfl ?_
        rintro r T2 ⟨rfl, hX2a, hG⟩
        have hX2 : RY b E cv M T2 (.inr (1, (zP b E 0 : Int)) : PZ) := hX2a
        have hG2 := hG1.trans hG
        have hR2 : T2.2.2 27 2 = some 15 := by rw [hG2.2.1]; exact hR
        refine am_iload_n (q := 80) rfl (am_tab tk_X4_readStatement 40 rfl) rfl ?_
        refine am_tableIn (t := 193) (off := 113) (by omega) (by omega) rfl dsw_X4_readStatement_80 (by decide) ?_
        refine am_aload_n (q := 194) rfl (am_tab tk_X4_readStatement 62 rfl) rfl ?_
        refine am_getR (q := 197) (a := 27) (k := 4) (n := 13) (j := 1) (r := some (28)) (Ls_27 hX2.1) (by decide) rfl (Lr_27_1 hX2.1) (by decide) (Or.inl kf_X4_14) (am_tab tk_X4_readStatement 63 rfl) rfl ?_
        refine am_iconst (q := 198) (n := 0) (by decide) (am_tab tk_X4_readStatement 64 rfl) rfl ?_
        refine am_putI (q := 201) (k := 5) (n := 2) (j := 1) (Ls_28 hX2.1) (by decide) rfl (by decide) (Or.inr (Or.inl ⟨kf_X4_65, rfl⟩)) (am_tab tk_X4_readStatement 65 rfl) rfl ?_
        refine am_aload_n (q := 202) rfl (am_tab tk_X4_readStatement 66 rfl) rfl ?_
        refine am_iload_n (q := 203) rfl (am_tab tk_X4_readStatement 67 rfl) rfl ?_
        refine am_sipush (q := 206) (n := 138) (by decide) rfl (am_tab tk_X4_readStatement 68 rfl) rfl ?_
        refine am_icmp_ne (q := 209) (t := 213) (am_tab tk_X4_readStatement 69 rfl) (by decide) rfl (fun h206 => ?_) (fun h206 => ?_)
        · exact absurd rfl h206
        · refine am_iconst (q := 210) (n := 1) (by decide) (am_tab tk_X4_readStatement 70 rfl) rfl ?_
          refine am_goto (t := 214) (am_tab tk_X4_readStatement 71 rfl) (by decide) ?_
          refine am_putZ (q := 217) (k := 4) (n := 13) (j := 12) (Ls_27 hX2.1) (by decide) rfl (by first | exact Or.inl rfl | exact Or.inr rfl | omega) (by decide) (Or.inl ⟨kf_X4_130, rfl⟩) (am_tab tk_X4_readStatement 73 rfl) rfl ?_
          have hFs : frw (fun a j => (a = 28 ∧ j = 1) ∨ (a = 27 ∧ j = 12)) T2 (am_setN (am_setN T2 28 1 0) 27 12 1) := ((frw.refl (fun a j => (a = 28 ∧ j = 1) ∨ (a = 27 ∧ j = 12)) T2).setN (Or.inl ⟨rfl, rfl⟩)).setN (Or.inr ⟨rfl, rfl⟩)
          have hXy : RY b E cv M (am_setN (am_setN T2 28 1 0) 27 12 1) (.inr (1, (zP b E 0 : Int)) : PZ) := ⟨hFs.L hX2.1, ⟨hX2.2.1.1, hX2.2.1.2⟩, hX2.2.2.1, hX2.2.2.2.1, hX2.2.2.2.2⟩
          have hXs : RX b E cv M ((1 : Nat) : Int) (am_setN (am_setN T2 28 1 0) 27 12 1) (sx0 (.inr (1, (zP b E 0 : Int)) : PZ)) := RX_of hXy ((hG2.2.2 27 7 (by unfold W_rz; omega)).trans h7) ((hG2.2.2 27 11 (by unfold W_rz; omega)).trans h11) rfl rfl (by decide)
          refine am_aload_n (q := 218) rfl (am_tab tk_X4_readStatement 74 rfl) rfl ?_
          refine am_callVr (q := 221) (me2 := (M_X4_readTest 6)) (b := 27) (kb := 4) (nb := 13) (As := []) (rest := []) (RC_test b E cv M ((1 : Nat) : Int) 6 _ (sx0 (.inr (1, (zP b E 0 : Int)) : PZ)) hXs rfl) ⟨rfl, rfl⟩ (Ls_27 hX2.1) (by decide) ⟨Or.inl km_X4_75, kc_X4_readTest, kn_X4, kd_X4_readTest, ⟨(Nat.le_of_ble_eq_true rfl), (Nat.le_of_ble_eq_true rfl)⟩, ⟨(Nat.le_of_ble_eq_true rfl), (Nat.le_of_ble_eq_true rfl)⟩, (Nat.le_of_ble_eq_true rfl)⟩ ki_X4_readTest ks_X4_readTest rfl (am_tab tk_X4_readStatement 75 rfl) rfl ?_
          rintro r T3 ⟨rfl, hX3, hF3⟩
          have hG3 : frw W_ru σ T3 := (hG2.mono (fun a j h => Or.inl (by unfold W_rz at h; unfold W_ps; omega))).trans (((((frw.refl W_ru T2).setN (by unfold W_ru W_ps; omega)).setN (by unfold W_ru; omega))).trans (hF3.mono (fun a j h => Or.inl h)))
          obtain ⟨s, hs⟩ := Int.eq_ofNat_of_zero_le hX3.s0.1
          have hC3 := hC.fr hG3
          refine am_aload_n (q := 222) rfl (am_tab tk_X4_readStatement 76 rfl) rfl ?_
          refine am_getR (q := 225) (a := 27) (k := 4) (n := 13) (j := 2) (r := some (15)) (Ls_27 hX3.1.1) (by decide) rfl (show T3.2.2 27 2 = some 15 by rw [hG3.2.1]; exact hR) (by decide) (Or.inl kf_X4_29) (am_tab tk_X4_readStatement 77 rfl) rfl ?_
          refine am_iload_n (q := 226) rfl (am_tab tk_X4_readStatement 78 rfl) rfl ?_
          refine am_callVr (q := 229) (me2 := M_X8_ruleOf) (b := 15) (kb := 8) (nb := 17) (As := [am_i 138]) (rest := []) (c_ruleOf_15_138 T3 hX3.1.1) ⟨rfl, rfl⟩ (Ls_15 hX3.1.1) (by decide) ⟨Or.inr km_X4_133, kc_X8_ruleOf, kn_X8, kd_X8_ruleOf, ⟨(Nat.le_of_ble_eq_true rfl), (Nat.le_of_ble_eq_true rfl)⟩, ⟨(Nat.le_of_ble_eq_true rfl), (Nat.le_of_ble_eq_true rfl)⟩, (Nat.le_of_ble_eq_true rfl)⟩ ki_X8_ruleOf ks_X8_ruleOf rfl (am_tab tk_X4_readStatement 79 rfl) rfl ?_
          rintro r τ9 ⟨rfl, hτ9⟩
          rw [hτ9]
          obtain ⟨c, m, d, k, ⟨c1, c2, c3, c4⟩, ⟨d1, d2, d3, d4⟩, hcd⟩ := id hC3
          have hcr : T3.2.2 25 0 = some d := d1
          have hcm := d2
          have hc0c : cdC0 d := d3
          have hcl := d4
          refine am_aload_n (q := 230) rfl (am_tab tk_X4_readStatement 80 rfl) rfl ?_
          refine am_getR (q := 233) (a := 27) (k := 4) (n := 13) (j := 1) (r := some (28)) (Ls_27 hX3.1.1) (by decide) rfl (Lr_27_1 hX3.1.1) (by decide) (Or.inl kf_X4_14) (am_tab tk_X4_readStatement 81 rfl) rfl ?_
          refine am_callV (q := 236) (me2 := (M_X5_copyFrom 1 1600)) (b := 25) (kb := 5) (nb := 2) (As := [am_r 28]) (rest := []) (c_copyFrom hX3.1.1 (Ls_25 hX3.1.1) hcr hcm hs (by have := hX3.s0; omega) hcl (by decide) (by unfold cdC0 at hc0c; omega) (by unfold cdC0 at hc0c; omega) (by unfold cdC0 at hc0c; omega) (by decide)) (Ls_25 hX3.1.1) (by decide) ⟨Or.inr km_X4_137, kc_X5_copyFrom, kn_X5, kd_X5_copyFrom, ⟨(Nat.le_of_ble_eq_true rfl), (Nat.le_of_ble_eq_true rfl)⟩, ⟨(Nat.le_of_ble_eq_true rfl), (Nat.le_of_ble_eq_true rfl)⟩, (Nat.le_of_ble_eq_true rfl)⟩ ki_X5_copyFrom ks_X5_copyFrom rfl (am_tab tk_X4_readStatement 82 rfl) rfl ?_
          rintro r T4 ⟨rfl, hCR⟩
          have hCR2 : CR (15 + 8 + 2 * 1) s T3 T4 := hCR
          obtain ⟨hL4, hC4, hG4⟩ := hCR2.cd (Or.inr rfl) (Or.inr rfl) hX3.1.1 hC3
          refine am_goto (t := 280) (am_tab tk_X4_readStatement 83 rfl) (by decide) ?_
          have hXz : RY b E cv M T4 (.inr (1, (zP b E 0 : Int)) : PZ) := by
            have := hX3.ry.cells hL4 (fun a j h => hCR2.cells (Or.inr rfl) (Or.inr rfl) hX3.1.1 hC3 a j (by omega))
            rw [show SZ (testB b E (factX b E ((1 : Nat) : Int) 6) (sx0 (.inr (1, (zP b E 0 : Int)) : PZ))) = (.inr (1, (zP b E 0 : Int)) : PZ) from ruP_r _] at this
            exact this
          have hRz : T4.2.2 27 2 = some 15 := by
            rw [hCR.ref 27 2 (by omega) (by have := len131 hX3.1.1; omega), hG3.2.1]
            exact hR
          have hez : T4.2.1 15 1 = 0 := by rw [hCR2.cells (Or.inr rfl) (Or.inr rfl) hX3.1.1 hC3 15 1 (by omega), hG3.2.2 15 1 (by unfold W_ru W_ps; omega)]; exact hu1
          refine am_less (by intro q hq; simp only [List.mem_cons, List.not_mem_nil, or_false] at hq; rcases hq with rfl | rfl | rfl <;> simp) (st_tail_15_1 b E cv M _ T4 hXz hRz (by omega) 138 (zP b E 0 : Int) Q (fun r τ hτ => hQ r τ ?_))
          obtain ⟨rfl, hXt, hFt⟩ := hτ
          have hFs2 : frw (W_ts 15) T4 τ := ((frw.refl (W_ts 15) T4).setN (by unfold W_ts; omega)).trans (hFt.mono (fun a j h => Or.inr h))
          have hru : ∀ a j, W_ru a j → 27 ≤ a ∧ a ≤ 31 := fun a j h => by unfold W_ru W_ps at h; omega
          refine ⟨rfl, hXt, hC4.fr hFs2, (GFR.of hG3 (fun a j h => Or.inr (hru a j h))).trans (hG4.trans (GFR.of hFs2 (fun a j h => by unfold W_ts W_rz at h; omega))), ?_⟩
          rw [hFs2.2.1, hRz, hR]
  · exact absurd h47 (by decide)
