set_option maxRecDepth 100000 in
theorem c_st_thinks_3 (b : Nat → Int) (E : Nat) (cv : Nat → Int) (M : Nat) (i : Nat) (σ H : am_H) (hX : RY b E cv M σ (.inl i)) (hR : σ.2.2 27 2 = some 3) (hT : TRr 3 σ H) (hRR : RRr 3 σ H) (hTW : TWI H i) (hs0 : 1 ≤ H.2.1 55 51) (hK : zK b E i = 137) (hC : CDt 3 σ) (h7 : σ.2.1 27 7 = 0) (h11 : σ.2.1 27 11 = 0) (hiM : i + 1 ≤ M) : am_met (M_X4_readStatement 1 1600) [am_r 27] σ (fun r σ' => r = none ∧ RY b E cv M σ' (stF b E H i) ∧ ((stF b E H i).isLeft = true → TRr 3 σ' (stH b E H i) ∧ RRr 3 σ' (stH b E H i) ∧ σ'.2.1 27 7 = 0) ∧ CDt 3 σ' ∧ GFR 3 σ σ' ∧ σ'.2.1 27 11 = σ.2.1 27 11 ∧ σ'.2.2 27 2 = σ.2.2 27 2) := by
  refine am_qq (fun Q hQ => ?_)
  refine am_enter (show plainFor yX4_readStatement = true by decide +kernel) rfl (Nat.le_of_ble_eq_true rfl) (fun _ _ _ => trivial) ?_
  have a2 := hT.1.2.1
  have hw6 := hTW.2.2.2.2.2.2
  refine st_head_3_1 b E cv M i σ hX hR 137 hK (by omega) Q (fun pA T1 hX1 hG1 hc0 => ?_)
  have hrl : 0 < σ.2.1 11 1 ↔ ¬ H.2.1 93 0 = -1 := by
    have h1 := rlN_0 hRR.2.2 (wh := 0) (by decide)
    have h2 : σ.2.1 11 1 = ((rlN H 0).length : Int) := by obtain ⟨_, _, _, _, _, _, _, h, _⟩ := hRR.1; exact h
    rw [h2]
    omega
  have hc : HC b E i (¬ H.2.1 93 0 = -1) (H.2.1 55 51) pA := HC.iff hc0 (by rw [← hrl]; omega) a2
  have hs1 : T1.2.1 3 1 = H.2.1 55 51 := (hG1.2.2 3 1 (by unfold W_rz; omega)).trans a2
  have hR1 : T1.2.2 27 2 = some 3 := by rw [hG1.2.1]; exact hR
  refine am_iload_n (q := 44) rfl (am_tab tk_X4_readStatement 22 rfl) rfl ?_
  refine am_sipush (q := 47) (n := 128) (by decide) rfl (am_tab tk_X4_readStatement 23 rfl) rfl ?_
  refine am_icmp_ne (q := 50) (t := 54) (am_tab tk_X4_readStatement 24 rfl) (by decide) rfl (fun h47 => ?_) (fun h47 => ?_)
  · refine am_iconst (q := 55) (n := 0) (by decide) (am_tab tk_X4_readStatement 27 rfl) rfl ?_
    refine am_aload_n (q := 56) rfl (am_tab tk_X4_readStatement 28 rfl) rfl ?_
    refine am_getR (q := 59) (a := 27) (k := 4) (n := 13) (j := 2) (r := some (3)) (Ls_27 hX1.1) (by decide) rfl (show T1.2.2 27 2 = some 3 by rw [hG1.2.1]; exact hR) (by decide) (Or.inl kf_X4_29) (am_tab tk_X4_readStatement 29 rfl) rfl ?_
    refine am_getI (q := 62) (a := 3) (k := 8) (n := 17) (j := 1) (x := (T1.2.1 3 1)) (Ls_3 hX1.1) (by decide) rfl rfl (by decide) (Or.inr kf_X4_52) (am_tab tk_X4_readStatement 30 rfl) rfl ?_
    refine am_if_ne (q := 65) (t := 69) (am_tab tk_X4_readStatement 31 rfl) (by decide) rfl (fun h62 => ?_) (fun h62 => ?_)
    · refine am_iconst (q := 70) (n := 0) (by decide) (am_tab tk_X4_readStatement 34 rfl) rfl ?_
      refine am_icmp_eq (q := 73) (t := 79) (am_tab tk_X4_readStatement 35 rfl) (by decide) rfl (fun h70 => ?_) (fun h70 => ?_)
      · refine am_iload_n (q := 80) rfl (am_tab tk_X4_readStatement 40 rfl) rfl ?_
        refine am_tableIn (t := 193) (off := 113) (by omega) (by omega) rfl dsw_X4_readStatement_80 (by decide) ?_
        refine am_aload_n (q := 194) rfl (am_tab tk_X4_readStatement 62 rfl) rfl ?_
        refine am_getR (q := 197) (a := 27) (k := 4) (n := 13) (j := 1) (r := some (28)) (Ls_27 hX1.1) (by decide) rfl (Lr_27_1 hX1.1) (by decide) (Or.inl kf_X4_14) (am_tab tk_X4_readStatement 63 rfl) rfl ?_
        refine am_iconst (q := 198) (n := 0) (by decide) (am_tab tk_X4_readStatement 64 rfl) rfl ?_
        refine am_putI (q := 201) (k := 5) (n := 2) (j := 1) (Ls_28 hX1.1) (by decide) rfl (by decide) (Or.inr (Or.inl ⟨kf_X4_65, rfl⟩)) (am_tab tk_X4_readStatement 65 rfl) rfl ?_
        refine am_aload_n (q := 202) rfl (am_tab tk_X4_readStatement 66 rfl) rfl ?_
        refine am_iload_n (q := 203) rfl (am_tab tk_X4_readStatement 67 rfl) rfl ?_
        refine am_sipush (q := 206) (n := 138) (by decide) rfl (am_tab tk_X4_readStatement 68 rfl) rfl ?_
        refine am_icmp_ne (q := 209) (t := 213) (am_tab tk_X4_readStatement 69 rfl) (by decide) rfl (fun h206 => ?_) (fun h206 => ?_)
        · refine am_iconst (q := 214) (n := 0) (by decide) (am_tab tk_X4_readStatement 72 rfl) rfl ?_
          refine am_putZ (q := 217) (k := 4) (n := 13) (j := 12) (Ls_27 hX1.1) (by decide) rfl (by first | exact Or.inl rfl | exact Or.inr rfl | omega) (by decide) (Or.inl ⟨kf_X4_130, rfl⟩) (am_tab tk_X4_readStatement 73 rfl) rfl ?_
          have hFs : frw (fun a j => (a = 28 ∧ j = 1) ∨ (a = 27 ∧ j = 12)) T1 (am_setN (am_setN T1 28 1 0) 27 12 0) := ((frw.refl (fun a j => (a = 28 ∧ j = 1) ∨ (a = 27 ∧ j = 12)) T1).setN (Or.inl ⟨rfl, rfl⟩)).setN (Or.inr ⟨rfl, rfl⟩)
          have hXy : RY b E cv M (am_setN (am_setN T1 28 1 0) 27 12 0) pA := ⟨hFs.L hX1.1, ⟨hX1.2.1.1, hX1.2.1.2⟩, hX1.2.2.1, (by have := hX1.2.2.2.1; cases pA <;> exact this), hX1.2.2.2.2⟩
          have hXs : RX b E cv M ((0 : Nat) : Int) (am_setN (am_setN T1 28 1 0) 27 12 0) (sx0 pA) := RX_of hXy ((hG1.2.2 27 7 (by unfold W_rz; omega)).trans h7) ((hG1.2.2 27 11 (by unfold W_rz; omega)).trans h11) rfl rfl (by decide)
          refine am_aload_n (q := 218) rfl (am_tab tk_X4_readStatement 74 rfl) rfl ?_
          refine am_callVr (q := 221) (me2 := (M_X4_readTest 6)) (b := 27) (kb := 4) (nb := 13) (As := []) (rest := []) (RC_test b E cv M ((0 : Nat) : Int) 6 _ (sx0 pA) hXs (by cases pA <;> rfl)) ⟨rfl, rfl⟩ (Ls_27 hX1.1) (by decide) ⟨Or.inl km_X4_75, kc_X4_readTest, kn_X4, kd_X4_readTest, ⟨(Nat.le_of_ble_eq_true rfl), (Nat.le_of_ble_eq_true rfl)⟩, ⟨(Nat.le_of_ble_eq_true rfl), (Nat.le_of_ble_eq_true rfl)⟩, (Nat.le_of_ble_eq_true rfl)⟩ ki_X4_readTest ks_X4_readTest rfl (am_tab tk_X4_readStatement 75 rfl) rfl ?_
          rintro r T3 ⟨rfl, hX3, hF3⟩
          have hG3 : frw W_ru σ T3 := (hG1.mono (fun a j h => Or.inl (by unfold W_rz at h; unfold W_ps; omega))).trans (((((frw.refl W_ru T1).setN (by unfold W_ru W_ps; omega)).setN (by unfold W_ru; omega))).trans (hF3.mono (fun a j h => Or.inl h)))
          obtain ⟨s, hs⟩ := Int.eq_ofNat_of_zero_le hX3.s0.1
          have hC3 := hC.fr hG3
          refine am_aload_n (q := 222) rfl (am_tab tk_X4_readStatement 76 rfl) rfl ?_
          refine am_getR (q := 225) (a := 27) (k := 4) (n := 13) (j := 2) (r := some (3)) (Ls_27 hX3.1.1) (by decide) rfl (show T3.2.2 27 2 = some 3 by rw [hG3.2.1]; exact hR) (by decide) (Or.inl kf_X4_29) (am_tab tk_X4_readStatement 77 rfl) rfl ?_
          refine am_iload_n (q := 226) rfl (am_tab tk_X4_readStatement 78 rfl) rfl ?_
          refine am_callVr (q := 229) (me2 := M_X8_ruleOf) (b := 3) (kb := 8) (nb := 17) (As := [am_i 137]) (rest := []) (c_ruleOf_3_137 T3 hX3.1.1) ⟨rfl, rfl⟩ (Ls_3 hX3.1.1) (by decide) ⟨Or.inr km_X4_133, kc_X8_ruleOf, kn_X8, kd_X8_ruleOf, ⟨(Nat.le_of_ble_eq_true rfl), (Nat.le_of_ble_eq_true rfl)⟩, ⟨(Nat.le_of_ble_eq_true rfl), (Nat.le_of_ble_eq_true rfl)⟩, (Nat.le_of_ble_eq_true rfl)⟩ ki_X8_ruleOf ks_X8_ruleOf rfl (am_tab tk_X4_readStatement 79 rfl) rfl ?_
          rintro r τ9 ⟨rfl, hτ9⟩
          rw [hτ9]
          obtain ⟨c, m, d, k, ⟨c1, c2, c3, c4⟩, ⟨d1, d2, d3, d4⟩, hcd⟩ := id hC3
          have hcr : T3.2.2 11 0 = some c := c1
          have hcm := c2
          have hc0c : cdC0 c := c3
          have hcl := c4
          refine am_aload_n (q := 230) rfl (am_tab tk_X4_readStatement 80 rfl) rfl ?_
          refine am_getR (q := 233) (a := 27) (k := 4) (n := 13) (j := 1) (r := some (28)) (Ls_27 hX3.1.1) (by decide) rfl (Lr_27_1 hX3.1.1) (by decide) (Or.inl kf_X4_14) (am_tab tk_X4_readStatement 81 rfl) rfl ?_
          refine am_callV (q := 236) (me2 := (M_X5_copyFrom 1 1600)) (b := 11) (kb := 5) (nb := 2) (As := [am_r 28]) (rest := []) (c_copyFrom hX3.1.1 (Ls_11 hX3.1.1) hcr hcm hs (by have := hX3.s0; omega) hcl (by decide) (by unfold cdC0 at hc0c; omega) (by unfold cdC0 at hc0c; omega) (by unfold cdC0 at hc0c; omega) (by decide)) (Ls_11 hX3.1.1) (by decide) ⟨Or.inr km_X4_137, kc_X5_copyFrom, kn_X5, kd_X5_copyFrom, ⟨(Nat.le_of_ble_eq_true rfl), (Nat.le_of_ble_eq_true rfl)⟩, ⟨(Nat.le_of_ble_eq_true rfl), (Nat.le_of_ble_eq_true rfl)⟩, (Nat.le_of_ble_eq_true rfl)⟩ ki_X5_copyFrom ks_X5_copyFrom rfl (am_tab tk_X4_readStatement 82 rfl) rfl ?_
          rintro r T4 ⟨rfl, hCR⟩
          have hCR2 : CR (3 + 8 + 2 * 0) s T3 T4 := hCR
          obtain ⟨hL4, hC4, hG4⟩ := hCR2.cd (Or.inl rfl) (Or.inl rfl) hX3.1.1 hC3
          refine am_goto (t := 280) (am_tab tk_X4_readStatement 83 rfl) (by decide) ?_
          have hXz : RY b E cv M T4 (ruP b E ((0 : Nat) : Int) pA) := hX3.ry.cells hL4 (fun a j h => hCR2.cells (Or.inl rfl) (Or.inl rfl) hX3.1.1 hC3 a j (by omega))
          have hRz : T4.2.2 27 2 = some 3 := by
            rw [hCR.ref 27 2 (by omega) (by have := len131 hX3.1.1; omega), hG3.2.1]
            exact hR
          have hez : T4.2.1 3 1 = H.2.1 55 51 := by rw [hCR2.cells (Or.inl rfl) (Or.inl rfl) hX3.1.1 hC3 3 1 (by omega), hG3.2.2 3 1 (by unfold W_ru W_ps; omega)]; exact a2
          have hqR : stR b E H i = cdF b E H 0 (zP b E i : Int) (i + 1) := by unfold stR; rw [hK]; rw [if_neg (by decide), if_neg (by decide), if_neg (by decide), if_neg (by decide), if_pos rfl]
          have hqG : stG b E H i = cdH H 0 (cdC b E 0 (i + 1)) := by unfold stG; rw [hK]; rw [if_neg (by decide), if_neg (by decide), if_neg (by decide), if_neg (by decide), if_pos rfl]
          refine am_less (by intro q hq; simp only [List.mem_cons, List.not_mem_nil, or_false] at hq; rcases hq with rfl | rfl | rfl <;> simp) (st_tail_3_1 b E cv M _ T4 hXz hRz (by omega) 137 (zP b E i : Int) Q (fun r τ hτ => hQ r τ ?_))
          obtain ⟨rfl, hXt, hFt⟩ := hτ
          have hp := rule_post (t := 3) (wh := 0) (Or.inl rfl) (Or.inl rfl) hT hRR hC hiM hc (by omega) hG3 hX3 hs hCR2 hFt (fun hf => by rw [hqR]; exact if_pos hf) (fun hf => by rw [hqR]; exact if_neg hf) hqG
          exact ⟨rfl, (by rw [← hp.1]; exact hXt), hp.2⟩
        · exact absurd h206 (by decide)
      · exact absurd rfl h70
    · exact absurd h62 (by omega)
  · exact absurd h47 (by decide)
set_option maxRecDepth 100000 in
theorem c_st_hears_3 (b : Nat → Int) (E : Nat) (cv : Nat → Int) (M : Nat) (i : Nat) (σ H : am_H) (hX : RY b E cv M σ (.inl i)) (hR : σ.2.2 27 2 = some 3) (hT : TRr 3 σ H) (hRR : RRr 3 σ H) (hTW : TWI H i) (hs0 : 1 ≤ H.2.1 55 51) (hK : zK b E i = 138) (hC : CDt 3 σ) (h7 : σ.2.1 27 7 = 0) (h11 : σ.2.1 27 11 = 0) (hiM : i + 1 ≤ M) : am_met (M_X4_readStatement 1 1600) [am_r 27] σ (fun r σ' => r = none ∧ RY b E cv M σ' (stF b E H i) ∧ ((stF b E H i).isLeft = true → TRr 3 σ' (stH b E H i) ∧ RRr 3 σ' (stH b E H i) ∧ σ'.2.1 27 7 = 0) ∧ CDt 3 σ' ∧ GFR 3 σ σ' ∧ σ'.2.1 27 11 = σ.2.1 27 11 ∧ σ'.2.2 27 2 = σ.2.2 27 2) := by
  refine am_qq (fun Q hQ => ?_)
  refine am_enter (show plainFor yX4_readStatement = true by decide +kernel) rfl (Nat.le_of_ble_eq_true rfl) (fun _ _ _ => trivial) ?_
  have a2 := hT.1.2.1
  have hw6 := hTW.2.2.2.2.2.2
  refine st_head_3_1 b E cv M i σ hX hR 138 hK (by omega) Q (fun pA T1 hX1 hG1 hc0 => ?_)
  have hrl : 0 < σ.2.1 13 1 ↔ ¬ H.2.1 93 1 = -1 := by
    have h1 := rlN_0 hRR.2.2 (wh := 1) (by decide)
    have h2 : σ.2.1 13 1 = ((rlN H 1).length : Int) := by obtain ⟨_, _, _, _, _, _, _, h, _⟩ := hRR.2.1; exact h
    rw [h2]
    omega
  have hc : HC b E i (¬ H.2.1 93 1 = -1) (H.2.1 55 51) pA := HC.iff hc0 (by rw [← hrl]; omega) a2
  have hs1 : T1.2.1 3 1 = H.2.1 55 51 := (hG1.2.2 3 1 (by unfold W_rz; omega)).trans a2
  have hR1 : T1.2.2 27 2 = some 3 := by rw [hG1.2.1]; exact hR
  refine am_iload_n (q := 44) rfl (am_tab tk_X4_readStatement 22 rfl) rfl ?_
  refine am_sipush (q := 47) (n := 128) (by decide) rfl (am_tab tk_X4_readStatement 23 rfl) rfl ?_
  refine am_icmp_ne (q := 50) (t := 54) (am_tab tk_X4_readStatement 24 rfl) (by decide) rfl (fun h47 => ?_) (fun h47 => ?_)
  · refine am_iconst (q := 55) (n := 0) (by decide) (am_tab tk_X4_readStatement 27 rfl) rfl ?_
    refine am_aload_n (q := 56) rfl (am_tab tk_X4_readStatement 28 rfl) rfl ?_
    refine am_getR (q := 59) (a := 27) (k := 4) (n := 13) (j := 2) (r := some (3)) (Ls_27 hX1.1) (by decide) rfl (show T1.2.2 27 2 = some 3 by rw [hG1.2.1]; exact hR) (by decide) (Or.inl kf_X4_29) (am_tab tk_X4_readStatement 29 rfl) rfl ?_
    refine am_getI (q := 62) (a := 3) (k := 8) (n := 17) (j := 1) (x := (T1.2.1 3 1)) (Ls_3 hX1.1) (by decide) rfl rfl (by decide) (Or.inr kf_X4_52) (am_tab tk_X4_readStatement 30 rfl) rfl ?_
    refine am_if_ne (q := 65) (t := 69) (am_tab tk_X4_readStatement 31 rfl) (by decide) rfl (fun h62 => ?_) (fun h62 => ?_)
    · refine am_iconst (q := 70) (n := 0) (by decide) (am_tab tk_X4_readStatement 34 rfl) rfl ?_
      refine am_icmp_eq (q := 73) (t := 79) (am_tab tk_X4_readStatement 35 rfl) (by decide) rfl (fun h70 => ?_) (fun h70 => ?_)
      · refine am_iload_n (q := 80) rfl (am_tab tk_X4_readStatement 40 rfl) rfl ?_
        refine am_tableIn (t := 193) (off := 113) (by omega) (by omega) rfl dsw_X4_readStatement_80 (by decide) ?_
        refine am_aload_n (q := 194) rfl (am_tab tk_X4_readStatement 62 rfl) rfl ?_
        refine am_getR (q := 197) (a := 27) (k := 4) (n := 13) (j := 1) (r := some (28)) (Ls_27 hX1.1) (by decide) rfl (Lr_27_1 hX1.1) (by decide) (Or.inl kf_X4_14) (am_tab tk_X4_readStatement 63 rfl) rfl ?_
        refine am_iconst (q := 198) (n := 0) (by decide) (am_tab tk_X4_readStatement 64 rfl) rfl ?_
        refine am_putI (q := 201) (k := 5) (n := 2) (j := 1) (Ls_28 hX1.1) (by decide) rfl (by decide) (Or.inr (Or.inl ⟨kf_X4_65, rfl⟩)) (am_tab tk_X4_readStatement 65 rfl) rfl ?_
        refine am_aload_n (q := 202) rfl (am_tab tk_X4_readStatement 66 rfl) rfl ?_
        refine am_iload_n (q := 203) rfl (am_tab tk_X4_readStatement 67 rfl) rfl ?_
        refine am_sipush (q := 206) (n := 138) (by decide) rfl (am_tab tk_X4_readStatement 68 rfl) rfl ?_
        refine am_icmp_ne (q := 209) (t := 213) (am_tab tk_X4_readStatement 69 rfl) (by decide) rfl (fun h206 => ?_) (fun h206 => ?_)
        · exact absurd rfl h206
        · refine am_iconst (q := 210) (n := 1) (by decide) (am_tab tk_X4_readStatement 70 rfl) rfl ?_
          refine am_goto (t := 214) (am_tab tk_X4_readStatement 71 rfl) (by decide) ?_
          refine am_putZ (q := 217) (k := 4) (n := 13) (j := 12) (Ls_27 hX1.1) (by decide) rfl (by first | exact Or.inl rfl | exact Or.inr rfl | omega) (by decide) (Or.inl ⟨kf_X4_130, rfl⟩) (am_tab tk_X4_readStatement 73 rfl) rfl ?_
          have hFs : frw (fun a j => (a = 28 ∧ j = 1) ∨ (a = 27 ∧ j = 12)) T1 (am_setN (am_setN T1 28 1 0) 27 12 1) := ((frw.refl (fun a j => (a = 28 ∧ j = 1) ∨ (a = 27 ∧ j = 12)) T1).setN (Or.inl ⟨rfl, rfl⟩)).setN (Or.inr ⟨rfl, rfl⟩)
          have hXy : RY b E cv M (am_setN (am_setN T1 28 1 0) 27 12 1) pA := ⟨hFs.L hX1.1, ⟨hX1.2.1.1, hX1.2.1.2⟩, hX1.2.2.1, (by have := hX1.2.2.2.1; cases pA <;> exact this), hX1.2.2.2.2⟩
          have hXs : RX b E cv M ((1 : Nat) : Int) (am_setN (am_setN T1 28 1 0) 27 12 1) (sx0 pA) := RX_of hXy ((hG1.2.2 27 7 (by unfold W_rz; omega)).trans h7) ((hG1.2.2 27 11 (by unfold W_rz; omega)).trans h11) rfl rfl (by decide)
          refine am_aload_n (q := 218) rfl (am_tab tk_X4_readStatement 74 rfl) rfl ?_
          refine am_callVr (q := 221) (me2 := (M_X4_readTest 6)) (b := 27) (kb := 4) (nb := 13) (As := []) (rest := []) (RC_test b E cv M ((1 : Nat) : Int) 6 _ (sx0 pA) hXs (by cases pA <;> rfl)) ⟨rfl, rfl⟩ (Ls_27 hX1.1) (by decide) ⟨Or.inl km_X4_75, kc_X4_readTest, kn_X4, kd_X4_readTest, ⟨(Nat.le_of_ble_eq_true rfl), (Nat.le_of_ble_eq_true rfl)⟩, ⟨(Nat.le_of_ble_eq_true rfl), (Nat.le_of_ble_eq_true rfl)⟩, (Nat.le_of_ble_eq_true rfl)⟩ ki_X4_readTest ks_X4_readTest rfl (am_tab tk_X4_readStatement 75 rfl) rfl ?_
          rintro r T3 ⟨rfl, hX3, hF3⟩
          have hG3 : frw W_ru σ T3 := (hG1.mono (fun a j h => Or.inl (by unfold W_rz at h; unfold W_ps; omega))).trans (((((frw.refl W_ru T1).setN (by unfold W_ru W_ps; omega)).setN (by unfold W_ru; omega))).trans (hF3.mono (fun a j h => Or.inl h)))
          obtain ⟨s, hs⟩ := Int.eq_ofNat_of_zero_le hX3.s0.1
          have hC3 := hC.fr hG3
          refine am_aload_n (q := 222) rfl (am_tab tk_X4_readStatement 76 rfl) rfl ?_
          refine am_getR (q := 225) (a := 27) (k := 4) (n := 13) (j := 2) (r := some (3)) (Ls_27 hX3.1.1) (by decide) rfl (show T3.2.2 27 2 = some 3 by rw [hG3.2.1]; exact hR) (by decide) (Or.inl kf_X4_29) (am_tab tk_X4_readStatement 77 rfl) rfl ?_
          refine am_iload_n (q := 226) rfl (am_tab tk_X4_readStatement 78 rfl) rfl ?_
          refine am_callVr (q := 229) (me2 := M_X8_ruleOf) (b := 3) (kb := 8) (nb := 17) (As := [am_i 138]) (rest := []) (c_ruleOf_3_138 T3 hX3.1.1) ⟨rfl, rfl⟩ (Ls_3 hX3.1.1) (by decide) ⟨Or.inr km_X4_133, kc_X8_ruleOf, kn_X8, kd_X8_ruleOf, ⟨(Nat.le_of_ble_eq_true rfl), (Nat.le_of_ble_eq_true rfl)⟩, ⟨(Nat.le_of_ble_eq_true rfl), (Nat.le_of_ble_eq_true rfl)⟩, (Nat.le_of_ble_eq_true rfl)⟩ ki_X8_ruleOf ks_X8_ruleOf rfl (am_tab tk_X4_readStatement 79 rfl) rfl ?_
          rintro r τ9 ⟨rfl, hτ9⟩
          rw [hτ9]
          obtain ⟨c, m, d, k, ⟨c1, c2, c3, c4⟩, ⟨d1, d2, d3, d4⟩, hcd⟩ := id hC3
          have hcr : T3.2.2 13 0 = some d := d1
          have hcm := d2
          have hc0c : cdC0 d := d3
          have hcl := d4
          refine am_aload_n (q := 230) rfl (am_tab tk_X4_readStatement 80 rfl) rfl ?_
          refine am_getR (q := 233) (a := 27) (k := 4) (n := 13) (j := 1) (r := some (28)) (Ls_27 hX3.1.1) (by decide) rfl (Lr_27_1 hX3.1.1) (by decide) (Or.inl kf_X4_14) (am_tab tk_X4_readStatement 81 rfl) rfl ?_
          refine am_callV (q := 236) (me2 := (M_X5_copyFrom 1 1600)) (b := 13) (kb := 5) (nb := 2) (As := [am_r 28]) (rest := []) (c_copyFrom hX3.1.1 (Ls_13 hX3.1.1) hcr hcm hs (by have := hX3.s0; omega) hcl (by decide) (by unfold cdC0 at hc0c; omega) (by unfold cdC0 at hc0c; omega) (by unfold cdC0 at hc0c; omega) (by decide)) (Ls_13 hX3.1.1) (by decide) ⟨Or.inr km_X4_137, kc_X5_copyFrom, kn_X5, kd_X5_copyFrom, ⟨(Nat.le_of_ble_eq_true rfl), (Nat.le_of_ble_eq_true rfl)⟩, ⟨(Nat.le_of_ble_eq_true rfl), (Nat.le_of_ble_eq_true rfl)⟩, (Nat.le_of_ble_eq_true rfl)⟩ ki_X5_copyFrom ks_X5_copyFrom rfl (am_tab tk_X4_readStatement 82 rfl) rfl ?_
          rintro r T4 ⟨rfl, hCR⟩
          have hCR2 : CR (3 + 8 + 2 * 1) s T3 T4 := hCR
          obtain ⟨hL4, hC4, hG4⟩ := hCR2.cd (Or.inl rfl) (Or.inr rfl) hX3.1.1 hC3
          refine am_goto (t := 280) (am_tab tk_X4_readStatement 83 rfl) (by decide) ?_
          have hXz : RY b E cv M T4 (ruP b E ((1 : Nat) : Int) pA) := hX3.ry.cells hL4 (fun a j h => hCR2.cells (Or.inl rfl) (Or.inr rfl) hX3.1.1 hC3 a j (by omega))
          have hRz : T4.2.2 27 2 = some 3 := by
            rw [hCR.ref 27 2 (by omega) (by have := len131 hX3.1.1; omega), hG3.2.1]
            exact hR
          have hez : T4.2.1 3 1 = H.2.1 55 51 := by rw [hCR2.cells (Or.inl rfl) (Or.inr rfl) hX3.1.1 hC3 3 1 (by omega), hG3.2.2 3 1 (by unfold W_ru W_ps; omega)]; exact a2
          have hqR : stR b E H i = cdF b E H 1 (zP b E i : Int) (i + 1) := by unfold stR; rw [hK]; rw [if_neg (by decide), if_neg (by decide), if_neg (by decide), if_neg (by decide), if_neg (by decide), if_pos rfl]
          have hqG : stG b E H i = cdH H 1 (cdC b E 1 (i + 1)) := by unfold stG; rw [hK]; rw [if_neg (by decide), if_neg (by decide), if_neg (by decide), if_neg (by decide), if_neg (by decide), if_pos rfl]
          refine am_less (by intro q hq; simp only [List.mem_cons, List.not_mem_nil, or_false] at hq; rcases hq with rfl | rfl | rfl <;> simp) (st_tail_3_1 b E cv M _ T4 hXz hRz (by omega) 138 (zP b E i : Int) Q (fun r τ hτ => hQ r τ ?_))
          obtain ⟨rfl, hXt, hFt⟩ := hτ
          have hp := rule_post (t := 3) (wh := 1) (Or.inl rfl) (Or.inr rfl) hT hRR hC hiM hc (by omega) hG3 hX3 hs hCR2 hFt (fun hf => by rw [hqR]; exact if_pos hf) (fun hf => by rw [hqR]; exact if_neg hf) hqG
          exact ⟨rfl, (by rw [← hp.1]; exact hXt), hp.2⟩
      · exact absurd rfl h70
    · exact absurd h62 (by omega)
  · exact absurd h47 (by decide)
set_option maxRecDepth 100000 in
theorem c_st_thinks_15 (b : Nat → Int) (E : Nat) (cv : Nat → Int) (M : Nat) (i : Nat) (σ H : am_H) (hX : RY b E cv M σ (.inl i)) (hR : σ.2.2 27 2 = some 15) (hT : TRr 15 σ H) (hRR : RRr 15 σ H) (hTW : TWI H i) (hs0 : 1 ≤ H.2.1 55 51) (hK : zK b E i = 137) (hC : CDt 15 σ) (h7 : σ.2.1 27 7 = 0) (h11 : σ.2.1 27 11 = 0) (hiM : i + 1 ≤ M) : am_met (M_X4_readStatement 1 1600) [am_r 27] σ (fun r σ' => r = none ∧ RY b E cv M σ' (stF b E H i) ∧ ((stF b E H i).isLeft = true → TRr 15 σ' (stH b E H i) ∧ RRr 15 σ' (stH b E H i) ∧ σ'.2.1 27 7 = 0) ∧ CDt 15 σ' ∧ GFR 15 σ σ' ∧ σ'.2.1 27 11 = σ.2.1 27 11 ∧ σ'.2.2 27 2 = σ.2.2 27 2) := by
  refine am_qq (fun Q hQ => ?_)
  refine am_enter (show plainFor yX4_readStatement = true by decide +kernel) rfl (Nat.le_of_ble_eq_true rfl) (fun _ _ _ => trivial) ?_
  have a2 := hT.1.2.1
  have hw6 := hTW.2.2.2.2.2.2
  refine st_head_15_1 b E cv M i σ hX hR 137 hK (by omega) Q (fun pA T1 hX1 hG1 hc0 => ?_)
  have hrl : 0 < σ.2.1 23 1 ↔ ¬ H.2.1 93 0 = -1 := by
    have h1 := rlN_0 hRR.2.2 (wh := 0) (by decide)
    have h2 : σ.2.1 23 1 = ((rlN H 0).length : Int) := by obtain ⟨_, _, _, _, _, _, _, h, _⟩ := hRR.1; exact h
    rw [h2]
    omega
  have hc : HC b E i (¬ H.2.1 93 0 = -1) (H.2.1 55 51) pA := HC.iff hc0 (by rw [← hrl]; omega) a2
  have hs1 : T1.2.1 15 1 = H.2.1 55 51 := (hG1.2.2 15 1 (by unfold W_rz; omega)).trans a2
  have hR1 : T1.2.2 27 2 = some 15 := by rw [hG1.2.1]; exact hR
  refine am_iload_n (q := 44) rfl (am_tab tk_X4_readStatement 22 rfl) rfl ?_
  refine am_sipush (q := 47) (n := 128) (by decide) rfl (am_tab tk_X4_readStatement 23 rfl) rfl ?_
  refine am_icmp_ne (q := 50) (t := 54) (am_tab tk_X4_readStatement 24 rfl) (by decide) rfl (fun h47 => ?_) (fun h47 => ?_)
  · refine am_iconst (q := 55) (n := 0) (by decide) (am_tab tk_X4_readStatement 27 rfl) rfl ?_
    refine am_aload_n (q := 56) rfl (am_tab tk_X4_readStatement 28 rfl) rfl ?_
    refine am_getR (q := 59) (a := 27) (k := 4) (n := 13) (j := 2) (r := some (15)) (Ls_27 hX1.1) (by decide) rfl (show T1.2.2 27 2 = some 15 by rw [hG1.2.1]; exact hR) (by decide) (Or.inl kf_X4_29) (am_tab tk_X4_readStatement 29 rfl) rfl ?_
    refine am_getI (q := 62) (a := 15) (k := 8) (n := 17) (j := 1) (x := (T1.2.1 15 1)) (Ls_15 hX1.1) (by decide) rfl rfl (by decide) (Or.inr kf_X4_52) (am_tab tk_X4_readStatement 30 rfl) rfl ?_
    refine am_if_ne (q := 65) (t := 69) (am_tab tk_X4_readStatement 31 rfl) (by decide) rfl (fun h62 => ?_) (fun h62 => ?_)
    · refine am_iconst (q := 70) (n := 0) (by decide) (am_tab tk_X4_readStatement 34 rfl) rfl ?_
      refine am_icmp_eq (q := 73) (t := 79) (am_tab tk_X4_readStatement 35 rfl) (by decide) rfl (fun h70 => ?_) (fun h70 => ?_)
      · refine am_iload_n (q := 80) rfl (am_tab tk_X4_readStatement 40 rfl) rfl ?_
        refine am_tableIn (t := 193) (off := 113) (by omega) (by omega) rfl dsw_X4_readStatement_80 (by decide) ?_
        refine am_aload_n (q := 194) rfl (am_tab tk_X4_readStatement 62 rfl) rfl ?_
        refine am_getR (q := 197) (a := 27) (k := 4) (n := 13) (j := 1) (r := some (28)) (Ls_27 hX1.1) (by decide) rfl (Lr_27_1 hX1.1) (by decide) (Or.inl kf_X4_14) (am_tab tk_X4_readStatement 63 rfl) rfl ?_
        refine am_iconst (q := 198) (n := 0) (by decide) (am_tab tk_X4_readStatement 64 rfl) rfl ?_
        refine am_putI (q := 201) (k := 5) (n := 2) (j := 1) (Ls_28 hX1.1) (by decide) rfl (by decide) (Or.inr (Or.inl ⟨kf_X4_65, rfl⟩)) (am_tab tk_X4_readStatement 65 rfl) rfl ?_
        refine am_aload_n (q := 202) rfl (am_tab tk_X4_readStatement 66 rfl) rfl ?_
        refine am_iload_n (q := 203) rfl (am_tab tk_X4_readStatement 67 rfl) rfl ?_
        refine am_sipush (q := 206) (n := 138) (by decide) rfl (am_tab tk_X4_readStatement 68 rfl) rfl ?_
        refine am_icmp_ne (q := 209) (t := 213) (am_tab tk_X4_readStatement 69 rfl) (by decide) rfl (fun h206 => ?_) (fun h206 => ?_)
        · refine am_iconst (q := 214) (n := 0) (by decide) (am_tab tk_X4_readStatement 72 rfl) rfl ?_
          refine am_putZ (q := 217) (k := 4) (n := 13) (j := 12) (Ls_27 hX1.1) (by decide) rfl (by first | exact Or.inl rfl | exact Or.inr rfl | omega) (by decide) (Or.inl ⟨kf_X4_130, rfl⟩) (am_tab tk_X4_readStatement 73 rfl) rfl ?_
          have hFs : frw (fun a j => (a = 28 ∧ j = 1) ∨ (a = 27 ∧ j = 12)) T1 (am_setN (am_setN T1 28 1 0) 27 12 0) := ((frw.refl (fun a j => (a = 28 ∧ j = 1) ∨ (a = 27 ∧ j = 12)) T1).setN (Or.inl ⟨rfl, rfl⟩)).setN (Or.inr ⟨rfl, rfl⟩)
          have hXy : RY b E cv M (am_setN (am_setN T1 28 1 0) 27 12 0) pA := ⟨hFs.L hX1.1, ⟨hX1.2.1.1, hX1.2.1.2⟩, hX1.2.2.1, (by have := hX1.2.2.2.1; cases pA <;> exact this), hX1.2.2.2.2⟩
          have hXs : RX b E cv M ((0 : Nat) : Int) (am_setN (am_setN T1 28 1 0) 27 12 0) (sx0 pA) := RX_of hXy ((hG1.2.2 27 7 (by unfold W_rz; omega)).trans h7) ((hG1.2.2 27 11 (by unfold W_rz; omega)).trans h11) rfl rfl (by decide)
          refine am_aload_n (q := 218) rfl (am_tab tk_X4_readStatement 74 rfl) rfl ?_
          refine am_callVr (q := 221) (me2 := (M_X4_readTest 6)) (b := 27) (kb := 4) (nb := 13) (As := []) (rest := []) (RC_test b E cv M ((0 : Nat) : Int) 6 _ (sx0 pA) hXs (by cases pA <;> rfl)) ⟨rfl, rfl⟩ (Ls_27 hX1.1) (by decide) ⟨Or.inl km_X4_75, kc_X4_readTest, kn_X4, kd_X4_readTest, ⟨(Nat.le_of_ble_eq_true rfl), (Nat.le_of_ble_eq_true rfl)⟩, ⟨(Nat.le_of_ble_eq_true rfl), (Nat.le_of_ble_eq_true rfl)⟩, (Nat.le_of_ble_eq_true rfl)⟩ ki_X4_readTest ks_X4_readTest rfl (am_tab tk_X4_readStatement 75 rfl) rfl ?_
          rintro r T3 ⟨rfl, hX3, hF3⟩
          have hG3 : frw W_ru σ T3 := (hG1.mono (fun a j h => Or.inl (by unfold W_rz at h; unfold W_ps; omega))).trans (((((frw.refl W_ru T1).setN (by unfold W_ru W_ps; omega)).setN (by unfold W_ru; omega))).trans (hF3.mono (fun a j h => Or.inl h)))
          obtain ⟨s, hs⟩ := Int.eq_ofNat_of_zero_le hX3.s0.1
          have hC3 := hC.fr hG3
          refine am_aload_n (q := 222) rfl (am_tab tk_X4_readStatement 76 rfl) rfl ?_
          refine am_getR (q := 225) (a := 27) (k := 4) (n := 13) (j := 2) (r := some (15)) (Ls_27 hX3.1.1) (by decide) rfl (show T3.2.2 27 2 = some 15 by rw [hG3.2.1]; exact hR) (by decide) (Or.inl kf_X4_29) (am_tab tk_X4_readStatement 77 rfl) rfl ?_
          refine am_iload_n (q := 226) rfl (am_tab tk_X4_readStatement 78 rfl) rfl ?_
          refine am_callVr (q := 229) (me2 := M_X8_ruleOf) (b := 15) (kb := 8) (nb := 17) (As := [am_i 137]) (rest := []) (c_ruleOf_15_137 T3 hX3.1.1) ⟨rfl, rfl⟩ (Ls_15 hX3.1.1) (by decide) ⟨Or.inr km_X4_133, kc_X8_ruleOf, kn_X8, kd_X8_ruleOf, ⟨(Nat.le_of_ble_eq_true rfl), (Nat.le_of_ble_eq_true rfl)⟩, ⟨(Nat.le_of_ble_eq_true rfl), (Nat.le_of_ble_eq_true rfl)⟩, (Nat.le_of_ble_eq_true rfl)⟩ ki_X8_ruleOf ks_X8_ruleOf rfl (am_tab tk_X4_readStatement 79 rfl) rfl ?_
          rintro r τ9 ⟨rfl, hτ9⟩
          rw [hτ9]
          obtain ⟨c, m, d, k, ⟨c1, c2, c3, c4⟩, ⟨d1, d2, d3, d4⟩, hcd⟩ := id hC3
          have hcr : T3.2.2 23 0 = some c := c1
          have hcm := c2
          have hc0c : cdC0 c := c3
          have hcl := c4
          refine am_aload_n (q := 230) rfl (am_tab tk_X4_readStatement 80 rfl) rfl ?_
          refine am_getR (q := 233) (a := 27) (k := 4) (n := 13) (j := 1) (r := some (28)) (Ls_27 hX3.1.1) (by decide) rfl (Lr_27_1 hX3.1.1) (by decide) (Or.inl kf_X4_14) (am_tab tk_X4_readStatement 81 rfl) rfl ?_
          refine am_callV (q := 236) (me2 := (M_X5_copyFrom 1 1600)) (b := 23) (kb := 5) (nb := 2) (As := [am_r 28]) (rest := []) (c_copyFrom hX3.1.1 (Ls_23 hX3.1.1) hcr hcm hs (by have := hX3.s0; omega) hcl (by decide) (by unfold cdC0 at hc0c; omega) (by unfold cdC0 at hc0c; omega) (by unfold cdC0 at hc0c; omega) (by decide)) (Ls_23 hX3.1.1) (by decide) ⟨Or.inr km_X4_137, kc_X5_copyFrom, kn_X5, kd_X5_copyFrom, ⟨(Nat.le_of_ble_eq_true rfl), (Nat.le_of_ble_eq_true rfl)⟩, ⟨(Nat.le_of_ble_eq_true rfl), (Nat.le_of_ble_eq_true rfl)⟩, (Nat.le_of_ble_eq_true rfl)⟩ ki_X5_copyFrom ks_X5_copyFrom rfl (am_tab tk_X4_readStatement 82 rfl) rfl ?_
          rintro r T4 ⟨rfl, hCR⟩
          have hCR2 : CR (15 + 8 + 2 * 0) s T3 T4 := hCR
          obtain ⟨hL4, hC4, hG4⟩ := hCR2.cd (Or.inr rfl) (Or.inl rfl) hX3.1.1 hC3
          refine am_goto (t := 280) (am_tab tk_X4_readStatement 83 rfl) (by decide) ?_
          have hXz : RY b E cv M T4 (ruP b E ((0 : Nat) : Int) pA) := hX3.ry.cells hL4 (fun a j h => hCR2.cells (Or.inr rfl) (Or.inl rfl) hX3.1.1 hC3 a j (by omega))
          have hRz : T4.2.2 27 2 = some 15 := by
            rw [hCR.ref 27 2 (by omega) (by have := len131 hX3.1.1; omega), hG3.2.1]
            exact hR
          have hez : T4.2.1 15 1 = H.2.1 55 51 := by rw [hCR2.cells (Or.inr rfl) (Or.inl rfl) hX3.1.1 hC3 15 1 (by omega), hG3.2.2 15 1 (by unfold W_ru W_ps; omega)]; exact a2
          have hqR : stR b E H i = cdF b E H 0 (zP b E i : Int) (i + 1) := by unfold stR; rw [hK]; rw [if_neg (by decide), if_neg (by decide), if_neg (by decide), if_neg (by decide), if_pos rfl]
          have hqG : stG b E H i = cdH H 0 (cdC b E 0 (i + 1)) := by unfold stG; rw [hK]; rw [if_neg (by decide), if_neg (by decide), if_neg (by decide), if_neg (by decide), if_pos rfl]
          refine am_less (by intro q hq; simp only [List.mem_cons, List.not_mem_nil, or_false] at hq; rcases hq with rfl | rfl | rfl <;> simp) (st_tail_15_1 b E cv M _ T4 hXz hRz (by omega) 137 (zP b E i : Int) Q (fun r τ hτ => hQ r τ ?_))
          obtain ⟨rfl, hXt, hFt⟩ := hτ
          have hp := rule_post (t := 15) (wh := 0) (Or.inr rfl) (Or.inl rfl) hT hRR hC hiM hc (by omega) hG3 hX3 hs hCR2 hFt (fun hf => by rw [hqR]; exact if_pos hf) (fun hf => by rw [hqR]; exact if_neg hf) hqG
          exact ⟨rfl, (by rw [← hp.1]; exact hXt), hp.2⟩
        · exact absurd h206 (by decide)
      · exact absurd rfl h70
    · exact absurd h62 (by omega)
  · exact absurd h47 (by decide)
set_option maxRecDepth 100000 in
theorem c_st_hears_15 (b : Nat → Int) (E : Nat) (cv : Nat → Int) (M : Nat) (i : Nat) (σ H : am_H) (hX : RY b E cv M σ (.inl i)) (hR : σ.2.2 27 2 = some 15) (hT : TRr 15 σ H) (hRR : RRr 15 σ H) (hTW : TWI H i) (hs0 : 1 ≤ H.2.1 55 51) (hK : zK b E i = 138) (hC : CDt 15 σ) (h7 : σ.2.1 27 7 = 0) (h11 : σ.2.1 27 11 = 0) (hiM : i + 1 ≤ M) : am_met (M_X4_readStatement 1 1600) [am_r 27] σ (fun r σ' => r = none ∧ RY b E cv M σ' (stF b E H i) ∧ ((stF b E H i).isLeft = true → TRr 15 σ' (stH b E H i) ∧ RRr 15 σ' (stH b E H i) ∧ σ'.2.1 27 7 = 0) ∧ CDt 15 σ' ∧ GFR 15 σ σ' ∧ σ'.2.1 27 11 = σ.2.1 27 11 ∧ σ'.2.2 27 2 = σ.2.2 27 2) := by
  refine am_qq (fun Q hQ => ?_)
  refine am_enter (show plainFor yX4_readStatement = true by decide +kernel) rfl (Nat.le_of_ble_eq_true rfl) (fun _ _ _ => trivial) ?_
  have a2 := hT.1.2.1
  have hw6 := hTW.2.2.2.2.2.2
  refine st_head_15_1 b E cv M i σ hX hR 138 hK (by omega) Q (fun pA T1 hX1 hG1 hc0 => ?_)
  have hrl : 0 < σ.2.1 25 1 ↔ ¬ H.2.1 93 1 = -1 := by
    have h1 := rlN_0 hRR.2.2 (wh := 1) (by decide)
    have h2 : σ.2.1 25 1 = ((rlN H 1).length : Int) := by obtain ⟨_, _, _, _, _, _, _, h, _⟩ := hRR.2.1; exact h
    rw [h2]
    omega
  have hc : HC b E i (¬ H.2.1 93 1 = -1) (H.2.1 55 51) pA := HC.iff hc0 (by rw [← hrl]; omega) a2
  have hs1 : T1.2.1 15 1 = H.2.1 55 51 := (hG1.2.2 15 1 (by unfold W_rz; omega)).trans a2
  have hR1 : T1.2.2 27 2 = some 15 := by rw [hG1.2.1]; exact hR
  refine am_iload_n (q := 44) rfl (am_tab tk_X4_readStatement 22 rfl) rfl ?_
  refine am_sipush (q := 47) (n := 128) (by decide) rfl (am_tab tk_X4_readStatement 23 rfl) rfl ?_
  refine am_icmp_ne (q := 50) (t := 54) (am_tab tk_X4_readStatement 24 rfl) (by decide) rfl (fun h47 => ?_) (fun h47 => ?_)
  · refine am_iconst (q := 55) (n := 0) (by decide) (am_tab tk_X4_readStatement 27 rfl) rfl ?_
    refine am_aload_n (q := 56) rfl (am_tab tk_X4_readStatement 28 rfl) rfl ?_
    refine am_getR (q := 59) (a := 27) (k := 4) (n := 13) (j := 2) (r := some (15)) (Ls_27 hX1.1) (by decide) rfl (show T1.2.2 27 2 = some 15 by rw [hG1.2.1]; exact hR) (by decide) (Or.inl kf_X4_29) (am_tab tk_X4_readStatement 29 rfl) rfl ?_
    refine am_getI (q := 62) (a := 15) (k := 8) (n := 17) (j := 1) (x := (T1.2.1 15 1)) (Ls_15 hX1.1) (by decide) rfl rfl (by decide) (Or.inr kf_X4_52) (am_tab tk_X4_readStatement 30 rfl) rfl ?_
    refine am_if_ne (q := 65) (t := 69) (am_tab tk_X4_readStatement 31 rfl) (by decide) rfl (fun h62 => ?_) (fun h62 => ?_)
    · refine am_iconst (q := 70) (n := 0) (by decide) (am_tab tk_X4_readStatement 34 rfl) rfl ?_
      refine am_icmp_eq (q := 73) (t := 79) (am_tab tk_X4_readStatement 35 rfl) (by decide) rfl (fun h70 => ?_) (fun h70 => ?_)
      · refine am_iload_n (q := 80) rfl (am_tab tk_X4_readStatement 40 rfl) rfl ?_
        refine am_tableIn (t := 193) (off := 113) (by omega) (by omega) rfl dsw_X4_readStatement_80 (by decide) ?_
        refine am_aload_n (q := 194) rfl (am_tab tk_X4_readStatement 62 rfl) rfl ?_
        refine am_getR (q := 197) (a := 27) (k := 4) (n := 13) (j := 1) (r := some (28)) (Ls_27 hX1.1) (by decide) rfl (Lr_27_1 hX1.1) (by decide) (Or.inl kf_X4_14) (am_tab tk_X4_readStatement 63 rfl) rfl ?_
        refine am_iconst (q := 198) (n := 0) (by decide) (am_tab tk_X4_readStatement 64 rfl) rfl ?_
        refine am_putI (q := 201) (k := 5) (n := 2) (j := 1) (Ls_28 hX1.1) (by decide) rfl (by decide) (Or.inr (Or.inl ⟨kf_X4_65, rfl⟩)) (am_tab tk_X4_readStatement 65 rfl) rfl ?_
        refine am_aload_n (q := 202) rfl (am_tab tk_X4_readStatement 66 rfl) rfl ?_
        refine am_iload_n (q := 203) rfl (am_tab tk_X4_readStatement 67 rfl) rfl ?_
        refine am_sipush (q := 206) (n := 138) (by decide) rfl (am_tab tk_X4_readStatement 68 rfl) rfl ?_
        refine am_icmp_ne (q := 209) (t := 213) (am_tab tk_X4_readStatement 69 rfl) (by decide) rfl (fun h206 => ?_) (fun h206 => ?_)
        · exact absurd rfl h206
        · refine am_iconst (q := 210) (n := 1) (by decide) (am_tab tk_X4_readStatement 70 rfl) rfl ?_
          refine am_goto (t := 214) (am_tab tk_X4_readStatement 71 rfl) (by decide) ?_
          refine am_putZ (q := 217) (k := 4) (n := 13) (j := 12) (Ls_27 hX1.1) (by decide) rfl (by first | exact Or.inl rfl | exact Or.inr rfl | omega) (by decide) (Or.inl ⟨kf_X4_130, rfl⟩) (am_tab tk_X4_readStatement 73 rfl) rfl ?_
          have hFs : frw (fun a j => (a = 28 ∧ j = 1) ∨ (a = 27 ∧ j = 12)) T1 (am_setN (am_setN T1 28 1 0) 27 12 1) := ((frw.refl (fun a j => (a = 28 ∧ j = 1) ∨ (a = 27 ∧ j = 12)) T1).setN (Or.inl ⟨rfl, rfl⟩)).setN (Or.inr ⟨rfl, rfl⟩)
          have hXy : RY b E cv M (am_setN (am_setN T1 28 1 0) 27 12 1) pA := ⟨hFs.L hX1.1, ⟨hX1.2.1.1, hX1.2.1.2⟩, hX1.2.2.1, (by have := hX1.2.2.2.1; cases pA <;> exact this), hX1.2.2.2.2⟩
          have hXs : RX b E cv M ((1 : Nat) : Int) (am_setN (am_setN T1 28 1 0) 27 12 1) (sx0 pA) := RX_of hXy ((hG1.2.2 27 7 (by unfold W_rz; omega)).trans h7) ((hG1.2.2 27 11 (by unfold W_rz; omega)).trans h11) rfl rfl (by decide)
          refine am_aload_n (q := 218) rfl (am_tab tk_X4_readStatement 74 rfl) rfl ?_
          refine am_callVr (q := 221) (me2 := (M_X4_readTest 6)) (b := 27) (kb := 4) (nb := 13) (As := []) (rest := []) (RC_test b E cv M ((1 : Nat) : Int) 6 _ (sx0 pA) hXs (by cases pA <;> rfl)) ⟨rfl, rfl⟩ (Ls_27 hX1.1) (by decide) ⟨Or.inl km_X4_75, kc_X4_readTest, kn_X4, kd_X4_readTest, ⟨(Nat.le_of_ble_eq_true rfl), (Nat.le_of_ble_eq_true rfl)⟩, ⟨(Nat.le_of_ble_eq_true rfl), (Nat.le_of_ble_eq_true rfl)⟩, (Nat.le_of_ble_eq_true rfl)⟩ ki_X4_readTest ks_X4_readTest rfl (am_tab tk_X4_readStatement 75 rfl) rfl ?_
          rintro r T3 ⟨rfl, hX3, hF3⟩
          have hG3 : frw W_ru σ T3 := (hG1.mono (fun a j h => Or.inl (by unfold W_rz at h; unfold W_ps; omega))).trans (((((frw.refl W_ru T1).setN (by unfold W_ru W_ps; omega)).setN (by unfold W_ru; omega))).trans (hF3.mono (fun a j h => Or.inl h)))
          obtain ⟨s, hs⟩ := Int.eq_ofNat_of_zero_le hX3.s0.1
          have hC3 := hC.fr hG3
          refine am_aload_n (q := 222) rfl (am_tab tk_X4_readStatement 76 rfl) rfl ?_
          refine am_getR (q := 225) (a := 27) (k := 4) (n := 13) (j := 2) (r := some (15)) (Ls_27 hX3.1.1) (by decide) rfl (show T3.2.2 27 2 = some 15 by rw [hG3.2.1]; exact hR) (by decide) (Or.inl kf_X4_29) (am_tab tk_X4_readStatement 77 rfl) rfl ?_
          refine am_iload_n (q := 226) rfl (am_tab tk_X4_readStatement 78 rfl) rfl ?_
          refine am_callVr (q := 229) (me2 := M_X8_ruleOf) (b := 15) (kb := 8) (nb := 17) (As := [am_i 138]) (rest := []) (c_ruleOf_15_138 T3 hX3.1.1) ⟨rfl, rfl⟩ (Ls_15 hX3.1.1) (by decide) ⟨Or.inr km_X4_133, kc_X8_ruleOf, kn_X8, kd_X8_ruleOf, ⟨(Nat.le_of_ble_eq_true rfl), (Nat.le_of_ble_eq_true rfl)⟩, ⟨(Nat.le_of_ble_eq_true rfl), (Nat.le_of_ble_eq_true rfl)⟩, (Nat.le_of_ble_eq_true rfl)⟩ ki_X8_ruleOf ks_X8_ruleOf rfl (am_tab tk_X4_readStatement 79 rfl) rfl ?_
          rintro r τ9 ⟨rfl, hτ9⟩
          rw [hτ9]
          obtain ⟨c, m, d, k, ⟨c1, c2, c3, c4⟩, ⟨d1, d2, d3, d4⟩, hcd⟩ := id hC3
          have hcr : T3.2.2 25 0 = some d := d1
          have hcm := d2
          have hc0c : cdC0 d := d3
          have hcl := d4
          refine am_aload_n (q := 230) rfl (am_tab tk_X4_readStatement 80 rfl) rfl ?_
          refine am_getR (q := 233) (a := 27) (k := 4) (n := 13) (j := 1) (r := some (28)) (Ls_27 hX3.1.1) (by decide) rfl (Lr_27_1 hX3.1.1) (by decide) (Or.inl kf_X4_14) (am_tab tk_X4_readStatement 81 rfl) rfl ?_
          refine am_callV (q := 236) (me2 := (M_X5_copyFrom 1 1600)) (b := 25) (kb := 5) (nb := 2) (As := [am_r 28]) (rest := []) (c_copyFrom hX3.1.1 (Ls_25 hX3.1.1) hcr hcm hs (by have := hX3.s0; omega) hcl (by decide) (by unfold cdC0 at hc0c; omega) (by unfold cdC0 at hc0c; omega) (by unfold cdC0 at hc0c; omega) (by decide)) (Ls_25 hX3.1.1) (by decide) ⟨Or.inr km_X4_137, kc_X5_copyFrom, kn_X5, kd_X5_copyFrom, ⟨(Nat.le_of_ble_eq_true rfl), (Nat.le_of_ble_eq_true rfl)⟩, ⟨(Nat.le_of_ble_eq_true rfl), (Nat.le_of_ble_eq_true rfl)⟩, (Nat.le_of_ble_eq_true rfl)⟩ ki_X5_copyFrom ks_X5_copyFrom rfl (am_tab tk_X4_readStatement 82 rfl) rfl ?_
          rintro r T4 ⟨rfl, hCR⟩
          have hCR2 : CR (15 + 8 + 2 * 1) s T3 T4 := hCR
          obtain ⟨hL4, hC4, hG4⟩ := hCR2.cd (Or.inr rfl) (Or.inr rfl) hX3.1.1 hC3
          refine am_goto (t := 280) (am_tab tk_X4_readStatement 83 rfl) (by decide) ?_
          have hXz : RY b E cv M T4 (ruP b E ((1 : Nat) : Int) pA) := hX3.ry.cells hL4 (fun a j h => hCR2.cells (Or.inr rfl) (Or.inr rfl) hX3.1.1 hC3 a j (by omega))
          have hRz : T4.2.2 27 2 = some 15 := by
            rw [hCR.ref 27 2 (by omega) (by have := len131 hX3.1.1; omega), hG3.2.1]
            exact hR
          have hez : T4.2.1 15 1 = H.2.1 55 51 := by rw [hCR2.cells (Or.inr rfl) (Or.inr rfl) hX3.1.1 hC3 15 1 (by omega), hG3.2.2 15 1 (by unfold W_ru W_ps; omega)]; exact a2
          have hqR : stR b E H i = cdF b E H 1 (zP b E i : Int) (i + 1) := by unfold stR; rw [hK]; rw [if_neg (by decide), if_neg (by decide), if_neg (by decide), if_neg (by decide), if_neg (by decide), if_pos rfl]
          have hqG : stG b E H i = cdH H 1 (cdC b E 1 (i + 1)) := by unfold stG; rw [hK]; rw [if_neg (by decide), if_neg (by decide), if_neg (by decide), if_neg (by decide), if_neg (by decide), if_pos rfl]
          refine am_less (by intro q hq; simp only [List.mem_cons, List.not_mem_nil, or_false] at hq; rcases hq with rfl | rfl | rfl <;> simp) (st_tail_15_1 b E cv M _ T4 hXz hRz (by omega) 138 (zP b E i : Int) Q (fun r τ hτ => hQ r τ ?_))
          obtain ⟨rfl, hXt, hFt⟩ := hτ
          have hp := rule_post (t := 15) (wh := 1) (Or.inr rfl) (Or.inr rfl) hT hRR hC hiM hc (by omega) hG3 hX3 hs hCR2 hFt (fun hf => by rw [hqR]; exact if_pos hf) (fun hf => by rw [hqR]; exact if_neg hf) hqG
          exact ⟨rfl, (by rw [← hp.1]; exact hXt), hp.2⟩
      · exact absurd rfl h70
    · exact absurd h62 (by omega)
  · exact absurd h47 (by decide)
