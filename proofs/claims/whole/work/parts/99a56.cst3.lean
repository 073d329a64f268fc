set_option maxRecDepth 100000 in
theorem c_st_person_3 (b : Nat → Int) (E : Nat) (cv : Nat → Int) (M : Nat) (i : Nat) (σ H : am_H) (hX : RY b E cv M σ (.inl i)) (hR : σ.2.2 27 2 = some 3) (hT : TRr 3 σ H) (hRR : RRr 3 σ H) (hTW : TWI H i) (hs0 : 1 ≤ H.2.1 55 51) (hK : zK b E i = 129) : am_met (M_X4_readStatement 0 0) [am_r 27] σ (fun r σ' => r = none ∧ RY b E cv M σ' (stF b E H i) ∧ ((stF b E H i).isLeft = true → TRr 3 σ' (stH b E H i)) ∧ frw (W_ts 3) σ σ') := by
  refine am_qq (fun Q hQ => ?_)
  refine am_enter (show plainFor yX4_readStatement = true by decide +kernel) rfl (Nat.le_of_ble_eq_true rfl) (fun _ _ _ => trivial) ?_
  obtain ⟨⟨a1, a2, a3, a4, a5, a6, a7, a8⟩, _⟩ := id hT
  obtain ⟨n, hn⟩ := Int.eq_ofNat_of_zero_le hTW.1.1
  have hw0 := hTW.1
  have hw1 := hTW.2.1
  have hw2 := hTW.2.2.1
  have hw3 := hTW.2.2.2.1
  have hw4 := hTW.2.2.2.2.1
  have hw6 := hTW.2.2.2.2.2.2
  refine st_head_3_0 b E cv M i σ hX hR 129 hK (by omega) Q (fun pA T1 hX1 hG1 hc0 => ?_)
  have hc : HC b E i (8 ≤ H.2.1 85 0) (H.2.1 55 51) pA := HC.iff hc0 (by rw [a3]; omega) a2
  have hTN : ∀ a j, 3 ≤ a ∧ a ≤ 3 + 7 → ¬ W_rz a j := fun a j h => by unfold W_rz; omega
  have hs1 : T1.2.1 3 1 = H.2.1 55 51 := (hG1.2.2 3 1 (by unfold W_rz; omega)).trans a2
  have hR1 : T1.2.2 27 2 = some 3 := by rw [hG1.2.1]; exact hR
  have hP1 : PL 3 T1 H n pA := PL.l (PL.fr (p := .inl i) ⟨hT, hn⟩ hG1 hTN) (fun _ => rfl)
  have hn1 : T1.2.1 3 2 = (n : Int) := ((hG1.2.2 3 2 (by unfold W_rz; omega)).trans a3).trans hn
  have hD1 : T1.2.1 3 0 = H.2.1 85 4 := (hG1.2.2 3 0 (by unfold W_rz; omega)).trans a1
  have hqG : stG b E H i = peH b E H (i + 1) := by unfold stG; rw [hK]; rw [if_pos rfl]
  have hq1 : ¬ (8 ≤ H.2.1 85 0) → stR b E H i = nuF b E 0 99 (akF b E 3 (nuF b E 1 99 (akF b E 2 (pnP b E H (.inl (i + 1)))))) := fun hf => by
    have e0 : stR b E H i = peF b E H (zP b E i : Int) (i + 1) := by unfold stR; rw [hK]; rw [if_pos rfl]
    rw [e0]
    unfold peF
    rw [if_neg (by omega)]
    rfl
  have hq2 : (8 ≤ H.2.1 85 0) → stR b E H i = .inr (5, (zP b E i : Int)) := fun hf => by
    have e0 : stR b E H i = peF b E H (zP b E i : Int) (i + 1) := by unfold stR; rw [hK]; rw [if_pos rfl]
    rw [e0]
    unfold peF
    rw [if_pos (by omega)]
  refine am_iload_n (q := 44) rfl (am_tab tk_X4_readStatement 22 rfl) rfl ?_
  refine am_sipush (q := 47) (n := 128) (by decide) rfl (am_tab tk_X4_readStatement 23 rfl) rfl ?_
  refine am_icmp_ne (q := 50) (t := 54) (am_tab tk_X4_readStatement 24 rfl) (by decide) rfl (fun h47 => ?_) (fun h47 => ?_)
  · refine am_iconst (q := 55) (n := 0) (by decide) (am_tab tk_X4_readStatement 27 rfl) rfl ?_
    refine am_aload_n (q := 56) rfl (am_tab tk_X4_readStatement 28 rfl) rfl ?_
    refine am_getR (q := 59) (a := 27) (k := 4) (n := 13) (j := 2) (r := some (3)) (Ls_27 hX1.1) (by decide) rfl (show T1.2.2 27 2 = some 3 by rw [hG1.2.1]; exact hR) (by decide) (Or.inl kf_X4_29) (am_tab tk_X4_readStatement 29 rfl) rfl ?_
    refine am_getI (q := 62) (a := 3) (k := 8) (n := 17) (j := 1) (x := (T1.2.1 3 1)) (Ls_3 hX1.1) (by decide) rfl rfl (by decide) (Or.inr kf_X4_52) (am_tab tk_X4_readStatement 30 rfl) rfl ?_
    refine am_if_ne (q := 65) (t := 69) (am_tab tk_X4_readStatement 31 rfl) (by decide) rfl (fun h62 => ?_) (fun h62 => ?_)
    · refine am_iconst (q := 70) (n := 0) (by decide) (am_tab tk_X4_readStatement 34 rfl) rfl ?_
      refine am_icmp_eq (q := 73) (t := 79) (am_tab tk_X4_readStatement 35 rfl) (by decide) rfl (fun h70 => ?_) (fun h70 => ?_)
      · refine am_iload_n (q := 80) rfl (am_tab tk_X4_readStatement 40 rfl) rfl ?_
        refine am_tableIn (t := 165) (off := 85) (by omega) (by omega) rfl dsw_X4_readStatement_80 (by decide) ?_
        refine am_aload_n (q := 166) rfl (am_tab tk_X4_readStatement 50 rfl) rfl ?_
        refine am_callVr (q := 169) (me2 := M_X4_readPerson) (b := 27) (kb := 4) (nb := 13) (As := []) (rest := []) (c_readPerson_3 b E cv M pA T1 H hX1 hR1 n hn1 (by omega) _ hD1 hP1 (fun z => hc.elim (fun h => by have := h.2.1; omega) (fun h => by rw [h.1] at z; exact absurd z (by simp)))) ⟨rfl, rfl⟩ (Ls_27 hX1.1) (by decide) ⟨Or.inl km_X4_118, kc_X4_readPerson, kn_X4, kd_X4_readPerson, ⟨(Nat.le_of_ble_eq_true rfl), (Nat.le_of_ble_eq_true rfl)⟩, ⟨(Nat.le_of_ble_eq_true rfl), (Nat.le_of_ble_eq_true rfl)⟩, (Nat.le_of_ble_eq_true rfl)⟩ ki_X4_readPerson ks_X4_readPerson rfl (am_tab tk_X4_readStatement 51 rfl) rfl ?_
        rintro r T2 ⟨rfl, hX2, hT2, hF2⟩
        have hXz := hX2
        refine am_goto (t := 280) (am_tab tk_X4_readStatement 52 rfl) (by decide) ?_
        have hFz : frw (W_tn 3) T1 T2 := hF2
        have hRz : T2.2.2 27 2 = some 3 := by rw [hFz.2.1]; exact hR1
        have hez : T2.2.1 3 1 = H.2.1 55 51 := (hFz.2.2 3 1 (by unfold W_tn W_rz; omega)).trans hs1
        refine am_less (by intro q hq; simp only [List.mem_cons, List.not_mem_nil, or_false] at hq; rcases hq with rfl | rfl | rfl <;> simp) (st_tail_3_0 b E cv M (nuF b E 0 99 (akF b E 3 (nuF b E 1 99 (akF b E 2 (pnP b E H pA))))) T2 hXz hRz (by omega) 129 (zP b E i : Int) Q (fun r τ hτ => hQ r τ ?_))
        obtain ⟨rfl, hXt, hFt⟩ := hτ
        have hp := st_post (G := fun p => nuF b E 0 99 (akF b E 3 (nuF b E 1 99 (akF b E 2 (pnP b E H p))))) (Or.inl rfl) hT (fun e => rfl) hc (fun h1 h2 => by rw [hqG]; exact hT2 (i + 1) h1 h2) hG1 hFz hFt
        have he : sgF b E 59 ((fun p => nuF b E 0 99 (akF b E 3 (nuF b E 1 99 (akF b E 2 (pnP b E H p))))) pA) = stF b E H i := st_eq (G := fun p => nuF b E 0 99 (akF b E 3 (nuF b E 1 99 (akF b E 2 (pnP b E H p))))) (fun e => rfl) hc (by omega) hq1 hq2
        rw [he] at hp
        exact ⟨rfl, (by rw [← he]; exact hXt), hp⟩
      · exact absurd rfl h70
    · exact absurd h62 (by omega)
  · exact absurd h47 (by decide)
set_option maxRecDepth 100000 in
theorem c_st_told_3 (b : Nat → Int) (E : Nat) (cv : Nat → Int) (M : Nat) (i : Nat) (σ H : am_H) (hX : RY b E cv M σ (.inl i)) (hR : σ.2.2 27 2 = some 3) (hT : TRr 3 σ H) (hRR : RRr 3 σ H) (hTW : TWI H i) (hs0 : 1 ≤ H.2.1 55 51) (hK : zK b E i = 132) : am_met (M_X4_readStatement 0 0) [am_r 27] σ (fun r σ' => r = none ∧ RY b E cv M σ' (stF b E H i) ∧ ((stF b E H i).isLeft = true → TRr 3 σ' (stH b E H i)) ∧ frw (W_ts 3) σ σ') := by
  refine am_qq (fun Q hQ => ?_)
  refine am_enter (show plainFor yX4_readStatement = true by decide +kernel) rfl (Nat.le_of_ble_eq_true rfl) (fun _ _ _ => trivial) ?_
  obtain ⟨⟨a1, a2, a3, a4, a5, a6, a7, a8⟩, _⟩ := id hT
  obtain ⟨n, hn⟩ := Int.eq_ofNat_of_zero_le hTW.1.1
  have hw0 := hTW.1
  have hw1 := hTW.2.1
  have hw2 := hTW.2.2.1
  have hw3 := hTW.2.2.2.1
  have hw4 := hTW.2.2.2.2.1
  have hw6 := hTW.2.2.2.2.2.2
  refine st_head_3_0 b E cv M i σ hX hR 132 hK (by omega) Q (fun pA T1 hX1 hG1 hc0 => ?_)
  have hc : HC b E i (30 ≤ H.2.1 85 1) (H.2.1 55 51) pA := HC.iff hc0 (by rw [a4]; omega) a2
  have hTN : ∀ a j, 3 ≤ a ∧ a ≤ 3 + 7 → ¬ W_rz a j := fun a j h => by unfold W_rz; omega
  have hs1 : T1.2.1 3 1 = H.2.1 55 51 := (hG1.2.2 3 1 (by unfold W_rz; omega)).trans a2
  have hR1 : T1.2.2 27 2 = some 3 := by rw [hG1.2.1]; exact hR
  have hP1 : PL 3 T1 H n pA := PL.l (PL.fr (p := .inl i) ⟨hT, hn⟩ hG1 hTN) (fun _ => rfl)
  have hn1 : T1.2.1 3 2 = (n : Int) := ((hG1.2.2 3 2 (by unfold W_rz; omega)).trans a3).trans hn
  have hD1 : T1.2.1 3 0 = H.2.1 85 4 := (hG1.2.2 3 0 (by unfold W_rz; omega)).trans a1
  have hqG : stG b E H i = toH b E H (i + 1) := by unfold stG; rw [hK]; rw [if_neg (by decide), if_pos rfl]
  have hq1 : ¬ (30 ≤ H.2.1 85 1) → stR b E H i = toP b E H (H.2.1 85 4) (.inl (i + 1)) := fun hf => by
    have e0 : stR b E H i = toF b E H (zP b E i : Int) (i + 1) := by unfold stR; rw [hK]; rw [if_neg (by decide), if_pos rfl]
    rw [e0]
    exact (toP_F hT hw0 hw4.2 (by omega)).symm
  have hq2 : (30 ≤ H.2.1 85 1) → stR b E H i = .inr (5, (zP b E i : Int)) := fun hf => by
    have e0 : stR b E H i = toF b E H (zP b E i : Int) (i + 1) := by unfold stR; rw [hK]; rw [if_neg (by decide), if_pos rfl]
    rw [e0]
    unfold toF
    rw [if_pos (by omega)]
  refine am_iload_n (q := 44) rfl (am_tab tk_X4_readStatement 22 rfl) rfl ?_
  refine am_sipush (q := 47) (n := 128) (by decide) rfl (am_tab tk_X4_readStatement 23 rfl) rfl ?_
  refine am_icmp_ne (q := 50) (t := 54) (am_tab tk_X4_readStatement 24 rfl) (by decide) rfl (fun h47 => ?_) (fun h47 => ?_)
  · refine am_iconst (q := 55) (n := 0) (by decide) (am_tab tk_X4_readStatement 27 rfl) rfl ?_
    refine am_aload_n (q := 56) rfl (am_tab tk_X4_readStatement 28 rfl) rfl ?_
    refine am_getR (q := 59) (a := 27) (k := 4) (n := 13) (j := 2) (r := some (3)) (Ls_27 hX1.1) (by decide) rfl (show T1.2.2 27 2 = some 3 by rw [hG1.2.1]; exact hR) (by decide) (Or.inl kf_X4_29) (am_tab tk_X4_readStatement 29 rfl) rfl ?_
    refine am_getI (q := 62) (a := 3) (k := 8) (n := 17) (j := 1) (x := (T1.2.1 3 1)) (Ls_3 hX1.1) (by decide) rfl rfl (by decide) (Or.inr kf_X4_52) (am_tab tk_X4_readStatement 30 rfl) rfl ?_
    refine am_if_ne (q := 65) (t := 69) (am_tab tk_X4_readStatement 31 rfl) (by decide) rfl (fun h62 => ?_) (fun h62 => ?_)
    · refine am_iconst (q := 70) (n := 0) (by decide) (am_tab tk_X4_readStatement 34 rfl) rfl ?_
      refine am_icmp_eq (q := 73) (t := 79) (am_tab tk_X4_readStatement 35 rfl) (by decide) rfl (fun h70 => ?_) (fun h70 => ?_)
      · refine am_iload_n (q := 80) rfl (am_tab tk_X4_readStatement 40 rfl) rfl ?_
        refine am_tableIn (t := 172) (off := 92) (by omega) (by omega) rfl dsw_X4_readStatement_80 (by decide) ?_
        refine am_aload_n (q := 173) rfl (am_tab tk_X4_readStatement 53 rfl) rfl ?_
        refine am_callVr (q := 176) (me2 := M_X4_readTold) (b := 27) (kb := 4) (nb := 13) (As := []) (rest := []) (c_readTold_3 b E cv M pA T1 H hX1 hR1 n hn1 (by omega) _ hD1 hP1 hw4.2 (fun _ => hw1)) ⟨rfl, rfl⟩ (Ls_27 hX1.1) (by decide) ⟨Or.inl km_X4_121, kc_X4_readTold, kn_X4, kd_X4_readTold, ⟨(Nat.le_of_ble_eq_true rfl), (Nat.le_of_ble_eq_true rfl)⟩, ⟨(Nat.le_of_ble_eq_true rfl), (Nat.le_of_ble_eq_true rfl)⟩, (Nat.le_of_ble_eq_true rfl)⟩ ki_X4_readTold ks_X4_readTold rfl (am_tab tk_X4_readStatement 54 rfl) rfl ?_
        rintro r T2 ⟨rfl, hX2, hT2, hF2⟩
        have hXz := hX2
        refine am_goto (t := 280) (am_tab tk_X4_readStatement 55 rfl) (by decide) ?_
        have hFz : frw (W_tn 3) T1 T2 := hF2
        have hRz : T2.2.2 27 2 = some 3 := by rw [hFz.2.1]; exact hR1
        have hez : T2.2.1 3 1 = H.2.1 55 51 := (hFz.2.2 3 1 (by unfold W_tn W_rz; omega)).trans hs1
        refine am_less (by intro q hq; simp only [List.mem_cons, List.not_mem_nil, or_false] at hq; rcases hq with rfl | rfl | rfl <;> simp) (st_tail_3_0 b E cv M (toP b E H (H.2.1 85 4) pA) T2 hXz hRz (by omega) 132 (zP b E i : Int) Q (fun r τ hτ => hQ r τ ?_))
        obtain ⟨rfl, hXt, hFt⟩ := hτ
        have hp := st_post (G := fun p => toP b E H (H.2.1 85 4) p) (Or.inl rfl) hT (fun e => rfl) hc (fun h1 h2 => by rw [hqG]; exact hT2 (i + 1) h1 h2) hG1 hFz hFt
        have he : sgF b E 59 ((fun p => toP b E H (H.2.1 85 4) p) pA) = stF b E H i := st_eq (G := fun p => toP b E H (H.2.1 85 4) p) (fun e => rfl) hc (by omega) hq1 hq2
        rw [he] at hp
        exact ⟨rfl, (by rw [← he]; exact hXt), hp⟩
      · exact absurd rfl h70
    · exact absurd h62 (by omega)
  · exact absurd h47 (by decide)
set_option maxRecDepth 100000 in
theorem c_st_reminds_3 (b : Nat → Int) (E : Nat) (cv : Nat → Int) (M : Nat) (i : Nat) (σ H : am_H) (hX : RY b E cv M σ (.inl i)) (hR : σ.2.2 27 2 = some 3) (hT : TRr 3 σ H) (hRR : RRr 3 σ H) (hTW : TWI H i) (hs0 : 1 ≤ H.2.1 55 51) (hK : zK b E i = 134) : am_met (M_X4_readStatement 0 0) [am_r 27] σ (fun r σ' => r = none ∧ RY b E cv M σ' (stF b E H i) ∧ ((stF b E H i).isLeft = true → TRr 3 σ' (stH b E H i)) ∧ frw (W_ts 3) σ σ') := by
  refine am_qq (fun Q hQ => ?_)
  refine am_enter (show plainFor yX4_readStatement = true by decide +kernel) rfl (Nat.le_of_ble_eq_true rfl) (fun _ _ _ => trivial) ?_
  obtain ⟨⟨a1, a2, a3, a4, a5, a6, a7, a8⟩, _⟩ := id hT
  obtain ⟨n, hn⟩ := Int.eq_ofNat_of_zero_le hTW.1.1
  have hw0 := hTW.1
  have hw1 := hTW.2.1
  have hw2 := hTW.2.2.1
  have hw3 := hTW.2.2.2.1
  have hw4 := hTW.2.2.2.2.1
  have hw6 := hTW.2.2.2.2.2.2
  refine st_head_3_0 b E cv M i σ hX hR 134 hK (by omega) Q (fun pA T1 hX1 hG1 hc0 => ?_)
  have hc : HC b E i (20 ≤ H.2.1 85 2) (H.2.1 55 51) pA := HC.iff hc0 (by rw [a5]; omega) a2
  have hTN : ∀ a j, 3 ≤ a ∧ a ≤ 3 + 7 → ¬ W_rz a j := fun a j h => by unfold W_rz; omega
  have hs1 : T1.2.1 3 1 = H.2.1 55 51 := (hG1.2.2 3 1 (by unfold W_rz; omega)).trans a2
  have hR1 : T1.2.2 27 2 = some 3 := by rw [hG1.2.1]; exact hR
  have hP1 : PL 3 T1 H n pA := PL.l (PL.fr (p := .inl i) ⟨hT, hn⟩ hG1 hTN) (fun _ => rfl)
  have hn1 : T1.2.1 3 2 = (n : Int) := ((hG1.2.2 3 2 (by unfold W_rz; omega)).trans a3).trans hn
  have hD1 : T1.2.1 3 0 = H.2.1 85 4 := (hG1.2.2 3 0 (by unfold W_rz; omega)).trans a1
  have hqG : stG b E H i = rmH b E H (i + 1) := by unfold stG; rw [hK]; rw [if_neg (by decide), if_neg (by decide), if_pos rfl]
  have hq1 : ¬ (20 ≤ H.2.1 85 2) → stR b E H i = rmP b E H (.inl (i + 1)) := fun hf => by
    have e0 : stR b E H i = rmF b E H (zP b E i : Int) (i + 1) := by unfold stR; rw [hK]; rw [if_neg (by decide), if_neg (by decide), if_pos rfl]
    rw [e0]
    exact (rmP_F hT hw0 (by omega)).symm
  have hq2 : (20 ≤ H.2.1 85 2) → stR b E H i = .inr (5, (zP b E i : Int)) := fun hf => by
    have e0 : stR b E H i = rmF b E H (zP b E i : Int) (i + 1) := by unfold stR; rw [hK]; rw [if_neg (by decide), if_neg (by decide), if_pos rfl]
    rw [e0]
    unfold rmF
    rw [if_pos (by omega)]
  refine am_iload_n (q := 44) rfl (am_tab tk_X4_readStatement 22 rfl) rfl ?_
  refine am_sipush (q := 47) (n := 128) (by decide) rfl (am_tab tk_X4_readStatement 23 rfl) rfl ?_
  refine am_icmp_ne (q := 50) (t := 54) (am_tab tk_X4_readStatement 24 rfl) (by decide) rfl (fun h47 => ?_) (fun h47 => ?_)
  · refine am_iconst (q := 55) (n := 0) (by decide) (am_tab tk_X4_readStatement 27 rfl) rfl ?_
    refine am_aload_n (q := 56) rfl (am_tab tk_X4_readStatement 28 rfl) rfl ?_
    refine am_getR (q := 59) (a := 27) (k := 4) (n := 13) (j := 2) (r := some (3)) (Ls_27 hX1.1) (by decide) rfl (show T1.2.2 27 2 = some 3 by rw [hG1.2.1]; exact hR) (by decide) (Or.inl kf_X4_29) (am_tab tk_X4_readStatement 29 rfl) rfl ?_
    refine am_getI (q := 62) (a := 3) (k := 8) (n := 17) (j := 1) (x := (T1.2.1 3 1)) (Ls_3 hX1.1) (by decide) rfl rfl (by decide) (Or.inr kf_X4_52) (am_tab tk_X4_readStatement 30 rfl) rfl ?_
    refine am_if_ne (q := 65) (t := 69) (am_tab tk_X4_readStatement 31 rfl) (by decide) rfl (fun h62 => ?_) (fun h62 => ?_)
    · refine am_iconst (q := 70) (n := 0) (by decide) (am_tab tk_X4_readStatement 34 rfl) rfl ?_
      refine am_icmp_eq (q := 73) (t := 79) (am_tab tk_X4_readStatement 35 rfl) (by decide) rfl (fun h70 => ?_) (fun h70 => ?_)
      · refine am_iload_n (q := 80) rfl (am_tab tk_X4_readStatement 40 rfl) rfl ?_
        refine am_tableIn (t := 179) (off := 99) (by omega) (by omega) rfl dsw_X4_readStatement_80 (by decide) ?_
        refine am_aload_n (q := 180) rfl (am_tab tk_X4_readStatement 56 rfl) rfl ?_
        refine am_callVr (q := 183) (me2 := M_X4_readReminds) (b := 27) (kb := 4) (nb := 13) (As := []) (rest := []) (c_readReminds_3 b E cv M pA T1 H hX1 hR1 n hn1 (by omega) _ hD1 hP1 (fun _ => hw2)) ⟨rfl, rfl⟩ (Ls_27 hX1.1) (by decide) ⟨Or.inl km_X4_124, kc_X4_readReminds, kn_X4, kd_X4_readReminds, ⟨(Nat.le_of_ble_eq_true rfl), (Nat.le_of_ble_eq_true rfl)⟩, ⟨(Nat.le_of_ble_eq_true rfl), (Nat.le_of_ble_eq_true rfl)⟩, (Nat.le_of_ble_eq_true rfl)⟩ ki_X4_readReminds ks_X4_readReminds rfl (am_tab tk_X4_readStatement 57 rfl) rfl ?_
        rintro r T2 ⟨rfl, hX2, hT2, hF2⟩
        have hXz := hX2
        refine am_goto (t := 280) (am_tab tk_X4_readStatement 58 rfl) (by decide) ?_
        have hFz : frw (W_tn 3) T1 T2 := hF2
        have hRz : T2.2.2 27 2 = some 3 := by rw [hFz.2.1]; exact hR1
        have hez : T2.2.1 3 1 = H.2.1 55 51 := (hFz.2.2 3 1 (by unfold W_tn W_rz; omega)).trans hs1
        refine am_less (by intro q hq; simp only [List.mem_cons, List.not_mem_nil, or_false] at hq; rcases hq with rfl | rfl | rfl <;> simp) (st_tail_3_0 b E cv M (rmP b E H pA) T2 hXz hRz (by omega) 134 (zP b E i : Int) Q (fun r τ hτ => hQ r τ ?_))
        obtain ⟨rfl, hXt, hFt⟩ := hτ
        have hp := st_post (G := fun p => rmP b E H p) (Or.inl rfl) hT (fun e => rfl) hc (fun h1 h2 => by rw [hqG]; exact hT2 (i + 1) h1 h2) hG1 hFz hFt
        have he : sgF b E 59 ((fun p => rmP b E H p) pA) = stF b E H i := st_eq (G := fun p => rmP b E H p) (fun e => rfl) hc (by omega) hq1 hq2
        rw [he] at hp
        exact ⟨rfl, (by rw [← he]; exact hXt), hp⟩
      · exact absurd rfl h70
    · exact absurd h62 (by omega)
  · exact absurd h47 (by decide)
set_option maxRecDepth 100000 in
theorem c_st_frost_3 (b : Nat → Int) (E : Nat) (cv : Nat → Int) (M : Nat) (i : Nat) (σ H : am_H) (hX : RY b E cv M σ (.inl i)) (hR : σ.2.2 27 2 = some 3) (hT : TRr 3 σ H) (hRR : RRr 3 σ H) (hTW : TWI H i) (hs0 : 1 ≤ H.2.1 55 51) (hK : zK b E i = 135) : am_met (M_X4_readStatement 0 0) [am_r 27] σ (fun r σ' => r = none ∧ RY b E cv M σ' (stF b E H i) ∧ ((stF b E H i).isLeft = true → TRr 3 σ' (stH b E H i)) ∧ frw (W_ts 3) σ σ') := by
  refine am_qq (fun Q hQ => ?_)
  refine am_enter (show plainFor yX4_readStatement = true by decide +kernel) rfl (Nat.le_of_ble_eq_true rfl) (fun _ _ _ => trivial) ?_
  obtain ⟨⟨a1, a2, a3, a4, a5, a6, a7, a8⟩, _⟩ := id hT
  obtain ⟨n, hn⟩ := Int.eq_ofNat_of_zero_le hTW.1.1
  have hw0 := hTW.1
  have hw1 := hTW.2.1
  have hw2 := hTW.2.2.1
  have hw3 := hTW.2.2.2.1
  have hw4 := hTW.2.2.2.2.1
  have hw6 := hTW.2.2.2.2.2.2
  refine st_head_3_0 b E cv M i σ hX hR 135 hK (by omega) Q (fun pA T1 hX1 hG1 hc0 => ?_)
  have hc : HC b E i (4 ≤ H.2.1 85 3) (H.2.1 55 51) pA := HC.iff hc0 (by rw [a6]; omega) a2
  have hTN : ∀ a j, 3 ≤ a ∧ a ≤ 3 + 7 → ¬ W_rz a j := fun a j h => by unfold W_rz; omega
  have hs1 : T1.2.1 3 1 = H.2.1 55 51 := (hG1.2.2 3 1 (by unfold W_rz; omega)).trans a2
  have hR1 : T1.2.2 27 2 = some 3 := by rw [hG1.2.1]; exact hR
  have hP1 : PL 3 T1 H n pA := PL.l (PL.fr (p := .inl i) ⟨hT, hn⟩ hG1 hTN) (fun _ => rfl)
  have hn1 : T1.2.1 3 2 = (n : Int) := ((hG1.2.2 3 2 (by unfold W_rz; omega)).trans a3).trans hn
  have hD1 : T1.2.1 3 0 = H.2.1 85 4 := (hG1.2.2 3 0 (by unfold W_rz; omega)).trans a1
  have hqG : stG b E H i = frH b E H (i + 1) := by unfold stG; rw [hK]; rw [if_neg (by decide), if_neg (by decide), if_neg (by decide), if_pos rfl]
  have hq1 : ¬ (4 ≤ H.2.1 85 3) → stR b E H i = nuF b E 1 30 (akF b E 8 (nuF b E 1 (H.2.1 85 4) (.inl (i + 1)))) := fun hf => by
    have e0 : stR b E H i = frF b E H (zP b E i : Int) (i + 1) := by unfold stR; rw [hK]; rw [if_neg (by decide), if_neg (by decide), if_neg (by decide), if_pos rfl]
    rw [e0]
    unfold frF
    rw [if_neg (by omega)]
  have hq2 : (4 ≤ H.2.1 85 3) → stR b E H i = .inr (5, (zP b E i : Int)) := fun hf => by
    have e0 : stR b E H i = frF b E H (zP b E i : Int) (i + 1) := by unfold stR; rw [hK]; rw [if_neg (by decide), if_neg (by decide), if_neg (by decide), if_pos rfl]
    rw [e0]
    unfold frF
    rw [if_pos (by omega)]
  refine am_iload_n (q := 44) rfl (am_tab tk_X4_readStatement 22 rfl) rfl ?_
  refine am_sipush (q := 47) (n := 128) (by decide) rfl (am_tab tk_X4_readStatement 23 rfl) rfl ?_
  refine am_icmp_ne (q := 50) (t := 54) (am_tab tk_X4_readStatement 24 rfl) (by decide) rfl (fun h47 => ?_) (fun h47 => ?_)
  · refine am_iconst (q := 55) (n := 0) (by decide) (am_tab tk_X4_readStatement 27 rfl) rfl ?_
    refine am_aload_n (q := 56) rfl (am_tab tk_X4_readStatement 28 rfl) rfl ?_
    refine am_getR (q := 59) (a := 27) (k := 4) (n := 13) (j := 2) (r := some (3)) (Ls_27 hX1.1) (by decide) rfl (show T1.2.2 27 2 = some 3 by rw [hG1.2.1]; exact hR) (by decide) (Or.inl kf_X4_29) (am_tab tk_X4_readStatement 29 rfl) rfl ?_
    refine am_getI (q := 62) (a := 3) (k := 8) (n := 17) (j := 1) (x := (T1.2.1 3 1)) (Ls_3 hX1.1) (by decide) rfl rfl (by decide) (Or.inr kf_X4_52) (am_tab tk_X4_readStatement 30 rfl) rfl ?_
    refine am_if_ne (q := 65) (t := 69) (am_tab tk_X4_readStatement 31 rfl) (by decide) rfl (fun h62 => ?_) (fun h62 => ?_)
    · refine am_iconst (q := 70) (n := 0) (by decide) (am_tab tk_X4_readStatement 34 rfl) rfl ?_
      refine am_icmp_eq (q := 73) (t := 79) (am_tab tk_X4_readStatement 35 rfl) (by decide) rfl (fun h70 => ?_) (fun h70 => ?_)
      · refine am_iload_n (q := 80) rfl (am_tab tk_X4_readStatement 40 rfl) rfl ?_
        refine am_tableIn (t := 186) (off := 106) (by omega) (by omega) rfl dsw_X4_readStatement_80 (by decide) ?_
        refine am_aload_n (q := 187) rfl (am_tab tk_X4_readStatement 59 rfl) rfl ?_
        refine am_callVr (q := 190) (me2 := M_X4_readFrost) (b := 27) (kb := 4) (nb := 13) (As := []) (rest := []) (c_readFrost_3 b E cv M pA T1 H hX1 hR1 n hn1 (by omega) _ hD1 hP1 hw4.2 (fun _ => hw3)) ⟨rfl, rfl⟩ (Ls_27 hX1.1) (by decide) ⟨Or.inl km_X4_127, kc_X4_readFrost, kn_X4, kd_X4_readFrost, ⟨(Nat.le_of_ble_eq_true rfl), (Nat.le_of_ble_eq_true rfl)⟩, ⟨(Nat.le_of_ble_eq_true rfl), (Nat.le_of_ble_eq_true rfl)⟩, (Nat.le_of_ble_eq_true rfl)⟩ ki_X4_readFrost ks_X4_readFrost rfl (am_tab tk_X4_readStatement 60 rfl) rfl ?_
        rintro r T2 ⟨rfl, hX2, hT2, hF2⟩
        have hXz := hX2
        refine am_goto (t := 280) (am_tab tk_X4_readStatement 61 rfl) (by decide) ?_
        have hFz : frw (W_tn 3) T1 T2 := hF2
        have hRz : T2.2.2 27 2 = some 3 := by rw [hFz.2.1]; exact hR1
        have hez : T2.2.1 3 1 = H.2.1 55 51 := (hFz.2.2 3 1 (by unfold W_tn W_rz; omega)).trans hs1
        refine am_less (by intro q hq; simp only [List.mem_cons, List.not_mem_nil, or_false] at hq; rcases hq with rfl | rfl | rfl <;> simp) (st_tail_3_0 b E cv M (nuF b E 1 30 (akF b E 8 (nuF b E 1 (H.2.1 85 4) pA))) T2 hXz hRz (by omega) 135 (zP b E i : Int) Q (fun r τ hτ => hQ r τ ?_))
        obtain ⟨rfl, hXt, hFt⟩ := hτ
        have hp := st_post (G := fun p => nuF b E 1 30 (akF b E 8 (nuF b E 1 (H.2.1 85 4) p))) (Or.inl rfl) hT (fun e => rfl) hc (fun h1 h2 => by rw [hqG]; exact hT2 (i + 1) h1 h2) hG1 hFz hFt
        have he : sgF b E 59 ((fun p => nuF b E 1 30 (akF b E 8 (nuF b E 1 (H.2.1 85 4) p))) pA) = stF b E H i := st_eq (G := fun p => nuF b E 1 30 (akF b E 8 (nuF b E 1 (H.2.1 85 4) p))) (fun e => rfl) hc (by omega) hq1 hq2
        rw [he] at hp
        exact ⟨rfl, (by rw [← he]; exact hXt), hp⟩
      · exact absurd rfl h70
    · exact absurd h62 (by omega)
  · exact absurd h47 (by decide)
set_option maxRecDepth 100000 in
theorem c_st_person_15 (b : Nat → Int) (E : Nat) (cv : Nat → Int) (M : Nat) (i : Nat) (σ H : am_H) (hX : RY b E cv M σ (.inl i)) (hR : σ.2.2 27 2 = some 15) (hT : TRr 15 σ H) (hRR : RRr 15 σ H) (hTW : TWI H i) (hs0 : 1 ≤ H.2.1 55 51) (hK : zK b E i = 129) : am_met (M_X4_readStatement 0 0) [am_r 27] σ (fun r σ' => r = none ∧ RY b E cv M σ' (stF b E H i) ∧ ((stF b E H i).isLeft = true → TRr 15 σ' (stH b E H i)) ∧ frw (W_ts 15) σ σ') := by
  refine am_qq (fun Q hQ => ?_)
  refine am_enter (show plainFor yX4_readStatement = true by decide +kernel) rfl (Nat.le_of_ble_eq_true rfl) (fun _ _ _ => trivial) ?_
  obtain ⟨⟨a1, a2, a3, a4, a5, a6, a7, a8⟩, _⟩ := id hT
  obtain ⟨n, hn⟩ := Int.eq_ofNat_of_zero_le hTW.1.1
  have hw0 := hTW.1
  have hw1 := hTW.2.1
  have hw2 := hTW.2.2.1
  have hw3 := hTW.2.2.2.1
  have hw4 := hTW.2.2.2.2.1
  have hw6 := hTW.2.2.2.2.2.2
  refine st_head_15_0 b E cv M i σ hX hR 129 hK (by omega) Q (fun pA T1 hX1 hG1 hc0 => ?_)
  have hc : HC b E i (8 ≤ H.2.1 85 0) (H.2.1 55 51) pA := HC.iff hc0 (by rw [a3]; omega) a2
  have hTN : ∀ a j, 15 ≤ a ∧ a ≤ 15 + 7 → ¬ W_rz a j := fun a j h => by unfold W_rz; omega
  have hs1 : T1.2.1 15 1 = H.2.1 55 51 := (hG1.2.2 15 1 (by unfold W_rz; omega)).trans a2
  have hR1 : T1.2.2 27 2 = some 15 := by rw [hG1.2.1]; exact hR
  have hP1 : PL 15 T1 H n pA := PL.l (PL.fr (p := .inl i) ⟨hT, hn⟩ hG1 hTN) (fun _ => rfl)
  have hn1 : T1.2.1 15 2 = (n : Int) := ((hG1.2.2 15 2 (by unfold W_rz; omega)).trans a3).trans hn
  have hD1 : T1.2.1 15 0 = H.2.1 85 4 := (hG1.2.2 15 0 (by unfold W_rz; omega)).trans a1
  have hqG : stG b E H i = peH b E H (i + 1) := by unfold stG; rw [hK]; rw [if_pos rfl]
  have hq1 : ¬ (8 ≤ H.2.1 85 0) → stR b E H i = nuF b E 0 99 (akF b E 3 (nuF b E 1 99 (akF b E 2 (pnP b E H (.inl (i + 1)))))) := fun hf => by
    have e0 : stR b E H i = peF b E H (zP b E i : Int) (i + 1) := by unfold stR; rw [hK]; rw [if_pos rfl]
    rw [e0]
    unfold peF
    rw [if_neg (by omega)]
    rfl
  have hq2 : (8 ≤ H.2.1 85 0) → stR b E H i = .inr (5, (zP b E i : Int)) := fun hf => by
    have e0 : stR b E H i = peF b E H (zP b E i : Int) (i + 1) := by unfold stR; rw [hK]; rw [if_pos rfl]
    rw [e0]
    unfold peF
    rw [if_pos (by omega)]
  refine am_iload_n (q := 44) rfl (am_tab tk_X4_readStatement 22 rfl) rfl ?_
  refine am_sipush (q := 47) (n := 128) (by decide) rfl (am_tab tk_X4_readStatement 23 rfl) rfl ?_
  refine am_icmp_ne (q := 50) (t := 54) (am_tab tk_X4_readStatement 24 rfl) (by decide) rfl (fun h47 => ?_) (fun h47 => ?_)
  · refine am_iconst (q := 55) (n := 0) (by decide) (am_tab tk_X4_readStatement 27 rfl) rfl ?_
    refine am_aload_n (q := 56) rfl (am_tab tk_X4_readStatement 28 rfl) rfl ?_
    refine am_getR (q := 59) (a := 27) (k := 4) (n := 13) (j := 2) (r := some (15)) (Ls_27 hX1.1) (by decide) rfl (show T1.2.2 27 2 = some 15 by rw [hG1.2.1]; exact hR) (by decide) (Or.inl kf_X4_29) (am_tab tk_X4_readStatement 29 rfl) rfl ?_
    refine am_getI (q := 62) (a := 15) (k := 8) (n := 17) (j := 1) (x := (T1.2.1 15 1)) (Ls_15 hX1.1) (by decide) rfl rfl (by decide) (Or.inr kf_X4_52) (am_tab tk_X4_readStatement 30 rfl) rfl ?_
    refine am_if_ne (q := 65) (t := 69) (am_tab tk_X4_readStatement 31 rfl) (by decide) rfl (fun h62 => ?_) (fun h62 => ?_)
    · refine am_iconst (q := 70) (n := 0) (by decide) (am_tab tk_X4_readStatement 34 rfl) rfl ?_
      refine am_icmp_eq (q := 73) (t := 79) (am_tab tk_X4_readStatement 35 rfl) (by decide) rfl (fun h70 => ?_) (fun h70 => ?_)
      · refine am_iload_n (q := 80) rfl (am_tab tk_X4_readStatement 40 rfl) rfl ?_
        refine am_tableIn (t := 165) (off := 85) (by omega) (by omega) rfl dsw_X4_readStatement_80 (by decide) ?_
        refine am_aload_n (q := 166) rfl (am_tab tk_X4_readStatement 50 rfl) rfl ?_
        refine am_callVr (q := 169) (me2 := M_X4_readPerson) (b := 27) (kb := 4) (nb := 13) (As := []) (rest := []) (c_readPerson_15 b E cv M pA T1 H hX1 hR1 n hn1 (by omega) _ hD1 hP1 (fun z => hc.elim (fun h => by have := h.2.1; omega) (fun h => by rw [h.1] at z; exact absurd z (by simp)))) ⟨rfl, rfl⟩ (Ls_27 hX1.1) (by decide) ⟨Or.inl km_X4_118, kc_X4_readPerson, kn_X4, kd_X4_readPerson, ⟨(Nat.le_of_ble_eq_true rfl), (Nat.le_of_ble_eq_true rfl)⟩, ⟨(Nat.le_of_ble_eq_true rfl), (Nat.le_of_ble_eq_true rfl)⟩, (Nat.le_of_ble_eq_true rfl)⟩ ki_X4_readPerson ks_X4_readPerson rfl (am_tab tk_X4_readStatement 51 rfl) rfl ?_
        rintro r T2 ⟨rfl, hX2, hT2, hF2⟩
        have hXz := hX2
        refine am_goto (t := 280) (am_tab tk_X4_readStatement 52 rfl) (by decide) ?_
        have hFz : frw (W_tn 15) T1 T2 := hF2
        have hRz : T2.2.2 27 2 = some 15 := by rw [hFz.2.1]; exact hR1
        have hez : T2.2.1 15 1 = H.2.1 55 51 := (hFz.2.2 15 1 (by unfold W_tn W_rz; omega)).trans hs1
        refine am_less (by intro q hq; simp only [List.mem_cons, List.not_mem_nil, or_false] at hq; rcases hq with rfl | rfl | rfl <;> simp) (st_tail_15_0 b E cv M (nuF b E 0 99 (akF b E 3 (nuF b E 1 99 (akF b E 2 (pnP b E H pA))))) T2 hXz hRz (by omega) 129 (zP b E i : Int) Q (fun r τ hτ => hQ r τ ?_))
        obtain ⟨rfl, hXt, hFt⟩ := hτ
        have hp := st_post (G := fun p => nuF b E 0 99 (akF b E 3 (nuF b E 1 99 (akF b E 2 (pnP b E H p))))) (Or.inr rfl) hT (fun e => rfl) hc (fun h1 h2 => by rw [hqG]; exact hT2 (i + 1) h1 h2) hG1 hFz hFt
        have he : sgF b E 59 ((fun p => nuF b E 0 99 (akF b E 3 (nuF b E 1 99 (akF b E 2 (pnP b E H p))))) pA) = stF b E H i := st_eq (G := fun p => nuF b E 0 99 (akF b E 3 (nuF b E 1 99 (akF b E 2 (pnP b E H p))))) (fun e => rfl) hc (by omega) hq1 hq2
        rw [he] at hp
        exact ⟨rfl, (by rw [← he]; exact hXt), hp⟩
      · exact absurd rfl h70
    · exact absurd h62 (by omega)
  · exact absurd h47 (by decide)
set_option maxRecDepth 100000 in
theorem c_st_told_15 (b : Nat → Int) (E : Nat) (cv : Nat → Int) (M : Nat) (i : Nat) (σ H : am_H) (hX : RY b E cv M σ (.inl i)) (hR : σ.2.2 27 2 = some 15) (hT : TRr 15 σ H) (hRR : RRr 15 σ H) (hTW : TWI H i) (hs0 : 1 ≤ H.2.1 55 51) (hK : zK b E i = 132) : am_met (M_X4_readStatement 0 0) [am_r 27] σ (fun r σ' => r = none ∧ RY b E cv M σ' (stF b E H i) ∧ ((stF b E H i).isLeft = true → TRr 15 σ' (stH b E H i)) ∧ frw (W_ts 15) σ σ') := by
  refine am_qq (fun Q hQ => ?_)
  refine am_enter (show plainFor yX4_readStatement = true by decide +kernel) rfl (Nat.le_of_ble_eq_true rfl) (fun _ _ _ => trivial) ?_
  obtain ⟨⟨a1, a2, a3, a4, a5, a6, a7, a8⟩, _⟩ := id hT
  obtain ⟨n, hn⟩ := Int.eq_ofNat_of_zero_le hTW.1.1
  have hw0 := hTW.1
  have hw1 := hTW.2.1
  have hw2 := hTW.2.2.1
  have hw3 := hTW.2.2.2.1
  have hw4 := hTW.2.2.2.2.1
  have hw6 := hTW.2.2.2.2.2.2
  refine st_head_15_0 b E cv M i σ hX hR 132 hK (by omega) Q (fun pA T1 hX1 hG1 hc0 => ?_)
  have hc : HC b E i (30 ≤ H.2.1 85 1) (H.2.1 55 51) pA := HC.iff hc0 (by rw [a4]; omega) a2
  have hTN : ∀ a j, 15 ≤ a ∧ a ≤ 15 + 7 → ¬ W_rz a j := fun a j h => by unfold W_rz; omega
  have hs1 : T1.2.1 15 1 = H.2.1 55 51 := (hG1.2.2 15 1 (by unfold W_rz; omega)).trans a2
  have hR1 : T1.2.2 27 2 = some 15 := by rw [hG1.2.1]; exact hR
  have hP1 : PL 15 T1 H n pA := PL.l (PL.fr (p := .inl i) ⟨hT, hn⟩ hG1 hTN) (fun _ => rfl)
  have hn1 : T1.2.1 15 2 = (n : Int) := ((hG1.2.2 15 2 (by unfold W_rz; omega)).trans a3).trans hn
  have hD1 : T1.2.1 15 0 = H.2.1 85 4 := (hG1.2.2 15 0 (by unfold W_rz; omega)).trans a1
  have hqG : stG b E H i = toH b E H (i + 1) := by unfold stG; rw [hK]; rw [if_neg (by decide), if_pos rfl]
  have hq1 : ¬ (30 ≤ H.2.1 85 1) → stR b E H i = toP b E H (H.2.1 85 4) (.inl (i + 1)) := fun hf => by
    have e0 : stR b E H i = toF b E H (zP b E i : Int) (i + 1) := by unfold stR; rw [hK]; rw [if_neg (by decide), if_pos rfl]
    rw [e0]
    exact (toP_F hT hw0 hw4.2 (by omega)).symm
  have hq2 : (30 ≤ H.2.1 85 1) → stR b E H i = .inr (5, (zP b E i : Int)) := fun hf => by
    have e0 : stR b E H i = toF b E H (zP b E i : Int) (i + 1) := by unfold stR; rw [hK]; rw [if_neg (by decide), if_pos rfl]
    rw [e0]
    unfold toF
    rw [if_pos (by omega)]
  refine am_iload_n (q := 44) rfl (am_tab tk_X4_readStatement 22 rfl) rfl ?_
  refine am_sipush (q := 47) (n := 128) (by decide) rfl (am_tab tk_X4_readStatement 23 rfl) rfl ?_
  refine am_icmp_ne (q := 50) (t := 54) (am_tab tk_X4_readStatement 24 rfl) (by decide) rfl (fun h47 => ?_) (fun h47 => ?_)
  · refine am_iconst (q := 55) (n := 0) (by decide) (am_tab tk_X4_readStatement 27 rfl) rfl ?_
    refine am_aload_n (q := 56) rfl (am_tab tk_X4_readStatement 28 rfl) rfl ?_
    refine am_getR (q := 59) (a := 27) (k := 4) (n := 13) (j := 2) (r := some (15)) (Ls_27 hX1.1) (by decide) rfl (show T1.2.2 27 2 = some 15 by rw [hG1.2.1]; exact hR) (by decide) (Or.inl kf_X4_29) (am_tab tk_X4_readStatement 29 rfl) rfl ?_
    refine am_getI (q := 62) (a := 15) (k := 8) (n := 17) (j := 1) (x := (T1.2.1 15 1)) (Ls_15 hX1.1) (by decide) rfl rfl (by decide) (Or.inr kf_X4_52) (am_tab tk_X4_readStatement 30 rfl) rfl ?_
    refine am_if_ne (q := 65) (t := 69) (am_tab tk_X4_readStatement 31 rfl) (by decide) rfl (fun h62 => ?_) (fun h62 => ?_)
    · refine am_iconst (q := 70) (n := 0) (by decide) (am_tab tk_X4_readStatement 34 rfl) rfl ?_
      refine am_icmp_eq (q := 73) (t := 79) (am_tab tk_X4_readStatement 35 rfl) (by decide) rfl (fun h70 => ?_) (fun h70 => ?_)
      · refine am_iload_n (q := 80) rfl (am_tab tk_X4_readStatement 40 rfl) rfl ?_
        refine am_tableIn (t := 172) (off := 92) (by omega) (by omega) rfl dsw_X4_readStatement_80 (by decide) ?_
        refine am_aload_n (q := 173) rfl (am_tab tk_X4_readStatement 53 rfl) rfl ?_
        refine am_callVr (q := 176) (me2 := M_X4_readTold) (b := 27) (kb := 4) (nb := 13) (As := []) (rest := []) (c_readTold_15 b E cv M pA T1 H hX1 hR1 n hn1 (by omega) _ hD1 hP1 hw4.2 (fun _ => hw1)) ⟨rfl, rfl⟩ (Ls_27 hX1.1) (by decide) ⟨Or.inl km_X4_121, kc_X4_readTold, kn_X4, kd_X4_readTold, ⟨(Nat.le_of_ble_eq_true rfl), (Nat.le_of_ble_eq_true rfl)⟩, ⟨(Nat.le_of_ble_eq_true rfl), (Nat.le_of_ble_eq_true rfl)⟩, (Nat.le_of_ble_eq_true rfl)⟩ ki_X4_readTold ks_X4_readTold rfl (am_tab tk_X4_readStatement 54 rfl) rfl ?_
        rintro r T2 ⟨rfl, hX2, hT2, hF2⟩
        have hXz := hX2
        refine am_goto (t := 280) (am_tab tk_X4_readStatement 55 rfl) (by decide) ?_
        have hFz : frw (W_tn 15) T1 T2 := hF2
        have hRz : T2.2.2 27 2 = some 15 := by rw [hFz.2.1]; exact hR1
        have hez : T2.2.1 15 1 = H.2.1 55 51 := (hFz.2.2 15 1 (by unfold W_tn W_rz; omega)).trans hs1
        refine am_less (by intro q hq; simp only [List.mem_cons, List.not_mem_nil, or_false] at hq; rcases hq with rfl | rfl | rfl <;> simp) (st_tail_15_0 b E cv M (toP b E H (H.2.1 85 4) pA) T2 hXz hRz (by omega) 132 (zP b E i : Int) Q (fun r τ hτ => hQ r τ ?_))
        obtain ⟨rfl, hXt, hFt⟩ := hτ
        have hp := st_post (G := fun p => toP b E H (H.2.1 85 4) p) (Or.inr rfl) hT (fun e => rfl) hc (fun h1 h2 => by rw [hqG]; exact hT2 (i + 1) h1 h2) hG1 hFz hFt
        have he : sgF b E 59 ((fun p => toP b E H (H.2.1 85 4) p) pA) = stF b E H i := st_eq (G := fun p => toP b E H (H.2.1 85 4) p) (fun e => rfl) hc (by omega) hq1 hq2
        rw [he] at hp
        exact ⟨rfl, (by rw [← he]; exact hXt), hp⟩
      · exact absurd rfl h70
    · exact absurd h62 (by omega)
  · exact absurd h47 (by decide)
set_option maxRecDepth 100000 in
theorem c_st_reminds_15 (b : Nat → Int) (E : Nat) (cv : Nat → Int) (M : Nat) (i : Nat) (σ H : am_H) (hX : RY b E cv M σ (.inl i)) (hR : σ.2.2 27 2 = some 15) (hT : TRr 15 σ H) (hRR : RRr 15 σ H) (hTW : TWI H i) (hs0 : 1 ≤ H.2.1 55 51) (hK : zK b E i = 134) : am_met (M_X4_readStatement 0 0) [am_r 27] σ (fun r σ' => r = none ∧ RY b E cv M σ' (stF b E H i) ∧ ((stF b E H i).isLeft = true → TRr 15 σ' (stH b E H i)) ∧ frw (W_ts 15) σ σ') := by
  refine am_qq (fun Q hQ => ?_)
  refine am_enter (show plainFor yX4_readStatement = true by decide +kernel) rfl (Nat.le_of_ble_eq_true rfl) (fun _ _ _ => trivial) ?_
  obtain ⟨⟨a1, a2, a3, a4, a5, a6, a7, a8⟩, _⟩ := id hT
  obtain ⟨n, hn⟩ := Int.eq_ofNat_of_zero_le hTW.1.1
  have hw0 := hTW.1
  have hw1 := hTW.2.1
  have hw2 := hTW.2.2.1
  have hw3 := hTW.2.2.2.1
  have hw4 := hTW.2.2.2.2.1
  have hw6 := hTW.2.2.2.2.2.2
  refine st_head_15_0 b E cv M i σ hX hR 134 hK (by omega) Q (fun pA T1 hX1 hG1 hc0 => ?_)
  have hc : HC b E i (20 ≤ H.2.1 85 2) (H.2.1 55 51) pA := HC.iff hc0 (by rw [a5]; omega) a2
  have hTN : ∀ a j, 15 ≤ a ∧ a ≤ 15 + 7 → ¬ W_rz a j := fun a j h => by unfold W_rz; omega
  have hs1 : T1.2.1 15 1 = H.2.1 55 51 := (hG1.2.2 15 1 (by unfold W_rz; omega)).trans a2
  have hR1 : T1.2.2 27 2 = some 15 := by rw [hG1.2.1]; exact hR
  have hP1 : PL 15 T1 H n pA := PL.l (PL.fr (p := .inl i) ⟨hT, hn⟩ hG1 hTN) (fun _ => rfl)
  have hn1 : T1.2.1 15 2 = (n : Int) := ((hG1.2.2 15 2 (by unfold W_rz; omega)).trans a3).trans hn
  have hD1 : T1.2.1 15 0 = H.2.1 85 4 := (hG1.2.2 15 0 (by unfold W_rz; omega)).trans a1
  have hqG : stG b E H i = rmH b E H (i + 1) := by unfold stG; rw [hK]; rw [if_neg (by decide), if_neg (by decide), if_pos rfl]
  have hq1 : ¬ (20 ≤ H.2.1 85 2) → stR b E H i = rmP b E H (.inl (i + 1)) := fun hf => by
    have e0 : stR b E H i = rmF b E H (zP b E i : Int) (i + 1) := by unfold stR; rw [hK]; rw [if_neg (by decide), if_neg (by decide), if_pos rfl]
    rw [e0]
    exact (rmP_F hT hw0 (by omega)).symm
  have hq2 : (20 ≤ H.2.1 85 2) → stR b E H i = .inr (5, (zP b E i : Int)) := fun hf => by
    have e0 : stR b E H i = rmF b E H (zP b E i : Int) (i + 1) := by unfold stR; rw [hK]; rw [if_neg (by decide), if_neg (by decide), if_pos rfl]
    rw [e0]
    unfold rmF
    rw [if_pos (by omega)]
  refine am_iload_n (q := 44) rfl (am_tab tk_X4_readStatement 22 rfl) rfl ?_
  refine am_sipush (q := 47) (n := 128) (by decide) rfl (am_tab tk_X4_readStatement 23 rfl) rfl ?_
  refine am_icmp_ne (q := 50) (t := 54) (am_tab tk_X4_readStatement 24 rfl) (by decide) rfl (fun h47 => ?_) (fun h47 => ?_)
  · refine am_iconst (q := 55) (n := 0) (by decide) (am_tab tk_X4_readStatement 27 rfl) rfl ?_
    refine am_aload_n (q := 56) rfl (am_tab tk_X4_readStatement 28 rfl) rfl ?_
    refine am_getR (q := 59) (a := 27) (k := 4) (n := 13) (j := 2) (r := some (15)) (Ls_27 hX1.1) (by decide) rfl (show T1.2.2 27 2 = some 15 by rw [hG1.2.1]; exact hR) (by decide) (Or.inl kf_X4_29) (am_tab tk_X4_readStatement 29 rfl) rfl ?_
    refine am_getI (q := 62) (a := 15) (k := 8) (n := 17) (j := 1) (x := (T1.2.1 15 1)) (Ls_15 hX1.1) (by decide) rfl rfl (by decide) (Or.inr kf_X4_52) (am_tab tk_X4_readStatement 30 rfl) rfl ?_
    refine am_if_ne (q := 65) (t := 69) (am_tab tk_X4_readStatement 31 rfl) (by decide) rfl (fun h62 => ?_) (fun h62 => ?_)
    · refine am_iconst (q := 70) (n := 0) (by decide) (am_tab tk_X4_readStatement 34 rfl) rfl ?_
      refine am_icmp_eq (q := 73) (t := 79) (am_tab tk_X4_readStatement 35 rfl) (by decide) rfl (fun h70 => ?_) (fun h70 => ?_)
      · refine am_iload_n (q := 80) rfl (am_tab tk_X4_readStatement 40 rfl) rfl ?_
        refine am_tableIn (t := 179) (off := 99) (by omega) (by omega) rfl dsw_X4_readStatement_80 (by decide) ?_
        refine am_aload_n (q := 180) rfl (am_tab tk_X4_readStatement 56 rfl) rfl ?_
        refine am_callVr (q := 183) (me2 := M_X4_readReminds) (b := 27) (kb := 4) (nb := 13) (As := []) (rest := []) (c_readReminds_15 b E cv M pA T1 H hX1 hR1 n hn1 (by omega) _ hD1 hP1 (fun _ => hw2)) ⟨rfl, rfl⟩ (Ls_27 hX1.1) (by decide) ⟨Or.inl km_X4_124, kc_X4_readReminds, kn_X4, kd_X4_readReminds, ⟨(Nat.le_of_ble_eq_true rfl), (Nat.le_of_ble_eq_true rfl)⟩, ⟨(Nat.le_of_ble_eq_true rfl), (Nat.le_of_ble_eq_true rfl)⟩, (Nat.le_of_ble_eq_true rfl)⟩ ki_X4_readReminds ks_X4_readReminds rfl (am_tab tk_X4_readStatement 57 rfl) rfl ?_
        rintro r T2 ⟨rfl, hX2, hT2, hF2⟩
        have hXz := hX2
        refine am_goto (t := 280) (am_tab tk_X4_readStatement 58 rfl) (by decide) ?_
        have hFz : frw (W_tn 15) T1 T2 := hF2
        have hRz : T2.2.2 27 2 = some 15 := by rw [hFz.2.1]; exact hR1
        have hez : T2.2.1 15 1 = H.2.1 55 51 := (hFz.2.2 15 1 (by unfold W_tn W_rz; omega)).trans hs1
        refine am_less (by intro q hq; simp only [List.mem_cons, List.not_mem_nil, or_false] at hq; rcases hq with rfl | rfl | rfl <;> simp) (st_tail_15_0 b E cv M (rmP b E H pA) T2 hXz hRz (by omega) 134 (zP b E i : Int) Q (fun r τ hτ => hQ r τ ?_))
        obtain ⟨rfl, hXt, hFt⟩ := hτ
        have hp := st_post (G := fun p => rmP b E H p) (Or.inr rfl) hT (fun e => rfl) hc (fun h1 h2 => by rw [hqG]; exact hT2 (i + 1) h1 h2) hG1 hFz hFt
        have he : sgF b E 59 ((fun p => rmP b E H p) pA) = stF b E H i := st_eq (G := fun p => rmP b E H p) (fun e => rfl) hc (by omega) hq1 hq2
        rw [he] at hp
        exact ⟨rfl, (by rw [← he]; exact hXt), hp⟩
      · exact absurd rfl h70
    · exact absurd h62 (by omega)
  · exact absurd h47 (by decide)
set_option maxRecDepth 100000 in
theorem c_st_frost_15 (b : Nat → Int) (E : Nat) (cv : Nat → Int) (M : Nat) (i : Nat) (σ H : am_H) (hX : RY b E cv M σ (.inl i)) (hR : σ.2.2 27 2 = some 15) (hT : TRr 15 σ H) (hRR : RRr 15 σ H) (hTW : TWI H i) (hs0 : 1 ≤ H.2.1 55 51) (hK : zK b E i = 135) : am_met (M_X4_readStatement 0 0) [am_r 27] σ (fun r σ' => r = none ∧ RY b E cv M σ' (stF b E H i) ∧ ((stF b E H i).isLeft = true → TRr 15 σ' (stH b E H i)) ∧ frw (W_ts 15) σ σ') := by
  refine am_qq (fun Q hQ => ?_)
  refine am_enter (show plainFor yX4_readStatement = true by decide +kernel) rfl (Nat.le_of_ble_eq_true rfl) (fun _ _ _ => trivial) ?_
  obtain ⟨⟨a1, a2, a3, a4, a5, a6, a7, a8⟩, _⟩ := id hT
  obtain ⟨n, hn⟩ := Int.eq_ofNat_of_zero_le hTW.1.1
  have hw0 := hTW.1
  have hw1 := hTW.2.1
  have hw2 := hTW.2.2.1
  have hw3 := hTW.2.2.2.1
  have hw4 := hTW.2.2.2.2.1
  have hw6 := hTW.2.2.2.2.2.2
  refine st_head_15_0 b E cv M i σ hX hR 135 hK (by omega) Q (fun pA T1 hX1 hG1 hc0 => ?_)
  have hc : HC b E i (4 ≤ H.2.1 85 3) (H.2.1 55 51) pA := HC.iff hc0 (by rw [a6]; omega) a2
  have hTN : ∀ a j, 15 ≤ a ∧ a ≤ 15 + 7 → ¬ W_rz a j := fun a j h => by unfold W_rz; omega
  have hs1 : T1.2.1 15 1 = H.2.1 55 51 := (hG1.2.2 15 1 (by unfold W_rz; omega)).trans a2
  have hR1 : T1.2.2 27 2 = some 15 := by rw [hG1.2.1]; exact hR
  have hP1 : PL 15 T1 H n pA := PL.l (PL.fr (p := .inl i) ⟨hT, hn⟩ hG1 hTN) (fun _ => rfl)
  have hn1 : T1.2.1 15 2 = (n : Int) := ((hG1.2.2 15 2 (by unfold W_rz; omega)).trans a3).trans hn
  have hD1 : T1.2.1 15 0 = H.2.1 85 4 := (hG1.2.2 15 0 (by unfold W_rz; omega)).trans a1
  have hqG : stG b E H i = frH b E H (i + 1) := by unfold stG; rw [hK]; rw [if_neg (by decide), if_neg (by decide), if_neg (by decide), if_pos rfl]
  have hq1 : ¬ (4 ≤ H.2.1 85 3) → stR b E H i = nuF b E 1 30 (akF b E 8 (nuF b E 1 (H.2.1 85 4) (.inl (i + 1)))) := fun hf => by
    have e0 : stR b E H i = frF b E H (zP b E i : Int) (i + 1) := by unfold stR; rw [hK]; rw [if_neg (by decide), if_neg (by decide), if_neg (by decide), if_pos rfl]
    rw [e0]
    unfold frF
    rw [if_neg (by omega)]
  have hq2 : (4 ≤ H.2.1 85 3) → stR b E H i = .inr (5, (zP b E i : Int)) := fun hf => by
    have e0 : stR b E H i = frF b E H (zP b E i : Int) (i + 1) := by unfold stR; rw [hK]; rw [if_neg (by decide), if_neg (by decide), if_neg (by decide), if_pos rfl]
    rw [e0]
    unfold frF
    rw [if_pos (by omega)]
  refine am_iload_n (q := 44) rfl (am_tab tk_X4_readStatement 22 rfl) rfl ?_
  refine am_sipush (q := 47) (n := 128) (by decide) rfl (am_tab tk_X4_readStatement 23 rfl) rfl ?_
  refine am_icmp_ne (q := 50) (t := 54) (am_tab tk_X4_readStatement 24 rfl) (by decide) rfl (fun h47 => ?_) (fun h47 => ?_)
  · refine am_iconst (q := 55) (n := 0) (by decide) (am_tab tk_X4_readStatement 27 rfl) rfl ?_
    refine am_aload_n (q := 56) rfl (am_tab tk_X4_readStatement 28 rfl) rfl ?_
    refine am_getR (q := 59) (a := 27) (k := 4) (n := 13) (j := 2) (r := some (15)) (Ls_27 hX1.1) (by decide) rfl (show T1.2.2 27 2 = some 15 by rw [hG1.2.1]; exact hR) (by decide) (Or.inl kf_X4_29) (am_tab tk_X4_readStatement 29 rfl) rfl ?_
    refine am_getI (q := 62) (a := 15) (k := 8) (n := 17) (j := 1) (x := (T1.2.1 15 1)) (Ls_15 hX1.1) (by decide) rfl rfl (by decide) (Or.inr kf_X4_52) (am_tab tk_X4_readStatement 30 rfl) rfl ?_
    refine am_if_ne (q := 65) (t := 69) (am_tab tk_X4_readStatement 31 rfl) (by decide) rfl (fun h62 => ?_) (fun h62 => ?_)
    · refine am_iconst (q := 70) (n := 0) (by decide) (am_tab tk_X4_readStatement 34 rfl) rfl ?_
      refine am_icmp_eq (q := 73) (t := 79) (am_tab tk_X4_readStatement 35 rfl) (by decide) rfl (fun h70 => ?_) (fun h70 => ?_)
      · refine am_iload_n (q := 80) rfl (am_tab tk_X4_readStatement 40 rfl) rfl ?_
        refine am_tableIn (t := 186) (off := 106) (by omega) (by omega) rfl dsw_X4_readStatement_80 (by decide) ?_
        refine am_aload_n (q := 187) rfl (am_tab tk_X4_readStatement 59 rfl) rfl ?_
        refine am_callVr (q := 190) (me2 := M_X4_readFrost) (b := 27) (kb := 4) (nb := 13) (As := []) (rest := []) (c_readFrost_15 b E cv M pA T1 H hX1 hR1 n hn1 (by omega) _ hD1 hP1 hw4.2 (fun _ => hw3)) ⟨rfl, rfl⟩ (Ls_27 hX1.1) (by decide) ⟨Or.inl km_X4_127, kc_X4_readFrost, kn_X4, kd_X4_readFrost, ⟨(Nat.le_of_ble_eq_true rfl), (Nat.le_of_ble_eq_true rfl)⟩, ⟨(Nat.le_of_ble_eq_true rfl), (Nat.le_of_ble_eq_true rfl)⟩, (Nat.le_of_ble_eq_true rfl)⟩ ki_X4_readFrost ks_X4_readFrost rfl (am_tab tk_X4_readStatement 60 rfl) rfl ?_
        rintro r T2 ⟨rfl, hX2, hT2, hF2⟩
        have hXz := hX2
        refine am_goto (t := 280) (am_tab tk_X4_readStatement 61 rfl) (by decide) ?_
        have hFz : frw (W_tn 15) T1 T2 := hF2
        have hRz : T2.2.2 27 2 = some 15 := by rw [hFz.2.1]; exact hR1
        have hez : T2.2.1 15 1 = H.2.1 55 51 := (hFz.2.2 15 1 (by unfold W_tn W_rz; omega)).trans hs1
        refine am_less (by intro q hq; simp only [List.mem_cons, List.not_mem_nil, or_false] at hq; rcases hq with rfl | rfl | rfl <;> simp) (st_tail_15_0 b E cv M (nuF b E 1 30 (akF b E 8 (nuF b E 1 (H.2.1 85 4) pA))) T2 hXz hRz (by omega) 135 (zP b E i : Int) Q (fun r τ hτ => hQ r τ ?_))
        obtain ⟨rfl, hXt, hFt⟩ := hτ
        have hp := st_post (G := fun p => nuF b E 1 30 (akF b E 8 (nuF b E 1 (H.2.1 85 4) p))) (Or.inr rfl) hT (fun e => rfl) hc (fun h1 h2 => by rw [hqG]; exact hT2 (i + 1) h1 h2) hG1 hFz hFt
        have he : sgF b E 59 ((fun p => nuF b E 1 30 (akF b E 8 (nuF b E 1 (H.2.1 85 4) p))) pA) = stF b E H i := st_eq (G := fun p => nuF b E 1 30 (akF b E 8 (nuF b E 1 (H.2.1 85 4) p))) (fun e => rfl) hc (by omega) hq1 hq2
        rw [he] at hp
        exact ⟨rfl, (by rw [← he]; exact hXt), hp⟩
      · exact absurd rfl h70
    · exact absurd h62 (by omega)
  · exact absurd h47 (by decide)
