theorem TRr.s6 {t : Nat} {σ H : am_H} (ht : t = 3 ∨ t = 15) (h : TRr t σ H) (v : Int) : TRr t (am_setN σ t 6 v) (am_setN H 92 0 v) := by
  obtain ⟨⟨a1, a2, a3, a4, a5, a6, a7, a8⟩, hn, hm, ho, hf⟩ := h
  refine ⟨⟨?_, ?_, ?_, ?_, ?_, ?_, ?_, ?_⟩, fun p hp => ?_, fun p hp => ?_, fun d hd => ?_, fun d hd h1 h2 => ?_⟩
  · rw [set_nn (by omega), set_nn (by omega)]; exact a1
  · rw [set_nn (by omega), set_nn (by omega)]; exact a2
  · rw [set_nn (by omega), set_nn (by omega)]; exact a3
  · rw [set_nn (by omega), set_nn (by omega)]; exact a4
  · rw [set_nn (by omega), set_nn (by omega)]; exact a5
  · rw [set_nn (by omega), set_nn (by omega)]; exact a6
  · rw [set_eq, set_eq]
  · rw [set_nn (by omega), set_nn (by omega)]; exact a8
  · rw [set_nn (by omega)] at hp
    have := hn p hp
    simp (disch := omega) only [set_nn]
    exact this
  · have := hm p hp
    simp (disch := omega) only [set_nn]
    exact this
  · have := ho d hd
    simp (disch := omega) only [set_nn]
    exact this
  · rw [set_nn (by omega)] at h2
    have := hf d hd h1 h2
    unfold frN at this ⊢
    simp (disch := omega) only [set_nn]
    exact this
theorem TRr.s7 {t : Nat} {σ H : am_H} (ht : t = 3 ∨ t = 15) (h : TRr t σ H) (v : Int) : TRr t (am_setN σ t 7 v) (am_setN H 92 1 v) := by
  obtain ⟨⟨a1, a2, a3, a4, a5, a6, a7, a8⟩, hn, hm, ho, hf⟩ := h
  refine ⟨⟨?_, ?_, ?_, ?_, ?_, ?_, ?_, ?_⟩, fun p hp => ?_, fun p hp => ?_, fun d hd => ?_, fun d hd h1 h2 => ?_⟩
  · rw [set_nn (by omega), set_nn (by omega)]; exact a1
  · rw [set_nn (by omega), set_nn (by omega)]; exact a2
  · rw [set_nn (by omega), set_nn (by omega)]; exact a3
  · rw [set_nn (by omega), set_nn (by omega)]; exact a4
  · rw [set_nn (by omega), set_nn (by omega)]; exact a5
  · rw [set_nn (by omega), set_nn (by omega)]; exact a6
  · rw [set_nn (by omega), set_nn (by omega)]; exact a7
  · rw [set_eq, set_eq]
  · rw [set_nn (by omega)] at hp
    have := hn p hp
    simp (disch := omega) only [set_nn]
    exact this
  · have := hm p hp
    simp (disch := omega) only [set_nn]
    exact this
  · have := ho d hd
    simp (disch := omega) only [set_nn]
    exact this
  · rw [set_nn (by omega)] at h2
    have := hf d hd h1 h2
    unfold frN at this ⊢
    simp (disch := omega) only [set_nn]
    exact this
set_option maxRecDepth 100000 in
theorem c_st_slips_3 (b : Nat → Int) (E : Nat) (cv : Nat → Int) (M : Nat) (i : Nat) (σ H : am_H) (hX : RY b E cv M σ (.inl i)) (hR : σ.2.2 27 2 = some 3) (hT : TRr 3 σ H) (hRR : RRr 3 σ H) (hTW : TWI H i) (hs0 : 1 ≤ H.2.1 55 51) (hK : zK b E i = 139) : am_met (M_X4_readStatement 0 0) [am_r 27] σ (fun r σ' => r = none ∧ RY b E cv M σ' (stF b E H i) ∧ ((stF b E H i).isLeft = true → TRr 3 σ' (stH b E H i)) ∧ frw (W_ts 3) σ σ') := by
  refine am_qq (fun Q hQ => ?_)
  refine am_enter (show plainFor yX4_readStatement = true by decide +kernel) rfl (Nat.le_of_ble_eq_true rfl) (fun _ _ _ => trivial) ?_
  obtain ⟨⟨a1, a2, a3, a4, a5, a6, a7, a8⟩, _⟩ := id hT
  obtain ⟨n, hn⟩ := Int.eq_ofNat_of_zero_le hTW.1.1
  have hw0 := hTW.1
  have hw1 := hTW.2.1
  have hw2 := hTW.2.2.1
  have hw3 := hTW.2.2.2.1
  have hw4 := hTW.2.2.2.2.1
  have hw6 := hTW.2.2.2.2.2.2
  refine st_head_3_0 b E cv M i σ hX hR 139 hK (by omega) Q (fun pA T1 hX1 hG1 hc0 => ?_)
  have hc : HC b E i (False) (H.2.1 55 51) pA := HC.iff hc0 (by exact ⟨fun h => by omega, False.elim⟩) a2
  have hTN : ∀ a j, 3 ≤ a ∧ a ≤ 3 + 7 → ¬ W_rz a j := fun a j h => by unfold W_rz; omega
  have hs1 : T1.2.1 3 1 = H.2.1 55 51 := (hG1.2.2 3 1 (by unfold W_rz; omega)).trans a2
  have hR1 : T1.2.2 27 2 = some 3 := by rw [hG1.2.1]; exact hR
  have hP1 : PL 3 T1 H n pA := PL.l (PL.fr (p := .inl i) ⟨hT, hn⟩ hG1 hTN) (fun _ => rfl)
  have hn1 : T1.2.1 3 2 = (n : Int) := ((hG1.2.2 3 2 (by unfold W_rz; omega)).trans a3).trans hn
  have hD1 : T1.2.1 3 0 = H.2.1 85 4 := (hG1.2.2 3 0 (by unfold W_rz; omega)).trans a1
  have hqG : stG b E H i = am_setN H 92 0 (zV b E (i + 1)) := by unfold stG; rw [hK]; rw [if_neg (by decide), if_neg (by decide), if_neg (by decide), if_neg (by decide), if_neg (by decide), if_neg (by decide), if_pos rfl]
  have hq1 : ¬ False → stR b E H i = nuF b E 0 100 (.inl (i + 1)) := fun _ => by unfold stR; rw [hK]; rw [if_neg (by decide), if_neg (by decide), if_neg (by decide), if_neg (by decide), if_neg (by decide), if_neg (by decide), if_pos rfl]
  have hq2 : False → stR b E H i = .inr (5, (zP b E i : Int)) := fun h => h.elim
  refine am_iload_n (q := 44) rfl (am_tab tk_X4_readStatement 22 rfl) rfl ?_
  refine am_sipush (q := 47) (n := 128) (by decide) rfl (am_tab tk_X4_readStatement 23 rfl) rfl ?_
  refine am_icmp_ne (q := 50) (t := 54) (am_tab tk_X4_readStatement 24 rfl) (by decide) rfl (fun h47 => ?_) (fun h47 => ?_)
  · refine am_iconst (q := 55) (n := 0) (by decide) (am_tab tk_X4_readStatement 27 rfl) rfl ?_
    refine am_aload_n (q := 56) rfl (am_tab tk_X4_readStatement 28 rfl) rfl ?_
    refine am_getR (q := 59) (a := 27) (k := 4) (n := 13) (j := 2) (r := some (3)) (Ls_27 hX1.1) (by decide) rfl (show T1.2.2 27 2 = some 3 by rw [hG1.2.1]; exact hR) (by decide) (Or.inl kf_X4_29) (am_tab tk_X4_readStatement 29 rfl) rfl ?_
    refine am_getI (q := 62) (a := 3) (k := 8) (n := 17) (j := 1) (x := (T1.2.1 3 1)) (Ls_3 hX1.1) (by decide) rfl rfl (by decide) (Or.inr kf_X4_52) (am_tab tk_X4_readStatement 30 rfl) rfl ?_
    refine am_if_ne (q := 65) (t := 69) (am_tab tk_X4_readStatement 31 rfl) (by decide) rfl (fun h62 => ?_) (fun h62 => ?_)
    · refine am_iconst (q := 70) (n := 0) (by decide) (am_tab tk_X4_readStatement 34 rfl) rfl ?_
      refine am_icmp_eq (q := 73) (t := 79) (am_tab tk_X4_readStatement 35 rfl) (by decide) rfl (fun h70 => ?_) (fun h70 => ?_)
      · refine am_iload_n (q := 80) rfl (am_tab tk_X4_readStatement 40 rfl) rfl ?_
        refine am_tableIn (t := 239) (off := 159) (by omega) (by omega) rfl dsw_X4_readStatement_80 (by decide) ?_
        refine am_aload_n (q := 240) rfl (am_tab tk_X4_readStatement 84 rfl) rfl ?_
        refine am_getR (q := 243) (a := 27) (k := 4) (n := 13) (j := 2) (r := some (3)) (Ls_27 hX1.1) (by decide) rfl (show T1.2.2 27 2 = some 3 by rw [hG1.2.1]; exact hR) (by decide) (Or.inl kf_X4_29) (am_tab tk_X4_readStatement 85 rfl) rfl ?_
        refine am_aload_n (q := 244) rfl (am_tab tk_X4_readStatement 86 rfl) rfl ?_
        refine am_iconst (q := 245) (n := 0) (by decide) (am_tab tk_X4_readStatement 87 rfl) rfl ?_
        refine am_bipush (q := 247) (n := 100) (by decide) rfl (am_tab tk_X4_readStatement 88 rfl) rfl ?_
        refine am_callVr (q := 250) (me2 := M_X4_readNumber) (b := 27) (kb := 4) (nb := 13) (As := [am_i 0, am_i 100]) (rest := [am_r 3]) (c_numZ hX1 0 100) ⟨rfl, rfl⟩ (Ls_27 hX1.1) (by decide) ⟨Or.inl km_X4_111, kc_X4_readNumber, kn_X4, kd_X4_readNumber, ⟨(Nat.le_of_ble_eq_true rfl), (Nat.le_of_ble_eq_true rfl)⟩, ⟨(Nat.le_of_ble_eq_true rfl), (Nat.le_of_ble_eq_true rfl)⟩, (Nat.le_of_ble_eq_true rfl)⟩ ki_X4_readNumber ks_X4_readNumber rfl (am_tab tk_X4_readStatement 89 rfl) rfl ?_
        rintro r T2 ⟨v2, rfl, hX2, hG, hv2⟩
        have hG2 := hG1.trans hG
        have hFy : frw (W_tn 3) T1 (am_setN T2 3 6 v2) := (hG.mono (fun a j h => Or.inr h)).setN (Or.inl (by omega))
        have hXz : RY b E cv M (am_setN T2 3 6 v2) (nuF b E 0 100 (pA)) := hX2.fr ((frw.refl (fun a _ => a = 3) T2).setN rfl) (fun a j h => by omega)
        refine am_putI (q := 253) (k := 8) (n := 17) (j := 6) (Ls_3 hX2.1) (by decide) rfl (by decide) (Or.inr (Or.inl ⟨kf_X4_141, rfl⟩)) (am_tab tk_X4_readStatement 90 rfl) rfl ?_
        refine am_goto (t := 280) (am_tab tk_X4_readStatement 91 rfl) (by decide) ?_
        have hFz : frw (W_tn 3) T1 (am_setN T2 3 6 v2) := hFy
        have hRz : (am_setN T2 3 6 v2).2.2 27 2 = some 3 := by rw [hFz.2.1]; exact hR1
        have hez : (am_setN T2 3 6 v2).2.1 3 1 = H.2.1 55 51 := (hFz.2.2 3 1 (by unfold W_tn W_rz; omega)).trans hs1
        refine am_less (by intro q hq; simp only [List.mem_cons, List.not_mem_nil, or_false] at hq; rcases hq with rfl | rfl | rfl <;> simp) (st_tail_3_0 b E cv M (nuF b E 0 100 (pA)) (am_setN T2 3 6 v2) hXz hRz (by omega) 139 (zP b E i : Int) Q (fun r τ hτ => hQ r τ ?_))
        obtain ⟨rfl, hXt, hFt⟩ := hτ
        have hp := st_post (G := fun p => nuF b E 0 100 p) (Or.inl rfl) hT (fun e => rfl) hc (fun h1 h2 => by rw [hqG, ← show v2 = zV b E (i + 1) from (hv2 h2).trans (by rw [h1]; rfl)]; exact TRr.s6 (Or.inl rfl) (hT.fr hG2 hTN) v2) hG1 hFz hFt
        have he : sgF b E 59 ((fun p => nuF b E 0 100 p) pA) = stF b E H i := st_eq (G := fun p => nuF b E 0 100 p) (fun e => rfl) hc (by omega) hq1 hq2
        rw [he] at hp
        exact ⟨rfl, (by rw [← he]; exact hXt), hp⟩
      · exact absurd rfl h70
    · exact absurd h62 (by omega)
  · exact absurd h47 (by decide)
set_option maxRecDepth 100000 in
theorem c_st_mortal_3 (b : Nat → Int) (E : Nat) (cv : Nat → Int) (M : Nat) (i : Nat) (σ H : am_H) (hX : RY b E cv M σ (.inl i)) (hR : σ.2.2 27 2 = some 3) (hT : TRr 3 σ H) (hRR : RRr 3 σ H) (hTW : TWI H i) (hs0 : 1 ≤ H.2.1 55 51) (hK : zK b E i = 140) : am_met (M_X4_readStatement 0 0) [am_r 27] σ (fun r σ' => r = none ∧ RY b E cv M σ' (stF b E H i) ∧ ((stF b E H i).isLeft = true → TRr 3 σ' (stH b E H i)) ∧ frw (W_ts 3) σ σ') := by
  refine am_qq (fun Q hQ => ?_)
  refine am_enter (show plainFor yX4_readStatement = true by decide +kernel) rfl (Nat.le_of_ble_eq_true rfl) (fun _ _ _ => trivial) ?_
  obtain ⟨⟨a1, a2, a3, a4, a5, a6, a7, a8⟩, _⟩ := id hT
  obtain ⟨n, hn⟩ := Int.eq_ofNat_of_zero_le hTW.1.1
  have hw0 := hTW.1
  have hw1 := hTW.2.1
  have hw2 := hTW.2.2.1
  have hw3 := hTW.2.2.2.1
  have hw4 := hTW.2.2.2.2.1
  have hw6 := hTW.2.2.2.2.2.2
  refine st_head_3_0 b E cv M i σ hX hR 140 hK (by omega) Q (fun pA T1 hX1 hG1 hc0 => ?_)
  have hc : HC b E i (False) (H.2.1 55 51) pA := HC.iff hc0 (by exact ⟨fun h => by omega, False.elim⟩) a2
  have hTN : ∀ a j, 3 ≤ a ∧ a ≤ 3 + 7 → ¬ W_rz a j := fun a j h => by unfold W_rz; omega
  have hs1 : T1.2.1 3 1 = H.2.1 55 51 := (hG1.2.2 3 1 (by unfold W_rz; omega)).trans a2
  have hR1 : T1.2.2 27 2 = some 3 := by rw [hG1.2.1]; exact hR
  have hP1 : PL 3 T1 H n pA := PL.l (PL.fr (p := .inl i) ⟨hT, hn⟩ hG1 hTN) (fun _ => rfl)
  have hn1 : T1.2.1 3 2 = (n : Int) := ((hG1.2.2 3 2 (by unfold W_rz; omega)).trans a3).trans hn
  have hD1 : T1.2.1 3 0 = H.2.1 85 4 := (hG1.2.2 3 0 (by unfold W_rz; omega)).trans a1
  have hak : akF b E 12 (.inl i) = .inl (i + 1) := if_pos hK
  have hqG : stG b E H i = am_setN H 92 1 (vZ b E (akF b E 12 (.inl i))) := by unfold stG; rw [hK]; rw [if_neg (by decide), if_neg (by decide), if_neg (by decide), if_neg (by decide), if_neg (by decide), if_neg (by decide), if_neg (by decide)]
  have hq1 : ¬ False → stR b E H i = nuF b E 0 1000 (.inl (i + 1)) := fun _ => by rw [← hak]; unfold stR; rw [hK]; rw [if_neg (by decide), if_neg (by decide), if_neg (by decide), if_neg (by decide), if_neg (by decide), if_neg (by decide), if_neg (by decide)]
  have hq2 : False → stR b E H i = .inr (5, (zP b E i : Int)) := fun h => h.elim
  refine am_iload_n (q := 44) rfl (am_tab tk_X4_readStatement 22 rfl) rfl ?_
  refine am_sipush (q := 47) (n := 128) (by decide) rfl (am_tab tk_X4_readStatement 23 rfl) rfl ?_
  refine am_icmp_ne (q := 50) (t := 54) (am_tab tk_X4_readStatement 24 rfl) (by decide) rfl (fun h47 => ?_) (fun h47 => ?_)
  · refine am_iconst (q := 55) (n := 0) (by decide) (am_tab tk_X4_readStatement 27 rfl) rfl ?_
    refine am_aload_n (q := 56) rfl (am_tab tk_X4_readStatement 28 rfl) rfl ?_
    refine am_getR (q := 59) (a := 27) (k := 4) (n := 13) (j := 2) (r := some (3)) (Ls_27 hX1.1) (by decide) rfl (show T1.2.2 27 2 = some 3 by rw [hG1.2.1]; exact hR) (by decide) (Or.inl kf_X4_29) (am_tab tk_X4_readStatement 29 rfl) rfl ?_
    refine am_getI (q := 62) (a := 3) (k := 8) (n := 17) (j := 1) (x := (T1.2.1 3 1)) (Ls_3 hX1.1) (by decide) rfl rfl (by decide) (Or.inr kf_X4_52) (am_tab tk_X4_readStatement 30 rfl) rfl ?_
    refine am_if_ne (q := 65) (t := 69) (am_tab tk_X4_readStatement 31 rfl) (by decide) rfl (fun h62 => ?_) (fun h62 => ?_)
    · refine am_iconst (q := 70) (n := 0) (by decide) (am_tab tk_X4_readStatement 34 rfl) rfl ?_
      refine am_icmp_eq (q := 73) (t := 79) (am_tab tk_X4_readStatement 35 rfl) (by decide) rfl (fun h70 => ?_) (fun h70 => ?_)
      · refine am_iload_n (q := 80) rfl (am_tab tk_X4_readStatement 40 rfl) rfl ?_
        refine am_tableIn (t := 256) (off := 176) (by omega) (by omega) rfl dsw_X4_readStatement_80 (by decide) ?_
        refine am_aload_n (q := 257) rfl (am_tab tk_X4_readStatement 92 rfl) rfl ?_
        refine am_getR (q := 260) (a := 27) (k := 4) (n := 13) (j := 2) (r := some (3)) (Ls_27 hX1.1) (by decide) rfl (show T1.2.2 27 2 = some 3 by rw [hG1.2.1]; exact hR) (by decide) (Or.inl kf_X4_29) (am_tab tk_X4_readStatement 93 rfl) rfl ?_
        refine am_aload_n (q := 261) rfl (am_tab tk_X4_readStatement 94 rfl) rfl ?_
        refine am_iconst (q := 262) (n := 0) (by decide) (am_tab tk_X4_readStatement 95 rfl) rfl ?_
        refine am_sipush (q := 265) (n := 1000) (by decide) rfl (am_tab tk_X4_readStatement 96 rfl) rfl ?_
        refine am_callVr (q := 268) (me2 := M_X4_readNumber) (b := 27) (kb := 4) (nb := 13) (As := [am_i 0, am_i 1000]) (rest := [am_r 3]) (c_numZ hX1 0 1000) ⟨rfl, rfl⟩ (Ls_27 hX1.1) (by decide) ⟨Or.inl km_X4_111, kc_X4_readNumber, kn_X4, kd_X4_readNumber, ⟨(Nat.le_of_ble_eq_true rfl), (Nat.le_of_ble_eq_true rfl)⟩, ⟨(Nat.le_of_ble_eq_true rfl), (Nat.le_of_ble_eq_true rfl)⟩, (Nat.le_of_ble_eq_true rfl)⟩ ki_X4_readNumber ks_X4_readNumber rfl (am_tab tk_X4_readStatement 97 rfl) rfl ?_
        rintro r T2 ⟨v2, rfl, hX2, hG, hv2⟩
        have hG2 := hG1.trans hG
        have hFy : frw (W_tn 3) T1 (am_setN T2 3 7 v2) := (hG.mono (fun a j h => Or.inr h)).setN (Or.inl (by omega))
        have hXz : RY b E cv M (am_setN T2 3 7 v2) (nuF b E 0 1000 (pA)) := hX2.fr ((frw.refl (fun a _ => a = 3) T2).setN rfl) (fun a j h => by omega)
        refine am_putI (q := 271) (k := 8) (n := 17) (j := 7) (Ls_3 hX2.1) (by decide) rfl (by decide) (Or.inr (Or.inl ⟨kf_X4_144, rfl⟩)) (am_tab tk_X4_readStatement 98 rfl) rfl ?_
        refine am_goto (t := 280) (am_tab tk_X4_readStatement 99 rfl) (by decide) ?_
        have hFz : frw (W_tn 3) T1 (am_setN T2 3 7 v2) := hFy
        have hRz : (am_setN T2 3 7 v2).2.2 27 2 = some 3 := by rw [hFz.2.1]; exact hR1
        have hez : (am_setN T2 3 7 v2).2.1 3 1 = H.2.1 55 51 := (hFz.2.2 3 1 (by unfold W_tn W_rz; omega)).trans hs1
        refine am_less (by intro q hq; simp only [List.mem_cons, List.not_mem_nil, or_false] at hq; rcases hq with rfl | rfl | rfl <;> simp) (st_tail_3_0 b E cv M (nuF b E 0 1000 (pA)) (am_setN T2 3 7 v2) hXz hRz (by omega) 140 (zP b E i : Int) Q (fun r τ hτ => hQ r τ ?_))
        obtain ⟨rfl, hXt, hFt⟩ := hτ
        have hp := st_post (G := fun p => nuF b E 0 1000 p) (Or.inl rfl) hT (fun e => rfl) hc (fun h1 h2 => by rw [hqG, ← show v2 = vZ b E (akF b E 12 (.inl i)) from (hv2 h2).trans (by rw [h1]; rw [hak])]; exact TRr.s7 (Or.inl rfl) (hT.fr hG2 hTN) v2) hG1 hFz hFt
        have he : sgF b E 59 ((fun p => nuF b E 0 1000 p) pA) = stF b E H i := st_eq (G := fun p => nuF b E 0 1000 p) (fun e => rfl) hc (by omega) hq1 hq2
        rw [he] at hp
        exact ⟨rfl, (by rw [← he]; exact hXt), hp⟩
      · exact absurd rfl h70
    · exact absurd h62 (by omega)
  · exact absurd h47 (by decide)
set_option maxRecDepth 100000 in
theorem c_st_days_3 (b : Nat → Int) (E : Nat) (cv : Nat → Int) (M : Nat) (i : Nat) (σ H : am_H) (hX : RY b E cv M σ (.inl i)) (hR : σ.2.2 27 2 = some 3) (hT : TRr 3 σ H) (hRR : RRr 3 σ H) (hTW : TWI H i) (hs0 : 1 ≤ H.2.1 55 51) (hK : zK b E i = 128) : am_met (M_X4_readStatement 0 0) [am_r 27] σ (fun r σ' => r = none ∧ RY b E cv M σ' (stF b E H i) ∧ ((stF b E H i).isLeft = true → TRr 3 σ' (stH b E H i)) ∧ frw (W_ts 3) σ σ') := by
  refine am_qq (fun Q hQ => ?_)
  refine am_enter (show plainFor yX4_readStatement = true by decide +kernel) rfl (Nat.le_of_ble_eq_true rfl) (fun _ _ _ => trivial) ?_
  obtain ⟨⟨a1, a2, a3, a4, a5, a6, a7, a8⟩, _⟩ := id hT
  obtain ⟨n, hn⟩ := Int.eq_ofNat_of_zero_le hTW.1.1
  have hw0 := hTW.1
  have hw1 := hTW.2.1
  have hw2 := hTW.2.2.1
  have hw3 := hTW.2.2.2.1
  have hw4 := hTW.2.2.2.2.1
  have hw6 := hTW.2.2.2.2.2.2
  refine st_head_3_0 b E cv M i σ hX hR 128 hK (by omega) Q (fun pA T1 hX1 hG1 hc0 => ?_)
  have hc : HC b E i (False) (H.2.1 55 51) pA := HC.iff hc0 (by exact ⟨fun h => by omega, False.elim⟩) a2
  have hTN : ∀ a j, 3 ≤ a ∧ a ≤ 3 + 7 → ¬ W_rz a j := fun a j h => by unfold W_rz; omega
  have hs1 : T1.2.1 3 1 = H.2.1 55 51 := (hG1.2.2 3 1 (by unfold W_rz; omega)).trans a2
  have hR1 : T1.2.2 27 2 = some 3 := by rw [hG1.2.1]; exact hR
  have hP1 : PL 3 T1 H n pA := PL.l (PL.fr (p := .inl i) ⟨hT, hn⟩ hG1 hTN) (fun _ => rfl)
  have hn1 : T1.2.1 3 2 = (n : Int) := ((hG1.2.2 3 2 (by unfold W_rz; omega)).trans a3).trans hn
  have hD1 : T1.2.1 3 0 = H.2.1 85 4 := (hG1.2.2 3 0 (by unfold W_rz; omega)).trans a1
  have hak : akF b E 12 (.inl i) = .inr (1, (zP b E i : Int)) := if_neg (by rw [hK]; decide)
  have hq1 : ¬ False → stR b E H i = nuF b E 5 90 (flZ 1 (zP b E i : Int) (.inl (i + 1))) := fun _ => by
    unfold stR
    rw [hK]
    rw [if_neg (by decide), if_neg (by decide), if_neg (by decide), if_neg (by decide), if_neg (by decide), if_neg (by decide), if_neg (by decide), hak]
    rfl
  have hq2 : False → stR b E H i = .inr (5, (zP b E i : Int)) := fun h => h.elim
  refine am_iload_n (q := 44) rfl (am_tab tk_X4_readStatement 22 rfl) rfl ?_
  refine am_sipush (q := 47) (n := 128) (by decide) rfl (am_tab tk_X4_readStatement 23 rfl) rfl ?_
  refine am_icmp_ne (q := 50) (t := 54) (am_tab tk_X4_readStatement 24 rfl) (by decide) rfl (fun h47 => ?_) (fun h47 => ?_)
  · exact absurd rfl h47
  · refine am_iconst (q := 51) (n := 1) (by decide) (am_tab tk_X4_readStatement 25 rfl) rfl ?_
    refine am_goto (t := 55) (am_tab tk_X4_readStatement 26 rfl) (by decide) ?_
    refine am_aload_n (q := 56) rfl (am_tab tk_X4_readStatement 28 rfl) rfl ?_
    refine am_getR (q := 59) (a := 27) (k := 4) (n := 13) (j := 2) (r := some (3)) (Ls_27 hX1.1) (by decide) rfl (show T1.2.2 27 2 = some 3 by rw [hG1.2.1]; exact hR) (by decide) (Or.inl kf_X4_29) (am_tab tk_X4_readStatement 29 rfl) rfl ?_
    refine am_getI (q := 62) (a := 3) (k := 8) (n := 17) (j := 1) (x := (T1.2.1 3 1)) (Ls_3 hX1.1) (by decide) rfl rfl (by decide) (Or.inr kf_X4_52) (am_tab tk_X4_readStatement 30 rfl) rfl ?_
    refine am_if_ne (q := 65) (t := 69) (am_tab tk_X4_readStatement 31 rfl) (by decide) rfl (fun h62 => ?_) (fun h62 => ?_)
    · refine am_iconst (q := 70) (n := 0) (by decide) (am_tab tk_X4_readStatement 34 rfl) rfl ?_
      refine am_icmp_eq (q := 73) (t := 79) (am_tab tk_X4_readStatement 35 rfl) (by decide) rfl (fun h70 => ?_) (fun h70 => ?_)
      · exact absurd h70 (by decide)
      · refine am_aload_n (q := 74) rfl (am_tab tk_X4_readStatement 36 rfl) rfl ?_
        refine am_iconst (q := 75) (n := 1) (by decide) (am_tab tk_X4_readStatement 37 rfl) rfl ?_
        refine am_iload_n (q := 76) rfl (am_tab tk_X4_readStatement 38 rfl) rfl ?_
        refine am_callVr (q := 79) (me2 := M_X4_fail) (b := 27) (kb := 4) (nb := 13) (As := [am_i 1, am_i ((zP b E i : Int))]) (rest := []) (c_failY hX1 1 (zP b E i : Int) (by decide)) ⟨rfl, rfl⟩ (Ls_27 hX1.1) (by decide) ⟨Or.inl km_X4_58, kc_X4_fail, kn_X4, kd_X4_fail, ⟨(Nat.le_of_ble_eq_true rfl), (Nat.le_of_ble_eq_true rfl)⟩, ⟨(Nat.le_of_ble_eq_true rfl), (Nat.le_of_ble_eq_true rfl)⟩, (Nat.le_of_ble_eq_true rfl)⟩ ki_X4_fail ks_X4_fail rfl (am_tab tk_X4_readStatement 39 rfl) rfl ?_
        rintro r T2 ⟨rfl, hX2, hG⟩
        have hG2 := hG1.trans hG
        refine am_iload_n (q := 80) rfl (am_tab tk_X4_readStatement 40 rfl) rfl ?_
        refine am_tableIn (t := 148) (off := 68) (by omega) (by omega) rfl dsw_X4_readStatement_80 (by decide) ?_
        have hG21 := hG
        refine am_aload_n (q := 149) rfl (am_tab tk_X4_readStatement 42 rfl) rfl ?_
        refine am_getR (q := 152) (a := 27) (k := 4) (n := 13) (j := 2) (r := some (3)) (Ls_27 hX2.1) (by decide) rfl (show T2.2.2 27 2 = some 3 by rw [hG2.2.1]; exact hR) (by decide) (Or.inl kf_X4_29) (am_tab tk_X4_readStatement 43 rfl) rfl ?_
        refine am_aload_n (q := 153) rfl (am_tab tk_X4_readStatement 44 rfl) rfl ?_
        refine am_iconst (q := 154) (n := 5) (by decide) (am_tab tk_X4_readStatement 45 rfl) rfl ?_
        refine am_bipush (q := 156) (n := 90) (by decide) rfl (am_tab tk_X4_readStatement 46 rfl) rfl ?_
        refine am_callVr (q := 159) (me2 := M_X4_readNumber) (b := 27) (kb := 4) (nb := 13) (As := [am_i 5, am_i 90]) (rest := [am_r 3]) (c_numZ hX2 5 90) ⟨rfl, rfl⟩ (Ls_27 hX2.1) (by decide) ⟨Or.inl km_X4_111, kc_X4_readNumber, kn_X4, kd_X4_readNumber, ⟨(Nat.le_of_ble_eq_true rfl), (Nat.le_of_ble_eq_true rfl)⟩, ⟨(Nat.le_of_ble_eq_true rfl), (Nat.le_of_ble_eq_true rfl)⟩, (Nat.le_of_ble_eq_true rfl)⟩ ki_X4_readNumber ks_X4_readNumber rfl (am_tab tk_X4_readStatement 47 rfl) rfl ?_
        rintro r T3 ⟨v3, rfl, hX3, hG, hv3⟩
        have hG3 := hG2.trans hG
        have hY : frw W_rz T1 T3 := hG21.trans hG
        have hFy : frw (W_tn 3) T1 (am_setN T3 3 0 v3) := (hY.mono (fun a j h => Or.inr h)).setN (Or.inl (by omega))
        have hXz : RY b E cv M (am_setN T3 3 0 v3) (nuF b E 5 90 (flZ 1 (zP b E i : Int) (pA))) := hX3.fr ((frw.refl (fun a _ => a = 3) T3).setN rfl) (fun a j h => by omega)
        refine am_putI (q := 162) (k := 8) (n := 17) (j := 0) (Ls_3 hX3.1) (by decide) rfl (by decide) (Or.inr (Or.inl ⟨kf_X4_115, rfl⟩)) (am_tab tk_X4_readStatement 48 rfl) rfl ?_
        refine am_goto (t := 280) (am_tab tk_X4_readStatement 49 rfl) (by decide) ?_
        have hFz : frw (W_tn 3) T1 (am_setN T3 3 0 v3) := hFy
        have hRz : (am_setN T3 3 0 v3).2.2 27 2 = some 3 := by rw [hFz.2.1]; exact hR1
        have hez : (am_setN T3 3 0 v3).2.1 3 1 = H.2.1 55 51 := (hFz.2.2 3 1 (by unfold W_tn W_rz; omega)).trans hs1
        refine am_less (by intro q hq; simp only [List.mem_cons, List.not_mem_nil, or_false] at hq; rcases hq with rfl | rfl | rfl <;> simp) (st_tail_3_0 b E cv M (nuF b E 5 90 (flZ 1 (zP b E i : Int) (pA))) (am_setN T3 3 0 v3) hXz hRz (by omega) 128 (zP b E i : Int) Q (fun r τ hτ => hQ r τ ?_))
        obtain ⟨rfl, hXt, hFt⟩ := hτ
        have hp := st_post (G := fun p => nuF b E 5 90 (flZ 1 (zP b E i : Int) p)) (Or.inl rfl) hT (fun e => rfl) hc (fun h1 h2 => by rw [h1] at h2; exact absurd (show false = true from h2) (by decide)) hG1 hFz hFt
        have he : sgF b E 59 ((fun p => nuF b E 5 90 (flZ 1 (zP b E i : Int) p)) pA) = stF b E H i := st_eq (G := fun p => nuF b E 5 90 (flZ 1 (zP b E i : Int) p)) (fun e => rfl) hc (by omega) hq1 hq2
        rw [he] at hp
        exact ⟨rfl, (by rw [← he]; exact hXt), hp⟩
    · exact absurd h62 (by omega)
set_option maxRecDepth 100000 in
theorem c_st_other_3 (b : Nat → Int) (E : Nat) (cv : Nat → Int) (M : Nat) (i : Nat) (σ H : am_H) (hX : RY b E cv M σ (.inl i)) (hR : σ.2.2 27 2 = some 3) (hT : TRr 3 σ H) (hRR : RRr 3 σ H) (hTW : TWI H i) (hs0 : 1 ≤ H.2.1 55 51) (hK : zK b E i = (zK b E i)) (hb : ¬ zK b E i = 6 ∧ ¬ zK b E i = 128 ∧ ¬ zK b E i = 129 ∧ ¬ zK b E i = 132 ∧ ¬ zK b E i = 134 ∧ ¬ zK b E i = 135 ∧ ¬ zK b E i = 137 ∧ ¬ zK b E i = 138 ∧ ¬ zK b E i = 139 ∧ ¬ zK b E i = 140) : am_met (M_X4_readStatement 0 0) [am_r 27] σ (fun r σ' => r = none ∧ RY b E cv M σ' (stF b E H i) ∧ ((stF b E H i).isLeft = true → TRr 3 σ' (stH b E H i)) ∧ frw (W_ts 3) σ σ') := by
  refine am_qq (fun Q hQ => ?_)
  refine am_enter (show plainFor yX4_readStatement = true by decide +kernel) rfl (Nat.le_of_ble_eq_true rfl) (fun _ _ _ => trivial) ?_
  obtain ⟨⟨a1, a2, a3, a4, a5, a6, a7, a8⟩, _⟩ := id hT
  obtain ⟨n, hn⟩ := Int.eq_ofNat_of_zero_le hTW.1.1
  have hw0 := hTW.1
  have hw1 := hTW.2.1
  have hw2 := hTW.2.2.1
  have hw3 := hTW.2.2.2.1
  have hw4 := hTW.2.2.2.2.1
  have hw6 := hTW.2.2.2.2.2.2
  refine st_head_3_0 b E cv M i σ hX hR (zK b E i) hK (by omega) Q (fun pA T1 hX1 hG1 hc0 => ?_)
  have hc : HC b E i (False) (H.2.1 55 51) pA := HC.iff hc0 (by exact ⟨fun h => by omega, False.elim⟩) a2
  have hTN : ∀ a j, 3 ≤ a ∧ a ≤ 3 + 7 → ¬ W_rz a j := fun a j h => by unfold W_rz; omega
  have hs1 : T1.2.1 3 1 = H.2.1 55 51 := (hG1.2.2 3 1 (by unfold W_rz; omega)).trans a2
  have hR1 : T1.2.2 27 2 = some 3 := by rw [hG1.2.1]; exact hR
  have hP1 : PL 3 T1 H n pA := PL.l (PL.fr (p := .inl i) ⟨hT, hn⟩ hG1 hTN) (fun _ => rfl)
  have hn1 : T1.2.1 3 2 = (n : Int) := ((hG1.2.2 3 2 (by unfold W_rz; omega)).trans a3).trans hn
  have hD1 : T1.2.1 3 0 = H.2.1 85 4 := (hG1.2.2 3 0 (by unfold W_rz; omega)).trans a1
  have hXz0 := hX1
  have hak : akF b E 12 (.inl i) = .inr (1, (zP b E i : Int)) := if_neg (by show ¬ zK b E i = 140; omega)
  have hq1 : ¬ False → stR b E H i = flZ 1 (zP b E i : Int) (.inl (i + 1)) := fun _ => by
    unfold stR
    rw [if_neg (by omega), if_neg (by omega), if_neg (by omega), if_neg (by omega), if_neg (by omega), if_neg (by omega), if_neg (by omega), hak]
    rfl
  have hq2 : False → stR b E H i = .inr (5, (zP b E i : Int)) := fun h => h.elim
  refine am_iload_n (q := 44) rfl (am_tab tk_X4_readStatement 22 rfl) rfl ?_
  refine am_sipush (q := 47) (n := 128) (by decide) rfl (am_tab tk_X4_readStatement 23 rfl) rfl ?_
  refine am_icmp_ne (q := 50) (t := 54) (am_tab tk_X4_readStatement 24 rfl) (by decide) rfl (fun h47 => ?_) (fun h47 => ?_)
  · refine am_iconst (q := 55) (n := 0) (by decide) (am_tab tk_X4_readStatement 27 rfl) rfl ?_
    refine am_aload_n (q := 56) rfl (am_tab tk_X4_readStatement 28 rfl) rfl ?_
    refine am_getR (q := 59) (a := 27) (k := 4) (n := 13) (j := 2) (r := some (3)) (Ls_27 hX1.1) (by decide) rfl (show T1.2.2 27 2 = some 3 by rw [hG1.2.1]; exact hR) (by decide) (Or.inl kf_X4_29) (am_tab tk_X4_readStatement 29 rfl) rfl ?_
    refine am_getI (q := 62) (a := 3) (k := 8) (n := 17) (j := 1) (x := (T1.2.1 3 1)) (Ls_3 hX1.1) (by decide) rfl rfl (by decide) (Or.inr kf_X4_52) (am_tab tk_X4_readStatement 30 rfl) rfl ?_
    refine am_if_ne (q := 65) (t := 69) (am_tab tk_X4_readStatement 31 rfl) (by decide) rfl (fun h62 => ?_) (fun h62 => ?_)
    · refine am_iconst (q := 70) (n := 0) (by decide) (am_tab tk_X4_readStatement 34 rfl) rfl ?_
      refine am_icmp_eq (q := 73) (t := 79) (am_tab tk_X4_readStatement 35 rfl) (by decide) rfl (fun h70 => ?_) (fun h70 => ?_)
      · refine am_iload_n (q := 80) rfl (am_tab tk_X4_readStatement 40 rfl) rfl ?_
        rcases (show (zK b E i) = 128 ∨ (zK b E i) = 129 ∨ (zK b E i) = 130 ∨ (zK b E i) = 131 ∨ (zK b E i) = 132 ∨ (zK b E i) = 133 ∨ (zK b E i) = 134 ∨ (zK b E i) = 135 ∨ (zK b E i) = 136 ∨ (zK b E i) = 137 ∨ (zK b E i) = 138 ∨ (zK b E i) = 139 ∨ (zK b E i) = 140 ∨ ((zK b E i) < 128 ∨ 140 < (zK b E i)) by omega) with e80 | e80 | e80 | e80 | e80 | e80 | e80 | e80 | e80 | e80 | e80 | e80 | e80 | e80
        · refine am_tableIn (t := 148) (off := 68) (by omega) (by omega) (by rw [e80]; rfl) dsw_X4_readStatement_80 (by decide) ?_
          exact absurd e80 (by omega)
        · refine am_tableIn (t := 165) (off := 85) (by omega) (by omega) (by rw [e80]; rfl) dsw_X4_readStatement_80 (by decide) ?_
          exact absurd e80 (by omega)
        · refine am_tableIn (t := 274) (off := 194) (by omega) (by omega) (by rw [e80]; rfl) dsw_X4_readStatement_80 (by decide) ?_
          refine am_aload_n (q := 275) rfl (am_tab tk_X4_readStatement 100 rfl) rfl ?_
          refine am_iconst (q := 276) (n := 1) (by decide) (am_tab tk_X4_readStatement 101 rfl) rfl ?_
          refine am_iload_n (q := 277) rfl (am_tab tk_X4_readStatement 102 rfl) rfl ?_
          refine am_callVr (q := 280) (me2 := M_X4_fail) (b := 27) (kb := 4) (nb := 13) (As := [am_i 1, am_i ((zP b E i : Int))]) (rest := []) (c_failY hX1 1 (zP b E i : Int) (by decide)) ⟨rfl, rfl⟩ (Ls_27 hX1.1) (by decide) ⟨Or.inl km_X4_58, kc_X4_fail, kn_X4, kd_X4_fail, ⟨(Nat.le_of_ble_eq_true rfl), (Nat.le_of_ble_eq_true rfl)⟩, ⟨(Nat.le_of_ble_eq_true rfl), (Nat.le_of_ble_eq_true rfl)⟩, (Nat.le_of_ble_eq_true rfl)⟩ ki_X4_fail ks_X4_fail rfl (am_tab tk_X4_readStatement 103 rfl) rfl ?_
          rintro r T2 ⟨rfl, hX2, hG⟩
          have hG2 := hG1.trans hG
          have hXz := hX2
          have hFz : frw (W_tn 3) T1 T2 := hG.mono (fun a j h => Or.inr h)
          have hRz : T2.2.2 27 2 = some 3 := by rw [hFz.2.1]; exact hR1
          have hez : T2.2.1 3 1 = H.2.1 55 51 := (hFz.2.2 3 1 (by unfold W_tn W_rz; omega)).trans hs1
          refine am_less (by intro q hq; simp only [List.mem_cons, List.not_mem_nil, or_false] at hq; rcases hq with rfl | rfl | rfl <;> simp) (st_tail_3_0 b E cv M (flZ 1 (zP b E i : Int) pA) T2 hXz hRz (by omega) (zK b E i) (zP b E i : Int) Q (fun r τ hτ => hQ r τ ?_))
          obtain ⟨rfl, hXt, hFt⟩ := hτ
          have hp := st_post (G := fun p => flZ 1 (zP b E i : Int) p) (Or.inl rfl) hT (fun e => rfl) hc (fun h1 h2 => by rw [h1] at h2; exact absurd (show false = true from h2) (by decide)) hG1 hFz hFt
          have he : sgF b E 59 ((fun p => flZ 1 (zP b E i : Int) p) pA) = stF b E H i := st_eq (G := fun p => flZ 1 (zP b E i : Int) p) (fun e => rfl) hc (by omega) hq1 hq2
          rw [he] at hp
          exact ⟨rfl, (by rw [← he]; exact hXt), hp⟩
        · refine am_tableIn (t := 274) (off := 194) (by omega) (by omega) (by rw [e80]; rfl) dsw_X4_readStatement_80 (by decide) ?_
          refine am_aload_n (q := 275) rfl (am_tab tk_X4_readStatement 100 rfl) rfl ?_
          refine am_iconst (q := 276) (n := 1) (by decide) (am_tab tk_X4_readStatement 101 rfl) rfl ?_
          refine am_iload_n (q := 277) rfl (am_tab tk_X4_readStatement 102 rfl) rfl ?_
          refine am_callVr (q := 280) (me2 := M_X4_fail) (b := 27) (kb := 4) (nb := 13) (As := [am_i 1, am_i ((zP b E i : Int))]) (rest := []) (c_failY hX1 1 (zP b E i : Int) (by decide)) ⟨rfl, rfl⟩ (Ls_27 hX1.1) (by decide) ⟨Or.inl km_X4_58, kc_X4_fail, kn_X4, kd_X4_fail, ⟨(Nat.le_of_ble_eq_true rfl), (Nat.le_of_ble_eq_true rfl)⟩, ⟨(Nat.le_of_ble_eq_true rfl), (Nat.le_of_ble_eq_true rfl)⟩, (Nat.le_of_ble_eq_true rfl)⟩ ki_X4_fail ks_X4_fail rfl (am_tab tk_X4_readStatement 103 rfl) rfl ?_
          rintro r T2 ⟨rfl, hX2, hG⟩
          have hG2 := hG1.trans hG
          have hXz := hX2
          have hFz : frw (W_tn 3) T1 T2 := hG.mono (fun a j h => Or.inr h)
          have hRz : T2.2.2 27 2 = some 3 := by rw [hFz.2.1]; exact hR1
          have hez : T2.2.1 3 1 = H.2.1 55 51 := (hFz.2.2 3 1 (by unfold W_tn W_rz; omega)).trans hs1
          refine am_less (by intro q hq; simp only [List.mem_cons, List.not_mem_nil, or_false] at hq; rcases hq with rfl | rfl | rfl <;> simp) (st_tail_3_0 b E cv M (flZ 1 (zP b E i : Int) pA) T2 hXz hRz (by omega) (zK b E i) (zP b E i : Int) Q (fun r τ hτ => hQ r τ ?_))
          obtain ⟨rfl, hXt, hFt⟩ := hτ
          have hp := st_post (G := fun p => flZ 1 (zP b E i : Int) p) (Or.inl rfl) hT (fun e => rfl) hc (fun h1 h2 => by rw [h1] at h2; exact absurd (show false = true from h2) (by decide)) hG1 hFz hFt
          have he : sgF b E 59 ((fun p => flZ 1 (zP b E i : Int) p) pA) = stF b E H i := st_eq (G := fun p => flZ 1 (zP b E i : Int) p) (fun e => rfl) hc (by omega) hq1 hq2
          rw [he] at hp
          exact ⟨rfl, (by rw [← he]; exact hXt), hp⟩
        · refine am_tableIn (t := 172) (off := 92) (by omega) (by omega) (by rw [e80]; rfl) dsw_X4_readStatement_80 (by decide) ?_
          exact absurd e80 (by omega)
        · refine am_tableIn (t := 274) (off := 194) (by omega) (by omega) (by rw [e80]; rfl) dsw_X4_readStatement_80 (by decide) ?_
          refine am_aload_n (q := 275) rfl (am_tab tk_X4_readStatement 100 rfl) rfl ?_
          refine am_iconst (q := 276) (n := 1) (by decide) (am_tab tk_X4_readStatement 101 rfl) rfl ?_
          refine am_iload_n (q := 277) rfl (am_tab tk_X4_readStatement 102 rfl) rfl ?_
          refine am_callVr (q := 280) (me2 := M_X4_fail) (b := 27) (kb := 4) (nb := 13) (As := [am_i 1, am_i ((zP b E i : Int))]) (rest := []) (c_failY hX1 1 (zP b E i : Int) (by decide)) ⟨rfl, rfl⟩ (Ls_27 hX1.1) (by decide) ⟨Or.inl km_X4_58, kc_X4_fail, kn_X4, kd_X4_fail, ⟨(Nat.le_of_ble_eq_true rfl), (Nat.le_of_ble_eq_true rfl)⟩, ⟨(Nat.le_of_ble_eq_true rfl), (Nat.le_of_ble_eq_true rfl)⟩, (Nat.le_of_ble_eq_true rfl)⟩ ki_X4_fail ks_X4_fail rfl (am_tab tk_X4_readStatement 103 rfl) rfl ?_
          rintro r T2 ⟨rfl, hX2, hG⟩
          have hG2 := hG1.trans hG
          have hXz := hX2
          have hFz : frw (W_tn 3) T1 T2 := hG.mono (fun a j h => Or.inr h)
          have hRz : T2.2.2 27 2 = some 3 := by rw [hFz.2.1]; exact hR1
          have hez : T2.2.1 3 1 = H.2.1 55 51 := (hFz.2.2 3 1 (by unfold W_tn W_rz; omega)).trans hs1
          refine am_less (by intro q hq; simp only [List.mem_cons, List.not_mem_nil, or_false] at hq; rcases hq with rfl | rfl | rfl <;> simp) (st_tail_3_0 b E cv M (flZ 1 (zP b E i : Int) pA) T2 hXz hRz (by omega) (zK b E i) (zP b E i : Int) Q (fun r τ hτ => hQ r τ ?_))
          obtain ⟨rfl, hXt, hFt⟩ := hτ
          have hp := st_post (G := fun p => flZ 1 (zP b E i : Int) p) (Or.inl rfl) hT (fun e => rfl) hc (fun h1 h2 => by rw [h1] at h2; exact absurd (show false = true from h2) (by decide)) hG1 hFz hFt
          have he : sgF b E 59 ((fun p => flZ 1 (zP b E i : Int) p) pA) = stF b E H i := st_eq (G := fun p => flZ 1 (zP b E i : Int) p) (fun e => rfl) hc (by omega) hq1 hq2
          rw [he] at hp
          exact ⟨rfl, (by rw [← he]; exact hXt), hp⟩
        · refine am_tableIn (t := 179) (off := 99) (by omega) (by omega) (by rw [e80]; rfl) dsw_X4_readStatement_80 (by decide) ?_
          exact absurd e80 (by omega)
        · refine am_tableIn (t := 186) (off := 106) (by omega) (by omega) (by rw [e80]; rfl) dsw_X4_readStatement_80 (by decide) ?_
          exact absurd e80 (by omega)
        · refine am_tableIn (t := 274) (off := 194) (by omega) (by omega) (by rw [e80]; rfl) dsw_X4_readStatement_80 (by decide) ?_
          refine am_aload_n (q := 275) rfl (am_tab tk_X4_readStatement 100 rfl) rfl ?_
          refine am_iconst (q := 276) (n := 1) (by decide) (am_tab tk_X4_readStatement 101 rfl) rfl ?_
          refine am_iload_n (q := 277) rfl (am_tab tk_X4_readStatement 102 rfl) rfl ?_
          refine am_callVr (q := 280) (me2 := M_X4_fail) (b := 27) (kb := 4) (nb := 13) (As := [am_i 1, am_i ((zP b E i : Int))]) (rest := []) (c_failY hX1 1 (zP b E i : Int) (by decide)) ⟨rfl, rfl⟩ (Ls_27 hX1.1) (by decide) ⟨Or.inl km_X4_58, kc_X4_fail, kn_X4, kd_X4_fail, ⟨(Nat.le_of_ble_eq_true rfl), (Nat.le_of_ble_eq_true rfl)⟩, ⟨(Nat.le_of_ble_eq_true rfl), (Nat.le_of_ble_eq_true rfl)⟩, (Nat.le_of_ble_eq_true rfl)⟩ ki_X4_fail ks_X4_fail rfl (am_tab tk_X4_readStatement 103 rfl) rfl ?_
          rintro r T2 ⟨rfl, hX2, hG⟩
          have hG2 := hG1.trans hG
          have hXz := hX2
          have hFz : frw (W_tn 3) T1 T2 := hG.mono (fun a j h => Or.inr h)
          have hRz : T2.2.2 27 2 = some 3 := by rw [hFz.2.1]; exact hR1
          have hez : T2.2.1 3 1 = H.2.1 55 51 := (hFz.2.2 3 1 (by unfold W_tn W_rz; omega)).trans hs1
          refine am_less (by intro q hq; simp only [List.mem_cons, List.not_mem_nil, or_false] at hq; rcases hq with rfl | rfl | rfl <;> simp) (st_tail_3_0 b E cv M (flZ 1 (zP b E i : Int) pA) T2 hXz hRz (by omega) (zK b E i) (zP b E i : Int) Q (fun r τ hτ => hQ r τ ?_))
          obtain ⟨rfl, hXt, hFt⟩ := hτ
          have hp := st_post (G := fun p => flZ 1 (zP b E i : Int) p) (Or.inl rfl) hT (fun e => rfl) hc (fun h1 h2 => by rw [h1] at h2; exact absurd (show false = true from h2) (by decide)) hG1 hFz hFt
          have he : sgF b E 59 ((fun p => flZ 1 (zP b E i : Int) p) pA) = stF b E H i := st_eq (G := fun p => flZ 1 (zP b E i : Int) p) (fun e => rfl) hc (by omega) hq1 hq2
          rw [he] at hp
          exact ⟨rfl, (by rw [← he]; exact hXt), hp⟩
        · refine am_tableIn (t := 193) (off := 113) (by omega) (by omega) (by rw [e80]; rfl) dsw_X4_readStatement_80 (by decide) ?_
          exact absurd e80 (by omega)
        · refine am_tableIn (t := 193) (off := 113) (by omega) (by omega) (by rw [e80]; rfl) dsw_X4_readStatement_80 (by decide) ?_
          exact absurd e80 (by omega)
        · refine am_tableIn (t := 239) (off := 159) (by omega) (by omega) (by rw [e80]; rfl) dsw_X4_readStatement_80 (by decide) ?_
          exact absurd e80 (by omega)
        · refine am_tableIn (t := 256) (off := 176) (by omega) (by omega) (by rw [e80]; rfl) dsw_X4_readStatement_80 (by decide) ?_
          exact absurd e80 (by omega)
        · refine am_tableOut (t := 274) e80 dsw_X4_readStatement_80 (by decide) ?_
          refine am_aload_n (q := 275) rfl (am_tab tk_X4_readStatement 100 rfl) rfl ?_
          refine am_iconst (q := 276) (n := 1) (by decide) (am_tab tk_X4_readStatement 101 rfl) rfl ?_
          refine am_iload_n (q := 277) rfl (am_tab tk_X4_readStatement 102 rfl) rfl ?_
          refine am_callVr (q := 280) (me2 := M_X4_fail) (b := 27) (kb := 4) (nb := 13) (As := [am_i 1, am_i ((zP b E i : Int))]) (rest := []) (c_failY hX1 1 (zP b E i : Int) (by decide)) ⟨rfl, rfl⟩ (Ls_27 hX1.1) (by decide) ⟨Or.inl km_X4_58, kc_X4_fail, kn_X4, kd_X4_fail, ⟨(Nat.le_of_ble_eq_true rfl), (Nat.le_of_ble_eq_true rfl)⟩, ⟨(Nat.le_of_ble_eq_true rfl), (Nat.le_of_ble_eq_true rfl)⟩, (Nat.le_of_ble_eq_true rfl)⟩ ki_X4_fail ks_X4_fail rfl (am_tab tk_X4_readStatement 103 rfl) rfl ?_
          rintro r T2 ⟨rfl, hX2, hG⟩
          have hG2 := hG1.trans hG
          have hXz := hX2
          have hFz : frw (W_tn 3) T1 T2 := hG.mono (fun a j h => Or.inr h)
          have hRz : T2.2.2 27 2 = some 3 := by rw [hFz.2.1]; exact hR1
          have hez : T2.2.1 3 1 = H.2.1 55 51 := (hFz.2.2 3 1 (by unfold W_tn W_rz; omega)).trans hs1
          refine am_less (by intro q hq; simp only [List.mem_cons, List.not_mem_nil, or_false] at hq; rcases hq with rfl | rfl | rfl <;> simp) (st_tail_3_0 b E cv M (flZ 1 (zP b E i : Int) pA) T2 hXz hRz (by omega) (zK b E i) (zP b E i : Int) Q (fun r τ hτ => hQ r τ ?_))
          obtain ⟨rfl, hXt, hFt⟩ := hτ
          have hp := st_post (G := fun p => flZ 1 (zP b E i : Int) p) (Or.inl rfl) hT (fun e => rfl) hc (fun h1 h2 => by rw [h1] at h2; exact absurd (show false = true from h2) (by decide)) hG1 hFz hFt
          have he : sgF b E 59 ((fun p => flZ 1 (zP b E i : Int) p) pA) = stF b E H i := st_eq (G := fun p => flZ 1 (zP b E i : Int) p) (fun e => rfl) hc (by omega) hq1 hq2
          rw [he] at hp
          exact ⟨rfl, (by rw [← he]; exact hXt), hp⟩
      · exact absurd rfl h70
    · exact absurd h62 (by omega)
  · exact absurd h47 (by omega)
set_option maxRecDepth 100000 in
theorem c_st_slips_15 (b : Nat → Int) (E : Nat) (cv : Nat → Int) (M : Nat) (i : Nat) (σ H : am_H) (hX : RY b E cv M σ (.inl i)) (hR : σ.2.2 27 2 = some 15) (hT : TRr 15 σ H) (hRR : RRr 15 σ H) (hTW : TWI H i) (hs0 : 1 ≤ H.2.1 55 51) (hK : zK b E i = 139) : am_met (M_X4_readStatement 0 0) [am_r 27] σ (fun r σ' => r = none ∧ RY b E cv M σ' (stF b E H i) ∧ ((stF b E H i).isLeft = true → TRr 15 σ' (stH b E H i)) ∧ frw (W_ts 15) σ σ') := by
  refine am_qq (fun Q hQ => ?_)
  refine am_enter (show plainFor yX4_readStatement = true by decide +kernel) rfl (Nat.le_of_ble_eq_true rfl) (fun _ _ _ => trivial) ?_
  obtain ⟨⟨a1, a2, a3, a4, a5, a6, a7, a8⟩, _⟩ := id hT
  obtain ⟨n, hn⟩ := Int.eq_ofNat_of_zero_le hTW.1.1
  have hw0 := hTW.1
  have hw1 := hTW.2.1
  have hw2 := hTW.2.2.1
  have hw3 := hTW.2.2.2.1
  have hw4 := hTW.2.2.2.2.1
  have hw6 := hTW.2.2.2.2.2.2
  refine st_head_15_0 b E cv M i σ hX hR 139 hK (by omega) Q (fun pA T1 hX1 hG1 hc0 => ?_)
  have hc : HC b E i (False) (H.2.1 55 51) pA := HC.iff hc0 (by exact ⟨fun h => by omega, False.elim⟩) a2
  have hTN : ∀ a j, 15 ≤ a ∧ a ≤ 15 + 7 → ¬ W_rz a j := fun a j h => by unfold W_rz; omega
  have hs1 : T1.2.1 15 1 = H.2.1 55 51 := (hG1.2.2 15 1 (by unfold W_rz; omega)).trans a2
  have hR1 : T1.2.2 27 2 = some 15 := by rw [hG1.2.1]; exact hR
  have hP1 : PL 15 T1 H n pA := PL.l (PL.fr (p := .inl i) ⟨hT, hn⟩ hG1 hTN) (fun _ => rfl)
  have hn1 : T1.2.1 15 2 = (n : Int) := ((hG1.2.2 15 2 (by unfold W_rz; omega)).trans a3).trans hn
  have hD1 : T1.2.1 15 0 = H.2.1 85 4 := (hG1.2.2 15 0 (by unfold W_rz; omega)).trans a1
  have hqG : stG b E H i = am_setN H 92 0 (zV b E (i + 1)) := by unfold stG; rw [hK]; rw [if_neg (by decide), if_neg (by decide), if_neg (by decide), if_neg (by decide), if_neg (by decide), if_neg (by decide), if_pos rfl]
  have hq1 : ¬ False → stR b E H i = nuF b E 0 100 (.inl (i + 1)) := fun _ => by unfold stR; rw [hK]; rw [if_neg (by decide), if_neg (by decide), if_neg (by decide), if_neg (by decide), if_neg (by decide), if_neg (by decide), if_pos rfl]
  have hq2 : False → stR b E H i = .inr (5, (zP b E i : Int)) := fun h => h.elim
  refine am_iload_n (q := 44) rfl (am_tab tk_X4_readStatement 22 rfl) rfl ?_
  refine am_sipush (q := 47) (n := 128) (by decide) rfl (am_tab tk_X4_readStatement 23 rfl) rfl ?_
  refine am_icmp_ne (q := 50) (t := 54) (am_tab tk_X4_readStatement 24 rfl) (by decide) rfl (fun h47 => ?_) (fun h47 => ?_)
  · refine am_iconst (q := 55) (n := 0) (by decide) (am_tab tk_X4_readStatement 27 rfl) rfl ?_
    refine am_aload_n (q := 56) rfl (am_tab tk_X4_readStatement 28 rfl) rfl ?_
    refine am_getR (q := 59) (a := 27) (k := 4) (n := 13) (j := 2) (r := some (15)) (Ls_27 hX1.1) (by decide) rfl (show T1.2.2 27 2 = some 15 by rw [hG1.2.1]; exact hR) (by decide) (Or.inl kf_X4_29) (am_tab tk_X4_readStatement 29 rfl) rfl ?_
    refine am_getI (q := 62) (a := 15) (k := 8) (n := 17) (j := 1) (x := (T1.2.1 15 1)) (Ls_15 hX1.1) (by decide) rfl rfl (by decide) (Or.inr kf_X4_52) (am_tab tk_X4_readStatement 30 rfl) rfl ?_
    refine am_if_ne (q := 65) (t := 69) (am_tab tk_X4_readStatement 31 rfl) (by decide) rfl (fun h62 => ?_) (fun h62 => ?_)
    · refine am_iconst (q := 70) (n := 0) (by decide) (am_tab tk_X4_readStatement 34 rfl) rfl ?_
      refine am_icmp_eq (q := 73) (t := 79) (am_tab tk_X4_readStatement 35 rfl) (by decide) rfl (fun h70 => ?_) (fun h70 => ?_)
      · refine am_iload_n (q := 80) rfl (am_tab tk_X4_readStatement 40 rfl) rfl ?_
        refine am_tableIn (t := 239) (off := 159) (by omega) (by omega) rfl dsw_X4_readStatement_80 (by decide) ?_
        refine am_aload_n (q := 240) rfl (am_tab tk_X4_readStatement 84 rfl) rfl ?_
        refine am_getR (q := 243) (a := 27) (k := 4) (n := 13) (j := 2) (r := some (15)) (Ls_27 hX1.1) (by decide) rfl (show T1.2.2 27 2 = some 15 by rw [hG1.2.1]; exact hR) (by decide) (Or.inl kf_X4_29) (am_tab tk_X4_readStatement 85 rfl) rfl ?_
        refine am_aload_n (q := 244) rfl (am_tab tk_X4_readStatement 86 rfl) rfl ?_
        refine am_iconst (q := 245) (n := 0) (by decide) (am_tab tk_X4_readStatement 87 rfl) rfl ?_
        refine am_bipush (q := 247) (n := 100) (by decide) rfl (am_tab tk_X4_readStatement 88 rfl) rfl ?_
        refine am_callVr (q := 250) (me2 := M_X4_readNumber) (b := 27) (kb := 4) (nb := 13) (As := [am_i 0, am_i 100]) (rest := [am_r 15]) (c_numZ hX1 0 100) ⟨rfl, rfl⟩ (Ls_27 hX1.1) (by decide) ⟨Or.inl km_X4_111, kc_X4_readNumber, kn_X4, kd_X4_readNumber, ⟨(Nat.le_of_ble_eq_true rfl), (Nat.le_of_ble_eq_true rfl)⟩, ⟨(Nat.le_of_ble_eq_true rfl), (Nat.le_of_ble_eq_true rfl)⟩, (Nat.le_of_ble_eq_true rfl)⟩ ki_X4_readNumber ks_X4_readNumber rfl (am_tab tk_X4_readStatement 89 rfl) rfl ?_
        rintro r T2 ⟨v2, rfl, hX2, hG, hv2⟩
        have hG2 := hG1.trans hG
        have hFy : frw (W_tn 15) T1 (am_setN T2 15 6 v2) := (hG.mono (fun a j h => Or.inr h)).setN (Or.inl (by omega))
        have hXz : RY b E cv M (am_setN T2 15 6 v2) (nuF b E 0 100 (pA)) := hX2.fr ((frw.refl (fun a _ => a = 15) T2).setN rfl) (fun a j h => by omega)
        refine am_putI (q := 253) (k := 8) (n := 17) (j := 6) (Ls_15 hX2.1) (by decide) rfl (by decide) (Or.inr (Or.inl ⟨kf_X4_141, rfl⟩)) (am_tab tk_X4_readStatement 90 rfl) rfl ?_
        refine am_goto (t := 280) (am_tab tk_X4_readStatement 91 rfl) (by decide) ?_
        have hFz : frw (W_tn 15) T1 (am_setN T2 15 6 v2) := hFy
        have hRz : (am_setN T2 15 6 v2).2.2 27 2 = some 15 := by rw [hFz.2.1]; exact hR1
        have hez : (am_setN T2 15 6 v2).2.1 15 1 = H.2.1 55 51 := (hFz.2.2 15 1 (by unfold W_tn W_rz; omega)).trans hs1
        refine am_less (by intro q hq; simp only [List.mem_cons, List.not_mem_nil, or_false] at hq; rcases hq with rfl | rfl | rfl <;> simp) (st_tail_15_0 b E cv M (nuF b E 0 100 (pA)) (am_setN T2 15 6 v2) hXz hRz (by omega) 139 (zP b E i : Int) Q (fun r τ hτ => hQ r τ ?_))
        obtain ⟨rfl, hXt, hFt⟩ := hτ
        have hp := st_post (G := fun p => nuF b E 0 100 p) (Or.inr rfl) hT (fun e => rfl) hc (fun h1 h2 => by rw [hqG, ← show v2 = zV b E (i + 1) from (hv2 h2).trans (by rw [h1]; rfl)]; exact TRr.s6 (Or.inr rfl) (hT.fr hG2 hTN) v2) hG1 hFz hFt
        have he : sgF b E 59 ((fun p => nuF b E 0 100 p) pA) = stF b E H i := st_eq (G := fun p => nuF b E 0 100 p) (fun e => rfl) hc (by omega) hq1 hq2
        rw [he] at hp
        exact ⟨rfl, (by rw [← he]; exact hXt), hp⟩
      · exact absurd rfl h70
    · exact absurd h62 (by omega)
  · exact absurd h47 (by decide)
set_option maxRecDepth 100000 in
theorem c_st_mortal_15 (b : Nat → Int) (E : Nat) (cv : Nat → Int) (M : Nat) (i : Nat) (σ H : am_H) (hX : RY b E cv M σ (.inl i)) (hR : σ.2.2 27 2 = some 15) (hT : TRr 15 σ H) (hRR : RRr 15 σ H) (hTW : TWI H i) (hs0 : 1 ≤ H.2.1 55 51) (hK : zK b E i = 140) : am_met (M_X4_readStatement 0 0) [am_r 27] σ (fun r σ' => r = none ∧ RY b E cv M σ' (stF b E H i) ∧ ((stF b E H i).isLeft = true → TRr 15 σ' (stH b E H i)) ∧ frw (W_ts 15) σ σ') := by
  refine am_qq (fun Q hQ => ?_)
  refine am_enter (show plainFor yX4_readStatement = true by decide +kernel) rfl (Nat.le_of_ble_eq_true rfl) (fun _ _ _ => trivial) ?_
  obtain ⟨⟨a1, a2, a3, a4, a5, a6, a7, a8⟩, _⟩ := id hT
  obtain ⟨n, hn⟩ := Int.eq_ofNat_of_zero_le hTW.1.1
  have hw0 := hTW.1
  have hw1 := hTW.2.1
  have hw2 := hTW.2.2.1
  have hw3 := hTW.2.2.2.1
  have hw4 := hTW.2.2.2.2.1
  have hw6 := hTW.2.2.2.2.2.2
  refine st_head_15_0 b E cv M i σ hX hR 140 hK (by omega) Q (fun pA T1 hX1 hG1 hc0 => ?_)
  have hc : HC b E i (False) (H.2.1 55 51) pA := HC.iff hc0 (by exact ⟨fun h => by omega, False.elim⟩) a2
  have hTN : ∀ a j, 15 ≤ a ∧ a ≤ 15 + 7 → ¬ W_rz a j := fun a j h => by unfold W_rz; omega
  have hs1 : T1.2.1 15 1 = H.2.1 55 51 := (hG1.2.2 15 1 (by unfold W_rz; omega)).trans a2
  have hR1 : T1.2.2 27 2 = some 15 := by rw [hG1.2.1]; exact hR
  have hP1 : PL 15 T1 H n pA := PL.l (PL.fr (p := .inl i) ⟨hT, hn⟩ hG1 hTN) (fun _ => rfl)
  have hn1 : T1.2.1 15 2 = (n : Int) := ((hG1.2.2 15 2 (by unfold W_rz; omega)).trans a3).trans hn
  have hD1 : T1.2.1 15 0 = H.2.1 85 4 := (hG1.2.2 15 0 (by unfold W_rz; omega)).trans a1
  have hak : akF b E 12 (.inl i) = .inl (i + 1) := if_pos hK
  have hqG : stG b E H i = am_setN H 92 1 (vZ b E (akF b E 12 (.inl i))) := by unfold stG; rw [hK]; rw [if_neg (by decide), if_neg (by decide), if_neg (by decide), if_neg (by decide), if_neg (by decide), if_neg (by decide), if_neg (by decide)]
  have hq1 : ¬ False → stR b E H i = nuF b E 0 1000 (.inl (i + 1)) := fun _ => by rw [← hak]; unfold stR; rw [hK]; rw [if_neg (by decide), if_neg (by decide), if_neg (by decide), if_neg (by decide), if_neg (by decide), if_neg (by decide), if_neg (by decide)]
  have hq2 : False → stR b E H i = .inr (5, (zP b E i : Int)) := fun h => h.elim
  refine am_iload_n (q := 44) rfl (am_tab tk_X4_readStatement 22 rfl) rfl ?_
  refine am_sipush (q := 47) (n := 128) (by decide) rfl (am_tab tk_X4_readStatement 23 rfl) rfl ?_
  refine am_icmp_ne (q := 50) (t := 54) (am_tab tk_X4_readStatement 24 rfl) (by decide) rfl (fun h47 => ?_) (fun h47 => ?_)
  · refine am_iconst (q := 55) (n := 0) (by decide) (am_tab tk_X4_readStatement 27 rfl) rfl ?_
    refine am_aload_n (q := 56) rfl (am_tab tk_X4_readStatement 28 rfl) rfl ?_
    refine am_getR (q := 59) (a := 27) (k := 4) (n := 13) (j := 2) (r := some (15)) (Ls_27 hX1.1) (by decide) rfl (show T1.2.2 27 2 = some 15 by rw [hG1.2.1]; exact hR) (by decide) (Or.inl kf_X4_29) (am_tab tk_X4_readStatement 29 rfl) rfl ?_
    refine am_getI (q := 62) (a := 15) (k := 8) (n := 17) (j := 1) (x := (T1.2.1 15 1)) (Ls_15 hX1.1) (by decide) rfl rfl (by decide) (Or.inr kf_X4_52) (am_tab tk_X4_readStatement 30 rfl) rfl ?_
    refine am_if_ne (q := 65) (t := 69) (am_tab tk_X4_readStatement 31 rfl) (by decide) rfl (fun h62 => ?_) (fun h62 => ?_)
    · refine am_iconst (q := 70) (n := 0) (by decide) (am_tab tk_X4_readStatement 34 rfl) rfl ?_
      refine am_icmp_eq (q := 73) (t := 79) (am_tab tk_X4_readStatement 35 rfl) (by decide) rfl (fun h70 => ?_) (fun h70 => ?_)
      · refine am_iload_n (q := 80) rfl (am_tab tk_X4_readStatement 40 rfl) rfl ?_
        refine am_tableIn (t := 256) (off := 176) (by omega) (by omega) rfl dsw_X4_readStatement_80 (by decide) ?_
        refine am_aload_n (q := 257) rfl (am_tab tk_X4_readStatement 92 rfl) rfl ?_
        refine am_getR (q := 260) (a := 27) (k := 4) (n := 13) (j := 2) (r := some (15)) (Ls_27 hX1.1) (by decide) rfl (show T1.2.2 27 2 = some 15 by rw [hG1.2.1]; exact hR) (by decide) (Or.inl kf_X4_29) (am_tab tk_X4_readStatement 93 rfl) rfl ?_
        refine am_aload_n (q := 261) rfl (am_tab tk_X4_readStatement 94 rfl) rfl ?_
        refine am_iconst (q := 262) (n := 0) (by decide) (am_tab tk_X4_readStatement 95 rfl) rfl ?_
        refine am_sipush (q := 265) (n := 1000) (by decide) rfl (am_tab tk_X4_readStatement 96 rfl) rfl ?_
        refine am_callVr (q := 268) (me2 := M_X4_readNumber) (b := 27) (kb := 4) (nb := 13) (As := [am_i 0, am_i 1000]) (rest := [am_r 15]) (c_numZ hX1 0 1000) ⟨rfl, rfl⟩ (Ls_27 hX1.1) (by decide) ⟨Or.inl km_X4_111, kc_X4_readNumber, kn_X4, kd_X4_readNumber, ⟨(Nat.le_of_ble_eq_true rfl), (Nat.le_of_ble_eq_true rfl)⟩, ⟨(Nat.le_of_ble_eq_true rfl), (Nat.le_of_ble_eq_true rfl)⟩, (Nat.le_of_ble_eq_true rfl)⟩ ki_X4_readNumber ks_X4_readNumber rfl (am_tab tk_X4_readStatement 97 rfl) rfl ?_
        rintro r T2 ⟨v2, rfl, hX2, hG, hv2⟩
        have hG2 := hG1.trans hG
        have hFy : frw (W_tn 15) T1 (am_setN T2 15 7 v2) := (hG.mono (fun a j h => Or.inr h)).setN (Or.inl (by omega))
        have hXz : RY b E cv M (am_setN T2 15 7 v2) (nuF b E 0 1000 (pA)) := hX2.fr ((frw.refl (fun a _ => a = 15) T2).setN rfl) (fun a j h => by omega)
        refine am_putI (q := 271) (k := 8) (n := 17) (j := 7) (Ls_15 hX2.1) (by decide) rfl (by decide) (Or.inr (Or.inl ⟨kf_X4_144, rfl⟩)) (am_tab tk_X4_readStatement 98 rfl) rfl ?_
        refine am_goto (t := 280) (am_tab tk_X4_readStatement 99 rfl) (by decide) ?_
        have hFz : frw (W_tn 15) T1 (am_setN T2 15 7 v2) := hFy
        have hRz : (am_setN T2 15 7 v2).2.2 27 2 = some 15 := by rw [hFz.2.1]; exact hR1
        have hez : (am_setN T2 15 7 v2).2.1 15 1 = H.2.1 55 51 := (hFz.2.2 15 1 (by unfold W_tn W_rz; omega)).trans hs1
        refine am_less (by intro q hq; simp only [List.mem_cons, List.not_mem_nil, or_false] at hq; rcases hq with rfl | rfl | rfl <;> simp) (st_tail_15_0 b E cv M (nuF b E 0 1000 (pA)) (am_setN T2 15 7 v2) hXz hRz (by omega) 140 (zP b E i : Int) Q (fun r τ hτ => hQ r τ ?_))
        obtain ⟨rfl, hXt, hFt⟩ := hτ
        have hp := st_post (G := fun p => nuF b E 0 1000 p) (Or.inr rfl) hT (fun e => rfl) hc (fun h1 h2 => by rw [hqG, ← show v2 = vZ b E (akF b E 12 (.inl i)) from (hv2 h2).trans (by rw [h1]; rw [hak])]; exact TRr.s7 (Or.inr rfl) (hT.fr hG2 hTN) v2) hG1 hFz hFt
        have he : sgF b E 59 ((fun p => nuF b E 0 1000 p) pA) = stF b E H i := st_eq (G := fun p => nuF b E 0 1000 p) (fun e => rfl) hc (by omega) hq1 hq2
        rw [he] at hp
        exact ⟨rfl, (by rw [← he]; exact hXt), hp⟩
      · exact absurd rfl h70
    · exact absurd h62 (by omega)
  · exact absurd h47 (by decide)
set_option maxRecDepth 100000 in
theorem c_st_days_15 (b : Nat → Int) (E : Nat) (cv : Nat → Int) (M : Nat) (i : Nat) (σ H : am_H) (hX : RY b E cv M σ (.inl i)) (hR : σ.2.2 27 2 = some 15) (hT : TRr 15 σ H) (hRR : RRr 15 σ H) (hTW : TWI H i) (hs0 : 1 ≤ H.2.1 55 51) (hK : zK b E i = 128) : am_met (M_X4_readStatement 0 0) [am_r 27] σ (fun r σ' => r = none ∧ RY b E cv M σ' (stF b E H i) ∧ ((stF b E H i).isLeft = true → TRr 15 σ' (stH b E H i)) ∧ frw (W_ts 15) σ σ') := by
  refine am_qq (fun Q hQ => ?_)
  refine am_enter (show plainFor yX4_readStatement = true by decide +kernel) rfl (Nat.le_of_ble_eq_true rfl) (fun _ _ _ => trivial) ?_
  obtain ⟨⟨a1, a2, a3, a4, a5, a6, a7, a8⟩, _⟩ := id hT
  obtain ⟨n, hn⟩ := Int.eq_ofNat_of_zero_le hTW.1.1
  have hw0 := hTW.1
  have hw1 := hTW.2.1
  have hw2 := hTW.2.2.1
  have hw3 := hTW.2.2.2.1
  have hw4 := hTW.2.2.2.2.1
  have hw6 := hTW.2.2.2.2.2.2
  refine st_head_15_0 b E cv M i σ hX hR 128 hK (by omega) Q (fun pA T1 hX1 hG1 hc0 => ?_)
  have hc : HC b E i (False) (H.2.1 55 51) pA := HC.iff hc0 (by exact ⟨fun h => by omega, False.elim⟩) a2
  have hTN : ∀ a j, 15 ≤ a ∧ a ≤ 15 + 7 → ¬ W_rz a j := fun a j h => by unfold W_rz; omega
  have hs1 : T1.2.1 15 1 = H.2.1 55 51 := (hG1.2.2 15 1 (by unfold W_rz; omega)).trans a2
  have hR1 : T1.2.2 27 2 = some 15 := by rw [hG1.2.1]; exact hR
  have hP1 : PL 15 T1 H n pA := PL.l (PL.fr (p := .inl i) ⟨hT, hn⟩ hG1 hTN) (fun _ => rfl)
  have hn1 : T1.2.1 15 2 = (n : Int) := ((hG1.2.2 15 2 (by unfold W_rz; omega)).trans a3).trans hn
  have hD1 : T1.2.1 15 0 = H.2.1 85 4 := (hG1.2.2 15 0 (by unfold W_rz; omega)).trans a1
  have hak : akF b E 12 (.inl i) = .inr (1, (zP b E i : Int)) := if_neg (by rw [hK]; decide)
  have hq1 : ¬ False → stR b E H i = nuF b E 5 90 (flZ 1 (zP b E i : Int) (.inl (i + 1))) := fun _ => by
    unfold stR
    rw [hK]
    rw [if_neg (by decide), if_neg (by decide), if_neg (by decide), if_neg (by decide), if_neg (by decide), if_neg (by decide), if_neg (by decide), hak]
    rfl
  have hq2 : False → stR b E H i = .inr (5, (zP b E i : Int)) := fun h => h.elim
  refine am_iload_n (q := 44) rfl (am_tab tk_X4_readStatement 22 rfl) rfl ?_
  refine am_sipush (q := 47) (n := 128) (by decide) rfl (am_tab tk_X4_readStatement 23 rfl) rfl ?_
  refine am_icmp_ne (q := 50) (t := 54) (am_tab tk_X4_readStatement 24 rfl) (by decide) rfl (fun h47 => ?_) (fun h47 => ?_)
  · exact absurd rfl h47
  · refine am_iconst (q := 51) (n := 1) (by decide) (am_tab tk_X4_readStatement 25 rfl) rfl ?_
    refine am_goto (t := 55) (am_tab tk_X4_readStatement 26 rfl) (by decide) ?_
    refine am_aload_n (q := 56) rfl (am_tab tk_X4_readStatement 28 rfl) rfl ?_
    refine am_getR (q := 59) (a := 27) (k := 4) (n := 13) (j := 2) (r := some (15)) (Ls_27 hX1.1) (by decide) rfl (show T1.2.2 27 2 = some 15 by rw [hG1.2.1]; exact hR) (by decide) (Or.inl kf_X4_29) (am_tab tk_X4_readStatement 29 rfl) rfl ?_
    refine am_getI (q := 62) (a := 15) (k := 8) (n := 17) (j := 1) (x := (T1.2.1 15 1)) (Ls_15 hX1.1) (by decide) rfl rfl (by decide) (Or.inr kf_X4_52) (am_tab tk_X4_readStatement 30 rfl) rfl ?_
    refine am_if_ne (q := 65) (t := 69) (am_tab tk_X4_readStatement 31 rfl) (by decide) rfl (fun h62 => ?_) (fun h62 => ?_)
    · refine am_iconst (q := 70) (n := 0) (by decide) (am_tab tk_X4_readStatement 34 rfl) rfl ?_
      refine am_icmp_eq (q := 73) (t := 79) (am_tab tk_X4_readStatement 35 rfl) (by decide) rfl (fun h70 => ?_) (fun h70 => ?_)
      · exact absurd h70 (by decide)
      · refine am_aload_n (q := 74) rfl (am_tab tk_X4_readStatement 36 rfl) rfl ?_
        refine am_iconst (q := 75) (n := 1) (by decide) (am_tab tk_X4_readStatement 37 rfl) rfl ?_
        refine am_iload_n (q := 76) rfl (am_tab tk_X4_readStatement 38 rfl) rfl ?_
        refine am_callVr (q := 79) (me2 := M_X4_fail) (b := 27) (kb := 4) (nb := 13) (As := [am_i 1, am_i ((zP b E i : Int))]) (rest := []) (c_failY hX1 1 (zP b E i : Int) (by decide)) ⟨rfl, rfl⟩ (Ls_27 hX1.1) (by decide) ⟨Or.inl km_X4_58, kc_X4_fail, kn_X4, kd_X4_fail, ⟨(Nat.le_of_ble_eq_true rfl), (Nat.le_of_ble_eq_true rfl)⟩, ⟨(Nat.le_of_ble_eq_true rfl), (Nat.le_of_ble_eq_true rfl)⟩, (Nat.le_of_ble_eq_true rfl)⟩ ki_X4_fail ks_X4_fail rfl (am_tab tk_X4_readStatement 39 rfl) rfl ?_
        rintro r T2 ⟨rfl, hX2, hG⟩
        have hG2 := hG1.trans hG
        refine am_iload_n (q := 80) rfl (am_tab tk_X4_readStatement 40 rfl) rfl ?_
        refine am_tableIn (t := 148) (off := 68) (by omega) (by omega) rfl dsw_X4_readStatement_80 (by decide) ?_
        have hG21 := hG
        refine am_aload_n (q := 149) rfl (am_tab tk_X4_readStatement 42 rfl) rfl ?_
        refine am_getR (q := 152) (a := 27) (k := 4) (n := 13) (j := 2) (r := some (15)) (Ls_27 hX2.1) (by decide) rfl (show T2.2.2 27 2 = some 15 by rw [hG2.2.1]; exact hR) (by decide) (Or.inl kf_X4_29) (am_tab tk_X4_readStatement 43 rfl) rfl ?_
        refine am_aload_n (q := 153) rfl (am_tab tk_X4_readStatement 44 rfl) rfl ?_
        refine am_iconst (q := 154) (n := 5) (by decide) (am_tab tk_X4_readStatement 45 rfl) rfl ?_
        refine am_bipush (q := 156) (n := 90) (by decide) rfl (am_tab tk_X4_readStatement 46 rfl) rfl ?_
        refine am_callVr (q := 159) (me2 := M_X4_readNumber) (b := 27) (kb := 4) (nb := 13) (As := [am_i 5, am_i 90]) (rest := [am_r 15]) (c_numZ hX2 5 90) ⟨rfl, rfl⟩ (Ls_27 hX2.1) (by decide) ⟨Or.inl km_X4_111, kc_X4_readNumber, kn_X4, kd_X4_readNumber, ⟨(Nat.le_of_ble_eq_true rfl), (Nat.le_of_ble_eq_true rfl)⟩, ⟨(Nat.le_of_ble_eq_true rfl), (Nat.le_of_ble_eq_true rfl)⟩, (Nat.le_of_ble_eq_true rfl)⟩ ki_X4_readNumber ks_X4_readNumber rfl (am_tab tk_X4_readStatement 47 rfl) rfl ?_
        rintro r T3 ⟨v3, rfl, hX3, hG, hv3⟩
        have hG3 := hG2.trans hG
        have hY : frw W_rz T1 T3 := hG21.trans hG
        have hFy : frw (W_tn 15) T1 (am_setN T3 15 0 v3) := (hY.mono (fun a j h => Or.inr h)).setN (Or.inl (by omega))
        have hXz : RY b E cv M (am_setN T3 15 0 v3) (nuF b E 5 90 (flZ 1 (zP b E i : Int) (pA))) := hX3.fr ((frw.refl (fun a _ => a = 15) T3).setN rfl) (fun a j h => by omega)
        refine am_putI (q := 162) (k := 8) (n := 17) (j := 0) (Ls_15 hX3.1) (by decide) rfl (by decide) (Or.inr (Or.inl ⟨kf_X4_115, rfl⟩)) (am_tab tk_X4_readStatement 48 rfl) rfl ?_
        refine am_goto (t := 280) (am_tab tk_X4_readStatement 49 rfl) (by decide) ?_
        have hFz : frw (W_tn 15) T1 (am_setN T3 15 0 v3) := hFy
        have hRz : (am_setN T3 15 0 v3).2.2 27 2 = some 15 := by rw [hFz.2.1]; exact hR1
        have hez : (am_setN T3 15 0 v3).2.1 15 1 = H.2.1 55 51 := (hFz.2.2 15 1 (by unfold W_tn W_rz; omega)).trans hs1
        refine am_less (by intro q hq; simp only [List.mem_cons, List.not_mem_nil, or_false] at hq; rcases hq with rfl | rfl | rfl <;> simp) (st_tail_15_0 b E cv M (nuF b E 5 90 (flZ 1 (zP b E i : Int) (pA))) (am_setN T3 15 0 v3) hXz hRz (by omega) 128 (zP b E i : Int) Q (fun r τ hτ => hQ r τ ?_))
        obtain ⟨rfl, hXt, hFt⟩ := hτ
        have hp := st_post (G := fun p => nuF b E 5 90 (flZ 1 (zP b E i : Int) p)) (Or.inr rfl) hT (fun e => rfl) hc (fun h1 h2 => by rw [h1] at h2; exact absurd (show false = true from h2) (by decide)) hG1 hFz hFt
        have he : sgF b E 59 ((fun p => nuF b E 5 90 (flZ 1 (zP b E i : Int) p)) pA) = stF b E H i := st_eq (G := fun p => nuF b E 5 90 (flZ 1 (zP b E i : Int) p)) (fun e => rfl) hc (by omega) hq1 hq2
        rw [he] at hp
        exact ⟨rfl, (by rw [← he]; exact hXt), hp⟩
    · exact absurd h62 (by omega)
set_option maxRecDepth 100000 in
theorem c_st_other_15 (b : Nat → Int) (E : Nat) (cv : Nat → Int) (M : Nat) (i : Nat) (σ H : am_H) (hX : RY b E cv M σ (.inl i)) (hR : σ.2.2 27 2 = some 15) (hT : TRr 15 σ H) (hRR : RRr 15 σ H) (hTW : TWI H i) (hs0 : 1 ≤ H.2.1 55 51) (hK : zK b E i = (zK b E i)) (hb : ¬ zK b E i = 6 ∧ ¬ zK b E i = 128 ∧ ¬ zK b E i = 129 ∧ ¬ zK b E i = 132 ∧ ¬ zK b E i = 134 ∧ ¬ zK b E i = 135 ∧ ¬ zK b E i = 137 ∧ ¬ zK b E i = 138 ∧ ¬ zK b E i = 139 ∧ ¬ zK b E i = 140) : am_met (M_X4_readStatement 0 0) [am_r 27] σ (fun r σ' => r = none ∧ RY b E cv M σ' (stF b E H i) ∧ ((stF b E H i).isLeft = true → TRr 15 σ' (stH b E H i)) ∧ frw (W_ts 15) σ σ') := by
  refine am_qq (fun Q hQ => ?_)
  refine am_enter (show plainFor yX4_readStatement = true by decide +kernel) rfl (Nat.le_of_ble_eq_true rfl) (fun _ _ _ => trivial) ?_
  obtain ⟨⟨a1, a2, a3, a4, a5, a6, a7, a8⟩, _⟩ := id hT
  obtain ⟨n, hn⟩ := Int.eq_ofNat_of_zero_le hTW.1.1
  have hw0 := hTW.1
  have hw1 := hTW.2.1
  have hw2 := hTW.2.2.1
  have hw3 := hTW.2.2.2.1
  have hw4 := hTW.2.2.2.2.1
  have hw6 := hTW.2.2.2.2.2.2
  refine st_head_15_0 b E cv M i σ hX hR (zK b E i) hK (by omega) Q (fun pA T1 hX1 hG1 hc0 => ?_)
  have hc : HC b E i (False) (H.2.1 55 51) pA := HC.iff hc0 (by exact ⟨fun h => by omega, False.elim⟩) a2
  have hTN : ∀ a j, 15 ≤ a ∧ a ≤ 15 + 7 → ¬ W_rz a j := fun a j h => by unfold W_rz; omega
  have hs1 : T1.2.1 15 1 = H.2.1 55 51 := (hG1.2.2 15 1 (by unfold W_rz; omega)).trans a2
  have hR1 : T1.2.2 27 2 = some 15 := by rw [hG1.2.1]; exact hR
  have hP1 : PL 15 T1 H n pA := PL.l (PL.fr (p := .inl i) ⟨hT, hn⟩ hG1 hTN) (fun _ => rfl)
  have hn1 : T1.2.1 15 2 = (n : Int) := ((hG1.2.2 15 2 (by unfold W_rz; omega)).trans a3).trans hn
  have hD1 : T1.2.1 15 0 = H.2.1 85 4 := (hG1.2.2 15 0 (by unfold W_rz; omega)).trans a1
  have hXz0 := hX1
  have hak : akF b E 12 (.inl i) = .inr (1, (zP b E i : Int)) := if_neg (by show ¬ zK b E i = 140; omega)
  have hq1 : ¬ False → stR b E H i = flZ 1 (zP b E i : Int) (.inl (i + 1)) := fun _ => by
    unfold stR
    rw [if_neg (by omega), if_neg (by omega), if_neg (by omega), if_neg (by omega), if_neg (by omega), if_neg (by omega), if_neg (by omega), hak]
    rfl
  have hq2 : False → stR b E H i = .inr (5, (zP b E i : Int)) := fun h => h.elim
  refine am_iload_n (q := 44) rfl (am_tab tk_X4_readStatement 22 rfl) rfl ?_
  refine am_sipush (q := 47) (n := 128) (by decide) rfl (am_tab tk_X4_readStatement 23 rfl) rfl ?_
  refine am_icmp_ne (q := 50) (t := 54) (am_tab tk_X4_readStatement 24 rfl) (by decide) rfl (fun h47 => ?_) (fun h47 => ?_)
  · refine am_iconst (q := 55) (n := 0) (by decide) (am_tab tk_X4_readStatement 27 rfl) rfl ?_
    refine am_aload_n (q := 56) rfl (am_tab tk_X4_readStatement 28 rfl) rfl ?_
    refine am_getR (q := 59) (a := 27) (k := 4) (n := 13) (j := 2) (r := some (15)) (Ls_27 hX1.1) (by decide) rfl (show T1.2.2 27 2 = some 15 by rw [hG1.2.1]; exact hR) (by decide) (Or.inl kf_X4_29) (am_tab tk_X4_readStatement 29 rfl) rfl ?_
    refine am_getI (q := 62) (a := 15) (k := 8) (n := 17) (j := 1) (x := (T1.2.1 15 1)) (Ls_15 hX1.1) (by decide) rfl rfl (by decide) (Or.inr kf_X4_52) (am_tab tk_X4_readStatement 30 rfl) rfl ?_
    refine am_if_ne (q := 65) (t := 69) (am_tab tk_X4_readStatement 31 rfl) (by decide) rfl (fun h62 => ?_) (fun h62 => ?_)
    · refine am_iconst (q := 70) (n := 0) (by decide) (am_tab tk_X4_readStatement 34 rfl) rfl ?_
      refine am_icmp_eq (q := 73) (t := 79) (am_tab tk_X4_readStatement 35 rfl) (by decide) rfl (fun h70 => ?_) (fun h70 => ?_)
      · refine am_iload_n (q := 80) rfl (am_tab tk_X4_readStatement 40 rfl) rfl ?_
        rcases (show (zK b E i) = 128 ∨ (zK b E i) = 129 ∨ (zK b E i) = 130 ∨ (zK b E i) = 131 ∨ (zK b E i) = 132 ∨ (zK b E i) = 133 ∨ (zK b E i) = 134 ∨ (zK b E i) = 135 ∨ (zK b E i) = 136 ∨ (zK b E i) = 137 ∨ (zK b E i) = 138 ∨ (zK b E i) = 139 ∨ (zK b E i) = 140 ∨ ((zK b E i) < 128 ∨ 140 < (zK b E i)) by omega) with e80 | e80 | e80 | e80 | e80 | e80 | e80 | e80 | e80 | e80 | e80 | e80 | e80 | e80
        · refine am_tableIn (t := 148) (off := 68) (by omega) (by omega) (by rw [e80]; rfl) dsw_X4_readStatement_80 (by decide) ?_
          exact absurd e80 (by omega)
        · refine am_tableIn (t := 165) (off := 85) (by omega) (by omega) (by rw [e80]; rfl) dsw_X4_readStatement_80 (by decide) ?_
          exact absurd e80 (by omega)
        · refine am_tableIn (t := 274) (off := 194) (by omega) (by omega) (by rw [e80]; rfl) dsw_X4_readStatement_80 (by decide) ?_
          refine am_aload_n (q := 275) rfl (am_tab tk_X4_readStatement 100 rfl) rfl ?_
          refine am_iconst (q := 276) (n := 1) (by decide) (am_tab tk_X4_readStatement 101 rfl) rfl ?_
          refine am_iload_n (q := 277) rfl (am_tab tk_X4_readStatement 102 rfl) rfl ?_
          refine am_callVr (q := 280) (me2 := M_X4_fail) (b := 27) (kb := 4) (nb := 13) (As := [am_i 1, am_i ((zP b E i : Int))]) (rest := []) (c_failY hX1 1 (zP b E i : Int) (by decide)) ⟨rfl, rfl⟩ (Ls_27 hX1.1) (by decide) ⟨Or.inl km_X4_58, kc_X4_fail, kn_X4, kd_X4_fail, ⟨(Nat.le_of_ble_eq_true rfl), (Nat.le_of_ble_eq_true rfl)⟩, ⟨(Nat.le_of_ble_eq_true rfl), (Nat.le_of_ble_eq_true rfl)⟩, (Nat.le_of_ble_eq_true rfl)⟩ ki_X4_fail ks_X4_fail rfl (am_tab tk_X4_readStatement 103 rfl) rfl ?_
          rintro r T2 ⟨rfl, hX2, hG⟩
          have hG2 := hG1.trans hG
          have hXz := hX2
          have hFz : frw (W_tn 15) T1 T2 := hG.mono (fun a j h => Or.inr h)
          have hRz : T2.2.2 27 2 = some 15 := by rw [hFz.2.1]; exact hR1
          have hez : T2.2.1 15 1 = H.2.1 55 51 := (hFz.2.2 15 1 (by unfold W_tn W_rz; omega)).trans hs1
          refine am_less (by intro q hq; simp only [List.mem_cons, List.not_mem_nil, or_false] at hq; rcases hq with rfl | rfl | rfl <;> simp) (st_tail_15_0 b E cv M (flZ 1 (zP b E i : Int) pA) T2 hXz hRz (by omega) (zK b E i) (zP b E i : Int) Q (fun r τ hτ => hQ r τ ?_))
          obtain ⟨rfl, hXt, hFt⟩ := hτ
          have hp := st_post (G := fun p => flZ 1 (zP b E i : Int) p) (Or.inr rfl) hT (fun e => rfl) hc (fun h1 h2 => by rw [h1] at h2; exact absurd (show false = true from h2) (by decide)) hG1 hFz hFt
          have he : sgF b E 59 ((fun p => flZ 1 (zP b E i : Int) p) pA) = stF b E H i := st_eq (G := fun p => flZ 1 (zP b E i : Int) p) (fun e => rfl) hc (by omega) hq1 hq2
          rw [he] at hp
          exact ⟨rfl, (by rw [← he]; exact hXt), hp⟩
        · refine am_tableIn (t := 274) (off := 194) (by omega) (by omega) (by rw [e80]; rfl) dsw_X4_readStatement_80 (by decide) ?_
          refine am_aload_n (q := 275) rfl (am_tab tk_X4_readStatement 100 rfl) rfl ?_
          refine am_iconst (q := 276) (n := 1) (by decide) (am_tab tk_X4_readStatement 101 rfl) rfl ?_
          refine am_iload_n (q := 277) rfl (am_tab tk_X4_readStatement 102 rfl) rfl ?_
          refine am_callVr (q := 280) (me2 := M_X4_fail) (b := 27) (kb := 4) (nb := 13) (As := [am_i 1, am_i ((zP b E i : Int))]) (rest := []) (c_failY hX1 1 (zP b E i : Int) (by decide)) ⟨rfl, rfl⟩ (Ls_27 hX1.1) (by decide) ⟨Or.inl km_X4_58, kc_X4_fail, kn_X4, kd_X4_fail, ⟨(Nat.le_of_ble_eq_true rfl), (Nat.le_of_ble_eq_true rfl)⟩, ⟨(Nat.le_of_ble_eq_true rfl), (Nat.le_of_ble_eq_true rfl)⟩, (Nat.le_of_ble_eq_true rfl)⟩ ki_X4_fail ks_X4_fail rfl (am_tab tk_X4_readStatement 103 rfl) rfl ?_
          rintro r T2 ⟨rfl, hX2, hG⟩
          have hG2 := hG1.trans hG
          have hXz := hX2
          have hFz : frw (W_tn 15) T1 T2 := hG.mono (fun a j h => Or.inr h)
          have hRz : T2.2.2 27 2 = some 15 := by rw [hFz.2.1]; exact hR1
          have hez : T2.2.1 15 1 = H.2.1 55 51 := (hFz.2.2 15 1 (by unfold W_tn W_rz; omega)).trans hs1
          refine am_less (by intro q hq; simp only [List.mem_cons, List.not_mem_nil, or_false] at hq; rcases hq with rfl | rfl | rfl <;> simp) (st_tail_15_0 b E cv M (flZ 1 (zP b E i : Int) pA) T2 hXz hRz (by omega) (zK b E i) (zP b E i : Int) Q (fun r τ hτ => hQ r τ ?_))
          obtain ⟨rfl, hXt, hFt⟩ := hτ
          have hp := st_post (G := fun p => flZ 1 (zP b E i : Int) p) (Or.inr rfl) hT (fun e => rfl) hc (fun h1 h2 => by rw [h1] at h2; exact absurd (show false = true from h2) (by decide)) hG1 hFz hFt
          have he : sgF b E 59 ((fun p => flZ 1 (zP b E i : Int) p) pA) = stF b E H i := st_eq (G := fun p => flZ 1 (zP b E i : Int) p) (fun e => rfl) hc (by omega) hq1 hq2
          rw [he] at hp
          exact ⟨rfl, (by rw [← he]; exact hXt), hp⟩
        · refine am_tableIn (t := 172) (off := 92) (by omega) (by omega) (by rw [e80]; rfl) dsw_X4_readStatement_80 (by decide) ?_
          exact absurd e80 (by omega)
        · refine am_tableIn (t := 274) (off := 194) (by omega) (by omega) (by rw [e80]; rfl) dsw_X4_readStatement_80 (by decide) ?_
          refine am_aload_n (q := 275) rfl (am_tab tk_X4_readStatement 100 rfl) rfl ?_
          refine am_iconst (q := 276) (n := 1) (by decide) (am_tab tk_X4_readStatement 101 rfl) rfl ?_
          refine am_iload_n (q := 277) rfl (am_tab tk_X4_readStatement 102 rfl) rfl ?_
          refine am_callVr (q := 280) (me2 := M_X4_fail) (b := 27) (kb := 4) (nb := 13) (As := [am_i 1, am_i ((zP b E i : Int))]) (rest := []) (c_failY hX1 1 (zP b E i : Int) (by decide)) ⟨rfl, rfl⟩ (Ls_27 hX1.1) (by decide) ⟨Or.inl km_X4_58, kc_X4_fail, kn_X4, kd_X4_fail, ⟨(Nat.le_of_ble_eq_true rfl), (Nat.le_of_ble_eq_true rfl)⟩, ⟨(Nat.le_of_ble_eq_true rfl), (Nat.le_of_ble_eq_true rfl)⟩, (Nat.le_of_ble_eq_true rfl)⟩ ki_X4_fail ks_X4_fail rfl (am_tab tk_X4_readStatement 103 rfl) rfl ?_
          rintro r T2 ⟨rfl, hX2, hG⟩
          have hG2 := hG1.trans hG
          have hXz := hX2
          have hFz : frw (W_tn 15) T1 T2 := hG.mono (fun a j h => Or.inr h)
          have hRz : T2.2.2 27 2 = some 15 := by rw [hFz.2.1]; exact hR1
          have hez : T2.2.1 15 1 = H.2.1 55 51 := (hFz.2.2 15 1 (by unfold W_tn W_rz; omega)).trans hs1
          refine am_less (by intro q hq; simp only [List.mem_cons, List.not_mem_nil, or_false] at hq; rcases hq with rfl | rfl | rfl <;> simp) (st_tail_15_0 b E cv M (flZ 1 (zP b E i : Int) pA) T2 hXz hRz (by omega) (zK b E i) (zP b E i : Int) Q (fun r τ hτ => hQ r τ ?_))
          obtain ⟨rfl, hXt, hFt⟩ := hτ
          have hp := st_post (G := fun p => flZ 1 (zP b E i : Int) p) (Or.inr rfl) hT (fun e => rfl) hc (fun h1 h2 => by rw [h1] at h2; exact absurd (show false = true from h2) (by decide)) hG1 hFz hFt
          have he : sgF b E 59 ((fun p => flZ 1 (zP b E i : Int) p) pA) = stF b E H i := st_eq (G := fun p => flZ 1 (zP b E i : Int) p) (fun e => rfl) hc (by omega) hq1 hq2
          rw [he] at hp
          exact ⟨rfl, (by rw [← he]; exact hXt), hp⟩
        · refine am_tableIn (t := 179) (off := 99) (by omega) (by omega) (by rw [e80]; rfl) dsw_X4_readStatement_80 (by decide) ?_
          exact absurd e80 (by omega)
        · refine am_tableIn (t := 186) (off := 106) (by omega) (by omega) (by rw [e80]; rfl) dsw_X4_readStatement_80 (by decide) ?_
          exact absurd e80 (by omega)
        · refine am_tableIn (t := 274) (off := 194) (by omega) (by omega) (by rw [e80]; rfl) dsw_X4_readStatement_80 (by decide) ?_
          refine am_aload_n (q := 275) rfl (am_tab tk_X4_readStatement 100 rfl) rfl ?_
          refine am_iconst (q := 276) (n := 1) (by decide) (am_tab tk_X4_readStatement 101 rfl) rfl ?_
          refine am_iload_n (q := 277) rfl (am_tab tk_X4_readStatement 102 rfl) rfl ?_
          refine am_callVr (q := 280) (me2 := M_X4_fail) (b := 27) (kb := 4) (nb := 13) (As := [am_i 1, am_i ((zP b E i : Int))]) (rest := []) (c_failY hX1 1 (zP b E i : Int) (by decide)) ⟨rfl, rfl⟩ (Ls_27 hX1.1) (by decide) ⟨Or.inl km_X4_58, kc_X4_fail, kn_X4, kd_X4_fail, ⟨(Nat.le_of_ble_eq_true rfl), (Nat.le_of_ble_eq_true rfl)⟩, ⟨(Nat.le_of_ble_eq_true rfl), (Nat.le_of_ble_eq_true rfl)⟩, (Nat.le_of_ble_eq_true rfl)⟩ ki_X4_fail ks_X4_fail rfl (am_tab tk_X4_readStatement 103 rfl) rfl ?_
          rintro r T2 ⟨rfl, hX2, hG⟩
          have hG2 := hG1.trans hG
          have hXz := hX2
          have hFz : frw (W_tn 15) T1 T2 := hG.mono (fun a j h => Or.inr h)
          have hRz : T2.2.2 27 2 = some 15 := by rw [hFz.2.1]; exact hR1
          have hez : T2.2.1 15 1 = H.2.1 55 51 := (hFz.2.2 15 1 (by unfold W_tn W_rz; omega)).trans hs1
          refine am_less (by intro q hq; simp only [List.mem_cons, List.not_mem_nil, or_false] at hq; rcases hq with rfl | rfl | rfl <;> simp) (st_tail_15_0 b E cv M (flZ 1 (zP b E i : Int) pA) T2 hXz hRz (by omega) (zK b E i) (zP b E i : Int) Q (fun r τ hτ => hQ r τ ?_))
          obtain ⟨rfl, hXt, hFt⟩ := hτ
          have hp := st_post (G := fun p => flZ 1 (zP b E i : Int) p) (Or.inr rfl) hT (fun e => rfl) hc (fun h1 h2 => by rw [h1] at h2; exact absurd (show false = true from h2) (by decide)) hG1 hFz hFt
          have he : sgF b E 59 ((fun p => flZ 1 (zP b E i : Int) p) pA) = stF b E H i := st_eq (G := fun p => flZ 1 (zP b E i : Int) p) (fun e => rfl) hc (by omega) hq1 hq2
          rw [he] at hp
          exact ⟨rfl, (by rw [← he]; exact hXt), hp⟩
        · refine am_tableIn (t := 193) (off := 113) (by omega) (by omega) (by rw [e80]; rfl) dsw_X4_readStatement_80 (by decide) ?_
          exact absurd e80 (by omega)
        · refine am_tableIn (t := 193) (off := 113) (by omega) (by omega) (by rw [e80]; rfl) dsw_X4_readStatement_80 (by decide) ?_
          exact absurd e80 (by omega)
        · refine am_tableIn (t := 239) (off := 159) (by omega) (by omega) (by rw [e80]; rfl) dsw_X4_readStatement_80 (by decide) ?_
          exact absurd e80 (by omega)
        · refine am_tableIn (t := 256) (off := 176) (by omega) (by omega) (by rw [e80]; rfl) dsw_X4_readStatement_80 (by decide) ?_
          exact absurd e80 (by omega)
        · refine am_tableOut (t := 274) e80 dsw_X4_readStatement_80 (by decide) ?_
          refine am_aload_n (q := 275) rfl (am_tab tk_X4_readStatement 100 rfl) rfl ?_
          refine am_iconst (q := 276) (n := 1) (by decide) (am_tab tk_X4_readStatement 101 rfl) rfl ?_
          refine am_iload_n (q := 277) rfl (am_tab tk_X4_readStatement 102 rfl) rfl ?_
          refine am_callVr (q := 280) (me2 := M_X4_fail) (b := 27) (kb := 4) (nb := 13) (As := [am_i 1, am_i ((zP b E i : Int))]) (rest := []) (c_failY hX1 1 (zP b E i : Int) (by decide)) ⟨rfl, rfl⟩ (Ls_27 hX1.1) (by decide) ⟨Or.inl km_X4_58, kc_X4_fail, kn_X4, kd_X4_fail, ⟨(Nat.le_of_ble_eq_true rfl), (Nat.le_of_ble_eq_true rfl)⟩, ⟨(Nat.le_of_ble_eq_true rfl), (Nat.le_of_ble_eq_true rfl)⟩, (Nat.le_of_ble_eq_true rfl)⟩ ki_X4_fail ks_X4_fail rfl (am_tab tk_X4_readStatement 103 rfl) rfl ?_
          rintro r T2 ⟨rfl, hX2, hG⟩
          have hG2 := hG1.trans hG
          have hXz := hX2
          have hFz : frw (W_tn 15) T1 T2 := hG.mono (fun a j h => Or.inr h)
          have hRz : T2.2.2 27 2 = some 15 := by rw [hFz.2.1]; exact hR1
          have hez : T2.2.1 15 1 = H.2.1 55 51 := (hFz.2.2 15 1 (by unfold W_tn W_rz; omega)).trans hs1
          refine am_less (by intro q hq; simp only [List.mem_cons, List.not_mem_nil, or_false] at hq; rcases hq with rfl | rfl | rfl <;> simp) (st_tail_15_0 b E cv M (flZ 1 (zP b E i : Int) pA) T2 hXz hRz (by omega) (zK b E i) (zP b E i : Int) Q (fun r τ hτ => hQ r τ ?_))
          obtain ⟨rfl, hXt, hFt⟩ := hτ
          have hp := st_post (G := fun p => flZ 1 (zP b E i : Int) p) (Or.inr rfl) hT (fun e => rfl) hc (fun h1 h2 => by rw [h1] at h2; exact absurd (show false = true from h2) (by decide)) hG1 hFz hFt
          have he : sgF b E 59 ((fun p => flZ 1 (zP b E i : Int) p) pA) = stF b E H i := st_eq (G := fun p => flZ 1 (zP b E i : Int) p) (fun e => rfl) hc (by omega) hq1 hq2
          rw [he] at hp
          exact ⟨rfl, (by rw [← he]; exact hXt), hp⟩
      · exact absurd rfl h70
    · exact absurd h62 (by omega)
  · exact absurd h47 (by omega)
