theorem isLq {R : List Int ⊕ (Int × Int)} (h : R.isLeft = true) : ∃ H, R = .inl H := by
  cases R with
  | inl H => exact ⟨H, rfl⟩
  | inr e => exact absurd h (by simp)
theorem isRq {R : List Int ⊕ (Int × Int)} (h : ¬ R.isLeft = true) : ∃ e, R = .inr e := by
  cases R with
  | inl H => exact absurd rfl h
  | inr e => exact ⟨e, rfl⟩
set_option maxRecDepth 100000 in
theorem c_ask_3 (b : Nat → Int) (E : Nat) (σ : am_H) (hC : CI 3 σ) (n : Int) (hT : TP b E σ) (hCD : CDt 3 σ) : am_met M_X9_ask [am_r 0, am_i n] σ (fun r σ' => ASK b E σ n r σ') := by
  refine am_qq (fun Q hQ => ?_)
  refine am_enter (show plainFor yX9_ask = true by decide +kernel) rfl (Nat.le_of_ble_eq_true rfl) (fun _ _ _ => trivial) ?_
  have hL := hC.G.L
  by_cases ah : (1 ≤ n ∧ n ≤ 120) ∧ n ≤ dlM σ
  · by_cases lf : (aqF b E).isLeft = true
    · refine am_aload_n (q := 1) rfl (am_tab tk_X9_ask 0 rfl) rfl ?_
      refine am_iload_n (q := 2) rfl (am_tab tk_X9_ask 1 rfl) rfl ?_
      refine am_callV0 (q := 5) (me2 := M_X9_isAhead) (b := 0) (kb := 9) (nb := 17) (As := [am_i n]) (rest := []) (out := [am_i (if (1 ≤ n ∧ n ≤ 120) ∧ n ≤ dlM σ then 1 else 0)]) (c_isAhead_3 σ hC n) ⟨rfl, rfl⟩ (Ls_0 hL) (by decide) ⟨Or.inl km_X9_257, kc_X9_isAhead, kn_X9, kd_X9_isAhead, ⟨(Nat.le_of_ble_eq_true rfl), (Nat.le_of_ble_eq_true rfl)⟩, ⟨(Nat.le_of_ble_eq_true rfl), (Nat.le_of_ble_eq_true rfl)⟩, (Nat.le_of_ble_eq_true rfl)⟩ ki_X9_isAhead ks_X9_isAhead rfl rfl (am_tab tk_X9_ask 2 rfl) rfl ?_
      refine am_if_ne (q := 8) (t := 20) (am_tab tk_X9_ask 3 rfl) (by decide) rfl (fun h5 => ?_) (fun h5 => ?_)
      · replace h5 := b01n h5
        refine am_aload_n (q := 21) rfl (am_tab tk_X9_ask 10 rfl) rfl ?_
        refine am_getR (q := 24) (a := 0) (k := 9) (n := 17) (j := 1) (r := some (27)) (Ls_0 hL) (by decide) rfl (Lr_0_1 hL) (by decide) (Or.inl kf_X9_31) (am_tab tk_X9_ask 11 rfl) rfl ?_
        refine am_callVr (q := 27) (me2 := M_X4_readQuestion) (b := 27) (kb := 4) (nb := 13) (As := []) (rest := []) (c_readQuestion b E σ hL hT) ⟨rfl, rfl⟩ (Ls_27 hL) (by decide) ⟨Or.inr km_X9_312, kc_X4_readQuestion, kn_X4, kd_X4_readQuestion, ⟨(Nat.le_of_ble_eq_true rfl), (Nat.le_of_ble_eq_true rfl)⟩, ⟨(Nat.le_of_ble_eq_true rfl), (Nat.le_of_ble_eq_true rfl)⟩, (Nat.le_of_ble_eq_true rfl)⟩ ki_X4_readQuestion ks_X4_readQuestion rfl (am_tab tk_X9_ask 12 rfl) rfl ?_
        rintro r T1 ⟨hN, hF1⟩
        have hL1 := hF1.L hL
        obtain ⟨cs, hcs⟩ := isLq lf
        rw [hcs] at hN
        obtain ⟨rfl, hRL, ⟨hok, hno⟩, hK, h01, h10, h8, h9⟩ := hN
        refine am_istore_n (q := 28) (by decide) (ls2 := [(2, am_i 1), (0, am_r 0), (1, am_i n)]) rfl (am_tab tk_X9_ask 13 rfl) rfl ?_
        refine am_aload_n (q := 29) rfl (am_tab tk_X9_ask 14 rfl) rfl ?_
        refine am_getR (q := 32) (a := 0) (k := 9) (n := 17) (j := 0) (r := some (1)) (Ls_0 hL1) (by decide) rfl (Lr_0_0 hL1) (by decide) (Or.inl kf_X9_12) (am_tab tk_X9_ask 15 rfl) rfl ?_
        refine am_iconst (q := 33) (n := 0) (by decide) (am_tab tk_X9_ask 16 rfl) rfl ?_
        refine am_putI (q := 36) (k := 6) (n := 2) (j := 1) (Ls_1 hL1) (by decide) rfl (by decide) (Or.inr (Or.inl ⟨kf_X9_89, rfl⟩)) (am_tab tk_X9_ask 17 rfl) rfl ?_
        refine am_aload_n (q := 37) rfl (am_tab tk_X9_ask 18 rfl) rfl ?_
        refine am_callVr (q := 40) (me2 := M_X9_noteFault) (b := 0) (kb := 9) (nb := 17) (As := []) (rest := []) (c_noteFault (am_setN T1 1 1 0) 0 (-1) hL1 h8 h9) ⟨rfl, rfl⟩ (Ls_0 hL1) (by decide) ⟨Or.inl km_X9_104, kc_X9_noteFault, kn_X9, kd_X9_noteFault, ⟨(Nat.le_of_ble_eq_true rfl), (Nat.le_of_ble_eq_true rfl)⟩, ⟨(Nat.le_of_ble_eq_true rfl), (Nat.le_of_ble_eq_true rfl)⟩, (Nat.le_of_ble_eq_true rfl)⟩ ki_X9_noteFault ks_X9_noteFault rfl (am_tab tk_X9_ask 19 rfl) rfl ?_
        rintro r T2 ⟨rfl, hT2⟩
        have hF2 : frw W_ak σ T2 := by
          rw [hT2]
          exact (((hF1.mono (W2 := W_ak) (fun a j z => Or.inl z)).setN (by unfold W_ak; omega)).setN (by unfold W_ak; omega)).setN (by unfold W_ak; omega)
        have hRL2 : RLr 28 T2 cs := hRL.fr (W := fun a _ => a ≤ 1) (by rw [hT2]; exact (((frw.refl (fun a _ => a ≤ 1) T1).setN (Nat.le_refl 1)).setN (Nat.zero_le 1)).setN (Nat.zero_le 1)) (by decide) (fun a j z => by omega)
        have h14 : T2.2.1 0 14 = 0 := by rw [hT2]; rfl
        have h15 : T2.2.1 0 15 = (-1) := by rw [hT2]; rfl
        have h11 : T2.2.1 1 1 = 0 := by rw [hT2]; rfl
        have hC2 : CI 3 T2 := hC.fr (Or.inl rfl) hCD hF2 (fun a j z => by unfold W_ak at z; omega)
        have hcn : cn T2 = cn σ := cn_eq (fun a j g1 g2 => hF2.2.2 a j (by unfold W_ak; omega))
        have hdl : dlM T2 = dlM σ := dl_55 hcn (hF2.2.2 55 52 (by unfold W_ak; omega))
        refine am_iload_n (q := 41) rfl (am_tab tk_X9_ask 20 rfl) rfl ?_
        refine am_if_eq (q := 44) (t := 52) (am_tab tk_X9_ask 21 rfl) (by decide) rfl (fun h41 => ?_) (fun h41 => ?_)
        · exact absurd h41 (by decide)
        · refine am_aload_n (q := 45) rfl (am_tab tk_X9_ask 22 rfl) rfl ?_
          refine am_iload_n (q := 46) rfl (am_tab tk_X9_ask 23 rfl) rfl ?_
          refine am_callVr (q := 49) (me2 := M_X9_foresee) (b := 0) (kb := 9) (nb := 17) (As := [am_i n]) (rest := []) (c_foresee_3 T2 hC2 n) ⟨rfl, rfl⟩ (Ls_0 hC2.G.L) (by decide) ⟨Or.inl km_X9_219, kc_X9_foresee, kn_X9, kd_X9_foresee, ⟨(Nat.le_of_ble_eq_true rfl), (Nat.le_of_ble_eq_true rfl)⟩, ⟨(Nat.le_of_ble_eq_true rfl), (Nat.le_of_ble_eq_true rfl)⟩, (Nat.le_of_ble_eq_true rfl)⟩ ki_X9_foresee ks_X9_foresee rfl (am_tab tk_X9_ask 24 rfl) rfl ?_
          rintro r T3 hfo
          rw [if_pos (by rw [hdl]; exact ah)] at hfo
          obtain ⟨rfl, hq3, hA3, hFS3⟩ := hfo
          have hV3 : VQ 3 n.toNat cs T2 T3 := ⟨hq3, hA3, hFS3, hRL2.cq hq3 (by decide)⟩
          refine am_if_ne (q := 52) (t := 56) (am_tab tk_X9_ask 25 rfl) (by decide) rfl (fun h49 => ?_) (fun h49 => ?_)
          · refine am_aload_n (q := 57) rfl (am_tab tk_X9_ask 28 rfl) rfl ?_
            refine am_aload_n (q := 58) rfl (am_tab tk_X9_ask 29 rfl) rfl ?_
            refine am_getR (q := 61) (a := 0) (k := 9) (n := 17) (j := 1) (r := some (27)) (Ls_0 (hq3.L hC2.G.L)) (by decide) rfl (Lr_0_1 (hq3.L hC2.G.L)) (by decide) (Or.inl kf_X9_31) (am_tab tk_X9_ask 30 rfl) rfl ?_
            refine am_getI (q := 64) (a := 27) (k := 4) (n := 13) (j := 10) (x := (zK b E 0)) (Ls_27 (hq3.L hC2.G.L)) (by decide) rfl ((hq3.2.2 27 10 (by unfold W_cq; omega)).trans (show T2.2.1 27 10 = zK b E 0 by rw [hT2]; exact h10)) (by decide) (Or.inr kf_X9_315) (am_tab tk_X9_ask 31 rfl) rfl ?_
            refine am_callVr (q := 67) (me2 := M_X9_answerOf) (b := 0) (kb := 9) (nb := 17) (As := [am_i ((zK b E 0))]) (rest := []) (c_answerOf_3 T2 T3 n.toNat cs hC2 (zK b E 0) hV3 ⟨by omega, by omega⟩ hok hno hK h01) ⟨rfl, rfl⟩ (Ls_0 (hq3.L hC2.G.L)) (by decide) ⟨Or.inl km_X9_318, kc_X9_answerOf, kn_X9, kd_X9_answerOf, ⟨(Nat.le_of_ble_eq_true rfl), (Nat.le_of_ble_eq_true rfl)⟩, ⟨(Nat.le_of_ble_eq_true rfl), (Nat.le_of_ble_eq_true rfl)⟩, (Nat.le_of_ble_eq_true rfl)⟩ ki_X9_answerOf ks_X9_answerOf rfl (am_tab tk_X9_ask 32 rfl) rfl ?_
            rintro r T4 ⟨rfl, hq4⟩
            refine am_lret rfl (Nat.le_of_ble_eq_true rfl) (Nat.le_of_ble_eq_true rfl) (am_tab tk_X9_ask 33 rfl) ?_
            refine hQ _ _ ?_
            unfold ASK
            rw [if_pos ah]
            rw [hcs]
            refine ⟨?_, hno, ⟨(hq4.2.2 0 14 (by unfold W_cq; omega)).trans h14, (hq4.2.2 0 15 (by unfold W_cq; omega)).trans h15, (hq4.2.2 1 1 (by unfold W_cq; omega)).trans h11⟩, CK9.of hF2 hq4⟩
            rw [aqL_cn hcn, show pN T2 = pN σ by unfold pN; rw [cn_at hcn 85 5 (by decide) (by decide)]]
          · exact absurd h49 (by decide)
      · exact absurd ah (b01z h5)
    · refine am_aload_n (q := 1) rfl (am_tab tk_X9_ask 0 rfl) rfl ?_
      refine am_iload_n (q := 2) rfl (am_tab tk_X9_ask 1 rfl) rfl ?_
      refine am_callV0 (q := 5) (me2 := M_X9_isAhead) (b := 0) (kb := 9) (nb := 17) (As := [am_i n]) (rest := []) (out := [am_i (if (1 ≤ n ∧ n ≤ 120) ∧ n ≤ dlM σ then 1 else 0)]) (c_isAhead_3 σ hC n) ⟨rfl, rfl⟩ (Ls_0 hL) (by decide) ⟨Or.inl km_X9_257, kc_X9_isAhead, kn_X9, kd_X9_isAhead, ⟨(Nat.le_of_ble_eq_true rfl), (Nat.le_of_ble_eq_true rfl)⟩, ⟨(Nat.le_of_ble_eq_true rfl), (Nat.le_of_ble_eq_true rfl)⟩, (Nat.le_of_ble_eq_true rfl)⟩ ki_X9_isAhead ks_X9_isAhead rfl rfl (am_tab tk_X9_ask 2 rfl) rfl ?_
      refine am_if_ne (q := 8) (t := 20) (am_tab tk_X9_ask 3 rfl) (by decide) rfl (fun h5 => ?_) (fun h5 => ?_)
      · replace h5 := b01n h5
        refine am_aload_n (q := 21) rfl (am_tab tk_X9_ask 10 rfl) rfl ?_
        refine am_getR (q := 24) (a := 0) (k := 9) (n := 17) (j := 1) (r := some (27)) (Ls_0 hL) (by decide) rfl (Lr_0_1 hL) (by decide) (Or.inl kf_X9_31) (am_tab tk_X9_ask 11 rfl) rfl ?_
        refine am_callVr (q := 27) (me2 := M_X4_readQuestion) (b := 27) (kb := 4) (nb := 13) (As := []) (rest := []) (c_readQuestion b E σ hL hT) ⟨rfl, rfl⟩ (Ls_27 hL) (by decide) ⟨Or.inr km_X9_312, kc_X4_readQuestion, kn_X4, kd_X4_readQuestion, ⟨(Nat.le_of_ble_eq_true rfl), (Nat.le_of_ble_eq_true rfl)⟩, ⟨(Nat.le_of_ble_eq_true rfl), (Nat.le_of_ble_eq_true rfl)⟩, (Nat.le_of_ble_eq_true rfl)⟩ ki_X4_readQuestion ks_X4_readQuestion rfl (am_tab tk_X9_ask 12 rfl) rfl ?_
        rintro r T1 ⟨hN, hF1⟩
        have hL1 := hF1.L hL
        obtain ⟨e, hE⟩ := isRq lf
        rw [hE] at hN
        obtain ⟨rfl, hz, h8, h9⟩ := hN
        refine am_istore_n (q := 28) (by decide) (ls2 := [(2, am_i 0), (0, am_r 0), (1, am_i n)]) rfl (am_tab tk_X9_ask 13 rfl) rfl ?_
        refine am_aload_n (q := 29) rfl (am_tab tk_X9_ask 14 rfl) rfl ?_
        refine am_getR (q := 32) (a := 0) (k := 9) (n := 17) (j := 0) (r := some (1)) (Ls_0 hL1) (by decide) rfl (Lr_0_0 hL1) (by decide) (Or.inl kf_X9_12) (am_tab tk_X9_ask 15 rfl) rfl ?_
        refine am_iconst (q := 33) (n := 0) (by decide) (am_tab tk_X9_ask 16 rfl) rfl ?_
        refine am_putI (q := 36) (k := 6) (n := 2) (j := 1) (Ls_1 hL1) (by decide) rfl (by decide) (Or.inr (Or.inl ⟨kf_X9_89, rfl⟩)) (am_tab tk_X9_ask 17 rfl) rfl ?_
        refine am_aload_n (q := 37) rfl (am_tab tk_X9_ask 18 rfl) rfl ?_
        refine am_callVr (q := 40) (me2 := M_X9_noteFault) (b := 0) (kb := 9) (nb := 17) (As := []) (rest := []) (c_noteFault (am_setN T1 1 1 0) e.1 e.2 hL1 h8 h9) ⟨rfl, rfl⟩ (Ls_0 hL1) (by decide) ⟨Or.inl km_X9_104, kc_X9_noteFault, kn_X9, kd_X9_noteFault, ⟨(Nat.le_of_ble_eq_true rfl), (Nat.le_of_ble_eq_true rfl)⟩, ⟨(Nat.le_of_ble_eq_true rfl), (Nat.le_of_ble_eq_true rfl)⟩, (Nat.le_of_ble_eq_true rfl)⟩ ki_X9_noteFault ks_X9_noteFault rfl (am_tab tk_X9_ask 19 rfl) rfl ?_
        rintro r T2 ⟨rfl, hT2⟩
        have hF2 : frw W_ak σ T2 := by
          rw [hT2]
          exact (((hF1.mono (W2 := W_ak) (fun a j z => Or.inl z)).setN (by unfold W_ak; omega)).setN (by unfold W_ak; omega)).setN (by unfold W_ak; omega)
        have h14 : T2.2.1 0 14 = e.1 := by rw [hT2]; rfl
        have h15 : T2.2.1 0 15 = e.2 := by rw [hT2]; rfl
        have h11 : T2.2.1 1 1 = 0 := by rw [hT2]; rfl
        have hC2 : CI 3 T2 := hC.fr (Or.inl rfl) hCD hF2 (fun a j z => by unfold W_ak at z; omega)
        have hcn : cn T2 = cn σ := cn_eq (fun a j g1 g2 => hF2.2.2 a j (by unfold W_ak; omega))
        have hdl : dlM T2 = dlM σ := dl_55 hcn (hF2.2.2 55 52 (by unfold W_ak; omega))
        refine am_iload_n (q := 41) rfl (am_tab tk_X9_ask 20 rfl) rfl ?_
        refine am_if_eq (q := 44) (t := 52) (am_tab tk_X9_ask 21 rfl) (by decide) rfl (fun h41 => ?_) (fun h41 => ?_)
        · refine am_ldc2 (q := 55) (n := (-1000000000000000)) (by decide) kk_X9_310 (am_tab tk_X9_ask 26 rfl) rfl ?_
          refine am_lret rfl (Nat.le_of_ble_eq_true rfl) (Nat.le_of_ble_eq_true rfl) (am_tab tk_X9_ask 27 rfl) ?_
          refine hQ _ _ ?_
          unfold ASK
          rw [if_pos ah]
          rw [hE]
          exact ⟨rfl, hz, ⟨h14, h15, h11⟩, CK9.of hF2 (CQ.refl T2)⟩
        · exact absurd h41 (by decide)
      · exact absurd ah (b01z h5)
  · refine am_aload_n (q := 1) rfl (am_tab tk_X9_ask 0 rfl) rfl ?_
    refine am_iload_n (q := 2) rfl (am_tab tk_X9_ask 1 rfl) rfl ?_
    refine am_callV0 (q := 5) (me2 := M_X9_isAhead) (b := 0) (kb := 9) (nb := 17) (As := [am_i n]) (rest := []) (out := [am_i (if (1 ≤ n ∧ n ≤ 120) ∧ n ≤ dlM σ then 1 else 0)]) (c_isAhead_3 σ hC n) ⟨rfl, rfl⟩ (Ls_0 hL) (by decide) ⟨Or.inl km_X9_257, kc_X9_isAhead, kn_X9, kd_X9_isAhead, ⟨(Nat.le_of_ble_eq_true rfl), (Nat.le_of_ble_eq_true rfl)⟩, ⟨(Nat.le_of_ble_eq_true rfl), (Nat.le_of_ble_eq_true rfl)⟩, (Nat.le_of_ble_eq_true rfl)⟩ ki_X9_isAhead ks_X9_isAhead rfl rfl (am_tab tk_X9_ask 2 rfl) rfl ?_
    refine am_if_ne (q := 8) (t := 20) (am_tab tk_X9_ask 3 rfl) (by decide) rfl (fun h5 => ?_) (fun h5 => ?_)
    · exact absurd (b01n h5) ah
    · replace h5 := b01z h5
      refine am_aload_n (q := 9) rfl (am_tab tk_X9_ask 4 rfl) rfl ?_
      refine am_getR (q := 12) (a := 0) (k := 9) (n := 17) (j := 0) (r := some (1)) (Ls_0 hL) (by decide) rfl (Lr_0_0 hL) (by decide) (Or.inl kf_X9_12) (am_tab tk_X9_ask 5 rfl) rfl ?_
      refine am_iconst (q := 13) (n := 0) (by decide) (am_tab tk_X9_ask 6 rfl) rfl ?_
      refine am_putI (q := 16) (k := 6) (n := 2) (j := 1) (Ls_1 hL) (by decide) rfl (by decide) (Or.inr (Or.inl ⟨kf_X9_89, rfl⟩)) (am_tab tk_X9_ask 7 rfl) rfl ?_
      refine am_ldc2 (q := 19) (n := (-1000000000000000)) (by decide) kk_X9_310 (am_tab tk_X9_ask 8 rfl) rfl ?_
      refine am_lret rfl (Nat.le_of_ble_eq_true rfl) (Nat.le_of_ble_eq_true rfl) (am_tab tk_X9_ask 9 rfl) ?_
      refine hQ _ _ ?_
      unfold ASK
      rw [if_neg ah]
      exact ⟨rfl, rfl⟩
set_option maxRecDepth 100000 in
theorem c_ask_15 (b : Nat → Int) (E : Nat) (σ : am_H) (hC : CI 15 σ) (n : Int) (hT : TP b E σ) (hCD : CDt 15 σ) : am_met M_X9_ask [am_r 0, am_i n] σ (fun r σ' => ASK b E σ n r σ') := by
  refine am_qq (fun Q hQ => ?_)
  refine am_enter (show plainFor yX9_ask = true by decide +kernel) rfl (Nat.le_of_ble_eq_true rfl) (fun _ _ _ => trivial) ?_
  have hL := hC.G.L
  by_cases ah : (1 ≤ n ∧ n ≤ 120) ∧ n ≤ dlM σ
  · by_cases lf : (aqF b E).isLeft = true
    · refine am_aload_n (q := 1) rfl (am_tab tk_X9_ask 0 rfl) rfl ?_
      refine am_iload_n (q := 2) rfl (am_tab tk_X9_ask 1 rfl) rfl ?_
      refine am_callV0 (q := 5) (me2 := M_X9_isAhead) (b := 0) (kb := 9) (nb := 17) (As := [am_i n]) (rest := []) (out := [am_i (if (1 ≤ n ∧ n ≤ 120) ∧ n ≤ dlM σ then 1 else 0)]) (c_isAhead_15 σ hC n) ⟨rfl, rfl⟩ (Ls_0 hL) (by decide) ⟨Or.inl km_X9_257, kc_X9_isAhead, kn_X9, kd_X9_isAhead, ⟨(Nat.le_of_ble_eq_true rfl), (Nat.le_of_ble_eq_true rfl)⟩, ⟨(Nat.le_of_ble_eq_true rfl), (Nat.le_of_ble_eq_true rfl)⟩, (Nat.le_of_ble_eq_true rfl)⟩ ki_X9_isAhead ks_X9_isAhead rfl rfl (am_tab tk_X9_ask 2 rfl) rfl ?_
      refine am_if_ne (q := 8) (t := 20) (am_tab tk_X9_ask 3 rfl) (by decide) rfl (fun h5 => ?_) (fun h5 => ?_)
      · replace h5 := b01n h5
        refine am_aload_n (q := 21) rfl (am_tab tk_X9_ask 10 rfl) rfl ?_
        refine am_getR (q := 24) (a := 0) (k := 9) (n := 17) (j := 1) (r := some (27)) (Ls_0 hL) (by decide) rfl (Lr_0_1 hL) (by decide) (Or.inl kf_X9_31) (am_tab tk_X9_ask 11 rfl) rfl ?_
        refine am_callVr (q := 27) (me2 := M_X4_readQuestion) (b := 27) (kb := 4) (nb := 13) (As := []) (rest := []) (c_readQuestion b E σ hL hT) ⟨rfl, rfl⟩ (Ls_27 hL) (by decide) ⟨Or.inr km_X9_312, kc_X4_readQuestion, kn_X4, kd_X4_readQuestion, ⟨(Nat.le_of_ble_eq_true rfl), (Nat.le_of_ble_eq_true rfl)⟩, ⟨(Nat.le_of_ble_eq_true rfl), (Nat.le_of_ble_eq_true rfl)⟩, (Nat.le_of_ble_eq_true rfl)⟩ ki_X4_readQuestion ks_X4_readQuestion rfl (am_tab tk_X9_ask 12 rfl) rfl ?_
        rintro r T1 ⟨hN, hF1⟩
        have hL1 := hF1.L hL
        obtain ⟨cs, hcs⟩ := isLq lf
        rw [hcs] at hN
        obtain ⟨rfl, hRL, ⟨hok, hno⟩, hK, h01, h10, h8, h9⟩ := hN
        refine am_istore_n (q := 28) (by decide) (ls2 := [(2, am_i 1), (0, am_r 0), (1, am_i n)]) rfl (am_tab tk_X9_ask 13 rfl) rfl ?_
        refine am_aload_n (q := 29) rfl (am_tab tk_X9_ask 14 rfl) rfl ?_
        refine am_getR (q := 32) (a := 0) (k := 9) (n := 17) (j := 0) (r := some (1)) (Ls_0 hL1) (by decide) rfl (Lr_0_0 hL1) (by decide) (Or.inl kf_X9_12) (am_tab tk_X9_ask 15 rfl) rfl ?_
        refine am_iconst (q := 33) (n := 0) (by decide) (am_tab tk_X9_ask 16 rfl) rfl ?_
        refine am_putI (q := 36) (k := 6) (n := 2) (j := 1) (Ls_1 hL1) (by decide) rfl (by decide) (Or.inr (Or.inl ⟨kf_X9_89, rfl⟩)) (am_tab tk_X9_ask 17 rfl) rfl ?_
        refine am_aload_n (q := 37) rfl (am_tab tk_X9_ask 18 rfl) rfl ?_
        refine am_callVr (q := 40) (me2 := M_X9_noteFault) (b := 0) (kb := 9) (nb := 17) (As := []) (rest := []) (c_noteFault (am_setN T1 1 1 0) 0 (-1) hL1 h8 h9) ⟨rfl, rfl⟩ (Ls_0 hL1) (by decide) ⟨Or.inl km_X9_104, kc_X9_noteFault, kn_X9, kd_X9_noteFault, ⟨(Nat.le_of_ble_eq_true rfl), (Nat.le_of_ble_eq_true rfl)⟩, ⟨(Nat.le_of_ble_eq_true rfl), (Nat.le_of_ble_eq_true rfl)⟩, (Nat.le_of_ble_eq_true rfl)⟩ ki_X9_noteFault ks_X9_noteFault rfl (am_tab tk_X9_ask 19 rfl) rfl ?_
        rintro r T2 ⟨rfl, hT2⟩
        have hF2 : frw W_ak σ T2 := by
          rw [hT2]
          exact (((hF1.mono (W2 := W_ak) (fun a j z => Or.inl z)).setN (by unfold W_ak; omega)).setN (by unfold W_ak; omega)).setN (by unfold W_ak; omega)
        have hRL2 : RLr 28 T2 cs := hRL.fr (W := fun a _ => a ≤ 1) (by rw [hT2]; exact (((frw.refl (fun a _ => a ≤ 1) T1).setN (Nat.le_refl 1)).setN (Nat.zero_le 1)).setN (Nat.zero_le 1)) (by decide) (fun a j z => by omega)
        have h14 : T2.2.1 0 14 = 0 := by rw [hT2]; rfl
        have h15 : T2.2.1 0 15 = (-1) := by rw [hT2]; rfl
        have h11 : T2.2.1 1 1 = 0 := by rw [hT2]; rfl
        have hC2 : CI 15 T2 := hC.fr (Or.inr rfl) hCD hF2 (fun a j z => by unfold W_ak at z; omega)
        have hcn : cn T2 = cn σ := cn_eq (fun a j g1 g2 => hF2.2.2 a j (by unfold W_ak; omega))
        have hdl : dlM T2 = dlM σ := dl_55 hcn (hF2.2.2 55 52 (by unfold W_ak; omega))
        refine am_iload_n (q := 41) rfl (am_tab tk_X9_ask 20 rfl) rfl ?_
        refine am_if_eq (q := 44) (t := 52) (am_tab tk_X9_ask 21 rfl) (by decide) rfl (fun h41 => ?_) (fun h41 => ?_)
        · exact absurd h41 (by decide)
        · refine am_aload_n (q := 45) rfl (am_tab tk_X9_ask 22 rfl) rfl ?_
          refine am_iload_n (q := 46) rfl (am_tab tk_X9_ask 23 rfl) rfl ?_
          refine am_callVr (q := 49) (me2 := M_X9_foresee) (b := 0) (kb := 9) (nb := 17) (As := [am_i n]) (rest := []) (c_foresee_15 T2 hC2 n) ⟨rfl, rfl⟩ (Ls_0 hC2.G.L) (by decide) ⟨Or.inl km_X9_219, kc_X9_foresee, kn_X9, kd_X9_foresee, ⟨(Nat.le_of_ble_eq_true rfl), (Nat.le_of_ble_eq_true rfl)⟩, ⟨(Nat.le_of_ble_eq_true rfl), (Nat.le_of_ble_eq_true rfl)⟩, (Nat.le_of_ble_eq_true rfl)⟩ ki_X9_foresee ks_X9_foresee rfl (am_tab tk_X9_ask 24 rfl) rfl ?_
          rintro r T3 hfo
          rw [if_pos (by rw [hdl]; exact ah)] at hfo
          obtain ⟨rfl, hq3, hA3, hFS3⟩ := hfo
          have hV3 : VQ 15 n.toNat cs T2 T3 := ⟨hq3, hA3, hFS3, hRL2.cq hq3 (by decide)⟩
          refine am_if_ne (q := 52) (t := 56) (am_tab tk_X9_ask 25 rfl) (by decide) rfl (fun h49 => ?_) (fun h49 => ?_)
          · refine am_aload_n (q := 57) rfl (am_tab tk_X9_ask 28 rfl) rfl ?_
            refine am_aload_n (q := 58) rfl (am_tab tk_X9_ask 29 rfl) rfl ?_
            refine am_getR (q := 61) (a := 0) (k := 9) (n := 17) (j := 1) (r := some (27)) (Ls_0 (hq3.L hC2.G.L)) (by decide) rfl (Lr_0_1 (hq3.L hC2.G.L)) (by decide) (Or.inl kf_X9_31) (am_tab tk_X9_ask 30 rfl) rfl ?_
            refine am_getI (q := 64) (a := 27) (k := 4) (n := 13) (j := 10) (x := (zK b E 0)) (Ls_27 (hq3.L hC2.G.L)) (by decide) rfl ((hq3.2.2 27 10 (by unfold W_cq; omega)).trans (show T2.2.1 27 10 = zK b E 0 by rw [hT2]; exact h10)) (by decide) (Or.inr kf_X9_315) (am_tab tk_X9_ask 31 rfl) rfl ?_
            refine am_callVr (q := 67) (me2 := M_X9_answerOf) (b := 0) (kb := 9) (nb := 17) (As := [am_i ((zK b E 0))]) (rest := []) (c_answerOf_15 T2 T3 n.toNat cs hC2 (zK b E 0) hV3 ⟨by omega, by omega⟩ hok hno hK h01) ⟨rfl, rfl⟩ (Ls_0 (hq3.L hC2.G.L)) (by decide) ⟨Or.inl km_X9_318, kc_X9_answerOf, kn_X9, kd_X9_answerOf, ⟨(Nat.le_of_ble_eq_true rfl), (Nat.le_of_ble_eq_true rfl)⟩, ⟨(Nat.le_of_ble_eq_true rfl), (Nat.le_of_ble_eq_true rfl)⟩, (Nat.le_of_ble_eq_true rfl)⟩ ki_X9_answerOf ks_X9_answerOf rfl (am_tab tk_X9_ask 32 rfl) rfl ?_
            rintro r T4 ⟨rfl, hq4⟩
            refine am_lret rfl (Nat.le_of_ble_eq_true rfl) (Nat.le_of_ble_eq_true rfl) (am_tab tk_X9_ask 33 rfl) ?_
            refine hQ _ _ ?_
            unfold ASK
            rw [if_pos ah]
            rw [hcs]
            refine ⟨?_, hno, ⟨(hq4.2.2 0 14 (by unfold W_cq; omega)).trans h14, (hq4.2.2 0 15 (by unfold W_cq; omega)).trans h15, (hq4.2.2 1 1 (by unfold W_cq; omega)).trans h11⟩, CK9.of hF2 hq4⟩
            rw [aqL_cn hcn, show pN T2 = pN σ by unfold pN; rw [cn_at hcn 85 5 (by decide) (by decide)]]
          · exact absurd h49 (by decide)
      · exact absurd ah (b01z h5)
    · refine am_aload_n (q := 1) rfl (am_tab tk_X9_ask 0 rfl) rfl ?_
      refine am_iload_n (q := 2) rfl (am_tab tk_X9_ask 1 rfl) rfl ?_
      refine am_callV0 (q := 5) (me2 := M_X9_isAhead) (b := 0) (kb := 9) (nb := 17) (As := [am_i n]) (rest := []) (out := [am_i (if (1 ≤ n ∧ n ≤ 120) ∧ n ≤ dlM σ then 1 else 0)]) (c_isAhead_15 σ hC n) ⟨rfl, rfl⟩ (Ls_0 hL) (by decide) ⟨Or.inl km_X9_257, kc_X9_isAhead, kn_X9, kd_X9_isAhead, ⟨(Nat.le_of_ble_eq_true rfl), (Nat.le_of_ble_eq_true rfl)⟩, ⟨(Nat.le_of_ble_eq_true rfl), (Nat.le_of_ble_eq_true rfl)⟩, (Nat.le_of_ble_eq_true rfl)⟩ ki_X9_isAhead ks_X9_isAhead rfl rfl (am_tab tk_X9_ask 2 rfl) rfl ?_
      refine am_if_ne (q := 8) (t := 20) (am_tab tk_X9_ask 3 rfl) (by decide) rfl (fun h5 => ?_) (fun h5 => ?_)
      · replace h5 := b01n h5
        refine am_aload_n (q := 21) rfl (am_tab tk_X9_ask 10 rfl) rfl ?_
        refine am_getR (q := 24) (a := 0) (k := 9) (n := 17) (j := 1) (r := some (27)) (Ls_0 hL) (by decide) rfl (Lr_0_1 hL) (by decide) (Or.inl kf_X9_31) (am_tab tk_X9_ask 11 rfl) rfl ?_
        refine am_callVr (q := 27) (me2 := M_X4_readQuestion) (b := 27) (kb := 4) (nb := 13) (As := []) (rest := []) (c_readQuestion b E σ hL hT) ⟨rfl, rfl⟩ (Ls_27 hL) (by decide) ⟨Or.inr km_X9_312, kc_X4_readQuestion, kn_X4, kd_X4_readQuestion, ⟨(Nat.le_of_ble_eq_true rfl), (Nat.le_of_ble_eq_true rfl)⟩, ⟨(Nat.le_of_ble_eq_true rfl), (Nat.le_of_ble_eq_true rfl)⟩, (Nat.le_of_ble_eq_true rfl)⟩ ki_X4_readQuestion ks_X4_readQuestion rfl (am_tab tk_X9_ask 12 rfl) rfl ?_
        rintro r T1 ⟨hN, hF1⟩
        have hL1 := hF1.L hL
        obtain ⟨e, hE⟩ := isRq lf
        rw [hE] at hN
        obtain ⟨rfl, hz, h8, h9⟩ := hN
        refine am_istore_n (q := 28) (by decide) (ls2 := [(2, am_i 0), (0, am_r 0), (1, am_i n)]) rfl (am_tab tk_X9_ask 13 rfl) rfl ?_
        refine am_aload_n (q := 29) rfl (am_tab tk_X9_ask 14 rfl) rfl ?_
        refine am_getR (q := 32) (a := 0) (k := 9) (n := 17) (j := 0) (r := some (1)) (Ls_0 hL1) (by decide) rfl (Lr_0_0 hL1) (by decide) (Or.inl kf_X9_12) (am_tab tk_X9_ask 15 rfl) rfl ?_
        refine am_iconst (q := 33) (n := 0) (by decide) (am_tab tk_X9_ask 16 rfl) rfl ?_
        refine am_putI (q := 36) (k := 6) (n := 2) (j := 1) (Ls_1 hL1) (by decide) rfl (by decide) (Or.inr (Or.inl ⟨kf_X9_89, rfl⟩)) (am_tab tk_X9_ask 17 rfl) rfl ?_
        refine am_aload_n (q := 37) rfl (am_tab tk_X9_ask 18 rfl) rfl ?_
        refine am_callVr (q := 40) (me2 := M_X9_noteFault) (b := 0) (kb := 9) (nb := 17) (As := []) (rest := []) (c_noteFault (am_setN T1 1 1 0) e.1 e.2 hL1 h8 h9) ⟨rfl, rfl⟩ (Ls_0 hL1) (by decide) ⟨Or.inl km_X9_104, kc_X9_noteFault, kn_X9, kd_X9_noteFault, ⟨(Nat.le_of_ble_eq_true rfl), (Nat.le_of_ble_eq_true rfl)⟩, ⟨(Nat.le_of_ble_eq_true rfl), (Nat.le_of_ble_eq_true rfl)⟩, (Nat.le_of_ble_eq_true rfl)⟩ ki_X9_noteFault ks_X9_noteFault rfl (am_tab tk_X9_ask 19 rfl) rfl ?_
        rintro r T2 ⟨rfl, hT2⟩
        have hF2 : frw W_ak σ T2 := by
          rw [hT2]
          exact (((hF1.mono (W2 := W_ak) (fun a j z => Or.inl z)).setN (by unfold W_ak; omega)).setN (by unfold W_ak; omega)).setN (by unfold W_ak; omega)
        have h14 : T2.2.1 0 14 = e.1 := by rw [hT2]; rfl
        have h15 : T2.2.1 0 15 = e.2 := by rw [hT2]; rfl
        have h11 : T2.2.1 1 1 = 0 := by rw [hT2]; rfl
        have hC2 : CI 15 T2 := hC.fr (Or.inr rfl) hCD hF2 (fun a j z => by unfold W_ak at z; omega)
        have hcn : cn T2 = cn σ := cn_eq (fun a j g1 g2 => hF2.2.2 a j (by unfold W_ak; omega))
        have hdl : dlM T2 = dlM σ := dl_55 hcn (hF2.2.2 55 52 (by unfold W_ak; omega))
        refine am_iload_n (q := 41) rfl (am_tab tk_X9_ask 20 rfl) rfl ?_
        refine am_if_eq (q := 44) (t := 52) (am_tab tk_X9_ask 21 rfl) (by decide) rfl (fun h41 => ?_) (fun h41 => ?_)
        · refine am_ldc2 (q := 55) (n := (-1000000000000000)) (by decide) kk_X9_310 (am_tab tk_X9_ask 26 rfl) rfl ?_
          refine am_lret rfl (Nat.le_of_ble_eq_true rfl) (Nat.le_of_ble_eq_true rfl) (am_tab tk_X9_ask 27 rfl) ?_
          refine hQ _ _ ?_
          unfold ASK
          rw [if_pos ah]
          rw [hE]
          exact ⟨rfl, hz, ⟨h14, h15, h11⟩, CK9.of hF2 (CQ.refl T2)⟩
        · exact absurd h41 (by decide)
      · exact absurd ah (b01z h5)
  · refine am_aload_n (q := 1) rfl (am_tab tk_X9_ask 0 rfl) rfl ?_
    refine am_iload_n (q := 2) rfl (am_tab tk_X9_ask 1 rfl) rfl ?_
    refine am_callV0 (q := 5) (me2 := M_X9_isAhead) (b := 0) (kb := 9) (nb := 17) (As := [am_i n]) (rest := []) (out := [am_i (if (1 ≤ n ∧ n ≤ 120) ∧ n ≤ dlM σ then 1 else 0)]) (c_isAhead_15 σ hC n) ⟨rfl, rfl⟩ (Ls_0 hL) (by decide) ⟨Or.inl km_X9_257, kc_X9_isAhead, kn_X9, kd_X9_isAhead, ⟨(Nat.le_of_ble_eq_true rfl), (Nat.le_of_ble_eq_true rfl)⟩, ⟨(Nat.le_of_ble_eq_true rfl), (Nat.le_of_ble_eq_true rfl)⟩, (Nat.le_of_ble_eq_true rfl)⟩ ki_X9_isAhead ks_X9_isAhead rfl rfl (am_tab tk_X9_ask 2 rfl) rfl ?_
    refine am_if_ne (q := 8) (t := 20) (am_tab tk_X9_ask 3 rfl) (by decide) rfl (fun h5 => ?_) (fun h5 => ?_)
    · exact absurd (b01n h5) ah
    · replace h5 := b01z h5
      refine am_aload_n (q := 9) rfl (am_tab tk_X9_ask 4 rfl) rfl ?_
      refine am_getR (q := 12) (a := 0) (k := 9) (n := 17) (j := 0) (r := some (1)) (Ls_0 hL) (by decide) rfl (Lr_0_0 hL) (by decide) (Or.inl kf_X9_12) (am_tab tk_X9_ask 5 rfl) rfl ?_
      refine am_iconst (q := 13) (n := 0) (by decide) (am_tab tk_X9_ask 6 rfl) rfl ?_
      refine am_putI (q := 16) (k := 6) (n := 2) (j := 1) (Ls_1 hL) (by decide) rfl (by decide) (Or.inr (Or.inl ⟨kf_X9_89, rfl⟩)) (am_tab tk_X9_ask 7 rfl) rfl ?_
      refine am_ldc2 (q := 19) (n := (-1000000000000000)) (by decide) kk_X9_310 (am_tab tk_X9_ask 8 rfl) rfl ?_
      refine am_lret rfl (Nat.le_of_ble_eq_true rfl) (Nat.le_of_ble_eq_true rfl) (am_tab tk_X9_ask 9 rfl) ?_
      refine hQ _ _ ?_
      unfold ASK
      rw [if_neg ah]
      exact ⟨rfl, rfl⟩
