theorem lv_cq {σ S : am_H} (hQ : CQ σ S) : lvM S = lvM σ := by
  have e : ∀ a j, 55 ≤ a → S.2.1 a j = σ.2.1 a j := fun a j ha => hQ.2.2 a j (by unfold W_cq; omega)
  unfold lvM pN
  rw [e 85 5 (by omega)]
  exact mkS_congr _ (fun p _ => by rw [e 96 _ (by omega)])
set_option maxRecDepth 100000 in
theorem c_turnsOf_3 (σ : am_H) (hC : CI 3 σ) (n : Int)  : am_met M_X9_turnsOf [am_r 0, am_i n] σ (fun r σ' => r = some (am_i (trnM σ n)) ∧ CQ σ σ') := by
  refine am_qq (fun Q hQ => ?_)
  refine am_enter (show plainFor yX9_turnsOf = true by decide +kernel) rfl (Nat.le_of_ble_eq_true rfl) (fun _ _ _ => trivial) ?_
  have hL := hC.G.L
  have hlv := lvM_rng hC.G.R
  by_cases cm : cM σ
  · refine am_iload_n (q := 1) rfl (am_tab tk_X9_turnsOf 0 rfl) rfl ?_
    refine am_if_lt (q := 4) (t := 27) (am_tab tk_X9_turnsOf 1 rfl) (by decide) rfl (fun h1 => ?_) (fun h1 => ?_)
    · refine am_iconst (q := 28) (n := (-1)) (by decide) (am_tab tk_X9_turnsOf 13 rfl) rfl ?_
      refine am_iret (Or.inl rfl) (Nat.le_of_ble_eq_true rfl) (Nat.le_of_ble_eq_true rfl) (am_tab tk_X9_turnsOf 14 rfl) ?_
      refine hQ _ _ ?_
      refine ⟨congrArg (fun z => some (am_i z)) ?_, CQ.refl σ⟩
      unfold trnM
      rw [if_neg (fun h => by have := h.2; omega)]
    · refine am_iload_n (q := 5) rfl (am_tab tk_X9_turnsOf 2 rfl) rfl ?_
      refine am_iconst (q := 6) (n := 2) (by decide) (am_tab tk_X9_turnsOf 3 rfl) rfl ?_
      refine am_icmp_gt (q := 9) (t := 27) (am_tab tk_X9_turnsOf 4 rfl) (by decide) rfl (fun h6 => ?_) (fun h6 => ?_)
      · refine am_iconst (q := 28) (n := (-1)) (by decide) (am_tab tk_X9_turnsOf 13 rfl) rfl ?_
        refine am_iret (Or.inl rfl) (Nat.le_of_ble_eq_true rfl) (Nat.le_of_ble_eq_true rfl) (am_tab tk_X9_turnsOf 14 rfl) ?_
        refine hQ _ _ ?_
        refine ⟨congrArg (fun z => some (am_i z)) ?_, CQ.refl σ⟩
        unfold trnM
        rw [if_neg (fun h => by have := h.2; omega)]
      · refine am_aload_n (q := 10) rfl (am_tab tk_X9_turnsOf 5 rfl) rfl ?_
        refine am_getR (q := 13) (a := 0) (k := 9) (n := 17) (j := 7) (r := some (44)) (Ls_0 hL) (by decide) rfl (Lr_0_7 hL) (by decide) (Or.inl kf_X9_57) (am_tab tk_X9_turnsOf 6 rfl) rfl ?_
        refine am_aload_n (q := 14) rfl (am_tab tk_X9_turnsOf 7 rfl) rfl ?_
        refine am_getR (q := 17) (a := 0) (k := 9) (n := 17) (j := 2) (r := some (3)) (Ls_0 hL) (by decide) rfl hC.t (by decide) (Or.inl kf_X9_19) (am_tab tk_X9_turnsOf 8 rfl) rfl ?_
        refine am_aload_n (q := 18) rfl (am_tab tk_X9_turnsOf 9 rfl) rfl ?_
        refine am_getR (q := 21) (a := 0) (k := 9) (n := 17) (j := 4) (r := some (32)) (Ls_0 hL) (by decide) rfl (Lr_0_4 hL) (by decide) (Or.inl kf_X9_38) (am_tab tk_X9_turnsOf 10 rfl) rfl ?_
        refine am_callVr (q := 24) (me2 := M_X0_lookAt) (b := 44) (kb := 0) (nb := 14) (As := [am_r 3, am_r 32]) (rest := []) (c_lookAt_3_32 σ σ hL hC.G hC.W hC.F) ⟨rfl, rfl⟩ (Ls_44 hL) (by decide) ⟨Or.inr km_X9_247, kc_X0_lookAt, kn_X0, kd_X0_lookAt, ⟨(Nat.le_of_ble_eq_true rfl), (Nat.le_of_ble_eq_true rfl)⟩, ⟨(Nat.le_of_ble_eq_true rfl), (Nat.le_of_ble_eq_true rfl)⟩, (Nat.le_of_ble_eq_true rfl)⟩ ki_X0_lookAt ks_X0_lookAt rfl (am_tab tk_X9_turnsOf 11 rfl) rfl ?_
        rintro r S0 hlk
        rw [if_pos ((cM_dl hC.G.R).mp cm)] at hlk
        obtain ⟨rfl, hDA, hFb⟩ := hlk
        have hq0 : CQ σ S0 := CQ.base hFb
        have hcc := cM_cc hC.G.R cm
        have hGB := bgS_GD hC.G hcc
        refine am_st (st2 := [am_i 1]) rfl ?_
        refine am_if_ne (q := 27) (t := 29) (am_tab tk_X9_turnsOf 12 rfl) (by decide) rfl (fun h24 => ?_) (fun h24 => ?_)
        · obtain ⟨m, rfl⟩ := toN (show 0 ≤ n by omega)
          refine am_aload_n (q := 30) rfl (am_tab tk_X9_turnsOf 15 rfl) rfl ?_
          refine am_callVr (q := 33) (me2 := M_X9_living) (b := 0) (kb := 9) (nb := 17) (As := []) (rest := []) (c_living_3 S0 (hC.cq hq0 (by decide))) ⟨rfl, rfl⟩ (Ls_0 (hq0.L hC.G.L)) (by decide) ⟨Or.inl km_X9_129, kc_X9_living, kn_X9, kd_X9_living, ⟨(Nat.le_of_ble_eq_true rfl), (Nat.le_of_ble_eq_true rfl)⟩, ⟨(Nat.le_of_ble_eq_true rfl), (Nat.le_of_ble_eq_true rfl)⟩, (Nat.le_of_ble_eq_true rfl)⟩ ki_X9_living ks_X9_living rfl (am_tab tk_X9_turnsOf 16 rfl) rfl ?_
          rintro r τ ⟨hr9, hτ⟩
          rw [liv_eq (hC.cq hq0 (by decide)).G (hC.cq hq0 (by decide)).F, lv_cq hq0] at hr9
          rw [hr9, hτ]
          refine am_st (st2 := [am_i (lvM σ)]) rfl ?_
          refine am_istore_n (q := 34) (by decide) (ls2 := [(2, am_i (lvM σ)), (0, am_r 0), (1, am_i ((m : Int)))]) rfl (am_tab tk_X9_turnsOf 17 rfl) rfl ?_
          refine am_aload_n (q := 35) rfl (am_tab tk_X9_turnsOf 18 rfl) rfl ?_
          refine am_getR (q := 38) (a := 0) (k := 9) (n := 17) (j := 7) (r := some (44)) (Ls_0 (hq0.L hC.G.L)) (by decide) rfl (Lr_0_7 (hq0.L hC.G.L)) (by decide) (Or.inl kf_X9_57) (am_tab tk_X9_turnsOf 19 rfl) rfl ?_
          refine am_iload_n (q := 39) rfl (am_tab tk_X9_turnsOf 20 rfl) rfl ?_
          refine am_iconst (q := 40) (n := 0) (by decide) (am_tab tk_X9_turnsOf 21 rfl) rfl ?_
          refine am_callVr (q := 43) (me2 := M_X0_ofThemselves) (b := 44) (kb := 0) (nb := 14) (As := [am_i (lvM σ), am_i 0]) (rest := []) (c_ofThemselves_3_32 S0 (bgS σ) (hq0.L hC.G.L) hGB hDA.1 (lvM σ) 0 hlv (by decide) (lv_in hC.G)) ⟨rfl, rfl⟩ (Ls_44 (hq0.L hC.G.L)) (by decide) ⟨Or.inr km_X9_269, kc_X0_ofThemselves, kn_X0, kd_X0_ofThemselves, ⟨(Nat.le_of_ble_eq_true rfl), (Nat.le_of_ble_eq_true rfl)⟩, ⟨(Nat.le_of_ble_eq_true rfl), (Nat.le_of_ble_eq_true rfl)⟩, (Nat.le_of_ble_eq_true rfl)⟩ ki_X0_ofThemselves ks_X0_ofThemselves rfl (am_tab tk_X9_turnsOf 22 rfl) rfl ?_
          rintro r S1 ⟨hr9, hFS1⟩
          have hr8 : r = some (am_i (tuU σ)) := hr9
          subst hr8
          have hqS1 : CQ σ S1 := hq0.trans (hFS1.cq (by unfold W_ow W_cq; omega))
          have hDS1 := hDA.1.fr (W_ow_d hFS1) (by decide) (by decide)
          refine am_st (st2 := [am_i (tuU σ)]) rfl ?_
          refine am_istore_n (q := 44) (by decide) (ls2 := [(3, am_i (tuU σ)), (2, am_i (lvM σ)), (0, am_r 0), (1, am_i ((m : Int)))]) rfl (am_tab tk_X9_turnsOf 23 rfl) rfl ?_
          refine am_aload_n (q := 45) rfl (am_tab tk_X9_turnsOf 24 rfl) rfl ?_
          refine am_getR (q := 48) (a := 0) (k := 9) (n := 17) (j := 7) (r := some (44)) (Ls_0 (hqS1.L hC.G.L)) (by decide) rfl (Lr_0_7 (hqS1.L hC.G.L)) (by decide) (Or.inl kf_X9_57) (am_tab tk_X9_turnsOf 25 rfl) rfl ?_
          refine am_iload_n (q := 49) rfl (am_tab tk_X9_turnsOf 26 rfl) rfl ?_
          refine am_iload_n (q := 50) rfl (am_tab tk_X9_turnsOf 27 rfl) rfl ?_
          refine am_callVr (q := 53) (me2 := M_X0_ofThemselves) (b := 44) (kb := 0) (nb := 14) (As := [am_i (lvM σ), am_i (lvM σ)]) (rest := []) (c_ofThemselves_3_32 S1 (bgS σ) (hqS1.L hC.G.L) hGB hDS1 (lvM σ) (lvM σ) hlv hlv (lv_in hC.G)) ⟨rfl, rfl⟩ (Ls_44 (hqS1.L hC.G.L)) (by decide) ⟨Or.inr km_X9_269, kc_X0_ofThemselves, kn_X0, kd_X0_ofThemselves, ⟨(Nat.le_of_ble_eq_true rfl), (Nat.le_of_ble_eq_true rfl)⟩, ⟨(Nat.le_of_ble_eq_true rfl), (Nat.le_of_ble_eq_true rfl)⟩, (Nat.le_of_ble_eq_true rfl)⟩ ki_X0_ofThemselves ks_X0_ofThemselves rfl (am_tab tk_X9_turnsOf 28 rfl) rfl ?_
          rintro r S2 ⟨hr9, hFS2⟩
          have hr8 : r = some (am_i (tuT σ)) := hr9
          subst hr8
          have hqS2 : CQ σ S2 := hqS1.trans (hFS2.cq (by unfold W_ow W_cq; omega))
          have hDS2 := hDS1.fr (W_ow_d hFS2) (by decide) (by decide)
          refine am_st (st2 := [am_i (tuT σ)]) rfl ?_
          refine am_istore (q := 55) (by decide) (ls2 := [(4, am_i (tuT σ)), (3, am_i (tuU σ)), (2, am_i (lvM σ)), (0, am_r 0), (1, am_i ((m : Int)))]) rfl (am_tab tk_X9_turnsOf 29 rfl) rfl ?_
          refine am_iload_n (q := 56) rfl (am_tab tk_X9_turnsOf 30 rfl) rfl ?_
          refine am_iload_n (q := 57) rfl (am_tab tk_X9_turnsOf 31 rfl) rfl ?_
          refine am_iload (q := 59) rfl (am_tab tk_X9_turnsOf 32 rfl) rfl ?_
          refine am_iload_n (q := 60) rfl (am_tab tk_X9_turnsOf 33 rfl) rfl ?_
          refine am_iload_n (q := 61) rfl (am_tab tk_X9_turnsOf 34 rfl) rfl ?_
          refine am_callS0 (q := 64) (me2 := (M_X9_somebodyByTurns 2)) (As := [am_i ((m : Int)), am_i (tuU σ), am_i (tuT σ), am_i (lvM σ), am_i (lvM σ)]) (rest := []) (out := [am_i (b2i (sbF (tuU σ) (tuT σ) m (lvM σ) (lvM σ)))]) (c_sbt S2 (tuU σ) (tuT σ) m 2 (by omega) (by omega) (lvM σ) (lvM σ) hlv hlv) ⟨rfl, rfl⟩ ⟨Or.inl km_X9_271, kc_X9_somebodyByTurns, kn_X9, kd_X9_somebodyByTurns, ⟨(Nat.le_of_ble_eq_true rfl), (Nat.le_of_ble_eq_true rfl)⟩, ⟨(Nat.le_of_ble_eq_true rfl), (Nat.le_of_ble_eq_true rfl)⟩, (Nat.le_of_ble_eq_true rfl)⟩ ki_X9_somebodyByTurns rfl rfl (am_tab tk_X9_turnsOf 35 rfl) rfl ?_
          refine am_if_eq (q := 67) (t := 71) (am_tab tk_X9_turnsOf 36 rfl) (by decide) rfl (fun h64 => ?_) (fun h64 => ?_)
          · refine am_iconst (q := 72) (n := 0) (by decide) (am_tab tk_X9_turnsOf 39 rfl) rfl ?_
            refine am_iret (Or.inl rfl) (Nat.le_of_ble_eq_true rfl) (Nat.le_of_ble_eq_true rfl) (am_tab tk_X9_turnsOf 40 rfl) ?_
            refine hQ _ _ ?_
            refine ⟨congrArg (fun z => some (am_i z)) ?_, hqS2⟩
            unfold trnM
            rw [if_pos ⟨cm, by omega⟩, trn_eq hC.G (by omega)]
            first | exact b2i_1 h64 | exact b2i_0 h64
          · refine am_iconst (q := 68) (n := 1) (by decide) (am_tab tk_X9_turnsOf 37 rfl) rfl ?_
            refine am_goto (t := 72) (am_tab tk_X9_turnsOf 38 rfl) (by decide) ?_
            refine am_iret (Or.inl rfl) (Nat.le_of_ble_eq_true rfl) (Nat.le_of_ble_eq_true rfl) (am_tab tk_X9_turnsOf 40 rfl) ?_
            refine hQ _ _ ?_
            refine ⟨congrArg (fun z => some (am_i z)) ?_, hqS2⟩
            unfold trnM
            rw [if_pos ⟨cm, by omega⟩, trn_eq hC.G (by omega)]
            first | exact b2i_1 h64 | exact b2i_0 h64
        · exact absurd h24 (by decide)
  · refine am_iload_n (q := 1) rfl (am_tab tk_X9_turnsOf 0 rfl) rfl ?_
    refine am_if_lt (q := 4) (t := 27) (am_tab tk_X9_turnsOf 1 rfl) (by decide) rfl (fun h1 => ?_) (fun h1 => ?_)
    · refine am_iconst (q := 28) (n := (-1)) (by decide) (am_tab tk_X9_turnsOf 13 rfl) rfl ?_
      refine am_iret (Or.inl rfl) (Nat.le_of_ble_eq_true rfl) (Nat.le_of_ble_eq_true rfl) (am_tab tk_X9_turnsOf 14 rfl) ?_
      refine hQ _ _ ?_
      refine ⟨congrArg (fun z => some (am_i z)) ?_, CQ.refl σ⟩
      unfold trnM
      rw [if_neg (fun h => by have := h.2; omega)]
    · refine am_iload_n (q := 5) rfl (am_tab tk_X9_turnsOf 2 rfl) rfl ?_
      refine am_iconst (q := 6) (n := 2) (by decide) (am_tab tk_X9_turnsOf 3 rfl) rfl ?_
      refine am_icmp_gt (q := 9) (t := 27) (am_tab tk_X9_turnsOf 4 rfl) (by decide) rfl (fun h6 => ?_) (fun h6 => ?_)
      · refine am_iconst (q := 28) (n := (-1)) (by decide) (am_tab tk_X9_turnsOf 13 rfl) rfl ?_
        refine am_iret (Or.inl rfl) (Nat.le_of_ble_eq_true rfl) (Nat.le_of_ble_eq_true rfl) (am_tab tk_X9_turnsOf 14 rfl) ?_
        refine hQ _ _ ?_
        refine ⟨congrArg (fun z => some (am_i z)) ?_, CQ.refl σ⟩
        unfold trnM
        rw [if_neg (fun h => by have := h.2; omega)]
      · refine am_aload_n (q := 10) rfl (am_tab tk_X9_turnsOf 5 rfl) rfl ?_
        refine am_getR (q := 13) (a := 0) (k := 9) (n := 17) (j := 7) (r := some (44)) (Ls_0 hL) (by decide) rfl (Lr_0_7 hL) (by decide) (Or.inl kf_X9_57) (am_tab tk_X9_turnsOf 6 rfl) rfl ?_
        refine am_aload_n (q := 14) rfl (am_tab tk_X9_turnsOf 7 rfl) rfl ?_
        refine am_getR (q := 17) (a := 0) (k := 9) (n := 17) (j := 2) (r := some (3)) (Ls_0 hL) (by decide) rfl hC.t (by decide) (Or.inl kf_X9_19) (am_tab tk_X9_turnsOf 8 rfl) rfl ?_
        refine am_aload_n (q := 18) rfl (am_tab tk_X9_turnsOf 9 rfl) rfl ?_
        refine am_getR (q := 21) (a := 0) (k := 9) (n := 17) (j := 4) (r := some (32)) (Ls_0 hL) (by decide) rfl (Lr_0_4 hL) (by decide) (Or.inl kf_X9_38) (am_tab tk_X9_turnsOf 10 rfl) rfl ?_
        refine am_callVr (q := 24) (me2 := M_X0_lookAt) (b := 44) (kb := 0) (nb := 14) (As := [am_r 3, am_r 32]) (rest := []) (c_lookAt_3_32 σ σ hL hC.G hC.W hC.F) ⟨rfl, rfl⟩ (Ls_44 hL) (by decide) ⟨Or.inr km_X9_247, kc_X0_lookAt, kn_X0, kd_X0_lookAt, ⟨(Nat.le_of_ble_eq_true rfl), (Nat.le_of_ble_eq_true rfl)⟩, ⟨(Nat.le_of_ble_eq_true rfl), (Nat.le_of_ble_eq_true rfl)⟩, (Nat.le_of_ble_eq_true rfl)⟩ ki_X0_lookAt ks_X0_lookAt rfl (am_tab tk_X9_turnsOf 11 rfl) rfl ?_
        rintro r S0 hlk
        rw [if_neg (fun h => cm ((cM_dl hC.G.R).mpr h))] at hlk
        obtain ⟨rfl, hSS⟩ := hlk
        rw [hSS]
        refine am_st (st2 := [am_i 0]) rfl ?_
        refine am_if_ne (q := 27) (t := 29) (am_tab tk_X9_turnsOf 12 rfl) (by decide) rfl (fun h24 => ?_) (fun h24 => ?_)
        · exact absurd h24 (by decide)
        · refine am_iconst (q := 28) (n := (-1)) (by decide) (am_tab tk_X9_turnsOf 13 rfl) rfl ?_
          refine am_iret (Or.inl rfl) (Nat.le_of_ble_eq_true rfl) (Nat.le_of_ble_eq_true rfl) (am_tab tk_X9_turnsOf 14 rfl) ?_
          refine hQ _ _ ?_
          refine ⟨congrArg (fun z => some (am_i z)) ?_, (((frw.refl W_cq σ).setN (a := 44) (j := 7) (x := 0) (by unfold W_cq; omega)).cq (fun _ _ h => h))⟩
          unfold trnM
          rw [if_neg (fun h => cm h.1)]
set_option maxRecDepth 100000 in
theorem c_turnsOf_15 (σ : am_H) (hC : CI 15 σ) (n : Int)  : am_met M_X9_turnsOf [am_r 0, am_i n] σ (fun r σ' => r = some (am_i (trnM σ n)) ∧ CQ σ σ') := by
  refine am_qq (fun Q hQ => ?_)
  refine am_enter (show plainFor yX9_turnsOf = true by decide +kernel) rfl (Nat.le_of_ble_eq_true rfl) (fun _ _ _ => trivial) ?_
  have hL := hC.G.L
  have hlv := lvM_rng hC.G.R
  by_cases cm : cM σ
  · refine am_iload_n (q := 1) rfl (am_tab tk_X9_turnsOf 0 rfl) rfl ?_
    refine am_if_lt (q := 4) (t := 27) (am_tab tk_X9_turnsOf 1 rfl) (by decide) rfl (fun h1 => ?_) (fun h1 => ?_)
    · refine am_iconst (q := 28) (n := (-1)) (by decide) (am_tab tk_X9_turnsOf 13 rfl) rfl ?_
      refine am_iret (Or.inl rfl) (Nat.le_of_ble_eq_true rfl) (Nat.le_of_ble_eq_true rfl) (am_tab tk_X9_turnsOf 14 rfl) ?_
      refine hQ _ _ ?_
      refine ⟨congrArg (fun z => some (am_i z)) ?_, CQ.refl σ⟩
      unfold trnM
      rw [if_neg (fun h => by have := h.2; omega)]
    · refine am_iload_n (q := 5) rfl (am_tab tk_X9_turnsOf 2 rfl) rfl ?_
      refine am_iconst (q := 6) (n := 2) (by decide) (am_tab tk_X9_turnsOf 3 rfl) rfl ?_
      refine am_icmp_gt (q := 9) (t := 27) (am_tab tk_X9_turnsOf 4 rfl) (by decide) rfl (fun h6 => ?_) (fun h6 => ?_)
      · refine am_iconst (q := 28) (n := (-1)) (by decide) (am_tab tk_X9_turnsOf 13 rfl) rfl ?_
        refine am_iret (Or.inl rfl) (Nat.le_of_ble_eq_true rfl) (Nat.le_of_ble_eq_true rfl) (am_tab tk_X9_turnsOf 14 rfl) ?_
        refine hQ _ _ ?_
        refine ⟨congrArg (fun z => some (am_i z)) ?_, CQ.refl σ⟩
        unfold trnM
        rw [if_neg (fun h => by have := h.2; omega)]
      · refine am_aload_n (q := 10) rfl (am_tab tk_X9_turnsOf 5 rfl) rfl ?_
        refine am_getR (q := 13) (a := 0) (k := 9) (n := 17) (j := 7) (r := some (44)) (Ls_0 hL) (by decide) rfl (Lr_0_7 hL) (by decide) (Or.inl kf_X9_57) (am_tab tk_X9_turnsOf 6 rfl) rfl ?_
        refine am_aload_n (q := 14) rfl (am_tab tk_X9_turnsOf 7 rfl) rfl ?_
        refine am_getR (q := 17) (a := 0) (k := 9) (n := 17) (j := 2) (r := some (15)) (Ls_0 hL) (by decide) rfl hC.t (by decide) (Or.inl kf_X9_19) (am_tab tk_X9_turnsOf 8 rfl) rfl ?_
        refine am_aload_n (q := 18) rfl (am_tab tk_X9_turnsOf 9 rfl) rfl ?_
        refine am_getR (q := 21) (a := 0) (k := 9) (n := 17) (j := 4) (r := some (32)) (Ls_0 hL) (by decide) rfl (Lr_0_4 hL) (by decide) (Or.inl kf_X9_38) (am_tab tk_X9_turnsOf 10 rfl) rfl ?_
        refine am_callVr (q := 24) (me2 := M_X0_lookAt) (b := 44) (kb := 0) (nb := 14) (As := [am_r 15, am_r 32]) (rest := []) (c_lookAt_15_32 σ σ hL hC.G hC.W hC.F) ⟨rfl, rfl⟩ (Ls_44 hL) (by decide) ⟨Or.inr km_X9_247, kc_X0_lookAt, kn_X0, kd_X0_lookAt, ⟨(Nat.le_of_ble_eq_true rfl), (Nat.le_of_ble_eq_true rfl)⟩, ⟨(Nat.le_of_ble_eq_true rfl), (Nat.le_of_ble_eq_true rfl)⟩, (Nat.le_of_ble_eq_true rfl)⟩ ki_X0_lookAt ks_X0_lookAt rfl (am_tab tk_X9_turnsOf 11 rfl) rfl ?_
        rintro r S0 hlk
        rw [if_pos ((cM_dl hC.G.R).mp cm)] at hlk
        obtain ⟨rfl, hDA, hFb⟩ := hlk
        have hq0 : CQ σ S0 := CQ.base hFb
        have hcc := cM_cc hC.G.R cm
        have hGB := bgS_GD hC.G hcc
        refine am_st (st2 := [am_i 1]) rfl ?_
        refine am_if_ne (q := 27) (t := 29) (am_tab tk_X9_turnsOf 12 rfl) (by decide) rfl (fun h24 => ?_) (fun h24 => ?_)
        · obtain ⟨m, rfl⟩ := toN (show 0 ≤ n by omega)
          refine am_aload_n (q := 30) rfl (am_tab tk_X9_turnsOf 15 rfl) rfl ?_
          refine am_callVr (q := 33) (me2 := M_X9_living) (b := 0) (kb := 9) (nb := 17) (As := []) (rest := []) (c_living_15 S0 (hC.cq hq0 (by decide))) ⟨rfl, rfl⟩ (Ls_0 (hq0.L hC.G.L)) (by decide) ⟨Or.inl km_X9_129, kc_X9_living, kn_X9, kd_X9_living, ⟨(Nat.le_of_ble_eq_true rfl), (Nat.le_of_ble_eq_true rfl)⟩, ⟨(Nat.le_of_ble_eq_true rfl), (Nat.le_of_ble_eq_true rfl)⟩, (Nat.le_of_ble_eq_true rfl)⟩ ki_X9_living ks_X9_living rfl (am_tab tk_X9_turnsOf 16 rfl) rfl ?_
          rintro r τ ⟨hr9, hτ⟩
          rw [liv_eq (hC.cq hq0 (by decide)).G (hC.cq hq0 (by decide)).F, lv_cq hq0] at hr9
          rw [hr9, hτ]
          refine am_st (st2 := [am_i (lvM σ)]) rfl ?_
          refine am_istore_n (q := 34) (by decide) (ls2 := [(2, am_i (lvM σ)), (0, am_r 0), (1, am_i ((m : Int)))]) rfl (am_tab tk_X9_turnsOf 17 rfl) rfl ?_
          refine am_aload_n (q := 35) rfl (am_tab tk_X9_turnsOf 18 rfl) rfl ?_
          refine am_getR (q := 38) (a := 0) (k := 9) (n := 17) (j := 7) (r := some (44)) (Ls_0 (hq0.L hC.G.L)) (by decide) rfl (Lr_0_7 (hq0.L hC.G.L)) (by decide) (Or.inl kf_X9_57) (am_tab tk_X9_turnsOf 19 rfl) rfl ?_
          refine am_iload_n (q := 39) rfl (am_tab tk_X9_turnsOf 20 rfl) rfl ?_
          refine am_iconst (q := 40) (n := 0) (by decide) (am_tab tk_X9_turnsOf 21 rfl) rfl ?_
          refine am_callVr (q := 43) (me2 := M_X0_ofThemselves) (b := 44) (kb := 0) (nb := 14) (As := [am_i (lvM σ), am_i 0]) (rest := []) (c_ofThemselves_15_32 S0 (bgS σ) (hq0.L hC.G.L) hGB hDA.1 (lvM σ) 0 hlv (by decide) (lv_in hC.G)) ⟨rfl, rfl⟩ (Ls_44 (hq0.L hC.G.L)) (by decide) ⟨Or.inr km_X9_269, kc_X0_ofThemselves, kn_X0, kd_X0_ofThemselves, ⟨(Nat.le_of_ble_eq_true rfl), (Nat.le_of_ble_eq_true rfl)⟩, ⟨(Nat.le_of_ble_eq_true rfl), (Nat.le_of_ble_eq_true rfl)⟩, (Nat.le_of_ble_eq_true rfl)⟩ ki_X0_ofThemselves ks_X0_ofThemselves rfl (am_tab tk_X9_turnsOf 22 rfl) rfl ?_
          rintro r S1 ⟨hr9, hFS1⟩
          have hr8 : r = some (am_i (tuU σ)) := hr9
          subst hr8
          have hqS1 : CQ σ S1 := hq0.trans (hFS1.cq (by unfold W_ow W_cq; omega))
          have hDS1 := hDA.1.fr (W_ow_d hFS1) (by decide) (by decide)
          refine am_st (st2 := [am_i (tuU σ)]) rfl ?_
          refine am_istore_n (q := 44) (by decide) (ls2 := [(3, am_i (tuU σ)), (2, am_i (lvM σ)), (0, am_r 0), (1, am_i ((m : Int)))]) rfl (am_tab tk_X9_turnsOf 23 rfl) rfl ?_
          refine am_aload_n (q := 45) rfl (am_tab tk_X9_turnsOf 24 rfl) rfl ?_
          refine am_getR (q := 48) (a := 0) (k := 9) (n := 17) (j := 7) (r := some (44)) (Ls_0 (hqS1.L hC.G.L)) (by decide) rfl (Lr_0_7 (hqS1.L hC.G.L)) (by decide) (Or.inl kf_X9_57) (am_tab tk_X9_turnsOf 25 rfl) rfl ?_
          refine am_iload_n (q := 49) rfl (am_tab tk_X9_turnsOf 26 rfl) rfl ?_
          refine am_iload_n (q := 50) rfl (am_tab tk_X9_turnsOf 27 rfl) rfl ?_
          refine am_callVr (q := 53) (me2 := M_X0_ofThemselves) (b := 44) (kb := 0) (nb := 14) (As := [am_i (lvM σ), am_i (lvM σ)]) (rest := []) (c_ofThemselves_15_32 S1 (bgS σ) (hqS1.L hC.G.L) hGB hDS1 (lvM σ) (lvM σ) hlv hlv (lv_in hC.G)) ⟨rfl, rfl⟩ (Ls_44 (hqS1.L hC.G.L)) (by decide) ⟨Or.inr km_X9_269, kc_X0_ofThemselves, kn_X0, kd_X0_ofThemselves, ⟨(Nat.le_of_ble_eq_true rfl), (Nat.le_of_ble_eq_true rfl)⟩, ⟨(Nat.le_of_ble_eq_true rfl), (Nat.le_of_ble_eq_true rfl)⟩, (Nat.le_of_ble_eq_true rfl)⟩ ki_X0_ofThemselves ks_X0_ofThemselves rfl (am_tab tk_X9_turnsOf 28 rfl) rfl ?_
          rintro r S2 ⟨hr9, hFS2⟩
          have hr8 : r = some (am_i (tuT σ)) := hr9
          subst hr8
          have hqS2 : CQ σ S2 := hqS1.trans (hFS2.cq (by unfold W_ow W_cq; omega))
          have hDS2 := hDS1.fr (W_ow_d hFS2) (by decide) (by decide)
          refine am_st (st2 := [am_i (tuT σ)]) rfl ?_
          refine am_istore (q := 55) (by decide) (ls2 := [(4, am_i (tuT σ)), (3, am_i (tuU σ)), (2, am_i (lvM σ)), (0, am_r 0), (1, am_i ((m : Int)))]) rfl (am_tab tk_X9_turnsOf 29 rfl) rfl ?_
          refine am_iload_n (q := 56) rfl (am_tab tk_X9_turnsOf 30 rfl) rfl ?_
          refine am_iload_n (q := 57) rfl (am_tab tk_X9_turnsOf 31 rfl) rfl ?_
          refine am_iload (q := 59) rfl (am_tab tk_X9_turnsOf 32 rfl) rfl ?_
          refine am_iload_n (q := 60) rfl (am_tab tk_X9_turnsOf 33 rfl) rfl ?_
          refine am_iload_n (q := 61) rfl (am_tab tk_X9_turnsOf 34 rfl) rfl ?_
          refine am_callS0 (q := 64) (me2 := (M_X9_somebodyByTurns 2)) (As := [am_i ((m : Int)), am_i (tuU σ), am_i (tuT σ), am_i (lvM σ), am_i (lvM σ)]) (rest := []) (out := [am_i (b2i (sbF (tuU σ) (tuT σ) m (lvM σ) (lvM σ)))]) (c_sbt S2 (tuU σ) (tuT σ) m 2 (by omega) (by omega) (lvM σ) (lvM σ) hlv hlv) ⟨rfl, rfl⟩ ⟨Or.inl km_X9_271, kc_X9_somebodyByTurns, kn_X9, kd_X9_somebodyByTurns, ⟨(Nat.le_of_ble_eq_true rfl), (Nat.le_of_ble_eq_true rfl)⟩, ⟨(Nat.le_of_ble_eq_true rfl), (Nat.le_of_ble_eq_true rfl)⟩, (Nat.le_of_ble_eq_true rfl)⟩ ki_X9_somebodyByTurns rfl rfl (am_tab tk_X9_turnsOf 35 rfl) rfl ?_
          refine am_if_eq (q := 67) (t := 71) (am_tab tk_X9_turnsOf 36 rfl) (by decide) rfl (fun h64 => ?_) (fun h64 => ?_)
          · refine am_iconst (q := 72) (n := 0) (by decide) (am_tab tk_X9_turnsOf 39 rfl) rfl ?_
            refine am_iret (Or.inl rfl) (Nat.le_of_ble_eq_true rfl) (Nat.le_of_ble_eq_true rfl) (am_tab tk_X9_turnsOf 40 rfl) ?_
            refine hQ _ _ ?_
            refine ⟨congrArg (fun z => some (am_i z)) ?_, hqS2⟩
            unfold trnM
            rw [if_pos ⟨cm, by omega⟩, trn_eq hC.G (by omega)]
            first | exact b2i_1 h64 | exact b2i_0 h64
          · refine am_iconst (q := 68) (n := 1) (by decide) (am_tab tk_X9_turnsOf 37 rfl) rfl ?_
            refine am_goto (t := 72) (am_tab tk_X9_turnsOf 38 rfl) (by decide) ?_
            refine am_iret (Or.inl rfl) (Nat.le_of_ble_eq_true rfl) (Nat.le_of_ble_eq_true rfl) (am_tab tk_X9_turnsOf 40 rfl) ?_
            refine hQ _ _ ?_
            refine ⟨congrArg (fun z => some (am_i z)) ?_, hqS2⟩
            unfold trnM
            rw [if_pos ⟨cm, by omega⟩, trn_eq hC.G (by omega)]
            first | exact b2i_1 h64 | exact b2i_0 h64
        · exact absurd h24 (by decide)
  · refine am_iload_n (q := 1) rfl (am_tab tk_X9_turnsOf 0 rfl) rfl ?_
    refine am_if_lt (q := 4) (t := 27) (am_tab tk_X9_turnsOf 1 rfl) (by decide) rfl (fun h1 => ?_) (fun h1 => ?_)
    · refine am_iconst (q := 28) (n := (-1)) (by decide) (am_tab tk_X9_turnsOf 13 rfl) rfl ?_
      refine am_iret (Or.inl rfl) (Nat.le_of_ble_eq_true rfl) (Nat.le_of_ble_eq_true rfl) (am_tab tk_X9_turnsOf 14 rfl) ?_
      refine hQ _ _ ?_
      refine ⟨congrArg (fun z => some (am_i z)) ?_, CQ.refl σ⟩
      unfold trnM
      rw [if_neg (fun h => by have := h.2; omega)]
    · refine am_iload_n (q := 5) rfl (am_tab tk_X9_turnsOf 2 rfl) rfl ?_
      refine am_iconst (q := 6) (n := 2) (by decide) (am_tab tk_X9_turnsOf 3 rfl) rfl ?_
      refine am_icmp_gt (q := 9) (t := 27) (am_tab tk_X9_turnsOf 4 rfl) (by decide) rfl (fun h6 => ?_) (fun h6 => ?_)
      · refine am_iconst (q := 28) (n := (-1)) (by decide) (am_tab tk_X9_turnsOf 13 rfl) rfl ?_
        refine am_iret (Or.inl rfl) (Nat.le_of_ble_eq_true rfl) (Nat.le_of_ble_eq_true rfl) (am_tab tk_X9_turnsOf 14 rfl) ?_
        refine hQ _ _ ?_
        refine ⟨congrArg (fun z => some (am_i z)) ?_, CQ.refl σ⟩
        unfold trnM
        rw [if_neg (fun h => by have := h.2; omega)]
      · refine am_aload_n (q := 10) rfl (am_tab tk_X9_turnsOf 5 rfl) rfl ?_
        refine am_getR (q := 13) (a := 0) (k := 9) (n := 17) (j := 7) (r := some (44)) (Ls_0 hL) (by decide) rfl (Lr_0_7 hL) (by decide) (Or.inl kf_X9_57) (am_tab tk_X9_turnsOf 6 rfl) rfl ?_
        refine am_aload_n (q := 14) rfl (am_tab tk_X9_turnsOf 7 rfl) rfl ?_
        refine am_getR (q := 17) (a := 0) (k := 9) (n := 17) (j := 2) (r := some (15)) (Ls_0 hL) (by decide) rfl hC.t (by decide) (Or.inl kf_X9_19) (am_tab tk_X9_turnsOf 8 rfl) rfl ?_
        refine am_aload_n (q := 18) rfl (am_tab tk_X9_turnsOf 9 rfl) rfl ?_
        refine am_getR (q := 21) (a := 0) (k := 9) (n := 17) (j := 4) (r := some (32)) (Ls_0 hL) (by decide) rfl (Lr_0_4 hL) (by decide) (Or.inl kf_X9_38) (am_tab tk_X9_turnsOf 10 rfl) rfl ?_
        refine am_callVr (q := 24) (me2 := M_X0_lookAt) (b := 44) (kb := 0) (nb := 14) (As := [am_r 15, am_r 32]) (rest := []) (c_lookAt_15_32 σ σ hL hC.G hC.W hC.F) ⟨rfl, rfl⟩ (Ls_44 hL) (by decide) ⟨Or.inr km_X9_247, kc_X0_lookAt, kn_X0, kd_X0_lookAt, ⟨(Nat.le_of_ble_eq_true rfl), (Nat.le_of_ble_eq_true rfl)⟩, ⟨(Nat.le_of_ble_eq_true rfl), (Nat.le_of_ble_eq_true rfl)⟩, (Nat.le_of_ble_eq_true rfl)⟩ ki_X0_lookAt ks_X0_lookAt rfl (am_tab tk_X9_turnsOf 11 rfl) rfl ?_
        rintro r S0 hlk
        rw [if_neg (fun h => cm ((cM_dl hC.G.R).mpr h))] at hlk
        obtain ⟨rfl, hSS⟩ := hlk
        rw [hSS]
        refine am_st (st2 := [am_i 0]) rfl ?_
        refine am_if_ne (q := 27) (t := 29) (am_tab tk_X9_turnsOf 12 rfl) (by decide) rfl (fun h24 => ?_) (fun h24 => ?_)
        · exact absurd h24 (by decide)
        · refine am_iconst (q := 28) (n := (-1)) (by decide) (am_tab tk_X9_turnsOf 13 rfl) rfl ?_
          refine am_iret (Or.inl rfl) (Nat.le_of_ble_eq_true rfl) (Nat.le_of_ble_eq_true rfl) (am_tab tk_X9_turnsOf 14 rfl) ?_
          refine hQ _ _ ?_
          refine ⟨congrArg (fun z => some (am_i z)) ?_, (((frw.refl W_cq σ).setN (a := 44) (j := 7) (x := 0) (by unfold W_cq; omega)).cq (fun _ _ h => h))⟩
          unfold trnM
          rw [if_neg (fun h => cm h.1)]
