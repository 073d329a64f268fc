theorem chF_go {σ : am_H} {i : Nat} {hf : Int} (h : (chF σ i).2.2 = if hf = 0 ∧ σ.2.1 96 1 + i < σ.2.1 85 9 then 1 else 0) (h2 : ¬ (hf = 0 ∧ σ.2.1 96 1 + i < σ.2.1 85 9)) (hi : i ≤ 120) : chF σ 120 = chF σ i := by
  rw [if_neg h2] at h
  have h3 := chF_stop h (120 - i)
  rw [show i + (120 - i) = 120 by omega] at h3
  exact h3
theorem chF_on {σ : am_H} {i : Nat} (h : (chF σ i).2.2 = 1) : chF σ (i + 1) = (if (chF σ i).1 = -1 ∨ coM σ (sfD (itS i σ)) < (chF σ i).2.1 then (itS (i + 1) σ).2.1 96 1 else (chF σ i).1, if (chF σ i).1 = -1 ∨ coM σ (sfD (itS i σ)) < (chF σ i).2.1 then coM σ (sfD (itS i σ)) else (chF σ i).2.1, if fsD (itS i σ) = 0 ∧ (itS (i + 1) σ).2.1 96 1 < σ.2.1 85 9 then 1 else 0) := by
  conv => lhs; unfold chF
  rw [if_neg (by omega)]
set_option maxRecDepth 100000 in
theorem c_cheapest_3 (σ : am_H) (hC : CI 3 σ) (w : Int)  : am_met M_X9_cheapest [am_r 0, am_i w] σ (fun r σ' => r = some (am_i (cheM σ w)) ∧ CQ σ σ') := by
  refine am_qq (fun Q hQ => ?_)
  refine am_enter (show plainFor yX9_cheapest = true by decide +kernel) rfl (Nat.le_of_ble_eq_true rfl) (fun _ _ _ => trivial) ?_
  have hL := hC.G.L
  have hdl := dl_ge hC.G
  have hdd := hC.G.R.day
  have hYY := hC.G.R.Y
  have hff := hC.G.R.feast
  refine am_iload_n (q := 1) rfl (am_tab tk_X9_cheapest 0 rfl) rfl ?_
  refine am_if_eq (q := 4) (t := 9) (am_tab tk_X9_cheapest 1 rfl) (by decide) rfl (fun h1 => ?_) (fun h1 => ?_)
  · refine am_aload_n (q := 10) rfl (am_tab tk_X9_cheapest 5 rfl) rfl ?_
    refine am_getR (q := 13) (a := 0) (k := 9) (n := 17) (j := 4) (r := some (32)) (Ls_0 hL) (by decide) rfl (Lr_0_4 hL) (by decide) (Or.inl kf_X9_38) (am_tab tk_X9_cheapest 6 rfl) rfl ?_
    refine am_getI (q := 16) (a := 32) (k := 1) (n := 11) (j := 2) (x := (σ.2.1 96 2)) (Ls_32 hL) (by decide) rfl hC.F.1.2.2.1 (by decide) (Or.inr kf_X9_144) (am_tab tk_X9_cheapest 7 rfl) rfl ?_
    refine am_if_eq (q := 19) (t := 21) (am_tab tk_X9_cheapest 8 rfl) (by decide) rfl (fun h16 => ?_) (fun h16 => ?_)
    · refine am_iconst (q := 22) (n := (-1)) (by decide) (am_tab tk_X9_cheapest 11 rfl) rfl ?_
      refine am_istore_n (q := 23) (by decide) (ls2 := [(2, am_i ((-1))), (0, am_r 0), (1, am_i w)]) rfl (am_tab tk_X9_cheapest 12 rfl) rfl ?_
      refine am_iconst (q := 24) (n := (-1)) (by decide) (am_tab tk_X9_cheapest 13 rfl) rfl ?_
      refine am_istore_n (q := 25) (by decide) (ls2 := [(3, am_i ((-1))), (2, am_i ((-1))), (0, am_r 0), (1, am_i w)]) rfl (am_tab tk_X9_cheapest 14 rfl) rfl ?_
      refine am_iconst (q := 26) (n := 0) (by decide) (am_tab tk_X9_cheapest 15 rfl) rfl ?_
      refine am_istore (q := 28) (by decide) (ls2 := [(4, am_i 0), (3, am_i ((-1))), (2, am_i ((-1))), (0, am_r 0), (1, am_i w)]) rfl (am_tab tk_X9_cheapest 16 rfl) rfl ?_
      refine am_aload_n (q := 29) rfl (am_tab tk_X9_cheapest 17 rfl) rfl ?_
      refine am_getR (q := 32) (a := 0) (k := 9) (n := 17) (j := 5) (r := some (37)) (Ls_0 hL) (by decide) rfl (Lr_0_5 hL) (by decide) (Or.inl kf_X9_42) (am_tab tk_X9_cheapest 18 rfl) rfl ?_
      refine am_aload_n (q := 33) rfl (am_tab tk_X9_cheapest 19 rfl) rfl ?_
      refine am_getR (q := 36) (a := 0) (k := 9) (n := 17) (j := 4) (r := some (32)) (Ls_0 hL) (by decide) rfl (Lr_0_4 hL) (by decide) (Or.inl kf_X9_38) (am_tab tk_X9_cheapest 20 rfl) rfl ?_
      refine am_callVr (q := 39) (me2 := M_X1_copyFrom) (b := 37) (kb := 1) (nb := 11) (As := [am_r 32]) (rest := []) (c_copy_37_32 σ hC.G.L) ⟨rfl, rfl⟩ (Ls_37 hL) (by decide) ⟨Or.inr km_X9_243, kc_X1_copyFrom, kn_X1, kd_X1_copyFrom, ⟨(Nat.le_of_ble_eq_true rfl), (Nat.le_of_ble_eq_true rfl)⟩, ⟨(Nat.le_of_ble_eq_true rfl), (Nat.le_of_ble_eq_true rfl)⟩, (Nat.le_of_ble_eq_true rfl)⟩ ki_X1_copyFrom ks_X1_copyFrom rfl (am_tab tk_X9_cheapest 21 rfl) rfl ?_
      rintro r S0 ⟨rfl, hCP, hFc⟩
      have hq0 : CQ σ S0 := hFc.cq (by unfold W_li W_cq; omega)
      have hA0 : LF0 37 S0 (fun j9 => (itS 0 σ).2.1 96 j9) := hCP.lf hC.F
      refine am_st (st2 := []) rfl ?_
      refine am_aload_n (q := 40) rfl (am_tab tk_X9_cheapest 22 rfl) rfl ?_
      refine am_getR (q := 43) (a := 0) (k := 9) (n := 17) (j := 4) (r := some (32)) (Ls_0 (hq0.L hC.G.L)) (by decide) rfl (Lr_0_4 (hq0.L hC.G.L)) (by decide) (Or.inl kf_X9_38) (am_tab tk_X9_cheapest 23 rfl) rfl ?_
      refine am_getI (q := 46) (a := 32) (k := 1) (n := 11) (j := 1) (x := (σ.2.1 96 1)) (Ls_32 (hq0.L hC.G.L)) (by decide) rfl ((hq0.2.2 32 1 (by unfold W_cq; omega)).trans hC.F.1.2.1) (by decide) (Or.inr kf_X9_141) (am_tab tk_X9_cheapest 24 rfl) rfl ?_
      refine am_istore (q := 48) (by decide) (ls2 := [(5, am_i ((σ.2.1 96 1))), (4, am_i 0), (3, am_i ((-1))), (2, am_i ((-1))), (0, am_r 0), (1, am_i w)]) rfl (am_tab tk_X9_cheapest 25 rfl) rfl ?_
      have L48 : ∀ (n48 : Nat) (i : Nat) (S : am_H) (bd : Int) (bp : Int) (hf : Int), 91 - i < n48 → (σ.2.1 96 1 + (i : Int) ≤ σ.2.1 85 9 ∨ i = 0) → CQ σ S → LF0 37 S (fun j9 => (itS i σ).2.1 96 j9) → (chF σ i).1 = bd → (¬ bd = -1 → bp = (chF σ i).2.1) → (i = 0 → bd = -1) → (bd = -1 → bp = -1) → ((chF σ i).2.2 = if hf = 0 ∧ σ.2.1 96 1 + i < σ.2.1 85 9 then 1 else 0) → (hf = 0 ∨ hf = 1) → am_wp M_X9_cheapest Q 0 0 48 [(5, am_i ((σ.2.1 96 1 + (i : Int)))), (4, am_i hf), (3, am_i bp), (2, am_i bd), (0, am_r 0), (1, am_i w)] [] S := by
        intro n48
        induction n48 with
        | zero => intro i S bd bp hf hn48; exact absurd hn48 (Nat.not_lt_zero _)
        | succ n48 ih48 =>
          intro i S bd bp hf hn48 hi hq hA hbd hbp hb0 hb1 hgf hf01
          refine am_iload (q := 50) rfl (am_tab tk_X9_cheapest 26 rfl) rfl ?_
          refine am_aload_n (q := 51) rfl (am_tab tk_X9_cheapest 27 rfl) rfl ?_
          refine am_getR (q := 54) (a := 0) (k := 9) (n := 17) (j := 2) (r := some (3)) (Ls_0 (hq.L hC.G.L)) (by decide) rfl ((hq.2.1 0 2 (by omega)).trans hC.t) (by decide) (Or.inl kf_X9_19) (am_tab tk_X9_cheapest 28 rfl) rfl ?_
          refine am_getI (q := 57) (a := 3) (k := 8) (n := 17) (j := 0) (x := (σ.2.1 85 9)) (Ls_3 (hq.L hC.G.L)) (by decide) rfl (hC.W.cq hq (by decide)).days (by decide) (Or.inr kf_X9_123) (am_tab tk_X9_cheapest 29 rfl) rfl ?_
          refine am_icmp_ge (q := 60) (t := 138) (am_tab tk_X9_cheapest 30 rfl) (by decide) rfl (fun h57 => ?_) (fun h57 => ?_)
          · refine am_iload_n (q := 139) rfl (am_tab tk_X9_cheapest 68 rfl) rfl ?_
            refine am_if_ne (q := 142) (t := 146) (am_tab tk_X9_cheapest 69 rfl) (by decide) rfl (fun h139 => ?_) (fun h139 => ?_)
            · exact absurd h1 h139
            · refine am_iload_n (q := 143) rfl (am_tab tk_X9_cheapest 70 rfl) rfl ?_
              refine am_goto (t := 147) (am_tab tk_X9_cheapest 71 rfl) (by decide) ?_
              refine am_iret (Or.inl rfl) (Nat.le_of_ble_eq_true rfl) (Nat.le_of_ble_eq_true rfl) (am_tab tk_X9_cheapest 73 rfl) ?_
              refine hQ _ _ ?_
              refine ⟨congrArg (fun z => some (am_i z)) ?_, hq⟩
              have hce := chF_go hgf (by omega) (by omega)
              unfold cheM
              rw [hce, hbd]
              by_cases hx : bd = -1
              · rw [if_pos hx]
                have := hb1 hx
                split <;> omega
              · have h55 : ¬ σ.2.1 55 52 = 0 := fun h0 => by
                  rcases hC.G.R.T with h9 | h9
                  · exact hx (hb0 (by omega))
                  · omega
                rw [if_pos ⟨⟨h55, by omega⟩, by omega⟩, if_neg hx, ← hbp hx]
                first | rw [if_pos (by omega)] | rw [if_neg (by omega)]
          · refine am_iload (q := 62) rfl (am_tab tk_X9_cheapest 31 rfl) rfl ?_
            refine am_if_ne (q := 65) (t := 138) (am_tab tk_X9_cheapest 32 rfl) (by decide) rfl (fun h62 => ?_) (fun h62 => ?_)
            · refine am_iload_n (q := 139) rfl (am_tab tk_X9_cheapest 68 rfl) rfl ?_
              refine am_if_ne (q := 142) (t := 146) (am_tab tk_X9_cheapest 69 rfl) (by decide) rfl (fun h139 => ?_) (fun h139 => ?_)
              · exact absurd h1 h139
              · refine am_iload_n (q := 143) rfl (am_tab tk_X9_cheapest 70 rfl) rfl ?_
                refine am_goto (t := 147) (am_tab tk_X9_cheapest 71 rfl) (by decide) ?_
                refine am_iret (Or.inl rfl) (Nat.le_of_ble_eq_true rfl) (Nat.le_of_ble_eq_true rfl) (am_tab tk_X9_cheapest 73 rfl) ?_
                refine hQ _ _ ?_
                refine ⟨congrArg (fun z => some (am_i z)) ?_, hq⟩
                have hce := chF_go hgf (by omega) (by omega)
                unfold cheM
                rw [hce, hbd]
                by_cases hx : bd = -1
                · rw [if_pos hx]
                  have := hb1 hx
                  split <;> omega
                · have h55 : ¬ σ.2.1 55 52 = 0 := fun h0 => by
                    rcases hC.G.R.T with h9 | h9
                    · exact hx (hb0 (by omega))
                    · omega
                  rw [if_pos ⟨⟨h55, by omega⟩, by omega⟩, if_neg hx, ← hbp hx]
                  first | rw [if_pos (by omega)] | rw [if_neg (by omega)]
            · have hGk := itS_GD hC.G i (by omega)
              have hck := itS_cc hC.G (n := i) (by omega)
              refine am_aload_n (q := 66) rfl (am_tab tk_X9_cheapest 33 rfl) rfl ?_
              refine am_getR (q := 69) (a := 0) (k := 9) (n := 17) (j := 7) (r := some (44)) (Ls_0 (hq.L hC.G.L)) (by decide) rfl (Lr_0_7 (hq.L hC.G.L)) (by decide) (Or.inl kf_X9_57) (am_tab tk_X9_cheapest 34 rfl) rfl ?_
              refine am_aload_n (q := 70) rfl (am_tab tk_X9_cheapest 35 rfl) rfl ?_
              refine am_getR (q := 73) (a := 0) (k := 9) (n := 17) (j := 2) (r := some (3)) (Ls_0 (hq.L hC.G.L)) (by decide) rfl ((hq.2.1 0 2 (by omega)).trans hC.t) (by decide) (Or.inl kf_X9_19) (am_tab tk_X9_cheapest 36 rfl) rfl ?_
              refine am_aload_n (q := 74) rfl (am_tab tk_X9_cheapest 37 rfl) rfl ?_
              refine am_getR (q := 77) (a := 0) (k := 9) (n := 17) (j := 5) (r := some (37)) (Ls_0 (hq.L hC.G.L)) (by decide) rfl (Lr_0_5 (hq.L hC.G.L)) (by decide) (Or.inl kf_X9_42) (am_tab tk_X9_cheapest 38 rfl) rfl ?_
              refine am_callVr (q := 80) (me2 := M_X0_lookAt) (b := 44) (kb := 0) (nb := 14) (As := [am_r 3, am_r 37]) (rest := []) (c_lookAt_3_37 S (itS i σ) (hq.L hC.G.L) hGk.1 ((hC.W.cq hq (by decide)).it i) hA) ⟨rfl, rfl⟩ (Ls_44 (hq.L hC.G.L)) (by decide) ⟨Or.inr km_X9_247, kc_X0_lookAt, kn_X0, kd_X0_lookAt, ⟨(Nat.le_of_ble_eq_true rfl), (Nat.le_of_ble_eq_true rfl)⟩, ⟨(Nat.le_of_ble_eq_true rfl), (Nat.le_of_ble_eq_true rfl)⟩, (Nat.le_of_ble_eq_true rfl)⟩ ki_X0_lookAt ks_X0_lookAt rfl (am_tab tk_X9_cheapest 39 rfl) rfl ?_
              rintro r T1 hlk
              rw [if_pos (by rw [hGk.2]; omega)] at hlk
              obtain ⟨rfl, hDA, hF1⟩ := hlk
              have hq1 : CQ σ T1 := hq.trans (CQ.base hF1)
              have hA1 : LF0 37 T1 (fun j9 => (itS i σ).2.1 96 j9) := LF0.fr (σ := am_setR (am_setR S 44 8 (some 3)) 44 9 (some 37)) hA hF1 (by unfold W_da; omega)
              refine am_st (st2 := [am_i 1]) rfl ?_
              refine am_pop (q := 81) rfl (am_tab tk_X9_cheapest 40 rfl) rfl ?_
              refine am_aload_n (q := 82) rfl (am_tab tk_X9_cheapest 41 rfl) rfl ?_
              refine am_getR (q := 85) (a := 0) (k := 9) (n := 17) (j := 7) (r := some (44)) (Ls_0 (hq1.L hC.G.L)) (by decide) rfl (Lr_0_7 (hq1.L hC.G.L)) (by decide) (Or.inl kf_X9_57) (am_tab tk_X9_cheapest 42 rfl) rfl ?_
              refine am_callVr (q := 88) (me2 := M_X0_settle) (b := 44) (kb := 0) (nb := 14) (As := []) (rest := []) (c_settle_3_37 T1 (itS i σ) (hq1.L hC.G.L) hGk.1 hck hA1 _ hDA) ⟨rfl, rfl⟩ (Ls_44 (hq1.L hC.G.L)) (by decide) ⟨Or.inr km_X9_251, kc_X0_settle, kn_X0, kd_X0_settle, ⟨(Nat.le_of_ble_eq_true rfl), (Nat.le_of_ble_eq_true rfl)⟩, ⟨(Nat.le_of_ble_eq_true rfl), (Nat.le_of_ble_eq_true rfl)⟩, (Nat.le_of_ble_eq_true rfl)⟩ ki_X0_settle ks_X0_settle rfl (am_tab tk_X9_cheapest 43 rfl) rfl ?_
              rintro r T2 ⟨rfl, hA2, hF2⟩
              have hq2 : CQ σ T2 := hq1.trans (hF2.cq (by unfold W_se W_cq; omega))
              have hFS : FS 3 σ i T2 := hDA.FS hF2 (by decide)
              refine am_st (st2 := []) rfl ?_
              refine am_aload_n (q := 89) rfl (am_tab tk_X9_cheapest 44 rfl) rfl ?_
              refine am_aload_n (q := 90) rfl (am_tab tk_X9_cheapest 45 rfl) rfl ?_
              refine am_getR (q := 93) (a := 0) (k := 9) (n := 17) (j := 7) (r := some (44)) (Ls_0 (hq2.L hC.G.L)) (by decide) rfl (Lr_0_7 (hq2.L hC.G.L)) (by decide) (Or.inl kf_X9_57) (am_tab tk_X9_cheapest 46 rfl) rfl ?_
              refine am_getI (q := 96) (a := 44) (k := 0) (n := 14) (j := 4) (x := (sfD (itS i σ))) (Ls_44 (hq2.L hC.G.L)) (by decide) rfl hFS.2.2.1 (by decide) (Or.inr kf_X9_222) (am_tab tk_X9_cheapest 47 rfl) rfl ?_
              refine am_callV0 (q := 99) (me2 := M_X9_priceOf) (b := 0) (kb := 9) (nb := 17) (As := [am_i ((sfD (itS i σ)))]) (rest := []) (out := [am_i ((coM σ (sfD (itS i σ))))]) (c_priceOf_3 σ T2 hC hq2 (sfD (itS i σ)) (sfD_rng hGk.1 hck)) ⟨rfl, rfl⟩ (Ls_0 (hq2.L hC.G.L)) (by decide) ⟨Or.inl km_X9_263, kc_X9_priceOf, kn_X9, kd_X9_priceOf, ⟨(Nat.le_of_ble_eq_true rfl), (Nat.le_of_ble_eq_true rfl)⟩, ⟨(Nat.le_of_ble_eq_true rfl), (Nat.le_of_ble_eq_true rfl)⟩, (Nat.le_of_ble_eq_true rfl)⟩ ki_X9_priceOf ks_X9_priceOf rfl rfl (am_tab tk_X9_cheapest 48 rfl) rfl ?_
              refine am_istore (q := 101) (by decide) (ls2 := [(6, am_i ((coM σ (sfD (itS i σ))))), (5, am_i ((σ.2.1 96 1 + (i : Int)))), (4, am_i hf), (3, am_i bp), (2, am_i bd), (0, am_r 0), (1, am_i w)]) rfl (am_tab tk_X9_cheapest 49 rfl) rfl ?_
              refine am_iload_n (q := 102) rfl (am_tab tk_X9_cheapest 50 rfl) rfl ?_
              refine am_iconst (q := 103) (n := (-1)) (by decide) (am_tab tk_X9_cheapest 51 rfl) rfl ?_
              refine am_icmp_eq (q := 106) (t := 112) (am_tab tk_X9_cheapest 52 rfl) (by decide) rfl (fun h103 => ?_) (fun h103 => ?_)
              · refine am_aload_n (q := 113) rfl (am_tab tk_X9_cheapest 56 rfl) rfl ?_
                refine am_getR (q := 116) (a := 0) (k := 9) (n := 17) (j := 7) (r := some (44)) (Ls_0 (hq2.L hC.G.L)) (by decide) rfl (Lr_0_7 (hq2.L hC.G.L)) (by decide) (Or.inl kf_X9_57) (am_tab tk_X9_cheapest 57 rfl) rfl ?_
                refine am_getI (q := 119) (a := 44) (k := 0) (n := 14) (j := 1) (x := (bgN (itS i σ) 1)) (Ls_44 (hq2.L hC.G.L)) (by decide) rfl hFS.2.1 (by decide) (Or.inr kf_X9_229) (am_tab tk_X9_cheapest 58 rfl) rfl ?_
                refine am_istore_n (q := 120) (by decide) (ls2 := [(2, am_i ((bgN (itS i σ) 1))), (6, am_i ((coM σ (sfD (itS i σ))))), (5, am_i ((σ.2.1 96 1 + (i : Int)))), (4, am_i hf), (3, am_i bp), (0, am_r 0), (1, am_i w)]) rfl (am_tab tk_X9_cheapest 59 rfl) rfl ?_
                refine am_iload (q := 122) rfl (am_tab tk_X9_cheapest 60 rfl) rfl ?_
                refine am_istore_n (q := 123) (by decide) (ls2 := [(3, am_i ((coM σ (sfD (itS i σ))))), (2, am_i ((bgN (itS i σ) 1))), (6, am_i ((coM σ (sfD (itS i σ))))), (5, am_i ((σ.2.1 96 1 + (i : Int)))), (4, am_i hf), (0, am_r 0), (1, am_i w)]) rfl (am_tab tk_X9_cheapest 61 rfl) rfl ?_
                refine am_aload_n (q := 124) rfl (am_tab tk_X9_cheapest 62 rfl) rfl ?_
                refine am_getR (q := 127) (a := 0) (k := 9) (n := 17) (j := 7) (r := some (44)) (Ls_0 (hq2.L hC.G.L)) (by decide) rfl (Lr_0_7 (hq2.L hC.G.L)) (by decide) (Or.inl kf_X9_57) (am_tab tk_X9_cheapest 63 rfl) rfl ?_
                refine am_getI (q := 130) (a := 44) (k := 0) (n := 14) (j := 6) (x := (fsD (itS i σ))) (Ls_44 (hq2.L hC.G.L)) (by decide) rfl hFS.2.2.2.2.1 (by decide) (Or.inr kf_X9_230) (am_tab tk_X9_cheapest 64 rfl) rfl ?_
                refine am_istore (q := 132) (by decide) (ls2 := [(4, am_i ((fsD (itS i σ)))), (3, am_i ((coM σ (sfD (itS i σ))))), (2, am_i ((bgN (itS i σ) 1))), (6, am_i ((coM σ (sfD (itS i σ))))), (5, am_i ((σ.2.1 96 1 + (i : Int)))), (0, am_r 0), (1, am_i w)]) rfl (am_tab tk_X9_cheapest 65 rfl) rfl ?_
                refine am_iinc (q := 135) rfl (by omega) (by decide) (ls2 := [(5, am_i (((σ.2.1 96 1 + (i : Int)) + 1))), (4, am_i ((fsD (itS i σ)))), (3, am_i ((coM σ (sfD (itS i σ))))), (2, am_i ((bgN (itS i σ) 1))), (6, am_i ((coM σ (sfD (itS i σ))))), (0, am_r 0), (1, am_i w)]) rfl (am_tab tk_X9_cheapest 66 rfl) rfl ?_
                refine am_goto (t := 48) (am_tab tk_X9_cheapest 67 rfl) (by decide) ?_
                have hgo : (chF σ i).2.2 = 1 := by rw [hgf, if_pos ⟨h62, by omega⟩]
                have hch := chF_on hgo
                have hi1 := it_0 hC.G hck (by omega)
                have hdy1 := it_day hC.G (i + 1) (by push_cast; omega) (by push_cast; omega)
                have hb9 := bg1_rng hGk.1 hck
                have hcond : ((chF σ i).1 = -1 ∨ (coM σ (sfD (itS i σ))) < (chF σ i).2.1) ↔ (bd = -1 ∨ (coM σ (sfD (itS i σ))) < bp) := by
                  rw [hbd]
                  constructor
                  · rintro (h | h)
                    · exact Or.inl h
                    · by_cases hx : bd = -1
                      · exact Or.inl hx
                      · exact Or.inr (by rw [(hbp hx)]; exact h)
                  · rintro (h | h)
                    · exact Or.inl h
                    · by_cases hx : bd = -1
                      · exact Or.inl hx
                      · exact Or.inr (by rw [← (hbp hx)]; exact h)
                have hcc9 : (chF σ i).1 = -1 ∨ (coM σ (sfD (itS i σ))) < (chF σ i).2.1 := hcond.mpr (by omega)
                rw [if_pos hcc9, if_pos hcc9] at hch
                exact am_less (by intro q hq; simp only [List.mem_cons, List.not_mem_nil, or_false] at hq; rcases hq with rfl | rfl | rfl | rfl | rfl | rfl <;> simp [Int.add_assoc]) (ih48 (i + 1) T2 (bgN (itS i σ) 1) (coM σ (sfD (itS i σ))) (fsD (itS i σ)) (by omega) (by push_cast; omega) hq2 hA2 (by rw [hch]; show (itS (i + 1) σ).2.1 96 1 = _; exact hi1.2) (fun hx => by rw [hch]) (fun hx => absurd hx (by omega)) (fun hx => absurd hx (by omega)) (by rw [hch]; show (if fsD (itS i σ) = 0 ∧ (itS (i + 1) σ).2.1 96 1 < σ.2.1 85 9 then (1 : Int) else 0) = _; rw [hdy1]) (fsD01 _))
              · refine am_iload (q := 108) rfl (am_tab tk_X9_cheapest 53 rfl) rfl ?_
                refine am_iload_n (q := 109) rfl (am_tab tk_X9_cheapest 54 rfl) rfl ?_
                refine am_icmp_ge (q := 112) (t := 123) (am_tab tk_X9_cheapest 55 rfl) (by decide) rfl (fun h109 => ?_) (fun h109 => ?_)
                · refine am_aload_n (q := 124) rfl (am_tab tk_X9_cheapest 62 rfl) rfl ?_
                  refine am_getR (q := 127) (a := 0) (k := 9) (n := 17) (j := 7) (r := some (44)) (Ls_0 (hq2.L hC.G.L)) (by decide) rfl (Lr_0_7 (hq2.L hC.G.L)) (by decide) (Or.inl kf_X9_57) (am_tab tk_X9_cheapest 63 rfl) rfl ?_
                  refine am_getI (q := 130) (a := 44) (k := 0) (n := 14) (j := 6) (x := (fsD (itS i σ))) (Ls_44 (hq2.L hC.G.L)) (by decide) rfl hFS.2.2.2.2.1 (by decide) (Or.inr kf_X9_230) (am_tab tk_X9_cheapest 64 rfl) rfl ?_
                  refine am_istore (q := 132) (by decide) (ls2 := [(4, am_i ((fsD (itS i σ)))), (6, am_i ((coM σ (sfD (itS i σ))))), (5, am_i ((σ.2.1 96 1 + (i : Int)))), (3, am_i bp), (2, am_i bd), (0, am_r 0), (1, am_i w)]) rfl (am_tab tk_X9_cheapest 65 rfl) rfl ?_
                  refine am_iinc (q := 135) rfl (by omega) (by decide) (ls2 := [(5, am_i (((σ.2.1 96 1 + (i : Int)) + 1))), (4, am_i ((fsD (itS i σ)))), (6, am_i ((coM σ (sfD (itS i σ))))), (3, am_i bp), (2, am_i bd), (0, am_r 0), (1, am_i w)]) rfl (am_tab tk_X9_cheapest 66 rfl) rfl ?_
                  refine am_goto (t := 48) (am_tab tk_X9_cheapest 67 rfl) (by decide) ?_
                  have hgo : (chF σ i).2.2 = 1 := by rw [hgf, if_pos ⟨h62, by omega⟩]
                  have hch := chF_on hgo
                  have hi1 := it_0 hC.G hck (by omega)
                  have hdy1 := it_day hC.G (i + 1) (by push_cast; omega) (by push_cast; omega)
                  have hb9 := bg1_rng hGk.1 hck
                  have hcond : ((chF σ i).1 = -1 ∨ (coM σ (sfD (itS i σ))) < (chF σ i).2.1) ↔ (bd = -1 ∨ (coM σ (sfD (itS i σ))) < bp) := by
                    rw [hbd]
                    constructor
                    · rintro (h | h)
                      · exact Or.inl h
                      · by_cases hx : bd = -1
                        · exact Or.inl hx
                        · exact Or.inr (by rw [(hbp hx)]; exact h)
                    · rintro (h | h)
                      · exact Or.inl h
                      · by_cases hx : bd = -1
                        · exact Or.inl hx
                        · exact Or.inr (by rw [← (hbp hx)]; exact h)
                  have hcc9 : ¬ ((chF σ i).1 = -1 ∨ (coM σ (sfD (itS i σ))) < (chF σ i).2.1) := fun hx => absurd (hcond.mp hx) (by omega)
                  rw [if_neg hcc9, if_neg hcc9] at hch
                  exact am_less (by intro q hq; simp only [List.mem_cons, List.not_mem_nil, or_false] at hq; rcases hq with rfl | rfl | rfl | rfl | rfl | rfl <;> simp [Int.add_assoc]) (ih48 (i + 1) T2 bd bp (fsD (itS i σ)) (by omega) (by push_cast; omega) hq2 hA2 (by rw [hch]; show (chF σ i).1 = _; exact hbd) (fun hx => by rw [hch]; exact hbp hx) (fun hx => absurd hx (by omega)) (fun hx => absurd hx (by omega)) (by rw [hch]; show (if fsD (itS i σ) = 0 ∧ (itS (i + 1) σ).2.1 96 1 < σ.2.1 85 9 then (1 : Int) else 0) = _; rw [hdy1]) (fsD01 _))
                · refine am_aload_n (q := 113) rfl (am_tab tk_X9_cheapest 56 rfl) rfl ?_
                  refine am_getR (q := 116) (a := 0) (k := 9) (n := 17) (j := 7) (r := some (44)) (Ls_0 (hq2.L hC.G.L)) (by decide) rfl (Lr_0_7 (hq2.L hC.G.L)) (by decide) (Or.inl kf_X9_57) (am_tab tk_X9_cheapest 57 rfl) rfl ?_
                  refine am_getI (q := 119) (a := 44) (k := 0) (n := 14) (j := 1) (x := (bgN (itS i σ) 1)) (Ls_44 (hq2.L hC.G.L)) (by decide) rfl hFS.2.1 (by decide) (Or.inr kf_X9_229) (am_tab tk_X9_cheapest 58 rfl) rfl ?_
                  refine am_istore_n (q := 120) (by decide) (ls2 := [(2, am_i ((bgN (itS i σ) 1))), (6, am_i ((coM σ (sfD (itS i σ))))), (5, am_i ((σ.2.1 96 1 + (i : Int)))), (4, am_i hf), (3, am_i bp), (0, am_r 0), (1, am_i w)]) rfl (am_tab tk_X9_cheapest 59 rfl) rfl ?_
                  refine am_iload (q := 122) rfl (am_tab tk_X9_cheapest 60 rfl) rfl ?_
                  refine am_istore_n (q := 123) (by decide) (ls2 := [(3, am_i ((coM σ (sfD (itS i σ))))), (2, am_i ((bgN (itS i σ) 1))), (6, am_i ((coM σ (sfD (itS i σ))))), (5, am_i ((σ.2.1 96 1 + (i : Int)))), (4, am_i hf), (0, am_r 0), (1, am_i w)]) rfl (am_tab tk_X9_cheapest 61 rfl) rfl ?_
                  refine am_aload_n (q := 124) rfl (am_tab tk_X9_cheapest 62 rfl) rfl ?_
                  refine am_getR (q := 127) (a := 0) (k := 9) (n := 17) (j := 7) (r := some (44)) (Ls_0 (hq2.L hC.G.L)) (by decide) rfl (Lr_0_7 (hq2.L hC.G.L)) (by decide) (Or.inl kf_X9_57) (am_tab tk_X9_cheapest 63 rfl) rfl ?_
                  refine am_getI (q := 130) (a := 44) (k := 0) (n := 14) (j := 6) (x := (fsD (itS i σ))) (Ls_44 (hq2.L hC.G.L)) (by decide) rfl hFS.2.2.2.2.1 (by decide) (Or.inr kf_X9_230) (am_tab tk_X9_cheapest 64 rfl) rfl ?_
                  refine am_istore (q := 132) (by decide) (ls2 := [(4, am_i ((fsD (itS i σ)))), (3, am_i ((coM σ (sfD (itS i σ))))), (2, am_i ((bgN (itS i σ) 1))), (6, am_i ((coM σ (sfD (itS i σ))))), (5, am_i ((σ.2.1 96 1 + (i : Int)))), (0, am_r 0), (1, am_i w)]) rfl (am_tab tk_X9_cheapest 65 rfl) rfl ?_
                  refine am_iinc (q := 135) rfl (by omega) (by decide) (ls2 := [(5, am_i (((σ.2.1 96 1 + (i : Int)) + 1))), (4, am_i ((fsD (itS i σ)))), (3, am_i ((coM σ (sfD (itS i σ))))), (2, am_i ((bgN (itS i σ) 1))), (6, am_i ((coM σ (sfD (itS i σ))))), (0, am_r 0), (1, am_i w)]) rfl (am_tab tk_X9_cheapest 66 rfl) rfl ?_
                  refine am_goto (t := 48) (am_tab tk_X9_cheapest 67 rfl) (by decide) ?_
                  have hgo : (chF σ i).2.2 = 1 := by rw [hgf, if_pos ⟨h62, by omega⟩]
                  have hch := chF_on hgo
                  have hi1 := it_0 hC.G hck (by omega)
                  have hdy1 := it_day hC.G (i + 1) (by push_cast; omega) (by push_cast; omega)
                  have hb9 := bg1_rng hGk.1 hck
                  have hcond : ((chF σ i).1 = -1 ∨ (coM σ (sfD (itS i σ))) < (chF σ i).2.1) ↔ (bd = -1 ∨ (coM σ (sfD (itS i σ))) < bp) := by
                    rw [hbd]
                    constructor
                    · rintro (h | h)
                      · exact Or.inl h
                      · by_cases hx : bd = -1
                        · exact Or.inl hx
                        · exact Or.inr (by rw [(hbp hx)]; exact h)
                    · rintro (h | h)
                      · exact Or.inl h
                      · by_cases hx : bd = -1
                        · exact Or.inl hx
                        · exact Or.inr (by rw [← (hbp hx)]; exact h)
                  have hcc9 : (chF σ i).1 = -1 ∨ (coM σ (sfD (itS i σ))) < (chF σ i).2.1 := hcond.mpr (by omega)
                  rw [if_pos hcc9, if_pos hcc9] at hch
                  exact am_less (by intro q hq; simp only [List.mem_cons, List.not_mem_nil, or_false] at hq; rcases hq with rfl | rfl | rfl | rfl | rfl | rfl <;> simp [Int.add_assoc]) (ih48 (i + 1) T2 (bgN (itS i σ) 1) (coM σ (sfD (itS i σ))) (fsD (itS i σ)) (by omega) (by push_cast; omega) hq2 hA2 (by rw [hch]; show (itS (i + 1) σ).2.1 96 1 = _; exact hi1.2) (fun hx => by rw [hch]) (fun hx => absurd hx (by omega)) (fun hx => absurd hx (by omega)) (by rw [hch]; show (if fsD (itS i σ) = 0 ∧ (itS (i + 1) σ).2.1 96 1 < σ.2.1 85 9 then (1 : Int) else 0) = _; rw [hdy1]) (fsD01 _))
      refine am_less (by intro q hq; simp only [List.mem_cons, List.not_mem_nil, or_false] at hq; rcases hq with rfl | rfl | rfl | rfl | rfl | rfl <;> simp [Int.add_assoc]) (L48 (_ + 1) 0 S0 (-1) (-1) 0 (by exact Nat.lt_succ_self _) (Or.inr rfl) hq0 hA0 rfl (fun h => absurd rfl h) (fun _ => rfl) (fun _ => rfl) (by show (if σ.2.1 96 1 < σ.2.1 85 9 then (1 : Int) else 0) = _; by_cases hy : σ.2.1 96 1 < σ.2.1 85 9; (rw [if_pos hy, if_pos ⟨rfl, by omega⟩]); (rw [if_neg hy, if_neg (by omega)])) (Or.inl rfl))
    · refine am_iconst (q := 20) (n := (-1)) (by decide) (am_tab tk_X9_cheapest 9 rfl) rfl ?_
      refine am_iret (Or.inl rfl) (Nat.le_of_ble_eq_true rfl) (Nat.le_of_ble_eq_true rfl) (am_tab tk_X9_cheapest 10 rfl) ?_
      refine hQ _ _ ?_
      refine ⟨congrArg (fun z => some (am_i z)) ?_, CQ.refl σ⟩
      unfold cheM
      by_cases hx : (¬ σ.2.1 55 52 = 0 ∧ (0 ≤ w ∧ w ≤ 1)) ∧ ¬ (0 < σ.2.1 96 2 ∧ σ.2.1 96 1 < σ.2.1 85 9)
      · rw [if_pos hx, chF_go (i := 0) (hf := 0) (by show (if σ.2.1 96 1 < σ.2.1 85 9 then (1 : Int) else 0) = _; by_cases hy : σ.2.1 96 1 < σ.2.1 85 9; (rw [if_pos hy, if_pos ⟨rfl, by omega⟩]); (rw [if_neg hy, if_neg (by omega)])) (by omega) (by omega)]
        show _ = (if (-1 : Int) = -1 then (-1 : Int) else _)
        rw [if_pos rfl]
      · rw [if_neg hx]
  · refine am_iload_n (q := 5) rfl (am_tab tk_X9_cheapest 2 rfl) rfl ?_
    refine am_iconst (q := 6) (n := 1) (by decide) (am_tab tk_X9_cheapest 3 rfl) rfl ?_
    refine am_icmp_ne (q := 9) (t := 19) (am_tab tk_X9_cheapest 4 rfl) (by decide) rfl (fun h6 => ?_) (fun h6 => ?_)
    · refine am_iconst (q := 20) (n := (-1)) (by decide) (am_tab tk_X9_cheapest 9 rfl) rfl ?_
      refine am_iret (Or.inl rfl) (Nat.le_of_ble_eq_true rfl) (Nat.le_of_ble_eq_true rfl) (am_tab tk_X9_cheapest 10 rfl) ?_
      refine hQ _ _ ?_
      refine ⟨congrArg (fun z => some (am_i z)) ?_, CQ.refl σ⟩
      unfold cheM
      rw [if_neg (by omega)]
    · refine am_aload_n (q := 10) rfl (am_tab tk_X9_cheapest 5 rfl) rfl ?_
      refine am_getR (q := 13) (a := 0) (k := 9) (n := 17) (j := 4) (r := some (32)) (Ls_0 hL) (by decide) rfl (Lr_0_4 hL) (by decide) (Or.inl kf_X9_38) (am_tab tk_X9_cheapest 6 rfl) rfl ?_
      refine am_getI (q := 16) (a := 32) (k := 1) (n := 11) (j := 2) (x := (σ.2.1 96 2)) (Ls_32 hL) (by decide) rfl hC.F.1.2.2.1 (by decide) (Or.inr kf_X9_144) (am_tab tk_X9_cheapest 7 rfl) rfl ?_
      refine am_if_eq (q := 19) (t := 21) (am_tab tk_X9_cheapest 8 rfl) (by decide) rfl (fun h16 => ?_) (fun h16 => ?_)
      · refine am_iconst (q := 22) (n := (-1)) (by decide) (am_tab tk_X9_cheapest 11 rfl) rfl ?_
        refine am_istore_n (q := 23) (by decide) (ls2 := [(2, am_i ((-1))), (0, am_r 0), (1, am_i w)]) rfl (am_tab tk_X9_cheapest 12 rfl) rfl ?_
        refine am_iconst (q := 24) (n := (-1)) (by decide) (am_tab tk_X9_cheapest 13 rfl) rfl ?_
        refine am_istore_n (q := 25) (by decide) (ls2 := [(3, am_i ((-1))), (2, am_i ((-1))), (0, am_r 0), (1, am_i w)]) rfl (am_tab tk_X9_cheapest 14 rfl) rfl ?_
        refine am_iconst (q := 26) (n := 0) (by decide) (am_tab tk_X9_cheapest 15 rfl) rfl ?_
        refine am_istore (q := 28) (by decide) (ls2 := [(4, am_i 0), (3, am_i ((-1))), (2, am_i ((-1))), (0, am_r 0), (1, am_i w)]) rfl (am_tab tk_X9_cheapest 16 rfl) rfl ?_
        refine am_aload_n (q := 29) rfl (am_tab tk_X9_cheapest 17 rfl) rfl ?_
        refine am_getR (q := 32) (a := 0) (k := 9) (n := 17) (j := 5) (r := some (37)) (Ls_0 hL) (by decide) rfl (Lr_0_5 hL) (by decide) (Or.inl kf_X9_42) (am_tab tk_X9_cheapest 18 rfl) rfl ?_
        refine am_aload_n (q := 33) rfl (am_tab tk_X9_cheapest 19 rfl) rfl ?_
        refine am_getR (q := 36) (a := 0) (k := 9) (n := 17) (j := 4) (r := some (32)) (Ls_0 hL) (by decide) rfl (Lr_0_4 hL) (by decide) (Or.inl kf_X9_38) (am_tab tk_X9_cheapest 20 rfl) rfl ?_
        refine am_callVr (q := 39) (me2 := M_X1_copyFrom) (b := 37) (kb := 1) (nb := 11) (As := [am_r 32]) (rest := []) (c_copy_37_32 σ hC.G.L) ⟨rfl, rfl⟩ (Ls_37 hL) (by decide) ⟨Or.inr km_X9_243, kc_X1_copyFrom, kn_X1, kd_X1_copyFrom, ⟨(Nat.le_of_ble_eq_true rfl), (Nat.le_of_ble_eq_true rfl)⟩, ⟨(Nat.le_of_ble_eq_true rfl), (Nat.le_of_ble_eq_true rfl)⟩, (Nat.le_of_ble_eq_true rfl)⟩ ki_X1_copyFrom ks_X1_copyFrom rfl (am_tab tk_X9_cheapest 21 rfl) rfl ?_
        rintro r S0 ⟨rfl, hCP, hFc⟩
        have hq0 : CQ σ S0 := hFc.cq (by unfold W_li W_cq; omega)
        have hA0 : LF0 37 S0 (fun j9 => (itS 0 σ).2.1 96 j9) := hCP.lf hC.F
        refine am_st (st2 := []) rfl ?_
        refine am_aload_n (q := 40) rfl (am_tab tk_X9_cheapest 22 rfl) rfl ?_
        refine am_getR (q := 43) (a := 0) (k := 9) (n := 17) (j := 4) (r := some (32)) (Ls_0 (hq0.L hC.G.L)) (by decide) rfl (Lr_0_4 (hq0.L hC.G.L)) (by decide) (Or.inl kf_X9_38) (am_tab tk_X9_cheapest 23 rfl) rfl ?_
        refine am_getI (q := 46) (a := 32) (k := 1) (n := 11) (j := 1) (x := (σ.2.1 96 1)) (Ls_32 (hq0.L hC.G.L)) (by decide) rfl ((hq0.2.2 32 1 (by unfold W_cq; omega)).trans hC.F.1.2.1) (by decide) (Or.inr kf_X9_141) (am_tab tk_X9_cheapest 24 rfl) rfl ?_
        refine am_istore (q := 48) (by decide) (ls2 := [(5, am_i ((σ.2.1 96 1))), (4, am_i 0), (3, am_i ((-1))), (2, am_i ((-1))), (0, am_r 0), (1, am_i w)]) rfl (am_tab tk_X9_cheapest 25 rfl) rfl ?_
        have L48 : ∀ (n48 : Nat) (i : Nat) (S : am_H) (bd : Int) (bp : Int) (hf : Int), 91 - i < n48 → (σ.2.1 96 1 + (i : Int) ≤ σ.2.1 85 9 ∨ i = 0) → CQ σ S → LF0 37 S (fun j9 => (itS i σ).2.1 96 j9) → (chF σ i).1 = bd → (¬ bd = -1 → bp = (chF σ i).2.1) → (i = 0 → bd = -1) → (bd = -1 → bp = -1) → ((chF σ i).2.2 = if hf = 0 ∧ σ.2.1 96 1 + i < σ.2.1 85 9 then 1 else 0) → (hf = 0 ∨ hf = 1) → am_wp M_X9_cheapest Q 0 0 48 [(5, am_i ((σ.2.1 96 1 + (i : Int)))), (4, am_i hf), (3, am_i bp), (2, am_i bd), (0, am_r 0), (1, am_i w)] [] S := by
          intro n48
          induction n48 with
          | zero => intro i S bd bp hf hn48; exact absurd hn48 (Nat.not_lt_zero _)
          | succ n48 ih48 =>
            intro i S bd bp hf hn48 hi hq hA hbd hbp hb0 hb1 hgf hf01
            refine am_iload (q := 50) rfl (am_tab tk_X9_cheapest 26 rfl) rfl ?_
            refine am_aload_n (q := 51) rfl (am_tab tk_X9_cheapest 27 rfl) rfl ?_
            refine am_getR (q := 54) (a := 0) (k := 9) (n := 17) (j := 2) (r := some (3)) (Ls_0 (hq.L hC.G.L)) (by decide) rfl ((hq.2.1 0 2 (by omega)).trans hC.t) (by decide) (Or.inl kf_X9_19) (am_tab tk_X9_cheapest 28 rfl) rfl ?_
            refine am_getI (q := 57) (a := 3) (k := 8) (n := 17) (j := 0) (x := (σ.2.1 85 9)) (Ls_3 (hq.L hC.G.L)) (by decide) rfl (hC.W.cq hq (by decide)).days (by decide) (Or.inr kf_X9_123) (am_tab tk_X9_cheapest 29 rfl) rfl ?_
            refine am_icmp_ge (q := 60) (t := 138) (am_tab tk_X9_cheapest 30 rfl) (by decide) rfl (fun h57 => ?_) (fun h57 => ?_)
            · refine am_iload_n (q := 139) rfl (am_tab tk_X9_cheapest 68 rfl) rfl ?_
              refine am_if_ne (q := 142) (t := 146) (am_tab tk_X9_cheapest 69 rfl) (by decide) rfl (fun h139 => ?_) (fun h139 => ?_)
              · refine am_iload_n (q := 147) rfl (am_tab tk_X9_cheapest 72 rfl) rfl ?_
                refine am_iret (Or.inl rfl) (Nat.le_of_ble_eq_true rfl) (Nat.le_of_ble_eq_true rfl) (am_tab tk_X9_cheapest 73 rfl) ?_
                refine hQ _ _ ?_
                refine ⟨congrArg (fun z => some (am_i z)) ?_, hq⟩
                have hce := chF_go hgf (by omega) (by omega)
                unfold cheM
                rw [hce, hbd]
                by_cases hx : bd = -1
                · rw [if_pos hx]
                  have := hb1 hx
                  split <;> omega
                · have h55 : ¬ σ.2.1 55 52 = 0 := fun h0 => by
                    rcases hC.G.R.T with h9 | h9
                    · exact hx (hb0 (by omega))
                    · omega
                  rw [if_pos ⟨⟨h55, by omega⟩, by omega⟩, if_neg hx, ← hbp hx]
                  first | rw [if_pos (by omega)] | rw [if_neg (by omega)]
              · exact absurd h139 h1
            · refine am_iload (q := 62) rfl (am_tab tk_X9_cheapest 31 rfl) rfl ?_
              refine am_if_ne (q := 65) (t := 138) (am_tab tk_X9_cheapest 32 rfl) (by decide) rfl (fun h62 => ?_) (fun h62 => ?_)
              · refine am_iload_n (q := 139) rfl (am_tab tk_X9_cheapest 68 rfl) rfl ?_
                refine am_if_ne (q := 142) (t := 146) (am_tab tk_X9_cheapest 69 rfl) (by decide) rfl (fun h139 => ?_) (fun h139 => ?_)
                · refine am_iload_n (q := 147) rfl (am_tab tk_X9_cheapest 72 rfl) rfl ?_
                  refine am_iret (Or.inl rfl) (Nat.le_of_ble_eq_true rfl) (Nat.le_of_ble_eq_true rfl) (am_tab tk_X9_cheapest 73 rfl) ?_
                  refine hQ _ _ ?_
                  refine ⟨congrArg (fun z => some (am_i z)) ?_, hq⟩
                  have hce := chF_go hgf (by omega) (by omega)
                  unfold cheM
                  rw [hce, hbd]
                  by_cases hx : bd = -1
                  · rw [if_pos hx]
                    have := hb1 hx
                    split <;> omega
                  · have h55 : ¬ σ.2.1 55 52 = 0 := fun h0 => by
                      rcases hC.G.R.T with h9 | h9
                      · exact hx (hb0 (by omega))
                      · omega
                    rw [if_pos ⟨⟨h55, by omega⟩, by omega⟩, if_neg hx, ← hbp hx]
                    first | rw [if_pos (by omega)] | rw [if_neg (by omega)]
                · exact absurd h139 h1
              · have hGk := itS_GD hC.G i (by omega)
                have hck := itS_cc hC.G (n := i) (by omega)
                refine am_aload_n (q := 66) rfl (am_tab tk_X9_cheapest 33 rfl) rfl ?_
                refine am_getR (q := 69) (a := 0) (k := 9) (n := 17) (j := 7) (r := some (44)) (Ls_0 (hq.L hC.G.L)) (by decide) rfl (Lr_0_7 (hq.L hC.G.L)) (by decide) (Or.inl kf_X9_57) (am_tab tk_X9_cheapest 34 rfl) rfl ?_
                refine am_aload_n (q := 70) rfl (am_tab tk_X9_cheapest 35 rfl) rfl ?_
                refine am_getR (q := 73) (a := 0) (k := 9) (n := 17) (j := 2) (r := some (3)) (Ls_0 (hq.L hC.G.L)) (by decide) rfl ((hq.2.1 0 2 (by omega)).trans hC.t) (by decide) (Or.inl kf_X9_19) (am_tab tk_X9_cheapest 36 rfl) rfl ?_
                refine am_aload_n (q := 74) rfl (am_tab tk_X9_cheapest 37 rfl) rfl ?_
                refine am_getR (q := 77) (a := 0) (k := 9) (n := 17) (j := 5) (r := some (37)) (Ls_0 (hq.L hC.G.L)) (by decide) rfl (Lr_0_5 (hq.L hC.G.L)) (by decide) (Or.inl kf_X9_42) (am_tab tk_X9_cheapest 38 rfl) rfl ?_
                refine am_callVr (q := 80) (me2 := M_X0_lookAt) (b := 44) (kb := 0) (nb := 14) (As := [am_r 3, am_r 37]) (rest := []) (c_lookAt_3_37 S (itS i σ) (hq.L hC.G.L) hGk.1 ((hC.W.cq hq (by decide)).it i) hA) ⟨rfl, rfl⟩ (Ls_44 (hq.L hC.G.L)) (by decide) ⟨Or.inr km_X9_247, kc_X0_lookAt, kn_X0, kd_X0_lookAt, ⟨(Nat.le_of_ble_eq_true rfl), (Nat.le_of_ble_eq_true rfl)⟩, ⟨(Nat.le_of_ble_eq_true rfl), (Nat.le_of_ble_eq_true rfl)⟩, (Nat.le_of_ble_eq_true rfl)⟩ ki_X0_lookAt ks_X0_lookAt rfl (am_tab tk_X9_cheapest 39 rfl) rfl ?_
                rintro r T1 hlk
                rw [if_pos (by rw [hGk.2]; omega)] at hlk
                obtain ⟨rfl, hDA, hF1⟩ := hlk
                have hq1 : CQ σ T1 := hq.trans (CQ.base hF1)
                have hA1 : LF0 37 T1 (fun j9 => (itS i σ).2.1 96 j9) := LF0.fr (σ := am_setR (am_setR S 44 8 (some 3)) 44 9 (some 37)) hA hF1 (by unfold W_da; omega)
                refine am_st (st2 := [am_i 1]) rfl ?_
                refine am_pop (q := 81) rfl (am_tab tk_X9_cheapest 40 rfl) rfl ?_
                refine am_aload_n (q := 82) rfl (am_tab tk_X9_cheapest 41 rfl) rfl ?_
                refine am_getR (q := 85) (a := 0) (k := 9) (n := 17) (j := 7) (r := some (44)) (Ls_0 (hq1.L hC.G.L)) (by decide) rfl (Lr_0_7 (hq1.L hC.G.L)) (by decide) (Or.inl kf_X9_57) (am_tab tk_X9_cheapest 42 rfl) rfl ?_
                refine am_callVr (q := 88) (me2 := M_X0_settle) (b := 44) (kb := 0) (nb := 14) (As := []) (rest := []) (c_settle_3_37 T1 (itS i σ) (hq1.L hC.G.L) hGk.1 hck hA1 _ hDA) ⟨rfl, rfl⟩ (Ls_44 (hq1.L hC.G.L)) (by decide) ⟨Or.inr km_X9_251, kc_X0_settle, kn_X0, kd_X0_settle, ⟨(Nat.le_of_ble_eq_true rfl), (Nat.le_of_ble_eq_true rfl)⟩, ⟨(Nat.le_of_ble_eq_true rfl), (Nat.le_of_ble_eq_true rfl)⟩, (Nat.le_of_ble_eq_true rfl)⟩ ki_X0_settle ks_X0_settle rfl (am_tab tk_X9_cheapest 43 rfl) rfl ?_
                rintro r T2 ⟨rfl, hA2, hF2⟩
                have hq2 : CQ σ T2 := hq1.trans (hF2.cq (by unfold W_se W_cq; omega))
                have hFS : FS 3 σ i T2 := hDA.FS hF2 (by decide)
                refine am_st (st2 := []) rfl ?_
                refine am_aload_n (q := 89) rfl (am_tab tk_X9_cheapest 44 rfl) rfl ?_
                refine am_aload_n (q := 90) rfl (am_tab tk_X9_cheapest 45 rfl) rfl ?_
                refine am_getR (q := 93) (a := 0) (k := 9) (n := 17) (j := 7) (r := some (44)) (Ls_0 (hq2.L hC.G.L)) (by decide) rfl (Lr_0_7 (hq2.L hC.G.L)) (by decide) (Or.inl kf_X9_57) (am_tab tk_X9_cheapest 46 rfl) rfl ?_
                refine am_getI (q := 96) (a := 44) (k := 0) (n := 14) (j := 4) (x := (sfD (itS i σ))) (Ls_44 (hq2.L hC.G.L)) (by decide) rfl hFS.2.2.1 (by decide) (Or.inr kf_X9_222) (am_tab tk_X9_cheapest 47 rfl) rfl ?_
                refine am_callV0 (q := 99) (me2 := M_X9_priceOf) (b := 0) (kb := 9) (nb := 17) (As := [am_i ((sfD (itS i σ)))]) (rest := []) (out := [am_i ((coM σ (sfD (itS i σ))))]) (c_priceOf_3 σ T2 hC hq2 (sfD (itS i σ)) (sfD_rng hGk.1 hck)) ⟨rfl, rfl⟩ (Ls_0 (hq2.L hC.G.L)) (by decide) ⟨Or.inl km_X9_263, kc_X9_priceOf, kn_X9, kd_X9_priceOf, ⟨(Nat.le_of_ble_eq_true rfl), (Nat.le_of_ble_eq_true rfl)⟩, ⟨(Nat.le_of_ble_eq_true rfl), (Nat.le_of_ble_eq_true rfl)⟩, (Nat.le_of_ble_eq_true rfl)⟩ ki_X9_priceOf ks_X9_priceOf rfl rfl (am_tab tk_X9_cheapest 48 rfl) rfl ?_
                refine am_istore (q := 101) (by decide) (ls2 := [(6, am_i ((coM σ (sfD (itS i σ))))), (5, am_i ((σ.2.1 96 1 + (i : Int)))), (4, am_i hf), (3, am_i bp), (2, am_i bd), (0, am_r 0), (1, am_i w)]) rfl (am_tab tk_X9_cheapest 49 rfl) rfl ?_
                refine am_iload_n (q := 102) rfl (am_tab tk_X9_cheapest 50 rfl) rfl ?_
                refine am_iconst (q := 103) (n := (-1)) (by decide) (am_tab tk_X9_cheapest 51 rfl) rfl ?_
                refine am_icmp_eq (q := 106) (t := 112) (am_tab tk_X9_cheapest 52 rfl) (by decide) rfl (fun h103 => ?_) (fun h103 => ?_)
                · refine am_aload_n (q := 113) rfl (am_tab tk_X9_cheapest 56 rfl) rfl ?_
                  refine am_getR (q := 116) (a := 0) (k := 9) (n := 17) (j := 7) (r := some (44)) (Ls_0 (hq2.L hC.G.L)) (by decide) rfl (Lr_0_7 (hq2.L hC.G.L)) (by decide) (Or.inl kf_X9_57) (am_tab tk_X9_cheapest 57 rfl) rfl ?_
                  refine am_getI (q := 119) (a := 44) (k := 0) (n := 14) (j := 1) (x := (bgN (itS i σ) 1)) (Ls_44 (hq2.L hC.G.L)) (by decide) rfl hFS.2.1 (by decide) (Or.inr kf_X9_229) (am_tab tk_X9_cheapest 58 rfl) rfl ?_
                  refine am_istore_n (q := 120) (by decide) (ls2 := [(2, am_i ((bgN (itS i σ) 1))), (6, am_i ((coM σ (sfD (itS i σ))))), (5, am_i ((σ.2.1 96 1 + (i : Int)))), (4, am_i hf), (3, am_i bp), (0, am_r 0), (1, am_i w)]) rfl (am_tab tk_X9_cheapest 59 rfl) rfl ?_
                  refine am_iload (q := 122) rfl (am_tab tk_X9_cheapest 60 rfl) rfl ?_
                  refine am_istore_n (q := 123) (by decide) (ls2 := [(3, am_i ((coM σ (sfD (itS i σ))))), (2, am_i ((bgN (itS i σ) 1))), (6, am_i ((coM σ (sfD (itS i σ))))), (5, am_i ((σ.2.1 96 1 + (i : Int)))), (4, am_i hf), (0, am_r 0), (1, am_i w)]) rfl (am_tab tk_X9_cheapest 61 rfl) rfl ?_
                  refine am_aload_n (q := 124) rfl (am_tab tk_X9_cheapest 62 rfl) rfl ?_
                  refine am_getR (q := 127) (a := 0) (k := 9) (n := 17) (j := 7) (r := some (44)) (Ls_0 (hq2.L hC.G.L)) (by decide) rfl (Lr_0_7 (hq2.L hC.G.L)) (by decide) (Or.inl kf_X9_57) (am_tab tk_X9_cheapest 63 rfl) rfl ?_
                  refine am_getI (q := 130) (a := 44) (k := 0) (n := 14) (j := 6) (x := (fsD (itS i σ))) (Ls_44 (hq2.L hC.G.L)) (by decide) rfl hFS.2.2.2.2.1 (by decide) (Or.inr kf_X9_230) (am_tab tk_X9_cheapest 64 rfl) rfl ?_
                  refine am_istore (q := 132) (by decide) (ls2 := [(4, am_i ((fsD (itS i σ)))), (3, am_i ((coM σ (sfD (itS i σ))))), (2, am_i ((bgN (itS i σ) 1))), (6, am_i ((coM σ (sfD (itS i σ))))), (5, am_i ((σ.2.1 96 1 + (i : Int)))), (0, am_r 0), (1, am_i w)]) rfl (am_tab tk_X9_cheapest 65 rfl) rfl ?_
                  refine am_iinc (q := 135) rfl (by omega) (by decide) (ls2 := [(5, am_i (((σ.2.1 96 1 + (i : Int)) + 1))), (4, am_i ((fsD (itS i σ)))), (3, am_i ((coM σ (sfD (itS i σ))))), (2, am_i ((bgN (itS i σ) 1))), (6, am_i ((coM σ (sfD (itS i σ))))), (0, am_r 0), (1, am_i w)]) rfl (am_tab tk_X9_cheapest 66 rfl) rfl ?_
                  refine am_goto (t := 48) (am_tab tk_X9_cheapest 67 rfl) (by decide) ?_
                  have hgo : (chF σ i).2.2 = 1 := by rw [hgf, if_pos ⟨h62, by omega⟩]
                  have hch := chF_on hgo
                  have hi1 := it_0 hC.G hck (by omega)
                  have hdy1 := it_day hC.G (i + 1) (by push_cast; omega) (by push_cast; omega)
                  have hb9 := bg1_rng hGk.1 hck
                  have hcond : ((chF σ i).1 = -1 ∨ (coM σ (sfD (itS i σ))) < (chF σ i).2.1) ↔ (bd = -1 ∨ (coM σ (sfD (itS i σ))) < bp) := by
                    rw [hbd]
                    constructor
                    · rintro (h | h)
                      · exact Or.inl h
                      · by_cases hx : bd = -1
                        · exact Or.inl hx
                        · exact Or.inr (by rw [(hbp hx)]; exact h)
                    · rintro (h | h)
                      · exact Or.inl h
                      · by_cases hx : bd = -1
                        · exact Or.inl hx
                        · exact Or.inr (by rw [← (hbp hx)]; exact h)
                  have hcc9 : (chF σ i).1 = -1 ∨ (coM σ (sfD (itS i σ))) < (chF σ i).2.1 := hcond.mpr (by omega)
                  rw [if_pos hcc9, if_pos hcc9] at hch
                  exact am_less (by intro q hq; simp only [List.mem_cons, List.not_mem_nil, or_false] at hq; rcases hq with rfl | rfl | rfl | rfl | rfl | rfl <;> simp [Int.add_assoc]) (ih48 (i + 1) T2 (bgN (itS i σ) 1) (coM σ (sfD (itS i σ))) (fsD (itS i σ)) (by omega) (by push_cast; omega) hq2 hA2 (by rw [hch]; show (itS (i + 1) σ).2.1 96 1 = _; exact hi1.2) (fun hx => by rw [hch]) (fun hx => absurd hx (by omega)) (fun hx => absurd hx (by omega)) (by rw [hch]; show (if fsD (itS i σ) = 0 ∧ (itS (i + 1) σ).2.1 96 1 < σ.2.1 85 9 then (1 : Int) else 0) = _; rw [hdy1]) (fsD01 _))
                · refine am_iload (q := 108) rfl (am_tab tk_X9_cheapest 53 rfl) rfl ?_
                  refine am_iload_n (q := 109) rfl (am_tab tk_X9_cheapest 54 rfl) rfl ?_
                  refine am_icmp_ge (q := 112) (t := 123) (am_tab tk_X9_cheapest 55 rfl) (by decide) rfl (fun h109 => ?_) (fun h109 => ?_)
                  · refine am_aload_n (q := 124) rfl (am_tab tk_X9_cheapest 62 rfl) rfl ?_
                    refine am_getR (q := 127) (a := 0) (k := 9) (n := 17) (j := 7) (r := some (44)) (Ls_0 (hq2.L hC.G.L)) (by decide) rfl (Lr_0_7 (hq2.L hC.G.L)) (by decide) (Or.inl kf_X9_57) (am_tab tk_X9_cheapest 63 rfl) rfl ?_
                    refine am_getI (q := 130) (a := 44) (k := 0) (n := 14) (j := 6) (x := (fsD (itS i σ))) (Ls_44 (hq2.L hC.G.L)) (by decide) rfl hFS.2.2.2.2.1 (by decide) (Or.inr kf_X9_230) (am_tab tk_X9_cheapest 64 rfl) rfl ?_
                    refine am_istore (q := 132) (by decide) (ls2 := [(4, am_i ((fsD (itS i σ)))), (6, am_i ((coM σ (sfD (itS i σ))))), (5, am_i ((σ.2.1 96 1 + (i : Int)))), (3, am_i bp), (2, am_i bd), (0, am_r 0), (1, am_i w)]) rfl (am_tab tk_X9_cheapest 65 rfl) rfl ?_
                    refine am_iinc (q := 135) rfl (by omega) (by decide) (ls2 := [(5, am_i (((σ.2.1 96 1 + (i : Int)) + 1))), (4, am_i ((fsD (itS i σ)))), (6, am_i ((coM σ (sfD (itS i σ))))), (3, am_i bp), (2, am_i bd), (0, am_r 0), (1, am_i w)]) rfl (am_tab tk_X9_cheapest 66 rfl) rfl ?_
                    refine am_goto (t := 48) (am_tab tk_X9_cheapest 67 rfl) (by decide) ?_
                    have hgo : (chF σ i).2.2 = 1 := by rw [hgf, if_pos ⟨h62, by omega⟩]
                    have hch := chF_on hgo
                    have hi1 := it_0 hC.G hck (by omega)
                    have hdy1 := it_day hC.G (i + 1) (by push_cast; omega) (by push_cast; omega)
                    have hb9 := bg1_rng hGk.1 hck
                    have hcond : ((chF σ i).1 = -1 ∨ (coM σ (sfD (itS i σ))) < (chF σ i).2.1) ↔ (bd = -1 ∨ (coM σ (sfD (itS i σ))) < bp) := by
                      rw [hbd]
                      constructor
                      · rintro (h | h)
                        · exact Or.inl h
                        · by_cases hx : bd = -1
                          · exact Or.inl hx
                          · exact Or.inr (by rw [(hbp hx)]; exact h)
                      · rintro (h | h)
                        · exact Or.inl h
                        · by_cases hx : bd = -1
                          · exact Or.inl hx
                          · exact Or.inr (by rw [← (hbp hx)]; exact h)
                    have hcc9 : ¬ ((chF σ i).1 = -1 ∨ (coM σ (sfD (itS i σ))) < (chF σ i).2.1) := fun hx => absurd (hcond.mp hx) (by omega)
                    rw [if_neg hcc9, if_neg hcc9] at hch
                    exact am_less (by intro q hq; simp only [List.mem_cons, List.not_mem_nil, or_false] at hq; rcases hq with rfl | rfl | rfl | rfl | rfl | rfl <;> simp [Int.add_assoc]) (ih48 (i + 1) T2 bd bp (fsD (itS i σ)) (by omega) (by push_cast; omega) hq2 hA2 (by rw [hch]; show (chF σ i).1 = _; exact hbd) (fun hx => by rw [hch]; exact hbp hx) (fun hx => absurd hx (by omega)) (fun hx => absurd hx (by omega)) (by rw [hch]; show (if fsD (itS i σ) = 0 ∧ (itS (i + 1) σ).2.1 96 1 < σ.2.1 85 9 then (1 : Int) else 0) = _; rw [hdy1]) (fsD01 _))
                  · refine am_aload_n (q := 113) rfl (am_tab tk_X9_cheapest 56 rfl) rfl ?_
                    refine am_getR (q := 116) (a := 0) (k := 9) (n := 17) (j := 7) (r := some (44)) (Ls_0 (hq2.L hC.G.L)) (by decide) rfl (Lr_0_7 (hq2.L hC.G.L)) (by decide) (Or.inl kf_X9_57) (am_tab tk_X9_cheapest 57 rfl) rfl ?_
                    refine am_getI (q := 119) (a := 44) (k := 0) (n := 14) (j := 1) (x := (bgN (itS i σ) 1)) (Ls_44 (hq2.L hC.G.L)) (by decide) rfl hFS.2.1 (by decide) (Or.inr kf_X9_229) (am_tab tk_X9_cheapest 58 rfl) rfl ?_
                    refine am_istore_n (q := 120) (by decide) (ls2 := [(2, am_i ((bgN (itS i σ) 1))), (6, am_i ((coM σ (sfD (itS i σ))))), (5, am_i ((σ.2.1 96 1 + (i : Int)))), (4, am_i hf), (3, am_i bp), (0, am_r 0), (1, am_i w)]) rfl (am_tab tk_X9_cheapest 59 rfl) rfl ?_
                    refine am_iload (q := 122) rfl (am_tab tk_X9_cheapest 60 rfl) rfl ?_
                    refine am_istore_n (q := 123) (by decide) (ls2 := [(3, am_i ((coM σ (sfD (itS i σ))))), (2, am_i ((bgN (itS i σ) 1))), (6, am_i ((coM σ (sfD (itS i σ))))), (5, am_i ((σ.2.1 96 1 + (i : Int)))), (4, am_i hf), (0, am_r 0), (1, am_i w)]) rfl (am_tab tk_X9_cheapest 61 rfl) rfl ?_
                    refine am_aload_n (q := 124) rfl (am_tab tk_X9_cheapest 62 rfl) rfl ?_
                    refine am_getR (q := 127) (a := 0) (k := 9) (n := 17) (j := 7) (r := some (44)) (Ls_0 (hq2.L hC.G.L)) (by decide) rfl (Lr_0_7 (hq2.L hC.G.L)) (by decide) (Or.inl kf_X9_57) (am_tab tk_X9_cheapest 63 rfl) rfl ?_
                    refine am_getI (q := 130) (a := 44) (k := 0) (n := 14) (j := 6) (x := (fsD (itS i σ))) (Ls_44 (hq2.L hC.G.L)) (by decide) rfl hFS.2.2.2.2.1 (by decide) (Or.inr kf_X9_230) (am_tab tk_X9_cheapest 64 rfl) rfl ?_
                    refine am_istore (q := 132) (by decide) (ls2 := [(4, am_i ((fsD (itS i σ)))), (3, am_i ((coM σ (sfD (itS i σ))))), (2, am_i ((bgN (itS i σ) 1))), (6, am_i ((coM σ (sfD (itS i σ))))), (5, am_i ((σ.2.1 96 1 + (i : Int)))), (0, am_r 0), (1, am_i w)]) rfl (am_tab tk_X9_cheapest 65 rfl) rfl ?_
                    refine am_iinc (q := 135) rfl (by omega) (by decide) (ls2 := [(5, am_i (((σ.2.1 96 1 + (i : Int)) + 1))), (4, am_i ((fsD (itS i σ)))), (3, am_i ((coM σ (sfD (itS i σ))))), (2, am_i ((bgN (itS i σ) 1))), (6, am_i ((coM σ (sfD (itS i σ))))), (0, am_r 0), (1, am_i w)]) rfl (am_tab tk_X9_cheapest 66 rfl) rfl ?_
                    refine am_goto (t := 48) (am_tab tk_X9_cheapest 67 rfl) (by decide) ?_
                    have hgo : (chF σ i).2.2 = 1 := by rw [hgf, if_pos ⟨h62, by omega⟩]
                    have hch := chF_on hgo
                    have hi1 := it_0 hC.G hck (by omega)
                    have hdy1 := it_day hC.G (i + 1) (by push_cast; omega) (by push_cast; omega)
                    have hb9 := bg1_rng hGk.1 hck
                    have hcond : ((chF σ i).1 = -1 ∨ (coM σ (sfD (itS i σ))) < (chF σ i).2.1) ↔ (bd = -1 ∨ (coM σ (sfD (itS i σ))) < bp) := by
                      rw [hbd]
                      constructor
                      · rintro (h | h)
                        · exact Or.inl h
                        · by_cases hx : bd = -1
                          · exact Or.inl hx
                          · exact Or.inr (by rw [(hbp hx)]; exact h)
                      · rintro (h | h)
                        · exact Or.inl h
                        · by_cases hx : bd = -1
                          · exact Or.inl hx
                          · exact Or.inr (by rw [← (hbp hx)]; exact h)
                    have hcc9 : (chF σ i).1 = -1 ∨ (coM σ (sfD (itS i σ))) < (chF σ i).2.1 := hcond.mpr (by omega)
                    rw [if_pos hcc9, if_pos hcc9] at hch
                    exact am_less (by intro q hq; simp only [List.mem_cons, List.not_mem_nil, or_false] at hq; rcases hq with rfl | rfl | rfl | rfl | rfl | rfl <;> simp [Int.add_assoc]) (ih48 (i + 1) T2 (bgN (itS i σ) 1) (coM σ (sfD (itS i σ))) (fsD (itS i σ)) (by omega) (by push_cast; omega) hq2 hA2 (by rw [hch]; show (itS (i + 1) σ).2.1 96 1 = _; exact hi1.2) (fun hx => by rw [hch]) (fun hx => absurd hx (by omega)) (fun hx => absurd hx (by omega)) (by rw [hch]; show (if fsD (itS i σ) = 0 ∧ (itS (i + 1) σ).2.1 96 1 < σ.2.1 85 9 then (1 : Int) else 0) = _; rw [hdy1]) (fsD01 _))
        refine am_less (by intro q hq; simp only [List.mem_cons, List.not_mem_nil, or_false] at hq; rcases hq with rfl | rfl | rfl | rfl | rfl | rfl <;> simp [Int.add_assoc]) (L48 (_ + 1) 0 S0 (-1) (-1) 0 (by exact Nat.lt_succ_self _) (Or.inr rfl) hq0 hA0 rfl (fun h => absurd rfl h) (fun _ => rfl) (fun _ => rfl) (by show (if σ.2.1 96 1 < σ.2.1 85 9 then (1 : Int) else 0) = _; by_cases hy : σ.2.1 96 1 < σ.2.1 85 9; (rw [if_pos hy, if_pos ⟨rfl, by omega⟩]); (rw [if_neg hy, if_neg (by omega)])) (Or.inl rfl))
      · refine am_iconst (q := 20) (n := (-1)) (by decide) (am_tab tk_X9_cheapest 9 rfl) rfl ?_
        refine am_iret (Or.inl rfl) (Nat.le_of_ble_eq_true rfl) (Nat.le_of_ble_eq_true rfl) (am_tab tk_X9_cheapest 10 rfl) ?_
        refine hQ _ _ ?_
        refine ⟨congrArg (fun z => some (am_i z)) ?_, CQ.refl σ⟩
        unfold cheM
        by_cases hx : (¬ σ.2.1 55 52 = 0 ∧ (0 ≤ w ∧ w ≤ 1)) ∧ ¬ (0 < σ.2.1 96 2 ∧ σ.2.1 96 1 < σ.2.1 85 9)
        · rw [if_pos hx, chF_go (i := 0) (hf := 0) (by show (if σ.2.1 96 1 < σ.2.1 85 9 then (1 : Int) else 0) = _; by_cases hy : σ.2.1 96 1 < σ.2.1 85 9; (rw [if_pos hy, if_pos ⟨rfl, by omega⟩]); (rw [if_neg hy, if_neg (by omega)])) (by omega) (by omega)]
          show _ = (if (-1 : Int) = -1 then (-1 : Int) else _)
          rw [if_pos rfl]
        · rw [if_neg hx]
set_option maxRecDepth 100000 in
theorem c_cheapest_15 (σ : am_H) (hC : CI 15 σ) (w : Int)  : am_met M_X9_cheapest [am_r 0, am_i w] σ (fun r σ' => r = some (am_i (cheM σ w)) ∧ CQ σ σ') := by
  refine am_qq (fun Q hQ => ?_)
  refine am_enter (show plainFor yX9_cheapest = true by decide +kernel) rfl (Nat.le_of_ble_eq_true rfl) (fun _ _ _ => trivial) ?_
  have hL := hC.G.L
  have hdl := dl_ge hC.G
  have hdd := hC.G.R.day
  have hYY := hC.G.R.Y
  have hff := hC.G.R.feast
  refine am_iload_n (q := 1) rfl (am_tab tk_X9_cheapest 0 rfl) rfl ?_
  refine am_if_eq (q := 4) (t := 9) (am_tab tk_X9_cheapest 1 rfl) (by decide) rfl (fun h1 => ?_) (fun h1 => ?_)
  · refine am_aload_n (q := 10) rfl (am_tab tk_X9_cheapest 5 rfl) rfl ?_
    refine am_getR (q := 13) (a := 0) (k := 9) (n := 17) (j := 4) (r := some (32)) (Ls_0 hL) (by decide) rfl (Lr_0_4 hL) (by decide) (Or.inl kf_X9_38) (am_tab tk_X9_cheapest 6 rfl) rfl ?_
    refine am_getI (q := 16) (a := 32) (k := 1) (n := 11) (j := 2) (x := (σ.2.1 96 2)) (Ls_32 hL) (by decide) rfl hC.F.1.2.2.1 (by decide) (Or.inr kf_X9_144) (am_tab tk_X9_cheapest 7 rfl) rfl ?_
    refine am_if_eq (q := 19) (t := 21) (am_tab tk_X9_cheapest 8 rfl) (by decide) rfl (fun h16 => ?_) (fun h16 => ?_)
    · refine am_iconst (q := 22) (n := (-1)) (by decide) (am_tab tk_X9_cheapest 11 rfl) rfl ?_
      refine am_istore_n (q := 23) (by decide) (ls2 := [(2, am_i ((-1))), (0, am_r 0), (1, am_i w)]) rfl (am_tab tk_X9_cheapest 12 rfl) rfl ?_
      refine am_iconst (q := 24) (n := (-1)) (by decide) (am_tab tk_X9_cheapest 13 rfl) rfl ?_
      refine am_istore_n (q := 25) (by decide) (ls2 := [(3, am_i ((-1))), (2, am_i ((-1))), (0, am_r 0), (1, am_i w)]) rfl (am_tab tk_X9_cheapest 14 rfl) rfl ?_
      refine am_iconst (q := 26) (n := 0) (by decide) (am_tab tk_X9_cheapest 15 rfl) rfl ?_
      refine am_istore (q := 28) (by decide) (ls2 := [(4, am_i 0), (3, am_i ((-1))), (2, am_i ((-1))), (0, am_r 0), (1, am_i w)]) rfl (am_tab tk_X9_cheapest 16 rfl) rfl ?_
      refine am_aload_n (q := 29) rfl (am_tab tk_X9_cheapest 17 rfl) rfl ?_
      refine am_getR (q := 32) (a := 0) (k := 9) (n := 17) (j := 5) (r := some (37)) (Ls_0 hL) (by decide) rfl (Lr_0_5 hL) (by decide) (Or.inl kf_X9_42) (am_tab tk_X9_cheapest 18 rfl) rfl ?_
      refine am_aload_n (q := 33) rfl (am_tab tk_X9_cheapest 19 rfl) rfl ?_
      refine am_getR (q := 36) (a := 0) (k := 9) (n := 17) (j := 4) (r := some (32)) (Ls_0 hL) (by decide) rfl (Lr_0_4 hL) (by decide) (Or.inl kf_X9_38) (am_tab tk_X9_cheapest 20 rfl) rfl ?_
      refine am_callVr (q := 39) (me2 := M_X1_copyFrom) (b := 37) (kb := 1) (nb := 11) (As := [am_r 32]) (rest := []) (c_copy_37_32 σ hC.G.L) ⟨rfl, rfl⟩ (Ls_37 hL) (by decide) ⟨Or.inr km_X9_243, kc_X1_copyFrom, kn_X1, kd_X1_copyFrom, ⟨(Nat.le_of_ble_eq_true rfl), (Nat.le_of_ble_eq_true rfl)⟩, ⟨(Nat.le_of_ble_eq_true rfl), (Nat.le_of_ble_eq_true rfl)⟩, (Nat.le_of_ble_eq_true rfl)⟩ ki_X1_copyFrom ks_X1_copyFrom rfl (am_tab tk_X9_cheapest 21 rfl) rfl ?_
      rintro r S0 ⟨rfl, hCP, hFc⟩
      have hq0 : CQ σ S0 := hFc.cq (by unfold W_li W_cq; omega)
      have hA0 : LF0 37 S0 (fun j9 => (itS 0 σ).2.1 96 j9) := hCP.lf hC.F
      refine am_st (st2 := []) rfl ?_
      refine am_aload_n (q := 40) rfl (am_tab tk_X9_cheapest 22 rfl) rfl ?_
      refine am_getR (q := 43) (a := 0) (k := 9) (n := 17) (j := 4) (r := some (32)) (Ls_0 (hq0.L hC.G.L)) (by decide) rfl (Lr_0_4 (hq0.L hC.G.L)) (by decide) (Or.inl kf_X9_38) (am_tab tk_X9_cheapest 23 rfl) rfl ?_
      refine am_getI (q := 46) (a := 32) (k := 1) (n := 11) (j := 1) (x := (σ.2.1 96 1)) (Ls_32 (hq0.L hC.G.L)) (by decide) rfl ((hq0.2.2 32 1 (by unfold W_cq; omega)).trans hC.F.1.2.1) (by decide) (Or.inr kf_X9_141) (am_tab tk_X9_cheapest 24 rfl) rfl ?_
      refine am_istore (q := 48) (by decide) (ls2 := [(5, am_i ((σ.2.1 96 1))), (4, am_i 0), (3, am_i ((-1))), (2, am_i ((-1))), (0, am_r 0), (1, am_i w)]) rfl (am_tab tk_X9_cheapest 25 rfl) rfl ?_
      have L48 : ∀ (n48 : Nat) (i : Nat) (S : am_H) (bd : Int) (bp : Int) (hf : Int), 91 - i < n48 → (σ.2.1 96 1 + (i : Int) ≤ σ.2.1 85 9 ∨ i = 0) → CQ σ S → LF0 37 S (fun j9 => (itS i σ).2.1 96 j9) → (chF σ i).1 = bd → (¬ bd = -1 → bp = (chF σ i).2.1) → (i = 0 → bd = -1) → (bd = -1 → bp = -1) → ((chF σ i).2.2 = if hf = 0 ∧ σ.2.1 96 1 + i < σ.2.1 85 9 then 1 else 0) → (hf = 0 ∨ hf = 1) → am_wp M_X9_cheapest Q 0 0 48 [(5, am_i ((σ.2.1 96 1 + (i : Int)))), (4, am_i hf), (3, am_i bp), (2, am_i bd), (0, am_r 0), (1, am_i w)] [] S := by
        intro n48
        induction n48 with
        | zero => intro i S bd bp hf hn48; exact absurd hn48 (Nat.not_lt_zero _)
        | succ n48 ih48 =>
          intro i S bd bp hf hn48 hi hq hA hbd hbp hb0 hb1 hgf hf01
          refine am_iload (q := 50) rfl (am_tab tk_X9_cheapest 26 rfl) rfl ?_
          refine am_aload_n (q := 51) rfl (am_tab tk_X9_cheapest 27 rfl) rfl ?_
          refine am_getR (q := 54) (a := 0) (k := 9) (n := 17) (j := 2) (r := some (15)) (Ls_0 (hq.L hC.G.L)) (by decide) rfl ((hq.2.1 0 2 (by omega)).trans hC.t) (by decide) (Or.inl kf_X9_19) (am_tab tk_X9_cheapest 28 rfl) rfl ?_
          refine am_getI (q := 57) (a := 15) (k := 8) (n := 17) (j := 0) (x := (σ.2.1 85 9)) (Ls_15 (hq.L hC.G.L)) (by decide) rfl (hC.W.cq hq (by decide)).days (by decide) (Or.inr kf_X9_123) (am_tab tk_X9_cheapest 29 rfl) rfl ?_
          refine am_icmp_ge (q := 60) (t := 138) (am_tab tk_X9_cheapest 30 rfl) (by decide) rfl (fun h57 => ?_) (fun h57 => ?_)
          · refine am_iload_n (q := 139) rfl (am_tab tk_X9_cheapest 68 rfl) rfl ?_
            refine am_if_ne (q := 142) (t := 146) (am_tab tk_X9_cheapest 69 rfl) (by decide) rfl (fun h139 => ?_) (fun h139 => ?_)
            · exact absurd h1 h139
            · refine am_iload_n (q := 143) rfl (am_tab tk_X9_cheapest 70 rfl) rfl ?_
              refine am_goto (t := 147) (am_tab tk_X9_cheapest 71 rfl) (by decide) ?_
              refine am_iret (Or.inl rfl) (Nat.le_of_ble_eq_true rfl) (Nat.le_of_ble_eq_true rfl) (am_tab tk_X9_cheapest 73 rfl) ?_
              refine hQ _ _ ?_
              refine ⟨congrArg (fun z => some (am_i z)) ?_, hq⟩
              have hce := chF_go hgf (by omega) (by omega)
              unfold cheM
              rw [hce, hbd]
              by_cases hx : bd = -1
              · rw [if_pos hx]
                have := hb1 hx
                split <;> omega
              · have h55 : ¬ σ.2.1 55 52 = 0 := fun h0 => by
                  rcases hC.G.R.T with h9 | h9
                  · exact hx (hb0 (by omega))
                  · omega
                rw [if_pos ⟨⟨h55, by omega⟩, by omega⟩, if_neg hx, ← hbp hx]
                first | rw [if_pos (by omega)] | rw [if_neg (by omega)]
          · refine am_iload (q := 62) rfl (am_tab tk_X9_cheapest 31 rfl) rfl ?_
            refine am_if_ne (q := 65) (t := 138) (am_tab tk_X9_cheapest 32 rfl) (by decide) rfl (fun h62 => ?_) (fun h62 => ?_)
            · refine am_iload_n (q := 139) rfl (am_tab tk_X9_cheapest 68 rfl) rfl ?_
              refine am_if_ne (q := 142) (t := 146) (am_tab tk_X9_cheapest 69 rfl) (by decide) rfl (fun h139 => ?_) (fun h139 => ?_)
              · exact absurd h1 h139
              · refine am_iload_n (q := 143) rfl (am_tab tk_X9_cheapest 70 rfl) rfl ?_
                refine am_goto (t := 147) (am_tab tk_X9_cheapest 71 rfl) (by decide) ?_
                refine am_iret (Or.inl rfl) (Nat.le_of_ble_eq_true rfl) (Nat.le_of_ble_eq_true rfl) (am_tab tk_X9_cheapest 73 rfl) ?_
                refine hQ _ _ ?_
                refine ⟨congrArg (fun z => some (am_i z)) ?_, hq⟩
                have hce := chF_go hgf (by omega) (by omega)
                unfold cheM
                rw [hce, hbd]
                by_cases hx : bd = -1
                · rw [if_pos hx]
                  have := hb1 hx
                  split <;> omega
                · have h55 : ¬ σ.2.1 55 52 = 0 := fun h0 => by
                    rcases hC.G.R.T with h9 | h9
                    · exact hx (hb0 (by omega))
                    · omega
                  rw [if_pos ⟨⟨h55, by omega⟩, by omega⟩, if_neg hx, ← hbp hx]
                  first | rw [if_pos (by omega)] | rw [if_neg (by omega)]
            · have hGk := itS_GD hC.G i (by omega)
              have hck := itS_cc hC.G (n := i) (by omega)
              refine am_aload_n (q := 66) rfl (am_tab tk_X9_cheapest 33 rfl) rfl ?_
              refine am_getR (q := 69) (a := 0) (k := 9) (n := 17) (j := 7) (r := some (44)) (Ls_0 (hq.L hC.G.L)) (by decide) rfl (Lr_0_7 (hq.L hC.G.L)) (by decide) (Or.inl kf_X9_57) (am_tab tk_X9_cheapest 34 rfl) rfl ?_
              refine am_aload_n (q := 70) rfl (am_tab tk_X9_cheapest 35 rfl) rfl ?_
              refine am_getR (q := 73) (a := 0) (k := 9) (n := 17) (j := 2) (r := some (15)) (Ls_0 (hq.L hC.G.L)) (by decide) rfl ((hq.2.1 0 2 (by omega)).trans hC.t) (by decide) (Or.inl kf_X9_19) (am_tab tk_X9_cheapest 36 rfl) rfl ?_
              refine am_aload_n (q := 74) rfl (am_tab tk_X9_cheapest 37 rfl) rfl ?_
              refine am_getR (q := 77) (a := 0) (k := 9) (n := 17) (j := 5) (r := some (37)) (Ls_0 (hq.L hC.G.L)) (by decide) rfl (Lr_0_5 (hq.L hC.G.L)) (by decide) (Or.inl kf_X9_42) (am_tab tk_X9_cheapest 38 rfl) rfl ?_
              refine am_callVr (q := 80) (me2 := M_X0_lookAt) (b := 44) (kb := 0) (nb := 14) (As := [am_r 15, am_r 37]) (rest := []) (c_lookAt_15_37 S (itS i σ) (hq.L hC.G.L) hGk.1 ((hC.W.cq hq (by decide)).it i) hA) ⟨rfl, rfl⟩ (Ls_44 (hq.L hC.G.L)) (by decide) ⟨Or.inr km_X9_247, kc_X0_lookAt, kn_X0, kd_X0_lookAt, ⟨(Nat.le_of_ble_eq_true rfl), (Nat.le_of_ble_eq_true rfl)⟩, ⟨(Nat.le_of_ble_eq_true rfl), (Nat.le_of_ble_eq_true rfl)⟩, (Nat.le_of_ble_eq_true rfl)⟩ ki_X0_lookAt ks_X0_lookAt rfl (am_tab tk_X9_cheapest 39 rfl) rfl ?_
              rintro r T1 hlk
              rw [if_pos (by rw [hGk.2]; omega)] at hlk
              obtain ⟨rfl, hDA, hF1⟩ := hlk
              have hq1 : CQ σ T1 := hq.trans (CQ.base hF1)
              have hA1 : LF0 37 T1 (fun j9 => (itS i σ).2.1 96 j9) := LF0.fr (σ := am_setR (am_setR S 44 8 (some 15)) 44 9 (some 37)) hA hF1 (by unfold W_da; omega)
              refine am_st (st2 := [am_i 1]) rfl ?_
              refine am_pop (q := 81) rfl (am_tab tk_X9_cheapest 40 rfl) rfl ?_
              refine am_aload_n (q := 82) rfl (am_tab tk_X9_cheapest 41 rfl) rfl ?_
              refine am_getR (q := 85) (a := 0) (k := 9) (n := 17) (j := 7) (r := some (44)) (Ls_0 (hq1.L hC.G.L)) (by decide) rfl (Lr_0_7 (hq1.L hC.G.L)) (by decide) (Or.inl kf_X9_57) (am_tab tk_X9_cheapest 42 rfl) rfl ?_
              refine am_callVr (q := 88) (me2 := M_X0_settle) (b := 44) (kb := 0) (nb := 14) (As := []) (rest := []) (c_settle_15_37 T1 (itS i σ) (hq1.L hC.G.L) hGk.1 hck hA1 _ hDA) ⟨rfl, rfl⟩ (Ls_44 (hq1.L hC.G.L)) (by decide) ⟨Or.inr km_X9_251, kc_X0_settle, kn_X0, kd_X0_settle, ⟨(Nat.le_of_ble_eq_true rfl), (Nat.le_of_ble_eq_true rfl)⟩, ⟨(Nat.le_of_ble_eq_true rfl), (Nat.le_of_ble_eq_true rfl)⟩, (Nat.le_of_ble_eq_true rfl)⟩ ki_X0_settle ks_X0_settle rfl (am_tab tk_X9_cheapest 43 rfl) rfl ?_
              rintro r T2 ⟨rfl, hA2, hF2⟩
              have hq2 : CQ σ T2 := hq1.trans (hF2.cq (by unfold W_se W_cq; omega))
              have hFS : FS 15 σ i T2 := hDA.FS hF2 (by decide)
              refine am_st (st2 := []) rfl ?_
              refine am_aload_n (q := 89) rfl (am_tab tk_X9_cheapest 44 rfl) rfl ?_
              refine am_aload_n (q := 90) rfl (am_tab tk_X9_cheapest 45 rfl) rfl ?_
              refine am_getR (q := 93) (a := 0) (k := 9) (n := 17) (j := 7) (r := some (44)) (Ls_0 (hq2.L hC.G.L)) (by decide) rfl (Lr_0_7 (hq2.L hC.G.L)) (by decide) (Or.inl kf_X9_57) (am_tab tk_X9_cheapest 46 rfl) rfl ?_
              refine am_getI (q := 96) (a := 44) (k := 0) (n := 14) (j := 4) (x := (sfD (itS i σ))) (Ls_44 (hq2.L hC.G.L)) (by decide) rfl hFS.2.2.1 (by decide) (Or.inr kf_X9_222) (am_tab tk_X9_cheapest 47 rfl) rfl ?_
              refine am_callV0 (q := 99) (me2 := M_X9_priceOf) (b := 0) (kb := 9) (nb := 17) (As := [am_i ((sfD (itS i σ)))]) (rest := []) (out := [am_i ((coM σ (sfD (itS i σ))))]) (c_priceOf_15 σ T2 hC hq2 (sfD (itS i σ)) (sfD_rng hGk.1 hck)) ⟨rfl, rfl⟩ (Ls_0 (hq2.L hC.G.L)) (by decide) ⟨Or.inl km_X9_263, kc_X9_priceOf, kn_X9, kd_X9_priceOf, ⟨(Nat.le_of_ble_eq_true rfl), (Nat.le_of_ble_eq_true rfl)⟩, ⟨(Nat.le_of_ble_eq_true rfl), (Nat.le_of_ble_eq_true rfl)⟩, (Nat.le_of_ble_eq_true rfl)⟩ ki_X9_priceOf ks_X9_priceOf rfl rfl (am_tab tk_X9_cheapest 48 rfl) rfl ?_
              refine am_istore (q := 101) (by decide) (ls2 := [(6, am_i ((coM σ (sfD (itS i σ))))), (5, am_i ((σ.2.1 96 1 + (i : Int)))), (4, am_i hf), (3, am_i bp), (2, am_i bd), (0, am_r 0), (1, am_i w)]) rfl (am_tab tk_X9_cheapest 49 rfl) rfl ?_
              refine am_iload_n (q := 102) rfl (am_tab tk_X9_cheapest 50 rfl) rfl ?_
              refine am_iconst (q := 103) (n := (-1)) (by decide) (am_tab tk_X9_cheapest 51 rfl) rfl ?_
              refine am_icmp_eq (q := 106) (t := 112) (am_tab tk_X9_cheapest 52 rfl) (by decide) rfl (fun h103 => ?_) (fun h103 => ?_)
              · refine am_aload_n (q := 113) rfl (am_tab tk_X9_cheapest 56 rfl) rfl ?_
                refine am_getR (q := 116) (a := 0) (k := 9) (n := 17) (j := 7) (r := some (44)) (Ls_0 (hq2.L hC.G.L)) (by decide) rfl (Lr_0_7 (hq2.L hC.G.L)) (by decide) (Or.inl kf_X9_57) (am_tab tk_X9_cheapest 57 rfl) rfl ?_
                refine am_getI (q := 119) (a := 44) (k := 0) (n := 14) (j := 1) (x := (bgN (itS i σ) 1)) (Ls_44 (hq2.L hC.G.L)) (by decide) rfl hFS.2.1 (by decide) (Or.inr kf_X9_229) (am_tab tk_X9_cheapest 58 rfl) rfl ?_
                refine am_istore_n (q := 120) (by decide) (ls2 := [(2, am_i ((bgN (itS i σ) 1))), (6, am_i ((coM σ (sfD (itS i σ))))), (5, am_i ((σ.2.1 96 1 + (i : Int)))), (4, am_i hf), (3, am_i bp), (0, am_r 0), (1, am_i w)]) rfl (am_tab tk_X9_cheapest 59 rfl) rfl ?_
                refine am_iload (q := 122) rfl (am_tab tk_X9_cheapest 60 rfl) rfl ?_
                refine am_istore_n (q := 123) (by decide) (ls2 := [(3, am_i ((coM σ (sfD (itS i σ))))), (2, am_i ((bgN (itS i σ) 1))), (6, am_i ((coM σ (sfD (itS i σ))))), (5, am_i ((σ.2.1 96 1 + (i : Int)))), (4, am_i hf), (0, am_r 0), (1, am_i w)]) rfl (am_tab tk_X9_cheapest 61 rfl) rfl ?_
                refine am_aload_n (q := 124) rfl (am_tab tk_X9_cheapest 62 rfl) rfl ?_
                refine am_getR (q := 127) (a := 0) (k := 9) (n := 17) (j := 7) (r := some (44)) (Ls_0 (hq2.L hC.G.L)) (by decide) rfl (Lr_0_7 (hq2.L hC.G.L)) (by decide) (Or.inl kf_X9_57) (am_tab tk_X9_cheapest 63 rfl) rfl ?_
                refine am_getI (q := 130) (a := 44) (k := 0) (n := 14) (j := 6) (x := (fsD (itS i σ))) (Ls_44 (hq2.L hC.G.L)) (by decide) rfl hFS.2.2.2.2.1 (by decide) (Or.inr kf_X9_230) (am_tab tk_X9_cheapest 64 rfl) rfl ?_
                refine am_istore (q := 132) (by decide) (ls2 := [(4, am_i ((fsD (itS i σ)))), (3, am_i ((coM σ (sfD (itS i σ))))), (2, am_i ((bgN (itS i σ) 1))), (6, am_i ((coM σ (sfD (itS i σ))))), (5, am_i ((σ.2.1 96 1 + (i : Int)))), (0, am_r 0), (1, am_i w)]) rfl (am_tab tk_X9_cheapest 65 rfl) rfl ?_
                refine am_iinc (q := 135) rfl (by omega) (by decide) (ls2 := [(5, am_i (((σ.2.1 96 1 + (i : Int)) + 1))), (4, am_i ((fsD (itS i σ)))), (3, am_i ((coM σ (sfD (itS i σ))))), (2, am_i ((bgN (itS i σ) 1))), (6, am_i ((coM σ (sfD (itS i σ))))), (0, am_r 0), (1, am_i w)]) rfl (am_tab tk_X9_cheapest 66 rfl) rfl ?_
                refine am_goto (t := 48) (am_tab tk_X9_cheapest 67 rfl) (by decide) ?_
                have hgo : (chF σ i).2.2 = 1 := by rw [hgf, if_pos ⟨h62, by omega⟩]
                have hch := chF_on hgo
                have hi1 := it_0 hC.G hck (by omega)
                have hdy1 := it_day hC.G (i + 1) (by push_cast; omega) (by push_cast; omega)
                have hb9 := bg1_rng hGk.1 hck
                have hcond : ((chF σ i).1 = -1 ∨ (coM σ (sfD (itS i σ))) < (chF σ i).2.1) ↔ (bd = -1 ∨ (coM σ (sfD (itS i σ))) < bp) := by
                  rw [hbd]
                  constructor
                  · rintro (h | h)
                    · exact Or.inl h
                    · by_cases hx : bd = -1
                      · exact Or.inl hx
                      · exact Or.inr (by rw [(hbp hx)]; exact h)
                  · rintro (h | h)
                    · exact Or.inl h
                    · by_cases hx : bd = -1
                      · exact Or.inl hx
                      · exact Or.inr (by rw [← (hbp hx)]; exact h)
                have hcc9 : (chF σ i).1 = -1 ∨ (coM σ (sfD (itS i σ))) < (chF σ i).2.1 := hcond.mpr (by omega)
                rw [if_pos hcc9, if_pos hcc9] at hch
                exact am_less (by intro q hq; simp only [List.mem_cons, List.not_mem_nil, or_false] at hq; rcases hq with rfl | rfl | rfl | rfl | rfl | rfl <;> simp [Int.add_assoc]) (ih48 (i + 1) T2 (bgN (itS i σ) 1) (coM σ (sfD (itS i σ))) (fsD (itS i σ)) (by omega) (by push_cast; omega) hq2 hA2 (by rw [hch]; show (itS (i + 1) σ).2.1 96 1 = _; exact hi1.2) (fun hx => by rw [hch]) (fun hx => absurd hx (by omega)) (fun hx => absurd hx (by omega)) (by rw [hch]; show (if fsD (itS i σ) = 0 ∧ (itS (i + 1) σ).2.1 96 1 < σ.2.1 85 9 then (1 : Int) else 0) = _; rw [hdy1]) (fsD01 _))
              · refine am_iload (q := 108) rfl (am_tab tk_X9_cheapest 53 rfl) rfl ?_
                refine am_iload_n (q := 109) rfl (am_tab tk_X9_cheapest 54 rfl) rfl ?_
                refine am_icmp_ge (q := 112) (t := 123) (am_tab tk_X9_cheapest 55 rfl) (by decide) rfl (fun h109 => ?_) (fun h109 => ?_)
                · refine am_aload_n (q := 124) rfl (am_tab tk_X9_cheapest 62 rfl) rfl ?_
                  refine am_getR (q := 127) (a := 0) (k := 9) (n := 17) (j := 7) (r := some (44)) (Ls_0 (hq2.L hC.G.L)) (by decide) rfl (Lr_0_7 (hq2.L hC.G.L)) (by decide) (Or.inl kf_X9_57) (am_tab tk_X9_cheapest 63 rfl) rfl ?_
                  refine am_getI (q := 130) (a := 44) (k := 0) (n := 14) (j := 6) (x := (fsD (itS i σ))) (Ls_44 (hq2.L hC.G.L)) (by decide) rfl hFS.2.2.2.2.1 (by decide) (Or.inr kf_X9_230) (am_tab tk_X9_cheapest 64 rfl) rfl ?_
                  refine am_istore (q := 132) (by decide) (ls2 := [(4, am_i ((fsD (itS i σ)))), (6, am_i ((coM σ (sfD (itS i σ))))), (5, am_i ((σ.2.1 96 1 + (i : Int)))), (3, am_i bp), (2, am_i bd), (0, am_r 0), (1, am_i w)]) rfl (am_tab tk_X9_cheapest 65 rfl) rfl ?_
                  refine am_iinc (q := 135) rfl (by omega) (by decide) (ls2 := [(5, am_i (((σ.2.1 96 1 + (i : Int)) + 1))), (4, am_i ((fsD (itS i σ)))), (6, am_i ((coM σ (sfD (itS i σ))))), (3, am_i bp), (2, am_i bd), (0, am_r 0), (1, am_i w)]) rfl (am_tab tk_X9_cheapest 66 rfl) rfl ?_
                  refine am_goto (t := 48) (am_tab tk_X9_cheapest 67 rfl) (by decide) ?_
                  have hgo : (chF σ i).2.2 = 1 := by rw [hgf, if_pos ⟨h62, by omega⟩]
                  have hch := chF_on hgo
                  have hi1 := it_0 hC.G hck (by omega)
                  have hdy1 := it_day hC.G (i + 1) (by push_cast; omega) (by push_cast; omega)
                  have hb9 := bg1_rng hGk.1 hck
                  have hcond : ((chF σ i).1 = -1 ∨ (coM σ (sfD (itS i σ))) < (chF σ i).2.1) ↔ (bd = -1 ∨ (coM σ (sfD (itS i σ))) < bp) := by
                    rw [hbd]
                    constructor
                    · rintro (h | h)
                      · exact Or.inl h
                      · by_cases hx : bd = -1
                        · exact Or.inl hx
                        · exact Or.inr (by rw [(hbp hx)]; exact h)
                    · rintro (h | h)
                      · exact Or.inl h
                      · by_cases hx : bd = -1
                        · exact Or.inl hx
                        · exact Or.inr (by rw [← (hbp hx)]; exact h)
                  have hcc9 : ¬ ((chF σ i).1 = -1 ∨ (coM σ (sfD (itS i σ))) < (chF σ i).2.1) := fun hx => absurd (hcond.mp hx) (by omega)
                  rw [if_neg hcc9, if_neg hcc9] at hch
                  exact am_less (by intro q hq; simp only [List.mem_cons, List.not_mem_nil, or_false] at hq; rcases hq with rfl | rfl | rfl | rfl | rfl | rfl <;> simp [Int.add_assoc]) (ih48 (i + 1) T2 bd bp (fsD (itS i σ)) (by omega) (by push_cast; omega) hq2 hA2 (by rw [hch]; show (chF σ i).1 = _; exact hbd) (fun hx => by rw [hch]; exact hbp hx) (fun hx => absurd hx (by omega)) (fun hx => absurd hx (by omega)) (by rw [hch]; show (if fsD (itS i σ) = 0 ∧ (itS (i + 1) σ).2.1 96 1 < σ.2.1 85 9 then (1 : Int) else 0) = _; rw [hdy1]) (fsD01 _))
                · refine am_aload_n (q := 113) rfl (am_tab tk_X9_cheapest 56 rfl) rfl ?_
                  refine am_getR (q := 116) (a := 0) (k := 9) (n := 17) (j := 7) (r := some (44)) (Ls_0 (hq2.L hC.G.L)) (by decide) rfl (Lr_0_7 (hq2.L hC.G.L)) (by decide) (Or.inl kf_X9_57) (am_tab tk_X9_cheapest 57 rfl) rfl ?_
                  refine am_getI (q := 119) (a := 44) (k := 0) (n := 14) (j := 1) (x := (bgN (itS i σ) 1)) (Ls_44 (hq2.L hC.G.L)) (by decide) rfl hFS.2.1 (by decide) (Or.inr kf_X9_229) (am_tab tk_X9_cheapest 58 rfl) rfl ?_
                  refine am_istore_n (q := 120) (by decide) (ls2 := [(2, am_i ((bgN (itS i σ) 1))), (6, am_i ((coM σ (sfD (itS i σ))))), (5, am_i ((σ.2.1 96 1 + (i : Int)))), (4, am_i hf), (3, am_i bp), (0, am_r 0), (1, am_i w)]) rfl (am_tab tk_X9_cheapest 59 rfl) rfl ?_
                  refine am_iload (q := 122) rfl (am_tab tk_X9_cheapest 60 rfl) rfl ?_
                  refine am_istore_n (q := 123) (by decide) (ls2 := [(3, am_i ((coM σ (sfD (itS i σ))))), (2, am_i ((bgN (itS i σ) 1))), (6, am_i ((coM σ (sfD (itS i σ))))), (5, am_i ((σ.2.1 96 1 + (i : Int)))), (4, am_i hf), (0, am_r 0), (1, am_i w)]) rfl (am_tab tk_X9_cheapest 61 rfl) rfl ?_
                  refine am_aload_n (q := 124) rfl (am_tab tk_X9_cheapest 62 rfl) rfl ?_
                  refine am_getR (q := 127) (a := 0) (k := 9) (n := 17) (j := 7) (r := some (44)) (Ls_0 (hq2.L hC.G.L)) (by decide) rfl (Lr_0_7 (hq2.L hC.G.L)) (by decide) (Or.inl kf_X9_57) (am_tab tk_X9_cheapest 63 rfl) rfl ?_
                  refine am_getI (q := 130) (a := 44) (k := 0) (n := 14) (j := 6) (x := (fsD (itS i σ))) (Ls_44 (hq2.L hC.G.L)) (by decide) rfl hFS.2.2.2.2.1 (by decide) (Or.inr kf_X9_230) (am_tab tk_X9_cheapest 64 rfl) rfl ?_
                  refine am_istore (q := 132) (by decide) (ls2 := [(4, am_i ((fsD (itS i σ)))), (3, am_i ((coM σ (sfD (itS i σ))))), (2, am_i ((bgN (itS i σ) 1))), (6, am_i ((coM σ (sfD (itS i σ))))), (5, am_i ((σ.2.1 96 1 + (i : Int)))), (0, am_r 0), (1, am_i w)]) rfl (am_tab tk_X9_cheapest 65 rfl) rfl ?_
                  refine am_iinc (q := 135) rfl (by omega) (by decide) (ls2 := [(5, am_i (((σ.2.1 96 1 + (i : Int)) + 1))), (4, am_i ((fsD (itS i σ)))), (3, am_i ((coM σ (sfD (itS i σ))))), (2, am_i ((bgN (itS i σ) 1))), (6, am_i ((coM σ (sfD (itS i σ))))), (0, am_r 0), (1, am_i w)]) rfl (am_tab tk_X9_cheapest 66 rfl) rfl ?_
                  refine am_goto (t := 48) (am_tab tk_X9_cheapest 67 rfl) (by decide) ?_
                  have hgo : (chF σ i).2.2 = 1 := by rw [hgf, if_pos ⟨h62, by omega⟩]
                  have hch := chF_on hgo
                  have hi1 := it_0 hC.G hck (by omega)
                  have hdy1 := it_day hC.G (i + 1) (by push_cast; omega) (by push_cast; omega)
                  have hb9 := bg1_rng hGk.1 hck
                  have hcond : ((chF σ i).1 = -1 ∨ (coM σ (sfD (itS i σ))) < (chF σ i).2.1) ↔ (bd = -1 ∨ (coM σ (sfD (itS i σ))) < bp) := by
                    rw [hbd]
                    constructor
                    · rintro (h | h)
                      · exact Or.inl h
                      · by_cases hx : bd = -1
                        · exact Or.inl hx
                        · exact Or.inr (by rw [(hbp hx)]; exact h)
                    · rintro (h | h)
                      · exact Or.inl h
                      · by_cases hx : bd = -1
                        · exact Or.inl hx
                        · exact Or.inr (by rw [← (hbp hx)]; exact h)
                  have hcc9 : (chF σ i).1 = -1 ∨ (coM σ (sfD (itS i σ))) < (chF σ i).2.1 := hcond.mpr (by omega)
                  rw [if_pos hcc9, if_pos hcc9] at hch
                  exact am_less (by intro q hq; simp only [List.mem_cons, List.not_mem_nil, or_false] at hq; rcases hq with rfl | rfl | rfl | rfl | rfl | rfl <;> simp [Int.add_assoc]) (ih48 (i + 1) T2 (bgN (itS i σ) 1) (coM σ (sfD (itS i σ))) (fsD (itS i σ)) (by omega) (by push_cast; omega) hq2 hA2 (by rw [hch]; show (itS (i + 1) σ).2.1 96 1 = _; exact hi1.2) (fun hx => by rw [hch]) (fun hx => absurd hx (by omega)) (fun hx => absurd hx (by omega)) (by rw [hch]; show (if fsD (itS i σ) = 0 ∧ (itS (i + 1) σ).2.1 96 1 < σ.2.1 85 9 then (1 : Int) else 0) = _; rw [hdy1]) (fsD01 _))
      refine am_less (by intro q hq; simp only [List.mem_cons, List.not_mem_nil, or_false] at hq; rcases hq with rfl | rfl | rfl | rfl | rfl | rfl <;> simp [Int.add_assoc]) (L48 (_ + 1) 0 S0 (-1) (-1) 0 (by exact Nat.lt_succ_self _) (Or.inr rfl) hq0 hA0 rfl (fun h => absurd rfl h) (fun _ => rfl) (fun _ => rfl) (by show (if σ.2.1 96 1 < σ.2.1 85 9 then (1 : Int) else 0) = _; by_cases hy : σ.2.1 96 1 < σ.2.1 85 9; (rw [if_pos hy, if_pos ⟨rfl, by omega⟩]); (rw [if_neg hy, if_neg (by omega)])) (Or.inl rfl))
    · refine am_iconst (q := 20) (n := (-1)) (by decide) (am_tab tk_X9_cheapest 9 rfl) rfl ?_
      refine am_iret (Or.inl rfl) (Nat.le_of_ble_eq_true rfl) (Nat.le_of_ble_eq_true rfl) (am_tab tk_X9_cheapest 10 rfl) ?_
      refine hQ _ _ ?_
      refine ⟨congrArg (fun z => some (am_i z)) ?_, CQ.refl σ⟩
      unfold cheM
      by_cases hx : (¬ σ.2.1 55 52 = 0 ∧ (0 ≤ w ∧ w ≤ 1)) ∧ ¬ (0 < σ.2.1 96 2 ∧ σ.2.1 96 1 < σ.2.1 85 9)
      · rw [if_pos hx, chF_go (i := 0) (hf := 0) (by show (if σ.2.1 96 1 < σ.2.1 85 9 then (1 : Int) else 0) = _; by_cases hy : σ.2.1 96 1 < σ.2.1 85 9; (rw [if_pos hy, if_pos ⟨rfl, by omega⟩]); (rw [if_neg hy, if_neg (by omega)])) (by omega) (by omega)]
        show _ = (if (-1 : Int) = -1 then (-1 : Int) else _)
        rw [if_pos rfl]
      · rw [if_neg hx]
  · refine am_iload_n (q := 5) rfl (am_tab tk_X9_cheapest 2 rfl) rfl ?_
    refine am_iconst (q := 6) (n := 1) (by decide) (am_tab tk_X9_cheapest 3 rfl) rfl ?_
    refine am_icmp_ne (q := 9) (t := 19) (am_tab tk_X9_cheapest 4 rfl) (by decide) rfl (fun h6 => ?_) (fun h6 => ?_)
    · refine am_iconst (q := 20) (n := (-1)) (by decide) (am_tab tk_X9_cheapest 9 rfl) rfl ?_
      refine am_iret (Or.inl rfl) (Nat.le_of_ble_eq_true rfl) (Nat.le_of_ble_eq_true rfl) (am_tab tk_X9_cheapest 10 rfl) ?_
      refine hQ _ _ ?_
      refine ⟨congrArg (fun z => some (am_i z)) ?_, CQ.refl σ⟩
      unfold cheM
      rw [if_neg (by omega)]
    · refine am_aload_n (q := 10) rfl (am_tab tk_X9_cheapest 5 rfl) rfl ?_
      refine am_getR (q := 13) (a := 0) (k := 9) (n := 17) (j := 4) (r := some (32)) (Ls_0 hL) (by decide) rfl (Lr_0_4 hL) (by decide) (Or.inl kf_X9_38) (am_tab tk_X9_cheapest 6 rfl) rfl ?_
      refine am_getI (q := 16) (a := 32) (k := 1) (n := 11) (j := 2) (x := (σ.2.1 96 2)) (Ls_32 hL) (by decide) rfl hC.F.1.2.2.1 (by decide) (Or.inr kf_X9_144) (am_tab tk_X9_cheapest 7 rfl) rfl ?_
      refine am_if_eq (q := 19) (t := 21) (am_tab tk_X9_cheapest 8 rfl) (by decide) rfl (fun h16 => ?_) (fun h16 => ?_)
      · refine am_iconst (q := 22) (n := (-1)) (by decide) (am_tab tk_X9_cheapest 11 rfl) rfl ?_
        refine am_istore_n (q := 23) (by decide) (ls2 := [(2, am_i ((-1))), (0, am_r 0), (1, am_i w)]) rfl (am_tab tk_X9_cheapest 12 rfl) rfl ?_
        refine am_iconst (q := 24) (n := (-1)) (by decide) (am_tab tk_X9_cheapest 13 rfl) rfl ?_
        refine am_istore_n (q := 25) (by decide) (ls2 := [(3, am_i ((-1))), (2, am_i ((-1))), (0, am_r 0), (1, am_i w)]) rfl (am_tab tk_X9_cheapest 14 rfl) rfl ?_
        refine am_iconst (q := 26) (n := 0) (by decide) (am_tab tk_X9_cheapest 15 rfl) rfl ?_
        refine am_istore (q := 28) (by decide) (ls2 := [(4, am_i 0), (3, am_i ((-1))), (2, am_i ((-1))), (0, am_r 0), (1, am_i w)]) rfl (am_tab tk_X9_cheapest 16 rfl) rfl ?_
        refine am_aload_n (q := 29) rfl (am_tab tk_X9_cheapest 17 rfl) rfl ?_
        refine am_getR (q := 32) (a := 0) (k := 9) (n := 17) (j := 5) (r := some (37)) (Ls_0 hL) (by decide) rfl (Lr_0_5 hL) (by decide) (Or.inl kf_X9_42) (am_tab tk_X9_cheapest 18 rfl) rfl ?_
        refine am_aload_n (q := 33) rfl (am_tab tk_X9_cheapest 19 rfl) rfl ?_
        refine am_getR (q := 36) (a := 0) (k := 9) (n := 17) (j := 4) (r := some (32)) (Ls_0 hL) (by decide) rfl (Lr_0_4 hL) (by decide) (Or.inl kf_X9_38) (am_tab tk_X9_cheapest 20 rfl) rfl ?_
        refine am_callVr (q := 39) (me2 := M_X1_copyFrom) (b := 37) (kb := 1) (nb := 11) (As := [am_r 32]) (rest := []) (c_copy_37_32 σ hC.G.L) ⟨rfl, rfl⟩ (Ls_37 hL) (by decide) ⟨Or.inr km_X9_243, kc_X1_copyFrom, kn_X1, kd_X1_copyFrom, ⟨(Nat.le_of_ble_eq_true rfl), (Nat.le_of_ble_eq_true rfl)⟩, ⟨(Nat.le_of_ble_eq_true rfl), (Nat.le_of_ble_eq_true rfl)⟩, (Nat.le_of_ble_eq_true rfl)⟩ ki_X1_copyFrom ks_X1_copyFrom rfl (am_tab tk_X9_cheapest 21 rfl) rfl ?_
        rintro r S0 ⟨rfl, hCP, hFc⟩
        have hq0 : CQ σ S0 := hFc.cq (by unfold W_li W_cq; omega)
        have hA0 : LF0 37 S0 (fun j9 => (itS 0 σ).2.1 96 j9) := hCP.lf hC.F
        refine am_st (st2 := []) rfl ?_
        refine am_aload_n (q := 40) rfl (am_tab tk_X9_cheapest 22 rfl) rfl ?_
        refine am_getR (q := 43) (a := 0) (k := 9) (n := 17) (j := 4) (r := some (32)) (Ls_0 (hq0.L hC.G.L)) (by decide) rfl (Lr_0_4 (hq0.L hC.G.L)) (by decide) (Or.inl kf_X9_38) (am_tab tk_X9_cheapest 23 rfl) rfl ?_
        refine am_getI (q := 46) (a := 32) (k := 1) (n := 11) (j := 1) (x := (σ.2.1 96 1)) (Ls_32 (hq0.L hC.G.L)) (by decide) rfl ((hq0.2.2 32 1 (by unfold W_cq; omega)).trans hC.F.1.2.1) (by decide) (Or.inr kf_X9_141) (am_tab tk_X9_cheapest 24 rfl) rfl ?_
        refine am_istore (q := 48) (by decide) (ls2 := [(5, am_i ((σ.2.1 96 1))), (4, am_i 0), (3, am_i ((-1))), (2, am_i ((-1))), (0, am_r 0), (1, am_i w)]) rfl (am_tab tk_X9_cheapest 25 rfl) rfl ?_
        have L48 : ∀ (n48 : Nat) (i : Nat) (S : am_H) (bd : Int) (bp : Int) (hf : Int), 91 - i < n48 → (σ.2.1 96 1 + (i : Int) ≤ σ.2.1 85 9 ∨ i = 0) → CQ σ S → LF0 37 S (fun j9 => (itS i σ).2.1 96 j9) → (chF σ i).1 = bd → (¬ bd = -1 → bp = (chF σ i).2.1) → (i = 0 → bd = -1) → (bd = -1 → bp = -1) → ((chF σ i).2.2 = if hf = 0 ∧ σ.2.1 96 1 + i < σ.2.1 85 9 then 1 else 0) → (hf = 0 ∨ hf = 1) → am_wp M_X9_cheapest Q 0 0 48 [(5, am_i ((σ.2.1 96 1 + (i : Int)))), (4, am_i hf), (3, am_i bp), (2, am_i bd), (0, am_r 0), (1, am_i w)] [] S := by
          intro n48
          induction n48 with
          | zero => intro i S bd bp hf hn48; exact absurd hn48 (Nat.not_lt_zero _)
          | succ n48 ih48 =>
            intro i S bd bp hf hn48 hi hq hA hbd hbp hb0 hb1 hgf hf01
            refine am_iload (q := 50) rfl (am_tab tk_X9_cheapest 26 rfl) rfl ?_
            refine am_aload_n (q := 51) rfl (am_tab tk_X9_cheapest 27 rfl) rfl ?_
            refine am_getR (q := 54) (a := 0) (k := 9) (n := 17) (j := 2) (r := some (15)) (Ls_0 (hq.L hC.G.L)) (by decide) rfl ((hq.2.1 0 2 (by omega)).trans hC.t) (by decide) (Or.inl kf_X9_19) (am_tab tk_X9_cheapest 28 rfl) rfl ?_
            refine am_getI (q := 57) (a := 15) (k := 8) (n := 17) (j := 0) (x := (σ.2.1 85 9)) (Ls_15 (hq.L hC.G.L)) (by decide) rfl (hC.W.cq hq (by decide)).days (by decide) (Or.inr kf_X9_123) (am_tab tk_X9_cheapest 29 rfl) rfl ?_
            refine am_icmp_ge (q := 60) (t := 138) (am_tab tk_X9_cheapest 30 rfl) (by decide) rfl (fun h57 => ?_) (fun h57 => ?_)
            · refine am_iload_n (q := 139) rfl (am_tab tk_X9_cheapest 68 rfl) rfl ?_
              refine am_if_ne (q := 142) (t := 146) (am_tab tk_X9_cheapest 69 rfl) (by decide) rfl (fun h139 => ?_) (fun h139 => ?_)
              · refine am_iload_n (q := 147) rfl (am_tab tk_X9_cheapest 72 rfl) rfl ?_
                refine am_iret (Or.inl rfl) (Nat.le_of_ble_eq_true rfl) (Nat.le_of_ble_eq_true rfl) (am_tab tk_X9_cheapest 73 rfl) ?_
                refine hQ _ _ ?_
                refine ⟨congrArg (fun z => some (am_i z)) ?_, hq⟩
                have hce := chF_go hgf (by omega) (by omega)
                unfold cheM
                rw [hce, hbd]
                by_cases hx : bd = -1
                · rw [if_pos hx]
                  have := hb1 hx
                  split <;> omega
                · have h55 : ¬ σ.2.1 55 52 = 0 := fun h0 => by
                    rcases hC.G.R.T with h9 | h9
                    · exact hx (hb0 (by omega))
                    · omega
                  rw [if_pos ⟨⟨h55, by omega⟩, by omega⟩, if_neg hx, ← hbp hx]
                  first | rw [if_pos (by omega)] | rw [if_neg (by omega)]
              · exact absurd h139 h1
            · refine am_iload (q := 62) rfl (am_tab tk_X9_cheapest 31 rfl) rfl ?_
              refine am_if_ne (q := 65) (t := 138) (am_tab tk_X9_cheapest 32 rfl) (by decide) rfl (fun h62 => ?_) (fun h62 => ?_)
              · refine am_iload_n (q := 139) rfl (am_tab tk_X9_cheapest 68 rfl) rfl ?_
                refine am_if_ne (q := 142) (t := 146) (am_tab tk_X9_cheapest 69 rfl) (by decide) rfl (fun h139 => ?_) (fun h139 => ?_)
                · refine am_iload_n (q := 147) rfl (am_tab tk_X9_cheapest 72 rfl) rfl ?_
                  refine am_iret (Or.inl rfl) (Nat.le_of_ble_eq_true rfl) (Nat.le_of_ble_eq_true rfl) (am_tab tk_X9_cheapest 73 rfl) ?_
                  refine hQ _ _ ?_
                  refine ⟨congrArg (fun z => some (am_i z)) ?_, hq⟩
                  have hce := chF_go hgf (by omega) (by omega)
                  unfold cheM
                  rw [hce, hbd]
                  by_cases hx : bd = -1
                  · rw [if_pos hx]
                    have := hb1 hx
                    split <;> omega
                  · have h55 : ¬ σ.2.1 55 52 = 0 := fun h0 => by
                      rcases hC.G.R.T with h9 | h9
                      · exact hx (hb0 (by omega))
                      · omega
                    rw [if_pos ⟨⟨h55, by omega⟩, by omega⟩, if_neg hx, ← hbp hx]
                    first | rw [if_pos (by omega)] | rw [if_neg (by omega)]
                · exact absurd h139 h1
              · have hGk := itS_GD hC.G i (by omega)
                have hck := itS_cc hC.G (n := i) (by omega)
                refine am_aload_n (q := 66) rfl (am_tab tk_X9_cheapest 33 rfl) rfl ?_
                refine am_getR (q := 69) (a := 0) (k := 9) (n := 17) (j := 7) (r := some (44)) (Ls_0 (hq.L hC.G.L)) (by decide) rfl (Lr_0_7 (hq.L hC.G.L)) (by decide) (Or.inl kf_X9_57) (am_tab tk_X9_cheapest 34 rfl) rfl ?_
                refine am_aload_n (q := 70) rfl (am_tab tk_X9_cheapest 35 rfl) rfl ?_
                refine am_getR (q := 73) (a := 0) (k := 9) (n := 17) (j := 2) (r := some (15)) (Ls_0 (hq.L hC.G.L)) (by decide) rfl ((hq.2.1 0 2 (by omega)).trans hC.t) (by decide) (Or.inl kf_X9_19) (am_tab tk_X9_cheapest 36 rfl) rfl ?_
                refine am_aload_n (q := 74) rfl (am_tab tk_X9_cheapest 37 rfl) rfl ?_
                refine am_getR (q := 77) (a := 0) (k := 9) (n := 17) (j := 5) (r := some (37)) (Ls_0 (hq.L hC.G.L)) (by decide) rfl (Lr_0_5 (hq.L hC.G.L)) (by decide) (Or.inl kf_X9_42) (am_tab tk_X9_cheapest 38 rfl) rfl ?_
                refine am_callVr (q := 80) (me2 := M_X0_lookAt) (b := 44) (kb := 0) (nb := 14) (As := [am_r 15, am_r 37]) (rest := []) (c_lookAt_15_37 S (itS i σ) (hq.L hC.G.L) hGk.1 ((hC.W.cq hq (by decide)).it i) hA) ⟨rfl, rfl⟩ (Ls_44 (hq.L hC.G.L)) (by decide) ⟨Or.inr km_X9_247, kc_X0_lookAt, kn_X0, kd_X0_lookAt, ⟨(Nat.le_of_ble_eq_true rfl), (Nat.le_of_ble_eq_true rfl)⟩, ⟨(Nat.le_of_ble_eq_true rfl), (Nat.le_of_ble_eq_true rfl)⟩, (Nat.le_of_ble_eq_true rfl)⟩ ki_X0_lookAt ks_X0_lookAt rfl (am_tab tk_X9_cheapest 39 rfl) rfl ?_
                rintro r T1 hlk
                rw [if_pos (by rw [hGk.2]; omega)] at hlk
                obtain ⟨rfl, hDA, hF1⟩ := hlk
                have hq1 : CQ σ T1 := hq.trans (CQ.base hF1)
                have hA1 : LF0 37 T1 (fun j9 => (itS i σ).2.1 96 j9) := LF0.fr (σ := am_setR (am_setR S 44 8 (some 15)) 44 9 (some 37)) hA hF1 (by unfold W_da; omega)
                refine am_st (st2 := [am_i 1]) rfl ?_
                refine am_pop (q := 81) rfl (am_tab tk_X9_cheapest 40 rfl) rfl ?_
                refine am_aload_n (q := 82) rfl (am_tab tk_X9_cheapest 41 rfl) rfl ?_
                refine am_getR (q := 85) (a := 0) (k := 9) (n := 17) (j := 7) (r := some (44)) (Ls_0 (hq1.L hC.G.L)) (by decide) rfl (Lr_0_7 (hq1.L hC.G.L)) (by decide) (Or.inl kf_X9_57) (am_tab tk_X9_cheapest 42 rfl) rfl ?_
                refine am_callVr (q := 88) (me2 := M_X0_settle) (b := 44) (kb := 0) (nb := 14) (As := []) (rest := []) (c_settle_15_37 T1 (itS i σ) (hq1.L hC.G.L) hGk.1 hck hA1 _ hDA) ⟨rfl, rfl⟩ (Ls_44 (hq1.L hC.G.L)) (by decide) ⟨Or.inr km_X9_251, kc_X0_settle, kn_X0, kd_X0_settle, ⟨(Nat.le_of_ble_eq_true rfl), (Nat.le_of_ble_eq_true rfl)⟩, ⟨(Nat.le_of_ble_eq_true rfl), (Nat.le_of_ble_eq_true rfl)⟩, (Nat.le_of_ble_eq_true rfl)⟩ ki_X0_settle ks_X0_settle rfl (am_tab tk_X9_cheapest 43 rfl) rfl ?_
                rintro r T2 ⟨rfl, hA2, hF2⟩
                have hq2 : CQ σ T2 := hq1.trans (hF2.cq (by unfold W_se W_cq; omega))
                have hFS : FS 15 σ i T2 := hDA.FS hF2 (by decide)
                refine am_st (st2 := []) rfl ?_
                refine am_aload_n (q := 89) rfl (am_tab tk_X9_cheapest 44 rfl) rfl ?_
                refine am_aload_n (q := 90) rfl (am_tab tk_X9_cheapest 45 rfl) rfl ?_
                refine am_getR (q := 93) (a := 0) (k := 9) (n := 17) (j := 7) (r := some (44)) (Ls_0 (hq2.L hC.G.L)) (by decide) rfl (Lr_0_7 (hq2.L hC.G.L)) (by decide) (Or.inl kf_X9_57) (am_tab tk_X9_cheapest 46 rfl) rfl ?_
                refine am_getI (q := 96) (a := 44) (k := 0) (n := 14) (j := 4) (x := (sfD (itS i σ))) (Ls_44 (hq2.L hC.G.L)) (by decide) rfl hFS.2.2.1 (by decide) (Or.inr kf_X9_222) (am_tab tk_X9_cheapest 47 rfl) rfl ?_
                refine am_callV0 (q := 99) (me2 := M_X9_priceOf) (b := 0) (kb := 9) (nb := 17) (As := [am_i ((sfD (itS i σ)))]) (rest := []) (out := [am_i ((coM σ (sfD (itS i σ))))]) (c_priceOf_15 σ T2 hC hq2 (sfD (itS i σ)) (sfD_rng hGk.1 hck)) ⟨rfl, rfl⟩ (Ls_0 (hq2.L hC.G.L)) (by decide) ⟨Or.inl km_X9_263, kc_X9_priceOf, kn_X9, kd_X9_priceOf, ⟨(Nat.le_of_ble_eq_true rfl), (Nat.le_of_ble_eq_true rfl)⟩, ⟨(Nat.le_of_ble_eq_true rfl), (Nat.le_of_ble_eq_true rfl)⟩, (Nat.le_of_ble_eq_true rfl)⟩ ki_X9_priceOf ks_X9_priceOf rfl rfl (am_tab tk_X9_cheapest 48 rfl) rfl ?_
                refine am_istore (q := 101) (by decide) (ls2 := [(6, am_i ((coM σ (sfD (itS i σ))))), (5, am_i ((σ.2.1 96 1 + (i : Int)))), (4, am_i hf), (3, am_i bp), (2, am_i bd), (0, am_r 0), (1, am_i w)]) rfl (am_tab tk_X9_cheapest 49 rfl) rfl ?_
                refine am_iload_n (q := 102) rfl (am_tab tk_X9_cheapest 50 rfl) rfl ?_
                refine am_iconst (q := 103) (n := (-1)) (by decide) (am_tab tk_X9_cheapest 51 rfl) rfl ?_
                refine am_icmp_eq (q := 106) (t := 112) (am_tab tk_X9_cheapest 52 rfl) (by decide) rfl (fun h103 => ?_) (fun h103 => ?_)
                · refine am_aload_n (q := 113) rfl (am_tab tk_X9_cheapest 56 rfl) rfl ?_
                  refine am_getR (q := 116) (a := 0) (k := 9) (n := 17) (j := 7) (r := some (44)) (Ls_0 (hq2.L hC.G.L)) (by decide) rfl (Lr_0_7 (hq2.L hC.G.L)) (by decide) (Or.inl kf_X9_57) (am_tab tk_X9_cheapest 57 rfl) rfl ?_
                  refine am_getI (q := 119) (a := 44) (k := 0) (n := 14) (j := 1) (x := (bgN (itS i σ) 1)) (Ls_44 (hq2.L hC.G.L)) (by decide) rfl hFS.2.1 (by decide) (Or.inr kf_X9_229) (am_tab tk_X9_cheapest 58 rfl) rfl ?_
                  refine am_istore_n (q := 120) (by decide) (ls2 := [(2, am_i ((bgN (itS i σ) 1))), (6, am_i ((coM σ (sfD (itS i σ))))), (5, am_i ((σ.2.1 96 1 + (i : Int)))), (4, am_i hf), (3, am_i bp), (0, am_r 0), (1, am_i w)]) rfl (am_tab tk_X9_cheapest 59 rfl) rfl ?_
                  refine am_iload (q := 122) rfl (am_tab tk_X9_cheapest 60 rfl) rfl ?_
                  refine am_istore_n (q := 123) (by decide) (ls2 := [(3, am_i ((coM σ (sfD (itS i σ))))), (2, am_i ((bgN (itS i σ) 1))), (6, am_i ((coM σ (sfD (itS i σ))))), (5, am_i ((σ.2.1 96 1 + (i : Int)))), (4, am_i hf), (0, am_r 0), (1, am_i w)]) rfl (am_tab tk_X9_cheapest 61 rfl) rfl ?_
                  refine am_aload_n (q := 124) rfl (am_tab tk_X9_cheapest 62 rfl) rfl ?_
                  refine am_getR (q := 127) (a := 0) (k := 9) (n := 17) (j := 7) (r := some (44)) (Ls_0 (hq2.L hC.G.L)) (by decide) rfl (Lr_0_7 (hq2.L hC.G.L)) (by decide) (Or.inl kf_X9_57) (am_tab tk_X9_cheapest 63 rfl) rfl ?_
                  refine am_getI (q := 130) (a := 44) (k := 0) (n := 14) (j := 6) (x := (fsD (itS i σ))) (Ls_44 (hq2.L hC.G.L)) (by decide) rfl hFS.2.2.2.2.1 (by decide) (Or.inr kf_X9_230) (am_tab tk_X9_cheapest 64 rfl) rfl ?_
                  refine am_istore (q := 132) (by decide) (ls2 := [(4, am_i ((fsD (itS i σ)))), (3, am_i ((coM σ (sfD (itS i σ))))), (2, am_i ((bgN (itS i σ) 1))), (6, am_i ((coM σ (sfD (itS i σ))))), (5, am_i ((σ.2.1 96 1 + (i : Int)))), (0, am_r 0), (1, am_i w)]) rfl (am_tab tk_X9_cheapest 65 rfl) rfl ?_
                  refine am_iinc (q := 135) rfl (by omega) (by decide) (ls2 := [(5, am_i (((σ.2.1 96 1 + (i : Int)) + 1))), (4, am_i ((fsD (itS i σ)))), (3, am_i ((coM σ (sfD (itS i σ))))), (2, am_i ((bgN (itS i σ) 1))), (6, am_i ((coM σ (sfD (itS i σ))))), (0, am_r 0), (1, am_i w)]) rfl (am_tab tk_X9_cheapest 66 rfl) rfl ?_
                  refine am_goto (t := 48) (am_tab tk_X9_cheapest 67 rfl) (by decide) ?_
                  have hgo : (chF σ i).2.2 = 1 := by rw [hgf, if_pos ⟨h62, by omega⟩]
                  have hch := chF_on hgo
                  have hi1 := it_0 hC.G hck (by omega)
                  have hdy1 := it_day hC.G (i + 1) (by push_cast; omega) (by push_cast; omega)
                  have hb9 := bg1_rng hGk.1 hck
                  have hcond : ((chF σ i).1 = -1 ∨ (coM σ (sfD (itS i σ))) < (chF σ i).2.1) ↔ (bd = -1 ∨ (coM σ (sfD (itS i σ))) < bp) := by
                    rw [hbd]
                    constructor
                    · rintro (h | h)
                      · exact Or.inl h
                      · by_cases hx : bd = -1
                        · exact Or.inl hx
                        · exact Or.inr (by rw [(hbp hx)]; exact h)
                    · rintro (h | h)
                      · exact Or.inl h
                      · by_cases hx : bd = -1
                        · exact Or.inl hx
                        · exact Or.inr (by rw [← (hbp hx)]; exact h)
                  have hcc9 : (chF σ i).1 = -1 ∨ (coM σ (sfD (itS i σ))) < (chF σ i).2.1 := hcond.mpr (by omega)
                  rw [if_pos hcc9, if_pos hcc9] at hch
                  exact am_less (by intro q hq; simp only [List.mem_cons, List.not_mem_nil, or_false] at hq; rcases hq with rfl | rfl | rfl | rfl | rfl | rfl <;> simp [Int.add_assoc]) (ih48 (i + 1) T2 (bgN (itS i σ) 1) (coM σ (sfD (itS i σ))) (fsD (itS i σ)) (by omega) (by push_cast; omega) hq2 hA2 (by rw [hch]; show (itS (i + 1) σ).2.1 96 1 = _; exact hi1.2) (fun hx => by rw [hch]) (fun hx => absurd hx (by omega)) (fun hx => absurd hx (by omega)) (by rw [hch]; show (if fsD (itS i σ) = 0 ∧ (itS (i + 1) σ).2.1 96 1 < σ.2.1 85 9 then (1 : Int) else 0) = _; rw [hdy1]) (fsD01 _))
                · refine am_iload (q := 108) rfl (am_tab tk_X9_cheapest 53 rfl) rfl ?_
                  refine am_iload_n (q := 109) rfl (am_tab tk_X9_cheapest 54 rfl) rfl ?_
                  refine am_icmp_ge (q := 112) (t := 123) (am_tab tk_X9_cheapest 55 rfl) (by decide) rfl (fun h109 => ?_) (fun h109 => ?_)
                  · refine am_aload_n (q := 124) rfl (am_tab tk_X9_cheapest 62 rfl) rfl ?_
                    refine am_getR (q := 127) (a := 0) (k := 9) (n := 17) (j := 7) (r := some (44)) (Ls_0 (hq2.L hC.G.L)) (by decide) rfl (Lr_0_7 (hq2.L hC.G.L)) (by decide) (Or.inl kf_X9_57) (am_tab tk_X9_cheapest 63 rfl) rfl ?_
                    refine am_getI (q := 130) (a := 44) (k := 0) (n := 14) (j := 6) (x := (fsD (itS i σ))) (Ls_44 (hq2.L hC.G.L)) (by decide) rfl hFS.2.2.2.2.1 (by decide) (Or.inr kf_X9_230) (am_tab tk_X9_cheapest 64 rfl) rfl ?_
                    refine am_istore (q := 132) (by decide) (ls2 := [(4, am_i ((fsD (itS i σ)))), (6, am_i ((coM σ (sfD (itS i σ))))), (5, am_i ((σ.2.1 96 1 + (i : Int)))), (3, am_i bp), (2, am_i bd), (0, am_r 0), (1, am_i w)]) rfl (am_tab tk_X9_cheapest 65 rfl) rfl ?_
                    refine am_iinc (q := 135) rfl (by omega) (by decide) (ls2 := [(5, am_i (((σ.2.1 96 1 + (i : Int)) + 1))), (4, am_i ((fsD (itS i σ)))), (6, am_i ((coM σ (sfD (itS i σ))))), (3, am_i bp), (2, am_i bd), (0, am_r 0), (1, am_i w)]) rfl (am_tab tk_X9_cheapest 66 rfl) rfl ?_
                    refine am_goto (t := 48) (am_tab tk_X9_cheapest 67 rfl) (by decide) ?_
                    have hgo : (chF σ i).2.2 = 1 := by rw [hgf, if_pos ⟨h62, by omega⟩]
                    have hch := chF_on hgo
                    have hi1 := it_0 hC.G hck (by omega)
                    have hdy1 := it_day hC.G (i + 1) (by push_cast; omega) (by push_cast; omega)
                    have hb9 := bg1_rng hGk.1 hck
                    have hcond : ((chF σ i).1 = -1 ∨ (coM σ (sfD (itS i σ))) < (chF σ i).2.1) ↔ (bd = -1 ∨ (coM σ (sfD (itS i σ))) < bp) := by
                      rw [hbd]
                      constructor
                      · rintro (h | h)
                        · exact Or.inl h
                        · by_cases hx : bd = -1
                          · exact Or.inl hx
                          · exact Or.inr (by rw [(hbp hx)]; exact h)
                      · rintro (h | h)
                        · exact Or.inl h
                        · by_cases hx : bd = -1
                          · exact Or.inl hx
                          · exact Or.inr (by rw [← (hbp hx)]; exact h)
                    have hcc9 : ¬ ((chF σ i).1 = -1 ∨ (coM σ (sfD (itS i σ))) < (chF σ i).2.1) := fun hx => absurd (hcond.mp hx) (by omega)
                    rw [if_neg hcc9, if_neg hcc9] at hch
                    exact am_less (by intro q hq; simp only [List.mem_cons, List.not_mem_nil, or_false] at hq; rcases hq with rfl | rfl | rfl | rfl | rfl | rfl <;> simp [Int.add_assoc]) (ih48 (i + 1) T2 bd bp (fsD (itS i σ)) (by omega) (by push_cast; omega) hq2 hA2 (by rw [hch]; show (chF σ i).1 = _; exact hbd) (fun hx => by rw [hch]; exact hbp hx) (fun hx => absurd hx (by omega)) (fun hx => absurd hx (by omega)) (by rw [hch]; show (if fsD (itS i σ) = 0 ∧ (itS (i + 1) σ).2.1 96 1 < σ.2.1 85 9 then (1 : Int) else 0) = _; rw [hdy1]) (fsD01 _))
                  · refine am_aload_n (q := 113) rfl (am_tab tk_X9_cheapest 56 rfl) rfl ?_
                    refine am_getR (q := 116) (a := 0) (k := 9) (n := 17) (j := 7) (r := some (44)) (Ls_0 (hq2.L hC.G.L)) (by decide) rfl (Lr_0_7 (hq2.L hC.G.L)) (by decide) (Or.inl kf_X9_57) (am_tab tk_X9_cheapest 57 rfl) rfl ?_
                    refine am_getI (q := 119) (a := 44) (k := 0) (n := 14) (j := 1) (x := (bgN (itS i σ) 1)) (Ls_44 (hq2.L hC.G.L)) (by decide) rfl hFS.2.1 (by decide) (Or.inr kf_X9_229) (am_tab tk_X9_cheapest 58 rfl) rfl ?_
                    refine am_istore_n (q := 120) (by decide) (ls2 := [(2, am_i ((bgN (itS i σ) 1))), (6, am_i ((coM σ (sfD (itS i σ))))), (5, am_i ((σ.2.1 96 1 + (i : Int)))), (4, am_i hf), (3, am_i bp), (0, am_r 0), (1, am_i w)]) rfl (am_tab tk_X9_cheapest 59 rfl) rfl ?_
                    refine am_iload (q := 122) rfl (am_tab tk_X9_cheapest 60 rfl) rfl ?_
                    refine am_istore_n (q := 123) (by decide) (ls2 := [(3, am_i ((coM σ (sfD (itS i σ))))), (2, am_i ((bgN (itS i σ) 1))), (6, am_i ((coM σ (sfD (itS i σ))))), (5, am_i ((σ.2.1 96 1 + (i : Int)))), (4, am_i hf), (0, am_r 0), (1, am_i w)]) rfl (am_tab tk_X9_cheapest 61 rfl) rfl ?_
                    refine am_aload_n (q := 124) rfl (am_tab tk_X9_cheapest 62 rfl) rfl ?_
                    refine am_getR (q := 127) (a := 0) (k := 9) (n := 17) (j := 7) (r := some (44)) (Ls_0 (hq2.L hC.G.L)) (by decide) rfl (Lr_0_7 (hq2.L hC.G.L)) (by decide) (Or.inl kf_X9_57) (am_tab tk_X9_cheapest 63 rfl) rfl ?_
                    refine am_getI (q := 130) (a := 44) (k := 0) (n := 14) (j := 6) (x := (fsD (itS i σ))) (Ls_44 (hq2.L hC.G.L)) (by decide) rfl hFS.2.2.2.2.1 (by decide) (Or.inr kf_X9_230) (am_tab tk_X9_cheapest 64 rfl) rfl ?_
                    refine am_istore (q := 132) (by decide) (ls2 := [(4, am_i ((fsD (itS i σ)))), (3, am_i ((coM σ (sfD (itS i σ))))), (2, am_i ((bgN (itS i σ) 1))), (6, am_i ((coM σ (sfD (itS i σ))))), (5, am_i ((σ.2.1 96 1 + (i : Int)))), (0, am_r 0), (1, am_i w)]) rfl (am_tab tk_X9_cheapest 65 rfl) rfl ?_
                    refine am_iinc (q := 135) rfl (by omega) (by decide) (ls2 := [(5, am_i (((σ.2.1 96 1 + (i : Int)) + 1))), (4, am_i ((fsD (itS i σ)))), (3, am_i ((coM σ (sfD (itS i σ))))), (2, am_i ((bgN (itS i σ) 1))), (6, am_i ((coM σ (sfD (itS i σ))))), (0, am_r 0), (1, am_i w)]) rfl (am_tab tk_X9_cheapest 66 rfl) rfl ?_
                    refine am_goto (t := 48) (am_tab tk_X9_cheapest 67 rfl) (by decide) ?_
                    have hgo : (chF σ i).2.2 = 1 := by rw [hgf, if_pos ⟨h62, by omega⟩]
                    have hch := chF_on hgo
                    have hi1 := it_0 hC.G hck (by omega)
                    have hdy1 := it_day hC.G (i + 1) (by push_cast; omega) (by push_cast; omega)
                    have hb9 := bg1_rng hGk.1 hck
                    have hcond : ((chF σ i).1 = -1 ∨ (coM σ (sfD (itS i σ))) < (chF σ i).2.1) ↔ (bd = -1 ∨ (coM σ (sfD (itS i σ))) < bp) := by
                      rw [hbd]
                      constructor
                      · rintro (h | h)
                        · exact Or.inl h
                        · by_cases hx : bd = -1
                          · exact Or.inl hx
                          · exact Or.inr (by rw [(hbp hx)]; exact h)
                      · rintro (h | h)
                        · exact Or.inl h
                        · by_cases hx : bd = -1
                          · exact Or.inl hx
                          · exact Or.inr (by rw [← (hbp hx)]; exact h)
                    have hcc9 : (chF σ i).1 = -1 ∨ (coM σ (sfD (itS i σ))) < (chF σ i).2.1 := hcond.mpr (by omega)
                    rw [if_pos hcc9, if_pos hcc9] at hch
                    exact am_less (by intro q hq; simp only [List.mem_cons, List.not_mem_nil, or_false] at hq; rcases hq with rfl | rfl | rfl | rfl | rfl | rfl <;> simp [Int.add_assoc]) (ih48 (i + 1) T2 (bgN (itS i σ) 1) (coM σ (sfD (itS i σ))) (fsD (itS i σ)) (by omega) (by push_cast; omega) hq2 hA2 (by rw [hch]; show (itS (i + 1) σ).2.1 96 1 = _; exact hi1.2) (fun hx => by rw [hch]) (fun hx => absurd hx (by omega)) (fun hx => absurd hx (by omega)) (by rw [hch]; show (if fsD (itS i σ) = 0 ∧ (itS (i + 1) σ).2.1 96 1 < σ.2.1 85 9 then (1 : Int) else 0) = _; rw [hdy1]) (fsD01 _))
        refine am_less (by intro q hq; simp only [List.mem_cons, List.not_mem_nil, or_false] at hq; rcases hq with rfl | rfl | rfl | rfl | rfl | rfl <;> simp [Int.add_assoc]) (L48 (_ + 1) 0 S0 (-1) (-1) 0 (by exact Nat.lt_succ_self _) (Or.inr rfl) hq0 hA0 rfl (fun h => absurd rfl h) (fun _ => rfl) (fun _ => rfl) (by show (if σ.2.1 96 1 < σ.2.1 85 9 then (1 : Int) else 0) = _; by_cases hy : σ.2.1 96 1 < σ.2.1 85 9; (rw [if_pos hy, if_pos ⟨rfl, by omega⟩]); (rw [if_neg hy, if_neg (by omega)])) (Or.inl rfl))
      · refine am_iconst (q := 20) (n := (-1)) (by decide) (am_tab tk_X9_cheapest 9 rfl) rfl ?_
        refine am_iret (Or.inl rfl) (Nat.le_of_ble_eq_true rfl) (Nat.le_of_ble_eq_true rfl) (am_tab tk_X9_cheapest 10 rfl) ?_
        refine hQ _ _ ?_
        refine ⟨congrArg (fun z => some (am_i z)) ?_, CQ.refl σ⟩
        unfold cheM
        by_cases hx : (¬ σ.2.1 55 52 = 0 ∧ (0 ≤ w ∧ w ≤ 1)) ∧ ¬ (0 < σ.2.1 96 2 ∧ σ.2.1 96 1 < σ.2.1 85 9)
        · rw [if_pos hx, chF_go (i := 0) (hf := 0) (by show (if σ.2.1 96 1 < σ.2.1 85 9 then (1 : Int) else 0) = _; by_cases hy : σ.2.1 96 1 < σ.2.1 85 9; (rw [if_pos hy, if_pos ⟨rfl, by omega⟩]); (rw [if_neg hy, if_neg (by omega)])) (by omega) (by omega)]
          show _ = (if (-1 : Int) = -1 then (-1 : Int) else _)
          rw [if_pos rfl]
        · rw [if_neg hx]
