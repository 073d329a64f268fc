set_option maxRecDepth 100000 in
theorem c_bribe_3 (σ : am_H) (f c : Nat) (hC : CI 3 σ) (hD : CDt 3 σ) (p : Int) (d : Int) (hR : RWr 32 σ (fun j => σ.2.1 96 j)) (hO : ROK (fun j => σ.2.1 96 j)) (hP : PAC f c σ) (hZ : ZR (σ.2.1 85 9) (fun j => σ.2.1 96 j)) (hm : 0 ≤ stM σ 111 ∧ stM σ 111 ≤ 30) (hr : 0 ≤ σ.2.1 54 3 ∧ σ.2.1 54 3 ≤ 100000) : am_met M_X9_bribe [am_r 0, am_i p, am_i d] σ (fun r σ' => (briC σ p d ∧ r = some (am_i (σ.2.1 88 (8 + p).toNat)) ∧ ∃ T, RMB f c σ T ∧ σ' = am_setN (am_setN T 35 d.toNat (ao_or (σ.2.1 35 d.toNat) (ao_shl 1 p))) 32 3 (min 999999 (σ.2.1 96 3 + σ.2.1 88 (8 + p).toNat))) ∨ (¬ briC σ p d ∧ r = some (am_i (-1)) ∧ σ' = am_setN σ 54 3 (σ.2.1 54 3 + 1))) := by
  refine am_qq (fun Q hQ => ?_)
  refine am_enter (show plainFor yX9_bribe = true by decide +kernel) rfl (Nat.le_of_ble_eq_true rfl) (fun _ _ _ => trivial) ?_
  have hL := hC.G.L
  have hN := hC.G.R.P
  have hY := hC.G.R.Y
  refine am_aload_n (q := 1) rfl (am_tab tk_X9_bribe 0 rfl) rfl ?_
  refine am_iload_n (q := 2) rfl (am_tab tk_X9_bribe 1 rfl) rfl ?_
  refine am_callV0 (q := 5) (me2 := M_X9_isPerson) (b := 0) (kb := 9) (nb := 17) (As := [am_i p]) (rest := []) (out := [am_i (if 0 ≤ p ∧ p < σ.2.1 85 5 then 1 else 0)]) (c_isPerson_3 σ hC p) ⟨rfl, rfl⟩ (Ls_0 hL) (by decide) ⟨Or.inl km_X9_166, kc_X9_isPerson, kn_X9, kd_X9_isPerson, ⟨(Nat.le_of_ble_eq_true rfl), (Nat.le_of_ble_eq_true rfl)⟩, ⟨(Nat.le_of_ble_eq_true rfl), (Nat.le_of_ble_eq_true rfl)⟩, (Nat.le_of_ble_eq_true rfl)⟩ ki_X9_isPerson ks_X9_isPerson rfl rfl (am_tab tk_X9_bribe 2 rfl) rfl ?_
  refine am_if_eq (q := 8) (t := 27) (am_tab tk_X9_bribe 3 rfl) (by decide) rfl (fun h5 => ?_) (fun h5 => ?_)
  · replace h5 := b01z h5
    refine am_aload_n (q := 28) rfl (am_tab tk_X9_bribe 13 rfl) rfl ?_
    refine am_iconst (q := 29) (n := 3) (by decide) (am_tab tk_X9_bribe 14 rfl) rfl ?_
    refine am_callV0 (q := 32) (me2 := M_X9_refuse) (b := 0) (kb := 9) (nb := 17) (As := [am_i 3]) (rest := []) (out := [am_i ((-1))]) (c_refuse σ hL 3 (by decide) hr) ⟨rfl, rfl⟩ (Ls_0 hL) (by decide) ⟨Or.inl km_X9_92, kc_X9_refuse, kn_X9, kd_X9_refuse, ⟨(Nat.le_of_ble_eq_true rfl), (Nat.le_of_ble_eq_true rfl)⟩, ⟨(Nat.le_of_ble_eq_true rfl), (Nat.le_of_ble_eq_true rfl)⟩, (Nat.le_of_ble_eq_true rfl)⟩ ki_X9_refuse ks_X9_refuse rfl rfl (am_tab tk_X9_bribe 15 rfl) rfl ?_
    refine am_iret (Or.inl rfl) (Nat.le_of_ble_eq_true rfl) (Nat.le_of_ble_eq_true rfl) (am_tab tk_X9_bribe 16 rfl) ?_
    refine hQ _ _ ?_
    refine Or.inr ⟨fun hg => ?_, rfl, rfl⟩
    have := hg.1
    omega
  · replace h5 := b01n h5
    refine am_aload_n (q := 9) rfl (am_tab tk_X9_bribe 4 rfl) rfl ?_
    refine am_iload_n (q := 10) rfl (am_tab tk_X9_bribe 5 rfl) rfl ?_
    refine am_callV0 (q := 13) (me2 := M_X9_isDay) (b := 0) (kb := 9) (nb := 17) (As := [am_i d]) (rest := []) (out := [am_i (if 1 ≤ d ∧ d ≤ σ.2.1 85 9 then 1 else 0)]) (c_isDay_3 σ hC d) ⟨rfl, rfl⟩ (Ls_0 hL) (by decide) ⟨Or.inl km_X9_198, kc_X9_isDay, kn_X9, kd_X9_isDay, ⟨(Nat.le_of_ble_eq_true rfl), (Nat.le_of_ble_eq_true rfl)⟩, ⟨(Nat.le_of_ble_eq_true rfl), (Nat.le_of_ble_eq_true rfl)⟩, (Nat.le_of_ble_eq_true rfl)⟩ ki_X9_isDay ks_X9_isDay rfl rfl (am_tab tk_X9_bribe 6 rfl) rfl ?_
    refine am_if_eq (q := 16) (t := 27) (am_tab tk_X9_bribe 7 rfl) (by decide) rfl (fun h13 => ?_) (fun h13 => ?_)
    · replace h13 := b01z h13
      refine am_aload_n (q := 28) rfl (am_tab tk_X9_bribe 13 rfl) rfl ?_
      refine am_iconst (q := 29) (n := 3) (by decide) (am_tab tk_X9_bribe 14 rfl) rfl ?_
      refine am_callV0 (q := 32) (me2 := M_X9_refuse) (b := 0) (kb := 9) (nb := 17) (As := [am_i 3]) (rest := []) (out := [am_i ((-1))]) (c_refuse σ hL 3 (by decide) hr) ⟨rfl, rfl⟩ (Ls_0 hL) (by decide) ⟨Or.inl km_X9_92, kc_X9_refuse, kn_X9, kd_X9_refuse, ⟨(Nat.le_of_ble_eq_true rfl), (Nat.le_of_ble_eq_true rfl)⟩, ⟨(Nat.le_of_ble_eq_true rfl), (Nat.le_of_ble_eq_true rfl)⟩, (Nat.le_of_ble_eq_true rfl)⟩ ki_X9_refuse ks_X9_refuse rfl rfl (am_tab tk_X9_bribe 15 rfl) rfl ?_
      refine am_iret (Or.inl rfl) (Nat.le_of_ble_eq_true rfl) (Nat.le_of_ble_eq_true rfl) (am_tab tk_X9_bribe 16 rfl) ?_
      refine hQ _ _ ?_
      refine Or.inr ⟨fun hg => ?_, rfl, rfl⟩
      have := hg.2.1
      omega
    · replace h13 := b01n h13
      refine am_iload_n (q := 17) rfl (am_tab tk_X9_bribe 8 rfl) rfl ?_
      refine am_aload_n (q := 18) rfl (am_tab tk_X9_bribe 9 rfl) rfl ?_
      refine am_getR (q := 21) (a := 0) (k := 9) (n := 17) (j := 4) (r := some (32)) (Ls_0 hL) (by decide) rfl (Lr_0_4 hL) (by decide) (Or.inl kf_X9_38) (am_tab tk_X9_bribe 10 rfl) rfl ?_
      refine am_getI (q := 24) (a := 32) (k := 1) (n := 11) (j := 1) (x := (σ.2.1 32 1)) (Ls_32 hL) (by decide) rfl rfl (by decide) (Or.inr kf_X9_141) (am_tab tk_X9_bribe 11 rfl) rfl ?_
      refine am_icmp_gt (q := 27) (t := 33) (am_tab tk_X9_bribe 12 rfl) (by decide) rfl (fun h24 => ?_) (fun h24 => ?_)
      · have hb9 : 0 ≤ σ.2.1 35 d.toNat ∧ σ.2.1 35 d.toNat < 256 := by rw [hC.F.2.2.2.2.2 d.toNat (by omega)]; exact hC.G.R.brib d.toNat (by omega)
        obtain ⟨q, hq⟩ := Int.eq_ofNat_of_zero_le (show 0 ≤ p by omega)
        have e12 : tb (σ.2.1 32 4) p = σ.2.1 96 (12 + p).toNat := by rw [hq, show ((12 : Int) + (q : Int)).toNat = 12 + q by omega]; exact hC.F.2.2.1 q (by omega)
        have e111 : σ.2.1 35 d.toNat = σ.2.1 96 (111 + d).toNat := by rw [show (111 + d).toNat = 111 + d.toNat by omega]; exact hC.F.2.2.2.2.2 d.toNat (by omega)
        have e3 : σ.2.1 32 3 = σ.2.1 96 3 := hC.F.1.2.2.2
        have e1d : σ.2.1 32 1 = σ.2.1 96 1 := hC.F.1.2.1
        have hor := or_tb (s := σ.2.1 32 4) hC.F.2.1 hb9
        have horp : tb (ao_or (σ.2.1 32 4) (σ.2.1 35 d.toNat)) p = if tb (σ.2.1 32 4) p = 1 ∨ tb (σ.2.1 35 d.toNat) p = 1 then 1 else 0 := by rw [hq]; exact hor.2 q
        refine am_aload_n (q := 34) rfl (am_tab tk_X9_bribe 17 rfl) rfl ?_
        refine am_getR (q := 37) (a := 0) (k := 9) (n := 17) (j := 4) (r := some (32)) (Ls_0 hL) (by decide) rfl (Lr_0_4 hL) (by decide) (Or.inl kf_X9_38) (am_tab tk_X9_bribe 18 rfl) rfl ?_
        refine am_getI (q := 40) (a := 32) (k := 1) (n := 11) (j := 4) (x := (σ.2.1 32 4)) (Ls_32 hL) (by decide) rfl rfl (by decide) (Or.inr kf_X9_182) (am_tab tk_X9_bribe 19 rfl) rfl ?_
        refine am_aload_n (q := 41) rfl (am_tab tk_X9_bribe 20 rfl) rfl ?_
        refine am_getR (q := 44) (a := 0) (k := 9) (n := 17) (j := 4) (r := some (32)) (Ls_0 hL) (by decide) rfl (Lr_0_4 hL) (by decide) (Or.inl kf_X9_38) (am_tab tk_X9_bribe 21 rfl) rfl ?_
        refine am_getR (q := 47) (a := 32) (k := 1) (n := 11) (j := 7) (r := some (35)) (Ls_32 hL) (by decide) rfl (Lr_32_7 hL) (by decide) (Or.inr kf_X9_154) (am_tab tk_X9_bribe 22 rfl) rfl ?_
        refine am_iload_n (q := 48) rfl (am_tab tk_X9_bribe 23 rfl) rfl ?_
        refine am_iald (q := 49) (a := 35) (n := 91) (x := (σ.2.1 35 (Int.toNat d))) (Ls_35 hL) (by omega) (by omega) rfl (am_tab tk_X9_bribe 24 rfl) rfl ?_
        refine am_ior (q := 50) (am_tab tk_X9_bribe 25 rfl) rfl ?_
        refine am_iload_n (q := 51) rfl (am_tab tk_X9_bribe 26 rfl) rfl ?_
        refine am_callS0 (q := 54) (me2 := M_X9_bit) (As := [am_i ((ao_or (σ.2.1 32 4) (σ.2.1 35 (Int.toNat d)))), am_i p]) (rest := []) (out := [am_i (tb (ao_or (σ.2.1 32 4) (σ.2.1 35 (Int.toNat d))) p)]) (c_bit σ (ao_or (σ.2.1 32 4) (σ.2.1 35 (Int.toNat d))) p hor.1 (by omega)) ⟨rfl, rfl⟩ ⟨Or.inl km_X9_185, kc_X9_bit, kn_X9, kd_X9_bit, ⟨(Nat.le_of_ble_eq_true rfl), (Nat.le_of_ble_eq_true rfl)⟩, ⟨(Nat.le_of_ble_eq_true rfl), (Nat.le_of_ble_eq_true rfl)⟩, (Nat.le_of_ble_eq_true rfl)⟩ ki_X9_bit rfl rfl (am_tab tk_X9_bribe 27 rfl) rfl ?_
        refine am_iconst (q := 55) (n := 1) (by decide) (am_tab tk_X9_bribe 28 rfl) rfl ?_
        refine am_icmp_eq (q := 58) (t := 73) (am_tab tk_X9_bribe 29 rfl) (by decide) rfl (fun h55 => ?_) (fun h55 => ?_)
        · refine am_aload_n (q := 74) rfl (am_tab tk_X9_bribe 36 rfl) rfl ?_
          refine am_iconst (q := 75) (n := 3) (by decide) (am_tab tk_X9_bribe 37 rfl) rfl ?_
          refine am_callV0 (q := 78) (me2 := M_X9_refuse) (b := 0) (kb := 9) (nb := 17) (As := [am_i 3]) (rest := []) (out := [am_i ((-1))]) (c_refuse σ hL 3 (by decide) hr) ⟨rfl, rfl⟩ (Ls_0 hL) (by decide) ⟨Or.inl km_X9_92, kc_X9_refuse, kn_X9, kd_X9_refuse, ⟨(Nat.le_of_ble_eq_true rfl), (Nat.le_of_ble_eq_true rfl)⟩, ⟨(Nat.le_of_ble_eq_true rfl), (Nat.le_of_ble_eq_true rfl)⟩, (Nat.le_of_ble_eq_true rfl)⟩ ki_X9_refuse ks_X9_refuse rfl rfl (am_tab tk_X9_bribe 38 rfl) rfl ?_
          refine am_iret (Or.inl rfl) (Nat.le_of_ble_eq_true rfl) (Nat.le_of_ble_eq_true rfl) (am_tab tk_X9_bribe 39 rfl) ?_
          refine hQ _ _ ?_
          refine Or.inr ⟨fun hg => ?_, rfl, rfl⟩
          have g4 := hg.2.2.2.1
          have g5 := hg.2.2.2.2.1
          rw [← e12] at g4
          rw [← e111] at g5
          rw [if_neg (fun z => z.elim g4 g5)] at horp
          omega
        · refine am_aload_n (q := 59) rfl (am_tab tk_X9_bribe 30 rfl) rfl ?_
          refine am_getR (q := 62) (a := 0) (k := 9) (n := 17) (j := 4) (r := some (32)) (Ls_0 hL) (by decide) rfl (Lr_0_4 hL) (by decide) (Or.inl kf_X9_38) (am_tab tk_X9_bribe 31 rfl) rfl ?_
          refine am_getR (q := 65) (a := 32) (k := 1) (n := 11) (j := 7) (r := some (35)) (Ls_32 hL) (by decide) rfl (Lr_32_7 hL) (by decide) (Or.inr kf_X9_154) (am_tab tk_X9_bribe 32 rfl) rfl ?_
          refine am_callSr (q := 68) (me2 := M_X9_countBits) (As := [am_r 35]) (rest := []) (c_countBits_35 σ hL (fun d hd => by rw [hC.F.2.2.2.2.2 d hd]; exact hC.G.R.brib d hd)) ⟨rfl, rfl⟩ ⟨Or.inl km_X9_150, kc_X9_countBits, kn_X9, kd_X9_countBits, ⟨(Nat.le_of_ble_eq_true rfl), (Nat.le_of_ble_eq_true rfl)⟩, ⟨(Nat.le_of_ble_eq_true rfl), (Nat.le_of_ble_eq_true rfl)⟩, (Nat.le_of_ble_eq_true rfl)⟩ ki_X9_countBits rfl (am_tab tk_X9_bribe 33 rfl) rfl ?_
          rintro r τ ⟨hr9, hτ⟩
          rw [show sumN (fun d => bc (σ.2.1 35 d)) 91 = stM σ 111 from sumN_sh (f := fun d => bc (σ.2.1 35 d)) (by show bc (σ.2.1 35 0) = 0; rw [show σ.2.1 35 0 = 0 from (hC.F.2.2.2.2.2 0 (by decide)).trans hZ.2.1]; exact bc0) 90 (fun d hd => by show bc (σ.2.1 35 (d + 1)) = bc (σ.2.1 96 (111 + 1 + d)); rw [show σ.2.1 35 (d + 1) = σ.2.1 96 (111 + 1 + d) from (hC.F.2.2.2.2.2 (d + 1) (by omega)).trans (by rw [show 111 + (d + 1) = 111 + 1 + d by omega])])] at hr9
          rw [hr9, hτ]
          refine am_st (st2 := [am_i (stM σ 111)]) rfl ?_
          refine am_bipush (q := 70) (n := 30) (by decide) rfl (am_tab tk_X9_bribe 34 rfl) rfl ?_
          refine am_icmp_lt (q := 73) (t := 79) (am_tab tk_X9_bribe 35 rfl) (by decide) rfl (fun h70 => ?_) (fun h70 => ?_)
          · refine am_aload_n (q := 80) rfl (am_tab tk_X9_bribe 40 rfl) rfl ?_
            refine am_getR (q := 83) (a := 0) (k := 9) (n := 17) (j := 6) (r := some (42)) (Ls_0 hL) (by decide) rfl (Lr_0_6 hL) (by decide) (Or.inl kf_X9_48) (am_tab tk_X9_bribe 41 rfl) rfl ?_
            refine am_aload_n (q := 84) rfl (am_tab tk_X9_bribe 42 rfl) rfl ?_
            refine am_getR (q := 87) (a := 0) (k := 9) (n := 17) (j := 4) (r := some (32)) (Ls_0 hL) (by decide) rfl (Lr_0_4 hL) (by decide) (Or.inl kf_X9_38) (am_tab tk_X9_bribe 43 rfl) rfl ?_
            refine am_callV (q := 90) (me2 := M_X2_remember) (b := 42) (kb := 2) (nb := 3) (As := [am_r 32]) (rest := []) (c_remember σ hL hP.1.1 hP.1.2 hP.2.1.1 hP.2.1.2 hP.at) (Ls_42 hL) (by decide) ⟨Or.inr km_X9_297, kc_X2_remember, kn_X2, kd_X2_remember, ⟨(Nat.le_of_ble_eq_true rfl), (Nat.le_of_ble_eq_true rfl)⟩, ⟨(Nat.le_of_ble_eq_true rfl), (Nat.le_of_ble_eq_true rfl)⟩, (Nat.le_of_ble_eq_true rfl)⟩ ki_X2_remember ks_X2_remember rfl (am_tab tk_X9_bribe 44 rfl) rfl ?_
            rintro r T1 ⟨rfl, hRM⟩
            obtain ⟨hL1, hT1, hF1, ht1, hc1⟩ := hRM.keep (Or.inl rfl) hC hD hP
            have hR1 : RWr 32 T1 (fun j => σ.2.1 96 j) := hR.cells (fun a j ha => hc1 a j (by omega) (by omega))
            have hask := hC.G.R.ask q (by omega)
            have hco := hC.G.R.coins
            have hpq : q < pN σ := by have := pN_eq hC.G.R; omega
            have hak : T1.2.1 6 p.toNat = σ.2.1 88 (8 + p).toNat := by
              rw [hq, show ((8 : Int) + (q : Int)).toNat = 8 + q by omega, show ((q : Int)).toNat = q by omega]
              exact hT1.asks q hpq
            have hakr : 0 ≤ T1.2.1 6 p.toNat ∧ T1.2.1 6 p.toNat ≤ 99 := by
              rw [hak, hq, show ((8 : Int) + (q : Int)).toNat = 8 + q by omega]
              exact hask
            have e35 : T1.2.1 35 d.toNat = σ.2.1 35 d.toNat := hc1 35 _ (by omega) (by omega)
            have e32 : T1.2.1 32 3 = σ.2.1 32 3 := hc1 32 3 (by omega) (by omega)
            have e3r : 0 ≤ T1.2.1 32 3 ∧ T1.2.1 32 3 ≤ 999999 := by rw [e32, e3]; exact hco
            refine am_aload_n (q := 91) rfl (am_tab tk_X9_bribe 45 rfl) rfl ?_
            refine am_getR (q := 94) (a := 0) (k := 9) (n := 17) (j := 4) (r := some (32)) (Ls_0 hL1) (by decide) rfl (Lr_0_4 hL1) (by decide) (Or.inl kf_X9_38) (am_tab tk_X9_bribe 46 rfl) rfl ?_
            refine am_getR (q := 97) (a := 32) (k := 1) (n := 11) (j := 7) (r := some (35)) (Ls_32 hL1) (by decide) rfl (Lr_32_7 hL1) (by decide) (Or.inr kf_X9_154) (am_tab tk_X9_bribe 47 rfl) rfl ?_
            refine am_iload_n (q := 98) rfl (am_tab tk_X9_bribe 48 rfl) rfl ?_
            refine am_dup2 (q := 99) rfl rfl (am_tab tk_X9_bribe 49 rfl) rfl ?_
            refine am_iald (q := 100) (a := 35) (n := 91) (x := (T1.2.1 35 (Int.toNat d))) (Ls_35 hL1) (by omega) (by omega) rfl (am_tab tk_X9_bribe 50 rfl) rfl ?_
            refine am_iconst (q := 101) (n := 1) (by decide) (am_tab tk_X9_bribe 51 rfl) rfl ?_
            refine am_iload_n (q := 102) rfl (am_tab tk_X9_bribe 52 rfl) rfl ?_
            refine am_ishl (q := 103) (am_tab tk_X9_bribe 53 rfl) rfl ?_
            refine am_ior (q := 104) (am_tab tk_X9_bribe 54 rfl) rfl ?_
            refine am_iast (q := 105) (a := 35) (n := 91) (Ls_35 hL1) (by omega) (by omega) (am_tab tk_X9_bribe 55 rfl) rfl ?_
            refine am_aload_n (q := 106) rfl (am_tab tk_X9_bribe 56 rfl) rfl ?_
            refine am_getR (q := 109) (a := 0) (k := 9) (n := 17) (j := 4) (r := some (32)) (Ls_0 hL1) (by decide) rfl (Lr_0_4 hL1) (by decide) (Or.inl kf_X9_38) (am_tab tk_X9_bribe 57 rfl) rfl ?_
            refine am_ldcw (q := 112) (n := 999999) (by decide) kk_X9_303 (am_tab tk_X9_bribe 58 rfl) rfl ?_
            refine am_aload_n (q := 113) rfl (am_tab tk_X9_bribe 59 rfl) rfl ?_
            refine am_getR (q := 116) (a := 0) (k := 9) (n := 17) (j := 4) (r := some (32)) (Ls_0 hL1) (by decide) rfl (Lr_0_4 hL1) (by decide) (Or.inl kf_X9_38) (am_tab tk_X9_bribe 60 rfl) rfl ?_
            refine am_getI (q := 119) (a := 32) (k := 1) (n := 11) (j := 3) (x := (T1.2.1 32 3)) (Ls_32 hL1) (by decide) rfl rfl (by decide) (Or.inr kf_X9_157) (am_tab tk_X9_bribe 61 rfl) rfl ?_
            refine am_aload_n (q := 120) rfl (am_tab tk_X9_bribe 62 rfl) rfl ?_
            refine am_getR (q := 123) (a := 0) (k := 9) (n := 17) (j := 2) (r := some (3)) (Ls_0 hL1) (by decide) rfl ht1 (by decide) (Or.inl kf_X9_19) (am_tab tk_X9_bribe 63 rfl) rfl ?_
            refine am_getR (q := 126) (a := 3) (k := 8) (n := 17) (j := 10) (r := some (6)) (Ls_3 hL1) (by decide) rfl (Lr_3_10 hL1) (by decide) (Or.inr kf_X9_176) (am_tab tk_X9_bribe 64 rfl) rfl ?_
            refine am_iload_n (q := 127) rfl (am_tab tk_X9_bribe 65 rfl) rfl ?_
            refine am_iald (q := 128) (a := 6) (n := 8) (x := (T1.2.1 6 (Int.toNat p))) (Ls_6 hL1) (by omega) (by omega) rfl (am_tab tk_X9_bribe 66 rfl) rfl ?_
            refine am_iadd (q := 129) (by omega) (am_tab tk_X9_bribe 67 rfl) rfl ?_
            refine am_callS0 (q := 132) (me2 := M_J9_min_7cf53) (As := [am_i 999999, am_i (((T1.2.1 32 3) + (T1.2.1 6 (Int.toNat p))))]) (rest := [am_r 32]) (out := [am_i (min 999999 ((T1.2.1 32 3) + (T1.2.1 6 (Int.toNat p)))), am_r 32]) (c_min (am_setN T1 35 (Int.toNat d) (ao_or (T1.2.1 35 (Int.toNat d)) (ao_shl 1 p))) 999999 ((T1.2.1 32 3) + (T1.2.1 6 (Int.toNat p)))) ⟨rfl, rfl⟩ ⟨Or.inl km_X9_238, kc_J9_min_7cf53, kn_J9, kd_J9_min_7cf53, ⟨(Nat.le_of_ble_eq_true rfl), (Nat.le_of_ble_eq_true rfl)⟩, ⟨(Nat.le_of_ble_eq_true rfl), (Nat.le_of_ble_eq_true rfl)⟩, (Nat.le_of_ble_eq_true rfl)⟩ ki_J9_min_7cf53 rfl rfl (am_tab tk_X9_bribe 68 rfl) rfl ?_
            refine am_putI (q := 135) (k := 1) (n := 11) (j := 3) (Ls_32 hL1) (by decide) rfl (by decide) (Or.inr (Or.inl ⟨kf_X9_157, rfl⟩)) (am_tab tk_X9_bribe 69 rfl) rfl ?_
            refine am_aload_n (q := 136) rfl (am_tab tk_X9_bribe 70 rfl) rfl ?_
            refine am_getR (q := 139) (a := 0) (k := 9) (n := 17) (j := 2) (r := some (3)) (Ls_0 hL1) (by decide) rfl ht1 (by decide) (Or.inl kf_X9_19) (am_tab tk_X9_bribe 71 rfl) rfl ?_
            refine am_getR (q := 142) (a := 3) (k := 8) (n := 17) (j := 10) (r := some (6)) (Ls_3 hL1) (by decide) rfl (Lr_3_10 hL1) (by decide) (Or.inr kf_X9_176) (am_tab tk_X9_bribe 72 rfl) rfl ?_
            refine am_iload_n (q := 143) rfl (am_tab tk_X9_bribe 73 rfl) rfl ?_
            refine am_iald (q := 144) (a := 6) (n := 8) (x := (T1.2.1 6 (Int.toNat p))) (Ls_6 hL1) (by omega) (by omega) rfl (am_tab tk_X9_bribe 74 rfl) rfl ?_
            refine am_iret (Or.inl rfl) (Nat.le_of_ble_eq_true rfl) (Nat.le_of_ble_eq_true rfl) (am_tab tk_X9_bribe 75 rfl) ?_
            refine hQ _ _ ?_
            refine Or.inl ⟨?_, congrArg (fun z => some (am_i z)) hak, T1, hRM, ?_⟩
            · refine ⟨⟨by omega, by omega⟩, ⟨by omega, by omega⟩, by omega, ?_, ?_, by omega⟩
              · rw [← e12]; intro z; rw [if_pos (Or.inl z)] at horp; omega
              · rw [← e111]; intro z; rw [if_pos (Or.inr z)] at horp; omega
            · rw [← e3, ← hak, e35, e32]
          · refine am_aload_n (q := 74) rfl (am_tab tk_X9_bribe 36 rfl) rfl ?_
            refine am_iconst (q := 75) (n := 3) (by decide) (am_tab tk_X9_bribe 37 rfl) rfl ?_
            refine am_callV0 (q := 78) (me2 := M_X9_refuse) (b := 0) (kb := 9) (nb := 17) (As := [am_i 3]) (rest := []) (out := [am_i ((-1))]) (c_refuse σ hL 3 (by decide) hr) ⟨rfl, rfl⟩ (Ls_0 hL) (by decide) ⟨Or.inl km_X9_92, kc_X9_refuse, kn_X9, kd_X9_refuse, ⟨(Nat.le_of_ble_eq_true rfl), (Nat.le_of_ble_eq_true rfl)⟩, ⟨(Nat.le_of_ble_eq_true rfl), (Nat.le_of_ble_eq_true rfl)⟩, (Nat.le_of_ble_eq_true rfl)⟩ ki_X9_refuse ks_X9_refuse rfl rfl (am_tab tk_X9_bribe 38 rfl) rfl ?_
            refine am_iret (Or.inl rfl) (Nat.le_of_ble_eq_true rfl) (Nat.le_of_ble_eq_true rfl) (am_tab tk_X9_bribe 39 rfl) ?_
            refine hQ _ _ ?_
            refine Or.inr ⟨fun hg => ?_, rfl, rfl⟩
            have := hg.2.2.2.2.2
            omega
      · refine am_aload_n (q := 28) rfl (am_tab tk_X9_bribe 13 rfl) rfl ?_
        refine am_iconst (q := 29) (n := 3) (by decide) (am_tab tk_X9_bribe 14 rfl) rfl ?_
        refine am_callV0 (q := 32) (me2 := M_X9_refuse) (b := 0) (kb := 9) (nb := 17) (As := [am_i 3]) (rest := []) (out := [am_i ((-1))]) (c_refuse σ hL 3 (by decide) hr) ⟨rfl, rfl⟩ (Ls_0 hL) (by decide) ⟨Or.inl km_X9_92, kc_X9_refuse, kn_X9, kd_X9_refuse, ⟨(Nat.le_of_ble_eq_true rfl), (Nat.le_of_ble_eq_true rfl)⟩, ⟨(Nat.le_of_ble_eq_true rfl), (Nat.le_of_ble_eq_true rfl)⟩, (Nat.le_of_ble_eq_true rfl)⟩ ki_X9_refuse ks_X9_refuse rfl rfl (am_tab tk_X9_bribe 15 rfl) rfl ?_
        refine am_iret (Or.inl rfl) (Nat.le_of_ble_eq_true rfl) (Nat.le_of_ble_eq_true rfl) (am_tab tk_X9_bribe 16 rfl) ?_
        refine hQ _ _ ?_
        refine Or.inr ⟨fun hg => ?_, rfl, rfl⟩
        have := hg.2.2.1
        have e1 : σ.2.1 32 1 = σ.2.1 96 1 := hC.F.1.2.1
        omega
set_option maxRecDepth 100000 in
theorem c_dies_3 (σ : am_H) (f c : Nat) (hC : CI 3 σ) (hD : CDt 3 σ) (p : Int) (hR : RWr 32 σ (fun j => σ.2.1 96 j)) (hO : ROK (fun j => σ.2.1 96 j)) (hP : PAC f c σ) (hr : 0 ≤ σ.2.1 54 3 ∧ σ.2.1 54 3 ≤ 100000) : am_met M_X9_dies [am_r 0, am_i p] σ (fun r σ' => (dieC σ p ∧ r = some (am_i 1) ∧ ∃ T, RMB f c σ T ∧ σ' = am_setN T 32 4 (ao_or (σ.2.1 32 4) (ao_shl 1 p))) ∨ (¬ dieC σ p ∧ r = some (am_i 0) ∧ σ' = am_setN σ 54 3 (σ.2.1 54 3 + 1))) := by
  refine am_qq (fun Q hQ => ?_)
  refine am_enter (show plainFor yX9_dies = true by decide +kernel) rfl (Nat.le_of_ble_eq_true rfl) (fun _ _ _ => trivial) ?_
  have hL := hC.G.L
  have hN := hC.G.R.P
  have hY := hC.G.R.Y
  refine am_aload_n (q := 1) rfl (am_tab tk_X9_dies 0 rfl) rfl ?_
  refine am_iload_n (q := 2) rfl (am_tab tk_X9_dies 1 rfl) rfl ?_
  refine am_callV0 (q := 5) (me2 := M_X9_isPerson) (b := 0) (kb := 9) (nb := 17) (As := [am_i p]) (rest := []) (out := [am_i (if 0 ≤ p ∧ p < σ.2.1 85 5 then 1 else 0)]) (c_isPerson_3 σ hC p) ⟨rfl, rfl⟩ (Ls_0 hL) (by decide) ⟨Or.inl km_X9_166, kc_X9_isPerson, kn_X9, kd_X9_isPerson, ⟨(Nat.le_of_ble_eq_true rfl), (Nat.le_of_ble_eq_true rfl)⟩, ⟨(Nat.le_of_ble_eq_true rfl), (Nat.le_of_ble_eq_true rfl)⟩, (Nat.le_of_ble_eq_true rfl)⟩ ki_X9_isPerson ks_X9_isPerson rfl rfl (am_tab tk_X9_dies 2 rfl) rfl ?_
  refine am_if_eq (q := 8) (t := 23) (am_tab tk_X9_dies 3 rfl) (by decide) rfl (fun h5 => ?_) (fun h5 => ?_)
  · replace h5 := b01z h5
    refine am_aload_n (q := 24) rfl (am_tab tk_X9_dies 11 rfl) rfl ?_
    refine am_iconst (q := 25) (n := 3) (by decide) (am_tab tk_X9_dies 12 rfl) rfl ?_
    refine am_callV0 (q := 28) (me2 := M_X9_refuse) (b := 0) (kb := 9) (nb := 17) (As := [am_i 3]) (rest := []) (out := [am_i ((-1))]) (c_refuse σ hL 3 (by decide) hr) ⟨rfl, rfl⟩ (Ls_0 hL) (by decide) ⟨Or.inl km_X9_92, kc_X9_refuse, kn_X9, kd_X9_refuse, ⟨(Nat.le_of_ble_eq_true rfl), (Nat.le_of_ble_eq_true rfl)⟩, ⟨(Nat.le_of_ble_eq_true rfl), (Nat.le_of_ble_eq_true rfl)⟩, (Nat.le_of_ble_eq_true rfl)⟩ ki_X9_refuse ks_X9_refuse rfl rfl (am_tab tk_X9_dies 13 rfl) rfl ?_
    refine am_pop (q := 29) rfl (am_tab tk_X9_dies 14 rfl) rfl ?_
    refine am_iconst (q := 30) (n := 0) (by decide) (am_tab tk_X9_dies 15 rfl) rfl ?_
    refine am_iret (Or.inr ⟨rfl, by first | exact Or.inl rfl | exact Or.inr rfl | omega⟩) (Nat.le_of_ble_eq_true rfl) (Nat.le_of_ble_eq_true rfl) (am_tab tk_X9_dies 16 rfl) ?_
    refine hQ _ _ ?_
    refine Or.inr ⟨fun hg => ?_, rfl, rfl⟩
    have := hg.1
    omega
  · replace h5 := b01n h5
    obtain ⟨q, hq⟩ := Int.eq_ofNat_of_zero_le (show 0 ≤ p by omega)
    have e12 : tb (σ.2.1 32 4) p = σ.2.1 96 (12 + p).toNat := by rw [hq, show ((12 : Int) + (q : Int)).toNat = 12 + q by omega]; exact hC.F.2.2.1 q (by omega)
    refine am_aload_n (q := 9) rfl (am_tab tk_X9_dies 4 rfl) rfl ?_
    refine am_getR (q := 12) (a := 0) (k := 9) (n := 17) (j := 4) (r := some (32)) (Ls_0 hL) (by decide) rfl (Lr_0_4 hL) (by decide) (Or.inl kf_X9_38) (am_tab tk_X9_dies 5 rfl) rfl ?_
    refine am_getI (q := 15) (a := 32) (k := 1) (n := 11) (j := 4) (x := (σ.2.1 32 4)) (Ls_32 hL) (by decide) rfl rfl (by decide) (Or.inr kf_X9_182) (am_tab tk_X9_dies 6 rfl) rfl ?_
    refine am_iload_n (q := 16) rfl (am_tab tk_X9_dies 7 rfl) rfl ?_
    refine am_callS0 (q := 19) (me2 := M_X9_bit) (As := [am_i ((σ.2.1 32 4)), am_i p]) (rest := []) (out := [am_i (tb (σ.2.1 32 4) p)]) (c_bit σ (σ.2.1 32 4) p hC.F.2.1 (by omega)) ⟨rfl, rfl⟩ ⟨Or.inl km_X9_185, kc_X9_bit, kn_X9, kd_X9_bit, ⟨(Nat.le_of_ble_eq_true rfl), (Nat.le_of_ble_eq_true rfl)⟩, ⟨(Nat.le_of_ble_eq_true rfl), (Nat.le_of_ble_eq_true rfl)⟩, (Nat.le_of_ble_eq_true rfl)⟩ ki_X9_bit rfl rfl (am_tab tk_X9_dies 8 rfl) rfl ?_
    refine am_iconst (q := 20) (n := 1) (by decide) (am_tab tk_X9_dies 9 rfl) rfl ?_
    refine am_icmp_ne (q := 23) (t := 31) (am_tab tk_X9_dies 10 rfl) (by decide) rfl (fun h20 => ?_) (fun h20 => ?_)
    · refine am_aload_n (q := 32) rfl (am_tab tk_X9_dies 17 rfl) rfl ?_
      refine am_getR (q := 35) (a := 0) (k := 9) (n := 17) (j := 6) (r := some (42)) (Ls_0 hL) (by decide) rfl (Lr_0_6 hL) (by decide) (Or.inl kf_X9_48) (am_tab tk_X9_dies 18 rfl) rfl ?_
      refine am_aload_n (q := 36) rfl (am_tab tk_X9_dies 19 rfl) rfl ?_
      refine am_getR (q := 39) (a := 0) (k := 9) (n := 17) (j := 4) (r := some (32)) (Ls_0 hL) (by decide) rfl (Lr_0_4 hL) (by decide) (Or.inl kf_X9_38) (am_tab tk_X9_dies 20 rfl) rfl ?_
      refine am_callV (q := 42) (me2 := M_X2_remember) (b := 42) (kb := 2) (nb := 3) (As := [am_r 32]) (rest := []) (c_remember σ hL hP.1.1 hP.1.2 hP.2.1.1 hP.2.1.2 hP.at) (Ls_42 hL) (by decide) ⟨Or.inr km_X9_297, kc_X2_remember, kn_X2, kd_X2_remember, ⟨(Nat.le_of_ble_eq_true rfl), (Nat.le_of_ble_eq_true rfl)⟩, ⟨(Nat.le_of_ble_eq_true rfl), (Nat.le_of_ble_eq_true rfl)⟩, (Nat.le_of_ble_eq_true rfl)⟩ ki_X2_remember ks_X2_remember rfl (am_tab tk_X9_dies 21 rfl) rfl ?_
      rintro r T1 ⟨rfl, hRM⟩
      obtain ⟨hL1, hT1, hF1, ht1, hc1⟩ := hRM.keep (Or.inl rfl) hC hD hP
      have hR1 : RWr 32 T1 (fun j => σ.2.1 96 j) := hR.cells (fun a j ha => hc1 a j (by omega) (by omega))
      refine am_aload_n (q := 43) rfl (am_tab tk_X9_dies 22 rfl) rfl ?_
      refine am_getR (q := 46) (a := 0) (k := 9) (n := 17) (j := 4) (r := some (32)) (Ls_0 hL1) (by decide) rfl (Lr_0_4 hL1) (by decide) (Or.inl kf_X9_38) (am_tab tk_X9_dies 23 rfl) rfl ?_
      refine am_dup (q := 47) rfl (am_tab tk_X9_dies 24 rfl) rfl ?_
      refine am_getI (q := 50) (a := 32) (k := 1) (n := 11) (j := 4) (x := (T1.2.1 32 4)) (Ls_32 hL1) (by decide) rfl rfl (by decide) (Or.inr kf_X9_182) (am_tab tk_X9_dies 25 rfl) rfl ?_
      refine am_iconst (q := 51) (n := 1) (by decide) (am_tab tk_X9_dies 26 rfl) rfl ?_
      refine am_iload_n (q := 52) rfl (am_tab tk_X9_dies 27 rfl) rfl ?_
      refine am_ishl (q := 53) (am_tab tk_X9_dies 28 rfl) rfl ?_
      refine am_ior (q := 54) (am_tab tk_X9_dies 29 rfl) rfl ?_
      refine am_putI (q := 57) (k := 1) (n := 11) (j := 4) (Ls_32 hL1) (by decide) rfl (by decide) (Or.inr (Or.inl ⟨kf_X9_182, rfl⟩)) (am_tab tk_X9_dies 30 rfl) rfl ?_
      refine am_iconst (q := 58) (n := 1) (by decide) (am_tab tk_X9_dies 31 rfl) rfl ?_
      refine am_iret (Or.inr ⟨rfl, by first | exact Or.inl rfl | exact Or.inr rfl | omega⟩) (Nat.le_of_ble_eq_true rfl) (Nat.le_of_ble_eq_true rfl) (am_tab tk_X9_dies 32 rfl) ?_
      refine hQ _ _ ?_
      refine Or.inl ⟨⟨⟨by omega, by omega⟩, ?_⟩, rfl, T1, hRM, ?_⟩
      · rw [← e12]; exact h20
      · rw [hc1 32 4 (by omega) (by omega)]
    · have h20x : tb (σ.2.1 32 4) p = 1 := by omega
      refine am_aload_n (q := 24) rfl (am_tab tk_X9_dies 11 rfl) rfl ?_
      refine am_iconst (q := 25) (n := 3) (by decide) (am_tab tk_X9_dies 12 rfl) rfl ?_
      refine am_callV0 (q := 28) (me2 := M_X9_refuse) (b := 0) (kb := 9) (nb := 17) (As := [am_i 3]) (rest := []) (out := [am_i ((-1))]) (c_refuse σ hL 3 (by decide) hr) ⟨rfl, rfl⟩ (Ls_0 hL) (by decide) ⟨Or.inl km_X9_92, kc_X9_refuse, kn_X9, kd_X9_refuse, ⟨(Nat.le_of_ble_eq_true rfl), (Nat.le_of_ble_eq_true rfl)⟩, ⟨(Nat.le_of_ble_eq_true rfl), (Nat.le_of_ble_eq_true rfl)⟩, (Nat.le_of_ble_eq_true rfl)⟩ ki_X9_refuse ks_X9_refuse rfl rfl (am_tab tk_X9_dies 13 rfl) rfl ?_
      refine am_pop (q := 29) rfl (am_tab tk_X9_dies 14 rfl) rfl ?_
      refine am_iconst (q := 30) (n := 0) (by decide) (am_tab tk_X9_dies 15 rfl) rfl ?_
      refine am_iret (Or.inr ⟨rfl, by first | exact Or.inl rfl | exact Or.inr rfl | omega⟩) (Nat.le_of_ble_eq_true rfl) (Nat.le_of_ble_eq_true rfl) (am_tab tk_X9_dies 16 rfl) ?_
      refine hQ _ _ ?_
      refine Or.inr ⟨fun hg => ?_, rfl, rfl⟩
      have g := hg.2
      rw [← e12] at g
      exact g h20x
set_option maxRecDepth 100000 in
theorem c_bribe_15 (σ : am_H) (f c : Nat) (hC : CI 15 σ) (hD : CDt 15 σ) (p : Int) (d : Int) (hR : RWr 32 σ (fun j => σ.2.1 96 j)) (hO : ROK (fun j => σ.2.1 96 j)) (hP : PAC f c σ) (hZ : ZR (σ.2.1 85 9) (fun j => σ.2.1 96 j)) (hm : 0 ≤ stM σ 111 ∧ stM σ 111 ≤ 30) (hr : 0 ≤ σ.2.1 54 3 ∧ σ.2.1 54 3 ≤ 100000) : am_met M_X9_bribe [am_r 0, am_i p, am_i d] σ (fun r σ' => (briC σ p d ∧ r = some (am_i (σ.2.1 88 (8 + p).toNat)) ∧ ∃ T, RMB f c σ T ∧ σ' = am_setN (am_setN T 35 d.toNat (ao_or (σ.2.1 35 d.toNat) (ao_shl 1 p))) 32 3 (min 999999 (σ.2.1 96 3 + σ.2.1 88 (8 + p).toNat))) ∨ (¬ briC σ p d ∧ r = some (am_i (-1)) ∧ σ' = am_setN σ 54 3 (σ.2.1 54 3 + 1))) := by
  refine am_qq (fun Q hQ => ?_)
  refine am_enter (show plainFor yX9_bribe = true by decide +kernel) rfl (Nat.le_of_ble_eq_true rfl) (fun _ _ _ => trivial) ?_
  have hL := hC.G.L
  have hN := hC.G.R.P
  have hY := hC.G.R.Y
  refine am_aload_n (q := 1) rfl (am_tab tk_X9_bribe 0 rfl) rfl ?_
  refine am_iload_n (q := 2) rfl (am_tab tk_X9_bribe 1 rfl) rfl ?_
  refine am_callV0 (q := 5) (me2 := M_X9_isPerson) (b := 0) (kb := 9) (nb := 17) (As := [am_i p]) (rest := []) (out := [am_i (if 0 ≤ p ∧ p < σ.2.1 85 5 then 1 else 0)]) (c_isPerson_15 σ hC p) ⟨rfl, rfl⟩ (Ls_0 hL) (by decide) ⟨Or.inl km_X9_166, kc_X9_isPerson, kn_X9, kd_X9_isPerson, ⟨(Nat.le_of_ble_eq_true rfl), (Nat.le_of_ble_eq_true rfl)⟩, ⟨(Nat.le_of_ble_eq_true rfl), (Nat.le_of_ble_eq_true rfl)⟩, (Nat.le_of_ble_eq_true rfl)⟩ ki_X9_isPerson ks_X9_isPerson rfl rfl (am_tab tk_X9_bribe 2 rfl) rfl ?_
  refine am_if_eq (q := 8) (t := 27) (am_tab tk_X9_bribe 3 rfl) (by decide) rfl (fun h5 => ?_) (fun h5 => ?_)
  · replace h5 := b01z h5
    refine am_aload_n (q := 28) rfl (am_tab tk_X9_bribe 13 rfl) rfl ?_
    refine am_iconst (q := 29) (n := 3) (by decide) (am_tab tk_X9_bribe 14 rfl) rfl ?_
    refine am_callV0 (q := 32) (me2 := M_X9_refuse) (b := 0) (kb := 9) (nb := 17) (As := [am_i 3]) (rest := []) (out := [am_i ((-1))]) (c_refuse σ hL 3 (by decide) hr) ⟨rfl, rfl⟩ (Ls_0 hL) (by decide) ⟨Or.inl km_X9_92, kc_X9_refuse, kn_X9, kd_X9_refuse, ⟨(Nat.le_of_ble_eq_true rfl), (Nat.le_of_ble_eq_true rfl)⟩, ⟨(Nat.le_of_ble_eq_true rfl), (Nat.le_of_ble_eq_true rfl)⟩, (Nat.le_of_ble_eq_true rfl)⟩ ki_X9_refuse ks_X9_refuse rfl rfl (am_tab tk_X9_bribe 15 rfl) rfl ?_
    refine am_iret (Or.inl rfl) (Nat.le_of_ble_eq_true rfl) (Nat.le_of_ble_eq_true rfl) (am_tab tk_X9_bribe 16 rfl) ?_
    refine hQ _ _ ?_
    refine Or.inr ⟨fun hg => ?_, rfl, rfl⟩
    have := hg.1
    omega
  · replace h5 := b01n h5
    refine am_aload_n (q := 9) rfl (am_tab tk_X9_bribe 4 rfl) rfl ?_
    refine am_iload_n (q := 10) rfl (am_tab tk_X9_bribe 5 rfl) rfl ?_
    refine am_callV0 (q := 13) (me2 := M_X9_isDay) (b := 0) (kb := 9) (nb := 17) (As := [am_i d]) (rest := []) (out := [am_i (if 1 ≤ d ∧ d ≤ σ.2.1 85 9 then 1 else 0)]) (c_isDay_15 σ hC d) ⟨rfl, rfl⟩ (Ls_0 hL) (by decide) ⟨Or.inl km_X9_198, kc_X9_isDay, kn_X9, kd_X9_isDay, ⟨(Nat.le_of_ble_eq_true rfl), (Nat.le_of_ble_eq_true rfl)⟩, ⟨(Nat.le_of_ble_eq_true rfl), (Nat.le_of_ble_eq_true rfl)⟩, (Nat.le_of_ble_eq_true rfl)⟩ ki_X9_isDay ks_X9_isDay rfl rfl (am_tab tk_X9_bribe 6 rfl) rfl ?_
    refine am_if_eq (q := 16) (t := 27) (am_tab tk_X9_bribe 7 rfl) (by decide) rfl (fun h13 => ?_) (fun h13 => ?_)
    · replace h13 := b01z h13
      refine am_aload_n (q := 28) rfl (am_tab tk_X9_bribe 13 rfl) rfl ?_
      refine am_iconst (q := 29) (n := 3) (by decide) (am_tab tk_X9_bribe 14 rfl) rfl ?_
      refine am_callV0 (q := 32) (me2 := M_X9_refuse) (b := 0) (kb := 9) (nb := 17) (As := [am_i 3]) (rest := []) (out := [am_i ((-1))]) (c_refuse σ hL 3 (by decide) hr) ⟨rfl, rfl⟩ (Ls_0 hL) (by decide) ⟨Or.inl km_X9_92, kc_X9_refuse, kn_X9, kd_X9_refuse, ⟨(Nat.le_of_ble_eq_true rfl), (Nat.le_of_ble_eq_true rfl)⟩, ⟨(Nat.le_of_ble_eq_true rfl), (Nat.le_of_ble_eq_true rfl)⟩, (Nat.le_of_ble_eq_true rfl)⟩ ki_X9_refuse ks_X9_refuse rfl rfl (am_tab tk_X9_bribe 15 rfl) rfl ?_
      refine am_iret (Or.inl rfl) (Nat.le_of_ble_eq_true rfl) (Nat.le_of_ble_eq_true rfl) (am_tab tk_X9_bribe 16 rfl) ?_
      refine hQ _ _ ?_
      refine Or.inr ⟨fun hg => ?_, rfl, rfl⟩
      have := hg.2.1
      omega
    · replace h13 := b01n h13
      refine am_iload_n (q := 17) rfl (am_tab tk_X9_bribe 8 rfl) rfl ?_
      refine am_aload_n (q := 18) rfl (am_tab tk_X9_bribe 9 rfl) rfl ?_
      refine am_getR (q := 21) (a := 0) (k := 9) (n := 17) (j := 4) (r := some (32)) (Ls_0 hL) (by decide) rfl (Lr_0_4 hL) (by decide) (Or.inl kf_X9_38) (am_tab tk_X9_bribe 10 rfl) rfl ?_
      refine am_getI (q := 24) (a := 32) (k := 1) (n := 11) (j := 1) (x := (σ.2.1 32 1)) (Ls_32 hL) (by decide) rfl rfl (by decide) (Or.inr kf_X9_141) (am_tab tk_X9_bribe 11 rfl) rfl ?_
      refine am_icmp_gt (q := 27) (t := 33) (am_tab tk_X9_bribe 12 rfl) (by decide) rfl (fun h24 => ?_) (fun h24 => ?_)
      · have hb9 : 0 ≤ σ.2.1 35 d.toNat ∧ σ.2.1 35 d.toNat < 256 := by rw [hC.F.2.2.2.2.2 d.toNat (by omega)]; exact hC.G.R.brib d.toNat (by omega)
        obtain ⟨q, hq⟩ := Int.eq_ofNat_of_zero_le (show 0 ≤ p by omega)
        have e12 : tb (σ.2.1 32 4) p = σ.2.1 96 (12 + p).toNat := by rw [hq, show ((12 : Int) + (q : Int)).toNat = 12 + q by omega]; exact hC.F.2.2.1 q (by omega)
        have e111 : σ.2.1 35 d.toNat = σ.2.1 96 (111 + d).toNat := by rw [show (111 + d).toNat = 111 + d.toNat by omega]; exact hC.F.2.2.2.2.2 d.toNat (by omega)
        have e3 : σ.2.1 32 3 = σ.2.1 96 3 := hC.F.1.2.2.2
        have e1d : σ.2.1 32 1 = σ.2.1 96 1 := hC.F.1.2.1
        have hor := or_tb (s := σ.2.1 32 4) hC.F.2.1 hb9
        have horp : tb (ao_or (σ.2.1 32 4) (σ.2.1 35 d.toNat)) p = if tb (σ.2.1 32 4) p = 1 ∨ tb (σ.2.1 35 d.toNat) p = 1 then 1 else 0 := by rw [hq]; exact hor.2 q
        refine am_aload_n (q := 34) rfl (am_tab tk_X9_bribe 17 rfl) rfl ?_
        refine am_getR (q := 37) (a := 0) (k := 9) (n := 17) (j := 4) (r := some (32)) (Ls_0 hL) (by decide) rfl (Lr_0_4 hL) (by decide) (Or.inl kf_X9_38) (am_tab tk_X9_bribe 18 rfl) rfl ?_
        refine am_getI (q := 40) (a := 32) (k := 1) (n := 11) (j := 4) (x := (σ.2.1 32 4)) (Ls_32 hL) (by decide) rfl rfl (by decide) (Or.inr kf_X9_182) (am_tab tk_X9_bribe 19 rfl) rfl ?_
        refine am_aload_n (q := 41) rfl (am_tab tk_X9_bribe 20 rfl) rfl ?_
        refine am_getR (q := 44) (a := 0) (k := 9) (n := 17) (j := 4) (r := some (32)) (Ls_0 hL) (by decide) rfl (Lr_0_4 hL) (by decide) (Or.inl kf_X9_38) (am_tab tk_X9_bribe 21 rfl) rfl ?_
        refine am_getR (q := 47) (a := 32) (k := 1) (n := 11) (j := 7) (r := some (35)) (Ls_32 hL) (by decide) rfl (Lr_32_7 hL) (by decide) (Or.inr kf_X9_154) (am_tab tk_X9_bribe 22 rfl) rfl ?_
        refine am_iload_n (q := 48) rfl (am_tab tk_X9_bribe 23 rfl) rfl ?_
        refine am_iald (q := 49) (a := 35) (n := 91) (x := (σ.2.1 35 (Int.toNat d))) (Ls_35 hL) (by omega) (by omega) rfl (am_tab tk_X9_bribe 24 rfl) rfl ?_
        refine am_ior (q := 50) (am_tab tk_X9_bribe 25 rfl) rfl ?_
        refine am_iload_n (q := 51) rfl (am_tab tk_X9_bribe 26 rfl) rfl ?_
        refine am_callS0 (q := 54) (me2 := M_X9_bit) (As := [am_i ((ao_or (σ.2.1 32 4) (σ.2.1 35 (Int.toNat d)))), am_i p]) (rest := []) (out := [am_i (tb (ao_or (σ.2.1 32 4) (σ.2.1 35 (Int.toNat d))) p)]) (c_bit σ (ao_or (σ.2.1 32 4) (σ.2.1 35 (Int.toNat d))) p hor.1 (by omega)) ⟨rfl, rfl⟩ ⟨Or.inl km_X9_185, kc_X9_bit, kn_X9, kd_X9_bit, ⟨(Nat.le_of_ble_eq_true rfl), (Nat.le_of_ble_eq_true rfl)⟩, ⟨(Nat.le_of_ble_eq_true rfl), (Nat.le_of_ble_eq_true rfl)⟩, (Nat.le_of_ble_eq_true rfl)⟩ ki_X9_bit rfl rfl (am_tab tk_X9_bribe 27 rfl) rfl ?_
        refine am_iconst (q := 55) (n := 1) (by decide) (am_tab tk_X9_bribe 28 rfl) rfl ?_
        refine am_icmp_eq (q := 58) (t := 73) (am_tab tk_X9_bribe 29 rfl) (by decide) rfl (fun h55 => ?_) (fun h55 => ?_)
        · refine am_aload_n (q := 74) rfl (am_tab tk_X9_bribe 36 rfl) rfl ?_
          refine am_iconst (q := 75) (n := 3) (by decide) (am_tab tk_X9_bribe 37 rfl) rfl ?_
          refine am_callV0 (q := 78) (me2 := M_X9_refuse) (b := 0) (kb := 9) (nb := 17) (As := [am_i 3]) (rest := []) (out := [am_i ((-1))]) (c_refuse σ hL 3 (by decide) hr) ⟨rfl, rfl⟩ (Ls_0 hL) (by decide) ⟨Or.inl km_X9_92, kc_X9_refuse, kn_X9, kd_X9_refuse, ⟨(Nat.le_of_ble_eq_true rfl), (Nat.le_of_ble_eq_true rfl)⟩, ⟨(Nat.le_of_ble_eq_true rfl), (Nat.le_of_ble_eq_true rfl)⟩, (Nat.le_of_ble_eq_true rfl)⟩ ki_X9_refuse ks_X9_refuse rfl rfl (am_tab tk_X9_bribe 38 rfl) rfl ?_
          refine am_iret (Or.inl rfl) (Nat.le_of_ble_eq_true rfl) (Nat.le_of_ble_eq_true rfl) (am_tab tk_X9_bribe 39 rfl) ?_
          refine hQ _ _ ?_
          refine Or.inr ⟨fun hg => ?_, rfl, rfl⟩
          have g4 := hg.2.2.2.1
          have g5 := hg.2.2.2.2.1
          rw [← e12] at g4
          rw [← e111] at g5
          rw [if_neg (fun z => z.elim g4 g5)] at horp
          omega
        · refine am_aload_n (q := 59) rfl (am_tab tk_X9_bribe 30 rfl) rfl ?_
          refine am_getR (q := 62) (a := 0) (k := 9) (n := 17) (j := 4) (r := some (32)) (Ls_0 hL) (by decide) rfl (Lr_0_4 hL) (by decide) (Or.inl kf_X9_38) (am_tab tk_X9_bribe 31 rfl) rfl ?_
          refine am_getR (q := 65) (a := 32) (k := 1) (n := 11) (j := 7) (r := some (35)) (Ls_32 hL) (by decide) rfl (Lr_32_7 hL) (by decide) (Or.inr kf_X9_154) (am_tab tk_X9_bribe 32 rfl) rfl ?_
          refine am_callSr (q := 68) (me2 := M_X9_countBits) (As := [am_r 35]) (rest := []) (c_countBits_35 σ hL (fun d hd => by rw [hC.F.2.2.2.2.2 d hd]; exact hC.G.R.brib d hd)) ⟨rfl, rfl⟩ ⟨Or.inl km_X9_150, kc_X9_countBits, kn_X9, kd_X9_countBits, ⟨(Nat.le_of_ble_eq_true rfl), (Nat.le_of_ble_eq_true rfl)⟩, ⟨(Nat.le_of_ble_eq_true rfl), (Nat.le_of_ble_eq_true rfl)⟩, (Nat.le_of_ble_eq_true rfl)⟩ ki_X9_countBits rfl (am_tab tk_X9_bribe 33 rfl) rfl ?_
          rintro r τ ⟨hr9, hτ⟩
          rw [show sumN (fun d => bc (σ.2.1 35 d)) 91 = stM σ 111 from sumN_sh (f := fun d => bc (σ.2.1 35 d)) (by show bc (σ.2.1 35 0) = 0; rw [show σ.2.1 35 0 = 0 from (hC.F.2.2.2.2.2 0 (by decide)).trans hZ.2.1]; exact bc0) 90 (fun d hd => by show bc (σ.2.1 35 (d + 1)) = bc (σ.2.1 96 (111 + 1 + d)); rw [show σ.2.1 35 (d + 1) = σ.2.1 96 (111 + 1 + d) from (hC.F.2.2.2.2.2 (d + 1) (by omega)).trans (by rw [show 111 + (d + 1) = 111 + 1 + d by omega])])] at hr9
          rw [hr9, hτ]
          refine am_st (st2 := [am_i (stM σ 111)]) rfl ?_
          refine am_bipush (q := 70) (n := 30) (by decide) rfl (am_tab tk_X9_bribe 34 rfl) rfl ?_
          refine am_icmp_lt (q := 73) (t := 79) (am_tab tk_X9_bribe 35 rfl) (by decide) rfl (fun h70 => ?_) (fun h70 => ?_)
          · refine am_aload_n (q := 80) rfl (am_tab tk_X9_bribe 40 rfl) rfl ?_
            refine am_getR (q := 83) (a := 0) (k := 9) (n := 17) (j := 6) (r := some (42)) (Ls_0 hL) (by decide) rfl (Lr_0_6 hL) (by decide) (Or.inl kf_X9_48) (am_tab tk_X9_bribe 41 rfl) rfl ?_
            refine am_aload_n (q := 84) rfl (am_tab tk_X9_bribe 42 rfl) rfl ?_
            refine am_getR (q := 87) (a := 0) (k := 9) (n := 17) (j := 4) (r := some (32)) (Ls_0 hL) (by decide) rfl (Lr_0_4 hL) (by decide) (Or.inl kf_X9_38) (am_tab tk_X9_bribe 43 rfl) rfl ?_
            refine am_callV (q := 90) (me2 := M_X2_remember) (b := 42) (kb := 2) (nb := 3) (As := [am_r 32]) (rest := []) (c_remember σ hL hP.1.1 hP.1.2 hP.2.1.1 hP.2.1.2 hP.at) (Ls_42 hL) (by decide) ⟨Or.inr km_X9_297, kc_X2_remember, kn_X2, kd_X2_remember, ⟨(Nat.le_of_ble_eq_true rfl), (Nat.le_of_ble_eq_true rfl)⟩, ⟨(Nat.le_of_ble_eq_true rfl), (Nat.le_of_ble_eq_true rfl)⟩, (Nat.le_of_ble_eq_true rfl)⟩ ki_X2_remember ks_X2_remember rfl (am_tab tk_X9_bribe 44 rfl) rfl ?_
            rintro r T1 ⟨rfl, hRM⟩
            obtain ⟨hL1, hT1, hF1, ht1, hc1⟩ := hRM.keep (Or.inr rfl) hC hD hP
            have hR1 : RWr 32 T1 (fun j => σ.2.1 96 j) := hR.cells (fun a j ha => hc1 a j (by omega) (by omega))
            have hask := hC.G.R.ask q (by omega)
            have hco := hC.G.R.coins
            have hpq : q < pN σ := by have := pN_eq hC.G.R; omega
            have hak : T1.2.1 18 p.toNat = σ.2.1 88 (8 + p).toNat := by
              rw [hq, show ((8 : Int) + (q : Int)).toNat = 8 + q by omega, show ((q : Int)).toNat = q by omega]
              exact hT1.asks q hpq
            have hakr : 0 ≤ T1.2.1 18 p.toNat ∧ T1.2.1 18 p.toNat ≤ 99 := by
              rw [hak, hq, show ((8 : Int) + (q : Int)).toNat = 8 + q by omega]
              exact hask
            have e35 : T1.2.1 35 d.toNat = σ.2.1 35 d.toNat := hc1 35 _ (by omega) (by omega)
            have e32 : T1.2.1 32 3 = σ.2.1 32 3 := hc1 32 3 (by omega) (by omega)
            have e3r : 0 ≤ T1.2.1 32 3 ∧ T1.2.1 32 3 ≤ 999999 := by rw [e32, e3]; exact hco
            refine am_aload_n (q := 91) rfl (am_tab tk_X9_bribe 45 rfl) rfl ?_
            refine am_getR (q := 94) (a := 0) (k := 9) (n := 17) (j := 4) (r := some (32)) (Ls_0 hL1) (by decide) rfl (Lr_0_4 hL1) (by decide) (Or.inl kf_X9_38) (am_tab tk_X9_bribe 46 rfl) rfl ?_
            refine am_getR (q := 97) (a := 32) (k := 1) (n := 11) (j := 7) (r := some (35)) (Ls_32 hL1) (by decide) rfl (Lr_32_7 hL1) (by decide) (Or.inr kf_X9_154) (am_tab tk_X9_bribe 47 rfl) rfl ?_
            refine am_iload_n (q := 98) rfl (am_tab tk_X9_bribe 48 rfl) rfl ?_
            refine am_dup2 (q := 99) rfl rfl (am_tab tk_X9_bribe 49 rfl) rfl ?_
            refine am_iald (q := 100) (a := 35) (n := 91) (x := (T1.2.1 35 (Int.toNat d))) (Ls_35 hL1) (by omega) (by omega) rfl (am_tab tk_X9_bribe 50 rfl) rfl ?_
            refine am_iconst (q := 101) (n := 1) (by decide) (am_tab tk_X9_bribe 51 rfl) rfl ?_
            refine am_iload_n (q := 102) rfl (am_tab tk_X9_bribe 52 rfl) rfl ?_
            refine am_ishl (q := 103) (am_tab tk_X9_bribe 53 rfl) rfl ?_
            refine am_ior (q := 104) (am_tab tk_X9_bribe 54 rfl) rfl ?_
            refine am_iast (q := 105) (a := 35) (n := 91) (Ls_35 hL1) (by omega) (by omega) (am_tab tk_X9_bribe 55 rfl) rfl ?_
            refine am_aload_n (q := 106) rfl (am_tab tk_X9_bribe 56 rfl) rfl ?_
            refine am_getR (q := 109) (a := 0) (k := 9) (n := 17) (j := 4) (r := some (32)) (Ls_0 hL1) (by decide) rfl (Lr_0_4 hL1) (by decide) (Or.inl kf_X9_38) (am_tab tk_X9_bribe 57 rfl) rfl ?_
            refine am_ldcw (q := 112) (n := 999999) (by decide) kk_X9_303 (am_tab tk_X9_bribe 58 rfl) rfl ?_
            refine am_aload_n (q := 113) rfl (am_tab tk_X9_bribe 59 rfl) rfl ?_
            refine am_getR (q := 116) (a := 0) (k := 9) (n := 17) (j := 4) (r := some (32)) (Ls_0 hL1) (by decide) rfl (Lr_0_4 hL1) (by decide) (Or.inl kf_X9_38) (am_tab tk_X9_bribe 60 rfl) rfl ?_
            refine am_getI (q := 119) (a := 32) (k := 1) (n := 11) (j := 3) (x := (T1.2.1 32 3)) (Ls_32 hL1) (by decide) rfl rfl (by decide) (Or.inr kf_X9_157) (am_tab tk_X9_bribe 61 rfl) rfl ?_
            refine am_aload_n (q := 120) rfl (am_tab tk_X9_bribe 62 rfl) rfl ?_
            refine am_getR (q := 123) (a := 0) (k := 9) (n := 17) (j := 2) (r := some (15)) (Ls_0 hL1) (by decide) rfl ht1 (by decide) (Or.inl kf_X9_19) (am_tab tk_X9_bribe 63 rfl) rfl ?_
            refine am_getR (q := 126) (a := 15) (k := 8) (n := 17) (j := 10) (r := some (18)) (Ls_15 hL1) (by decide) rfl (Lr_15_10 hL1) (by decide) (Or.inr kf_X9_176) (am_tab tk_X9_bribe 64 rfl) rfl ?_
            refine am_iload_n (q := 127) rfl (am_tab tk_X9_bribe 65 rfl) rfl ?_
            refine am_iald (q := 128) (a := 18) (n := 8) (x := (T1.2.1 18 (Int.toNat p))) (Ls_18 hL1) (by omega) (by omega) rfl (am_tab tk_X9_bribe 66 rfl) rfl ?_
            refine am_iadd (q := 129) (by omega) (am_tab tk_X9_bribe 67 rfl) rfl ?_
            refine am_callS0 (q := 132) (me2 := M_J9_min_7cf53) (As := [am_i 999999, am_i (((T1.2.1 32 3) + (T1.2.1 18 (Int.toNat p))))]) (rest := [am_r 32]) (out := [am_i (min 999999 ((T1.2.1 32 3) + (T1.2.1 18 (Int.toNat p)))), am_r 32]) (c_min (am_setN T1 35 (Int.toNat d) (ao_or (T1.2.1 35 (Int.toNat d)) (ao_shl 1 p))) 999999 ((T1.2.1 32 3) + (T1.2.1 18 (Int.toNat p)))) ⟨rfl, rfl⟩ ⟨Or.inl km_X9_238, kc_J9_min_7cf53, kn_J9, kd_J9_min_7cf53, ⟨(Nat.le_of_ble_eq_true rfl), (Nat.le_of_ble_eq_true rfl)⟩, ⟨(Nat.le_of_ble_eq_true rfl), (Nat.le_of_ble_eq_true rfl)⟩, (Nat.le_of_ble_eq_true rfl)⟩ ki_J9_min_7cf53 rfl rfl (am_tab tk_X9_bribe 68 rfl) rfl ?_
            refine am_putI (q := 135) (k := 1) (n := 11) (j := 3) (Ls_32 hL1) (by decide) rfl (by decide) (Or.inr (Or.inl ⟨kf_X9_157, rfl⟩)) (am_tab tk_X9_bribe 69 rfl) rfl ?_
            refine am_aload_n (q := 136) rfl (am_tab tk_X9_bribe 70 rfl) rfl ?_
            refine am_getR (q := 139) (a := 0) (k := 9) (n := 17) (j := 2) (r := some (15)) (Ls_0 hL1) (by decide) rfl ht1 (by decide) (Or.inl kf_X9_19) (am_tab tk_X9_bribe 71 rfl) rfl ?_
            refine am_getR (q := 142) (a := 15) (k := 8) (n := 17) (j := 10) (r := some (18)) (Ls_15 hL1) (by decide) rfl (Lr_15_10 hL1) (by decide) (Or.inr kf_X9_176) (am_tab tk_X9_bribe 72 rfl) rfl ?_
            refine am_iload_n (q := 143) rfl (am_tab tk_X9_bribe 73 rfl) rfl ?_
            refine am_iald (q := 144) (a := 18) (n := 8) (x := (T1.2.1 18 (Int.toNat p))) (Ls_18 hL1) (by omega) (by omega) rfl (am_tab tk_X9_bribe 74 rfl) rfl ?_
            refine am_iret (Or.inl rfl) (Nat.le_of_ble_eq_true rfl) (Nat.le_of_ble_eq_true rfl) (am_tab tk_X9_bribe 75 rfl) ?_
            refine hQ _ _ ?_
            refine Or.inl ⟨?_, congrArg (fun z => some (am_i z)) hak, T1, hRM, ?_⟩
            · refine ⟨⟨by omega, by omega⟩, ⟨by omega, by omega⟩, by omega, ?_, ?_, by omega⟩
              · rw [← e12]; intro z; rw [if_pos (Or.inl z)] at horp; omega
              · rw [← e111]; intro z; rw [if_pos (Or.inr z)] at horp; omega
            · rw [← e3, ← hak, e35, e32]
          · refine am_aload_n (q := 74) rfl (am_tab tk_X9_bribe 36 rfl) rfl ?_
            refine am_iconst (q := 75) (n := 3) (by decide) (am_tab tk_X9_bribe 37 rfl) rfl ?_
            refine am_callV0 (q := 78) (me2 := M_X9_refuse) (b := 0) (kb := 9) (nb := 17) (As := [am_i 3]) (rest := []) (out := [am_i ((-1))]) (c_refuse σ hL 3 (by decide) hr) ⟨rfl, rfl⟩ (Ls_0 hL) (by decide) ⟨Or.inl km_X9_92, kc_X9_refuse, kn_X9, kd_X9_refuse, ⟨(Nat.le_of_ble_eq_true rfl), (Nat.le_of_ble_eq_true rfl)⟩, ⟨(Nat.le_of_ble_eq_true rfl), (Nat.le_of_ble_eq_true rfl)⟩, (Nat.le_of_ble_eq_true rfl)⟩ ki_X9_refuse ks_X9_refuse rfl rfl (am_tab tk_X9_bribe 38 rfl) rfl ?_
            refine am_iret (Or.inl rfl) (Nat.le_of_ble_eq_true rfl) (Nat.le_of_ble_eq_true rfl) (am_tab tk_X9_bribe 39 rfl) ?_
            refine hQ _ _ ?_
            refine Or.inr ⟨fun hg => ?_, rfl, rfl⟩
            have := hg.2.2.2.2.2
            omega
      · refine am_aload_n (q := 28) rfl (am_tab tk_X9_bribe 13 rfl) rfl ?_
        refine am_iconst (q := 29) (n := 3) (by decide) (am_tab tk_X9_bribe 14 rfl) rfl ?_
        refine am_callV0 (q := 32) (me2 := M_X9_refuse) (b := 0) (kb := 9) (nb := 17) (As := [am_i 3]) (rest := []) (out := [am_i ((-1))]) (c_refuse σ hL 3 (by decide) hr) ⟨rfl, rfl⟩ (Ls_0 hL) (by decide) ⟨Or.inl km_X9_92, kc_X9_refuse, kn_X9, kd_X9_refuse, ⟨(Nat.le_of_ble_eq_true rfl), (Nat.le_of_ble_eq_true rfl)⟩, ⟨(Nat.le_of_ble_eq_true rfl), (Nat.le_of_ble_eq_true rfl)⟩, (Nat.le_of_ble_eq_true rfl)⟩ ki_X9_refuse ks_X9_refuse rfl rfl (am_tab tk_X9_bribe 15 rfl) rfl ?_
        refine am_iret (Or.inl rfl) (Nat.le_of_ble_eq_true rfl) (Nat.le_of_ble_eq_true rfl) (am_tab tk_X9_bribe 16 rfl) ?_
        refine hQ _ _ ?_
        refine Or.inr ⟨fun hg => ?_, rfl, rfl⟩
        have := hg.2.2.1
        have e1 : σ.2.1 32 1 = σ.2.1 96 1 := hC.F.1.2.1
        omega
set_option maxRecDepth 100000 in
theorem c_dies_15 (σ : am_H) (f c : Nat) (hC : CI 15 σ) (hD : CDt 15 σ) (p : Int) (hR : RWr 32 σ (fun j => σ.2.1 96 j)) (hO : ROK (fun j => σ.2.1 96 j)) (hP : PAC f c σ) (hr : 0 ≤ σ.2.1 54 3 ∧ σ.2.1 54 3 ≤ 100000) : am_met M_X9_dies [am_r 0, am_i p] σ (fun r σ' => (dieC σ p ∧ r = some (am_i 1) ∧ ∃ T, RMB f c σ T ∧ σ' = am_setN T 32 4 (ao_or (σ.2.1 32 4) (ao_shl 1 p))) ∨ (¬ dieC σ p ∧ r = some (am_i 0) ∧ σ' = am_setN σ 54 3 (σ.2.1 54 3 + 1))) := by
  refine am_qq (fun Q hQ => ?_)
  refine am_enter (show plainFor yX9_dies = true by decide +kernel) rfl (Nat.le_of_ble_eq_true rfl) (fun _ _ _ => trivial) ?_
  have hL := hC.G.L
  have hN := hC.G.R.P
  have hY := hC.G.R.Y
  refine am_aload_n (q := 1) rfl (am_tab tk_X9_dies 0 rfl) rfl ?_
  refine am_iload_n (q := 2) rfl (am_tab tk_X9_dies 1 rfl) rfl ?_
  refine am_callV0 (q := 5) (me2 := M_X9_isPerson) (b := 0) (kb := 9) (nb := 17) (As := [am_i p]) (rest := []) (out := [am_i (if 0 ≤ p ∧ p < σ.2.1 85 5 then 1 else 0)]) (c_isPerson_15 σ hC p) ⟨rfl, rfl⟩ (Ls_0 hL) (by decide) ⟨Or.inl km_X9_166, kc_X9_isPerson, kn_X9, kd_X9_isPerson, ⟨(Nat.le_of_ble_eq_true rfl), (Nat.le_of_ble_eq_true rfl)⟩, ⟨(Nat.le_of_ble_eq_true rfl), (Nat.le_of_ble_eq_true rfl)⟩, (Nat.le_of_ble_eq_true rfl)⟩ ki_X9_isPerson ks_X9_isPerson rfl rfl (am_tab tk_X9_dies 2 rfl) rfl ?_
  refine am_if_eq (q := 8) (t := 23) (am_tab tk_X9_dies 3 rfl) (by decide) rfl (fun h5 => ?_) (fun h5 => ?_)
  · replace h5 := b01z h5
    refine am_aload_n (q := 24) rfl (am_tab tk_X9_dies 11 rfl) rfl ?_
    refine am_iconst (q := 25) (n := 3) (by decide) (am_tab tk_X9_dies 12 rfl) rfl ?_
    refine am_callV0 (q := 28) (me2 := M_X9_refuse) (b := 0) (kb := 9) (nb := 17) (As := [am_i 3]) (rest := []) (out := [am_i ((-1))]) (c_refuse σ hL 3 (by decide) hr) ⟨rfl, rfl⟩ (Ls_0 hL) (by decide) ⟨Or.inl km_X9_92, kc_X9_refuse, kn_X9, kd_X9_refuse, ⟨(Nat.le_of_ble_eq_true rfl), (Nat.le_of_ble_eq_true rfl)⟩, ⟨(Nat.le_of_ble_eq_true rfl), (Nat.le_of_ble_eq_true rfl)⟩, (Nat.le_of_ble_eq_true rfl)⟩ ki_X9_refuse ks_X9_refuse rfl rfl (am_tab tk_X9_dies 13 rfl) rfl ?_
    refine am_pop (q := 29) rfl (am_tab tk_X9_dies 14 rfl) rfl ?_
    refine am_iconst (q := 30) (n := 0) (by decide) (am_tab tk_X9_dies 15 rfl) rfl ?_
    refine am_iret (Or.inr ⟨rfl, by first | exact Or.inl rfl | exact Or.inr rfl | omega⟩) (Nat.le_of_ble_eq_true rfl) (Nat.le_of_ble_eq_true rfl) (am_tab tk_X9_dies 16 rfl) ?_
    refine hQ _ _ ?_
    refine Or.inr ⟨fun hg => ?_, rfl, rfl⟩
    have := hg.1
    omega
  · replace h5 := b01n h5
    obtain ⟨q, hq⟩ := Int.eq_ofNat_of_zero_le (show 0 ≤ p by omega)
    have e12 : tb (σ.2.1 32 4) p = σ.2.1 96 (12 + p).toNat := by rw [hq, show ((12 : Int) + (q : Int)).toNat = 12 + q by omega]; exact hC.F.2.2.1 q (by omega)
    refine am_aload_n (q := 9) rfl (am_tab tk_X9_dies 4 rfl) rfl ?_
    refine am_getR (q := 12) (a := 0) (k := 9) (n := 17) (j := 4) (r := some (32)) (Ls_0 hL) (by decide) rfl (Lr_0_4 hL) (by decide) (Or.inl kf_X9_38) (am_tab tk_X9_dies 5 rfl) rfl ?_
    refine am_getI (q := 15) (a := 32) (k := 1) (n := 11) (j := 4) (x := (σ.2.1 32 4)) (Ls_32 hL) (by decide) rfl rfl (by decide) (Or.inr kf_X9_182) (am_tab tk_X9_dies 6 rfl) rfl ?_
    refine am_iload_n (q := 16) rfl (am_tab tk_X9_dies 7 rfl) rfl ?_
    refine am_callS0 (q := 19) (me2 := M_X9_bit) (As := [am_i ((σ.2.1 32 4)), am_i p]) (rest := []) (out := [am_i (tb (σ.2.1 32 4) p)]) (c_bit σ (σ.2.1 32 4) p hC.F.2.1 (by omega)) ⟨rfl, rfl⟩ ⟨Or.inl km_X9_185, kc_X9_bit, kn_X9, kd_X9_bit, ⟨(Nat.le_of_ble_eq_true rfl), (Nat.le_of_ble_eq_true rfl)⟩, ⟨(Nat.le_of_ble_eq_true rfl), (Nat.le_of_ble_eq_true rfl)⟩, (Nat.le_of_ble_eq_true rfl)⟩ ki_X9_bit rfl rfl (am_tab tk_X9_dies 8 rfl) rfl ?_
    refine am_iconst (q := 20) (n := 1) (by decide) (am_tab tk_X9_dies 9 rfl) rfl ?_
    refine am_icmp_ne (q := 23) (t := 31) (am_tab tk_X9_dies 10 rfl) (by decide) rfl (fun h20 => ?_) (fun h20 => ?_)
    · refine am_aload_n (q := 32) rfl (am_tab tk_X9_dies 17 rfl) rfl ?_
      refine am_getR (q := 35) (a := 0) (k := 9) (n := 17) (j := 6) (r := some (42)) (Ls_0 hL) (by decide) rfl (Lr_0_6 hL) (by decide) (Or.inl kf_X9_48) (am_tab tk_X9_dies 18 rfl) rfl ?_
      refine am_aload_n (q := 36) rfl (am_tab tk_X9_dies 19 rfl) rfl ?_
      refine am_getR (q := 39) (a := 0) (k := 9) (n := 17) (j := 4) (r := some (32)) (Ls_0 hL) (by decide) rfl (Lr_0_4 hL) (by decide) (Or.inl kf_X9_38) (am_tab tk_X9_dies 20 rfl) rfl ?_
      refine am_callV (q := 42) (me2 := M_X2_remember) (b := 42) (kb := 2) (nb := 3) (As := [am_r 32]) (rest := []) (c_remember σ hL hP.1.1 hP.1.2 hP.2.1.1 hP.2.1.2 hP.at) (Ls_42 hL) (by decide) ⟨Or.inr km_X9_297, kc_X2_remember, kn_X2, kd_X2_remember, ⟨(Nat.le_of_ble_eq_true rfl), (Nat.le_of_ble_eq_true rfl)⟩, ⟨(Nat.le_of_ble_eq_true rfl), (Nat.le_of_ble_eq_true rfl)⟩, (Nat.le_of_ble_eq_true rfl)⟩ ki_X2_remember ks_X2_remember rfl (am_tab tk_X9_dies 21 rfl) rfl ?_
      rintro r T1 ⟨rfl, hRM⟩
      obtain ⟨hL1, hT1, hF1, ht1, hc1⟩ := hRM.keep (Or.inr rfl) hC hD hP
      have hR1 : RWr 32 T1 (fun j => σ.2.1 96 j) := hR.cells (fun a j ha => hc1 a j (by omega) (by omega))
      refine am_aload_n (q := 43) rfl (am_tab tk_X9_dies 22 rfl) rfl ?_
      refine am_getR (q := 46) (a := 0) (k := 9) (n := 17) (j := 4) (r := some (32)) (Ls_0 hL1) (by decide) rfl (Lr_0_4 hL1) (by decide) (Or.inl kf_X9_38) (am_tab tk_X9_dies 23 rfl) rfl ?_
      refine am_dup (q := 47) rfl (am_tab tk_X9_dies 24 rfl) rfl ?_
      refine am_getI (q := 50) (a := 32) (k := 1) (n := 11) (j := 4) (x := (T1.2.1 32 4)) (Ls_32 hL1) (by decide) rfl rfl (by decide) (Or.inr kf_X9_182) (am_tab tk_X9_dies 25 rfl) rfl ?_
      refine am_iconst (q := 51) (n := 1) (by decide) (am_tab tk_X9_dies 26 rfl) rfl ?_
      refine am_iload_n (q := 52) rfl (am_tab tk_X9_dies 27 rfl) rfl ?_
      refine am_ishl (q := 53) (am_tab tk_X9_dies 28 rfl) rfl ?_
      refine am_ior (q := 54) (am_tab tk_X9_dies 29 rfl) rfl ?_
      refine am_putI (q := 57) (k := 1) (n := 11) (j := 4) (Ls_32 hL1) (by decide) rfl (by decide) (Or.inr (Or.inl ⟨kf_X9_182, rfl⟩)) (am_tab tk_X9_dies 30 rfl) rfl ?_
      refine am_iconst (q := 58) (n := 1) (by decide) (am_tab tk_X9_dies 31 rfl) rfl ?_
      refine am_iret (Or.inr ⟨rfl, by first | exact Or.inl rfl | exact Or.inr rfl | omega⟩) (Nat.le_of_ble_eq_true rfl) (Nat.le_of_ble_eq_true rfl) (am_tab tk_X9_dies 32 rfl) ?_
      refine hQ _ _ ?_
      refine Or.inl ⟨⟨⟨by omega, by omega⟩, ?_⟩, rfl, T1, hRM, ?_⟩
      · rw [← e12]; exact h20
      · rw [hc1 32 4 (by omega) (by omega)]
    · have h20x : tb (σ.2.1 32 4) p = 1 := by omega
      refine am_aload_n (q := 24) rfl (am_tab tk_X9_dies 11 rfl) rfl ?_
      refine am_iconst (q := 25) (n := 3) (by decide) (am_tab tk_X9_dies 12 rfl) rfl ?_
      refine am_callV0 (q := 28) (me2 := M_X9_refuse) (b := 0) (kb := 9) (nb := 17) (As := [am_i 3]) (rest := []) (out := [am_i ((-1))]) (c_refuse σ hL 3 (by decide) hr) ⟨rfl, rfl⟩ (Ls_0 hL) (by decide) ⟨Or.inl km_X9_92, kc_X9_refuse, kn_X9, kd_X9_refuse, ⟨(Nat.le_of_ble_eq_true rfl), (Nat.le_of_ble_eq_true rfl)⟩, ⟨(Nat.le_of_ble_eq_true rfl), (Nat.le_of_ble_eq_true rfl)⟩, (Nat.le_of_ble_eq_true rfl)⟩ ki_X9_refuse ks_X9_refuse rfl rfl (am_tab tk_X9_dies 13 rfl) rfl ?_
      refine am_pop (q := 29) rfl (am_tab tk_X9_dies 14 rfl) rfl ?_
      refine am_iconst (q := 30) (n := 0) (by decide) (am_tab tk_X9_dies 15 rfl) rfl ?_
      refine am_iret (Or.inr ⟨rfl, by first | exact Or.inl rfl | exact Or.inr rfl | omega⟩) (Nat.le_of_ble_eq_true rfl) (Nat.le_of_ble_eq_true rfl) (am_tab tk_X9_dies 16 rfl) ?_
      refine hQ _ _ ?_
      refine Or.inr ⟨fun hg => ?_, rfl, rfl⟩
      have g := hg.2
      rw [← e12] at g
      exact g h20x
