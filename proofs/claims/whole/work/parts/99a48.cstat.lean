theorem c_readPerson_3 (b : Nat → Int) (E : Nat) (cv : Nat → Int) (M : Nat) (p : PZ) (σ H : am_H) (hX : RY b E cv M σ p) (hR : σ.2.2 27 2 = some 3) (n : Nat) (hn : σ.2.1 3 2 = (n : Int)) (h8 : n ≤ 8) (D : Int) (hD : σ.2.1 3 0 = D) (hP : PL 3 σ H n p) (hn8x : p.isLeft = true → n < 8)   : am_met M_X4_readPerson [am_r 27] σ (fun r σ' => r = none ∧ RY b E cv M σ' (nuF b E 0 99 (akF b E 3 (nuF b E 1 99 (akF b E 2 (pnP b E H p))))) ∧ (∀ i, p = .inl i → (nuF b E 0 99 (akF b E 3 (nuF b E 1 99 (akF b E 2 (pnP b E H p))))).isLeft = true → TRr 3 σ' (peH b E H i)) ∧ frw (W_tn 3) σ σ') := by
  refine am_qq (fun Q hQ => ?_)
  refine am_enter (show plainFor yX4_readPerson = true by decide +kernel) rfl (Nat.le_of_ble_eq_true rfl) (fun _ _ _ => trivial) ?_
  have hX0 := hX
  have hG0 := frw.refl W_rz σ
  have hTN : ∀ a j, 3 ≤ a ∧ a ≤ 3 + 7 → ¬ W_rz a j := fun a j h => by unfold W_rz; omega
  have hTm : ∀ a j, W_rz a j → W_tn 3 a j := fun a j h => Or.inr h
  refine am_aload_n (q := 1) rfl (am_tab tk_X4_readPerson 0 rfl) rfl ?_
  refine am_getI (q := 4) (a := 27) (k := 4) (n := 13) (j := 6) (x := (σ.2.1 27 6)) (Ls_27 hX.1) (by decide) rfl rfl (by decide) (Or.inl kf_X4_104) (am_tab tk_X4_readPerson 1 rfl) rfl ?_
  refine am_istore_n (q := 5) (by decide) (ls2 := [(1, am_i ((σ.2.1 27 6))), (0, am_r 27)]) rfl (am_tab tk_X4_readPerson 2 rfl) rfl ?_
  refine am_aload_n (q := 6) rfl (am_tab tk_X4_readPerson 3 rfl) rfl ?_
  refine am_getR (q := 9) (a := 27) (k := 4) (n := 13) (j := 2) (r := some (3)) (Ls_27 hX.1) (by decide) rfl hR (by decide) (Or.inl kf_X4_29) (am_tab tk_X4_readPerson 4 rfl) rfl ?_
  refine am_iload_n (q := 10) rfl (am_tab tk_X4_readPerson 5 rfl) rfl ?_
  refine am_callVr (q := 13) (me2 := M_X8_find) (b := 3) (kb := 8) (nb := 17) (As := [am_i ((σ.2.1 27 6))]) (rest := []) (c_find_3 σ hX0.1 (σ.2.1 27 6) n hn h8) ⟨rfl, rfl⟩ (Ls_3 hX.1) (by decide) ⟨Or.inr km_X4_147, kc_X8_find, kn_X8, kd_X8_find, ⟨(Nat.le_of_ble_eq_true rfl), (Nat.le_of_ble_eq_true rfl)⟩, ⟨(Nat.le_of_ble_eq_true rfl), (Nat.le_of_ble_eq_true rfl)⟩, (Nat.le_of_ble_eq_true rfl)⟩ ki_X8_find ks_X8_find rfl (am_tab tk_X4_readPerson 6 rfl) rfl ?_
  rintro r τ9 ⟨rfl, hτ9⟩
  rw [hτ9]
  rw [show firstQ (fun k => decide (σ.2.1 4 k = σ.2.1 27 6)) n = FD 3 σ n from rfl]
  refine am_iconst (q := 14) (n := (-1)) (by decide) (am_tab tk_X4_readPerson 7 rfl) rfl ?_
  refine am_icmp_ne (q := 17) (t := 21) (am_tab tk_X4_readPerson 8 rfl) (by decide) rfl (fun h14 => ?_) (fun h14 => ?_)
  · refine am_iconst (q := 22) (n := 0) (by decide) (am_tab tk_X4_readPerson 11 rfl) rfl ?_
    refine am_istore_n (q := 23) (by decide) (ls2 := [(2, am_i 0), (1, am_i ((σ.2.1 27 6))), (0, am_r 27)]) rfl (am_tab tk_X4_readPerson 12 rfl) rfl ?_
    refine am_aload_n (q := 24) rfl (am_tab tk_X4_readPerson 13 rfl) rfl ?_
    refine am_iload_n (q := 25) rfl (am_tab tk_X4_readPerson 14 rfl) rfl ?_
    refine am_callVr (q := 28) (me2 := M_X4_readName) (b := 27) (kb := 4) (nb := 13) (As := [am_i 0]) (rest := []) (c_nameZ0 hX0) ⟨rfl, rfl⟩ (Ls_27 hX.1) (by decide) ⟨Or.inl km_X4_151, kc_X4_readName, kn_X4, kd_X4_readName, ⟨(Nat.le_of_ble_eq_true rfl), (Nat.le_of_ble_eq_true rfl)⟩, ⟨(Nat.le_of_ble_eq_true rfl), (Nat.le_of_ble_eq_true rfl)⟩, (Nat.le_of_ble_eq_true rfl)⟩ ki_X4_readName ks_X4_readName rfl (am_tab tk_X4_readPerson 15 rfl) rfl ?_
    rintro r T1 ⟨rfl, hX1, hG⟩
    have hG1 := hG0.trans hG
    rw [show naG b E false (p) = pnP b E H p from (pn_F hX0 hP h14)] at hX1
    refine am_aload_n (q := 29) rfl (am_tab tk_X4_readPerson 16 rfl) rfl ?_
    refine am_aload_n (q := 30) rfl (am_tab tk_X4_readPerson 17 rfl) rfl ?_
    refine am_getI (q := 33) (a := 27) (k := 4) (n := 13) (j := 4) (x := (kdZ b E (pnP b E H p))) (Ls_27 hX1.1) (by decide) rfl hX1.kd (by decide) (Or.inl kf_X4_45) (am_tab tk_X4_readPerson 18 rfl) rfl ?_
    refine am_sipush (q := 36) (n := 130) (by decide) rfl (am_tab tk_X4_readPerson 19 rfl) rfl ?_
    refine am_icmp_ne (q := 39) (t := 43) (am_tab tk_X4_readPerson 20 rfl) (by decide) rfl (fun h36 => ?_) (fun h36 => ?_)
    · refine am_iconst (q := 44) (n := 0) (by decide) (am_tab tk_X4_readPerson 23 rfl) rfl ?_
      refine am_iconst (q := 45) (n := 1) (by decide) (am_tab tk_X4_readPerson 24 rfl) rfl ?_
      refine am_callVr (q := 48) (me2 := M_X4_pass) (b := 27) (kb := 4) (nb := 13) (As := [am_i 0, am_i 1]) (rest := []) (c_passYF hX1 1 (by decide)) ⟨rfl, rfl⟩ (Ls_27 hX1.1) (by decide) ⟨Or.inl km_X4_71, kc_X4_pass, kn_X4, kd_X4_pass, ⟨(Nat.le_of_ble_eq_true rfl), (Nat.le_of_ble_eq_true rfl)⟩, ⟨(Nat.le_of_ble_eq_true rfl), (Nat.le_of_ble_eq_true rfl)⟩, (Nat.le_of_ble_eq_true rfl)⟩ ki_X4_pass ks_X4_pass rfl (am_tab tk_X4_readPerson 25 rfl) rfl ?_
      rintro r T2 ⟨rfl, hX2, hG⟩
      have hG2 := hG1.trans hG
      rw [show ftZ b E 1 (pnP b E H p) = akF b E 2 (pnP b E H p) from ak_F h36] at hX2
      refine am_aload_n (q := 49) rfl (am_tab tk_X4_readPerson 26 rfl) rfl ?_
      refine am_iconst (q := 50) (n := 1) (by decide) (am_tab tk_X4_readPerson 27 rfl) rfl ?_
      refine am_bipush (q := 52) (n := 99) (by decide) rfl (am_tab tk_X4_readPerson 28 rfl) rfl ?_
      refine am_callVr (q := 55) (me2 := M_X4_readNumber) (b := 27) (kb := 4) (nb := 13) (As := [am_i 1, am_i 99]) (rest := []) (c_numZ hX2 1 99) ⟨rfl, rfl⟩ (Ls_27 hX2.1) (by decide) ⟨Or.inl km_X4_111, kc_X4_readNumber, kn_X4, kd_X4_readNumber, ⟨(Nat.le_of_ble_eq_true rfl), (Nat.le_of_ble_eq_true rfl)⟩, ⟨(Nat.le_of_ble_eq_true rfl), (Nat.le_of_ble_eq_true rfl)⟩, (Nat.le_of_ble_eq_true rfl)⟩ ki_X4_readNumber ks_X4_readNumber rfl (am_tab tk_X4_readPerson 29 rfl) rfl ?_
      rintro r T3 ⟨v3, rfl, hX3, hG, hv3⟩
      have hG3 := hG2.trans hG
      refine am_istore_n (q := 56) (by decide) (ls2 := [(3, am_i v3), (2, am_i 0), (1, am_i ((σ.2.1 27 6))), (0, am_r 27)]) rfl (am_tab tk_X4_readPerson 30 rfl) rfl ?_
      refine am_aload_n (q := 57) rfl (am_tab tk_X4_readPerson 31 rfl) rfl ?_
      refine am_aload_n (q := 58) rfl (am_tab tk_X4_readPerson 32 rfl) rfl ?_
      refine am_getI (q := 61) (a := 27) (k := 4) (n := 13) (j := 4) (x := (kdZ b E (nuF b E 1 99 (akF b E 2 (pnP b E H p))))) (Ls_27 hX3.1) (by decide) rfl hX3.kd (by decide) (Or.inl kf_X4_45) (am_tab tk_X4_readPerson 33 rfl) rfl ?_
      refine am_sipush (q := 64) (n := 131) (by decide) rfl (am_tab tk_X4_readPerson 34 rfl) rfl ?_
      refine am_icmp_ne (q := 67) (t := 71) (am_tab tk_X4_readPerson 35 rfl) (by decide) rfl (fun h64 => ?_) (fun h64 => ?_)
      · refine am_iconst (q := 72) (n := 0) (by decide) (am_tab tk_X4_readPerson 38 rfl) rfl ?_
        refine am_iconst (q := 73) (n := 1) (by decide) (am_tab tk_X4_readPerson 39 rfl) rfl ?_
        refine am_callVr (q := 76) (me2 := M_X4_pass) (b := 27) (kb := 4) (nb := 13) (As := [am_i 0, am_i 1]) (rest := []) (c_passYF hX3 1 (by decide)) ⟨rfl, rfl⟩ (Ls_27 hX3.1) (by decide) ⟨Or.inl km_X4_71, kc_X4_pass, kn_X4, kd_X4_pass, ⟨(Nat.le_of_ble_eq_true rfl), (Nat.le_of_ble_eq_true rfl)⟩, ⟨(Nat.le_of_ble_eq_true rfl), (Nat.le_of_ble_eq_true rfl)⟩, (Nat.le_of_ble_eq_true rfl)⟩ ki_X4_pass ks_X4_pass rfl (am_tab tk_X4_readPerson 40 rfl) rfl ?_
        rintro r T4 ⟨rfl, hX4, hG⟩
        have hG4 := hG3.trans hG
        rw [show ftZ b E 1 (nuF b E 1 99 (akF b E 2 (pnP b E H p))) = akF b E 3 (nuF b E 1 99 (akF b E 2 (pnP b E H p))) from ak_F h64] at hX4
        refine am_aload_n (q := 77) rfl (am_tab tk_X4_readPerson 41 rfl) rfl ?_
        refine am_iconst (q := 78) (n := 0) (by decide) (am_tab tk_X4_readPerson 42 rfl) rfl ?_
        refine am_bipush (q := 80) (n := 99) (by decide) rfl (am_tab tk_X4_readPerson 43 rfl) rfl ?_
        refine am_callVr (q := 83) (me2 := M_X4_readNumber) (b := 27) (kb := 4) (nb := 13) (As := [am_i 0, am_i 99]) (rest := []) (c_numZ hX4 0 99) ⟨rfl, rfl⟩ (Ls_27 hX4.1) (by decide) ⟨Or.inl km_X4_111, kc_X4_readNumber, kn_X4, kd_X4_readNumber, ⟨(Nat.le_of_ble_eq_true rfl), (Nat.le_of_ble_eq_true rfl)⟩, ⟨(Nat.le_of_ble_eq_true rfl), (Nat.le_of_ble_eq_true rfl)⟩, (Nat.le_of_ble_eq_true rfl)⟩ ki_X4_readNumber ks_X4_readNumber rfl (am_tab tk_X4_readPerson 44 rfl) rfl ?_
        rintro r T5 ⟨v5, rfl, hX5, hG, hv5⟩
        have hG5 := hG4.trans hG
        refine am_istore (q := 85) (by decide) (ls2 := [(4, am_i v5), (3, am_i v3), (2, am_i 0), (1, am_i ((σ.2.1 27 6))), (0, am_r 27)]) rfl (am_tab tk_X4_readPerson 45 rfl) rfl ?_
        refine am_aload_n (q := 86) rfl (am_tab tk_X4_readPerson 46 rfl) rfl ?_
        refine am_getI (q := 89) (a := 27) (k := 4) (n := 13) (j := 8) (x := (fkZ (nuF b E 0 99 (akF b E 3 (nuF b E 1 99 (akF b E 2 (pnP b E H p))))))) (Ls_27 hX5.1) (by decide) rfl hX5.fk (by decide) (Or.inl kf_X4_62) (am_tab tk_X4_readPerson 47 rfl) rfl ?_
        refine am_if_ne (q := 92) (t := 103) (am_tab tk_X4_readPerson 48 rfl) (by decide) rfl (fun h89 => ?_) (fun h89 => ?_)
        · refine am_vret rfl (Nat.le_of_ble_eq_true rfl) (Nat.le_of_ble_eq_true rfl) (am_tab tk_X4_readPerson 55 rfl) ?_
          refine hQ _ _ ?_
          exact ⟨rfl, hX5, fun i hi hl => absurd (hX5.fk0.mpr hl) h89, hG5.mono hTm⟩
        · have hl := hX5.fk0.mp h89
          have hl4 := nuF_l hl
          have hw5 := hv5 hl
          have hl3 := akF_l hl4
          have hw3 := hv3 hl3
          have hl2 := nuF_l hl3
          have hl1 := akF_l hl2
          have hl0 := pnP_l hl1
          have hn8 := hn8x hl0
          obtain ⟨i, hi, hk, hnm⟩ := pn_v hX0 hl1
          have hPk : TRr 3 T5 H ∧ H.2.1 85 0 = (n : Int) := by
            have := hP.fr hG5 hTN
            rw [hi] at this
            exact this
          refine am_aload_n (q := 93) rfl (am_tab tk_X4_readPerson 49 rfl) rfl ?_
          refine am_getR (q := 96) (a := 27) (k := 4) (n := 13) (j := 2) (r := some (3)) (Ls_27 hX5.1) (by decide) rfl (show T5.2.2 27 2 = some 3 by rw [hG5.2.1]; exact hR) (by decide) (Or.inl kf_X4_29) (am_tab tk_X4_readPerson 50 rfl) rfl ?_
          refine am_iload_n (q := 97) rfl (am_tab tk_X4_readPerson 51 rfl) rfl ?_
          refine am_iload_n (q := 98) rfl (am_tab tk_X4_readPerson 52 rfl) rfl ?_
          refine am_iload (q := 100) rfl (am_tab tk_X4_readPerson 53 rfl) rfl ?_
          refine am_callVr (q := 103) (me2 := M_X8_addPerson) (b := 3) (kb := 8) (nb := 17) (As := [am_i ((σ.2.1 27 6)), am_i v3, am_i v5]) (rest := []) (c_addPerson_3 T5 hX5.1 (σ.2.1 27 6) v3 v5 n ((hG5.2.2 3 2 (by unfold W_rz; omega)).trans hn) hn8) ⟨rfl, rfl⟩ (Ls_3 hX5.1) (by decide) ⟨Or.inr km_X4_155, kc_X8_addPerson, kn_X8, kd_X8_addPerson, ⟨(Nat.le_of_ble_eq_true rfl), (Nat.le_of_ble_eq_true rfl)⟩, ⟨(Nat.le_of_ble_eq_true rfl), (Nat.le_of_ble_eq_true rfl)⟩, (Nat.le_of_ble_eq_true rfl)⟩ ki_X8_addPerson ks_X8_addPerson rfl (am_tab tk_X4_readPerson 54 rfl) rfl ?_
          rintro r T9 ⟨rfl, hτ9⟩
          refine am_vret rfl (Nat.le_of_ble_eq_true rfl) (Nat.le_of_ble_eq_true rfl) (am_tab tk_X4_readPerson 55 rfl) ?_
          refine hQ _ _ ?_
          have hc9 : frw (W_tn 3) T5 T9 := by rw [hτ9]; exact ((((frw.refl (W_tn 3) T5).setN (by unfold W_tn; omega)).setN (by unfold W_tn; omega)).setN (by unfold W_tn; omega)).setN (by unfold W_tn; omega)
          have hd9 : frw (fun a _ => 3 ≤ a ∧ a ≤ 10) T5 T9 := by rw [hτ9]; exact ((((frw.refl (fun a _ => 3 ≤ a ∧ a ≤ 10) T5).setN (by omega)).setN (by omega)).setN (by omega)).setN (by omega)
          refine ⟨rfl, hX5.fr hd9 (fun a j h => by omega), fun i2 hi2 _ => ?_, (hG5.mono hTm).trans hc9⟩
          rw [hi] at hi2
          cases hi2
          have hT9 := (hPk.1.pe hPk.2 hn8 hnm v3 v5)
          rw [hτ9]
          have e1 : peH b E H i = _ := rfl
          unfold peH
          rw [hPk.2, show ((n : Int)).toNat = n by omega]
          rw [hi] at hw3 hw5
          rw [hw3, hw5] at hT9
          rw [hw3, hw5]
          exact hT9
      · refine am_iconst (q := 68) (n := 1) (by decide) (am_tab tk_X4_readPerson 36 rfl) rfl ?_
        refine am_goto (t := 72) (am_tab tk_X4_readPerson 37 rfl) (by decide) ?_
        refine am_iconst (q := 73) (n := 1) (by decide) (am_tab tk_X4_readPerson 39 rfl) rfl ?_
        refine am_callVr (q := 76) (me2 := M_X4_pass) (b := 27) (kb := 4) (nb := 13) (As := [am_i 1, am_i 1]) (rest := []) (c_passYT hX3 (by rw [h64]; decide) 1) ⟨rfl, rfl⟩ (Ls_27 hX3.1) (by decide) ⟨Or.inl km_X4_71, kc_X4_pass, kn_X4, kd_X4_pass, ⟨(Nat.le_of_ble_eq_true rfl), (Nat.le_of_ble_eq_true rfl)⟩, ⟨(Nat.le_of_ble_eq_true rfl), (Nat.le_of_ble_eq_true rfl)⟩, (Nat.le_of_ble_eq_true rfl)⟩ ki_X4_pass ks_X4_pass rfl (am_tab tk_X4_readPerson 40 rfl) rfl ?_
        rintro r T4 ⟨rfl, hX4, hG⟩
        have hG4 := hG3.trans hG
        rw [show npZ (nuF b E 1 99 (akF b E 2 (pnP b E H p))) = akF b E 3 (nuF b E 1 99 (akF b E 2 (pnP b E H p))) from ak_T h64] at hX4
        refine am_aload_n (q := 77) rfl (am_tab tk_X4_readPerson 41 rfl) rfl ?_
        refine am_iconst (q := 78) (n := 0) (by decide) (am_tab tk_X4_readPerson 42 rfl) rfl ?_
        refine am_bipush (q := 80) (n := 99) (by decide) rfl (am_tab tk_X4_readPerson 43 rfl) rfl ?_
        refine am_callVr (q := 83) (me2 := M_X4_readNumber) (b := 27) (kb := 4) (nb := 13) (As := [am_i 0, am_i 99]) (rest := []) (c_numZ hX4 0 99) ⟨rfl, rfl⟩ (Ls_27 hX4.1) (by decide) ⟨Or.inl km_X4_111, kc_X4_readNumber, kn_X4, kd_X4_readNumber, ⟨(Nat.le_of_ble_eq_true rfl), (Nat.le_of_ble_eq_true rfl)⟩, ⟨(Nat.le_of_ble_eq_true rfl), (Nat.le_of_ble_eq_true rfl)⟩, (Nat.le_of_ble_eq_true rfl)⟩ ki_X4_readNumber ks_X4_readNumber rfl (am_tab tk_X4_readPerson 44 rfl) rfl ?_
        rintro r T5 ⟨v5, rfl, hX5, hG, hv5⟩
        have hG5 := hG4.trans hG
        refine am_istore (q := 85) (by decide) (ls2 := [(4, am_i v5), (3, am_i v3), (2, am_i 0), (1, am_i ((σ.2.1 27 6))), (0, am_r 27)]) rfl (am_tab tk_X4_readPerson 45 rfl) rfl ?_
        refine am_aload_n (q := 86) rfl (am_tab tk_X4_readPerson 46 rfl) rfl ?_
        refine am_getI (q := 89) (a := 27) (k := 4) (n := 13) (j := 8) (x := (fkZ (nuF b E 0 99 (akF b E 3 (nuF b E 1 99 (akF b E 2 (pnP b E H p))))))) (Ls_27 hX5.1) (by decide) rfl hX5.fk (by decide) (Or.inl kf_X4_62) (am_tab tk_X4_readPerson 47 rfl) rfl ?_
        refine am_if_ne (q := 92) (t := 103) (am_tab tk_X4_readPerson 48 rfl) (by decide) rfl (fun h89 => ?_) (fun h89 => ?_)
        · refine am_vret rfl (Nat.le_of_ble_eq_true rfl) (Nat.le_of_ble_eq_true rfl) (am_tab tk_X4_readPerson 55 rfl) ?_
          refine hQ _ _ ?_
          exact ⟨rfl, hX5, fun i hi hl => absurd (hX5.fk0.mpr hl) h89, hG5.mono hTm⟩
        · have hl := hX5.fk0.mp h89
          have hl4 := nuF_l hl
          have hw5 := hv5 hl
          have hl3 := akF_l hl4
          have hw3 := hv3 hl3
          have hl2 := nuF_l hl3
          have hl1 := akF_l hl2
          have hl0 := pnP_l hl1
          have hn8 := hn8x hl0
          obtain ⟨i, hi, hk, hnm⟩ := pn_v hX0 hl1
          have hPk : TRr 3 T5 H ∧ H.2.1 85 0 = (n : Int) := by
            have := hP.fr hG5 hTN
            rw [hi] at this
            exact this
          refine am_aload_n (q := 93) rfl (am_tab tk_X4_readPerson 49 rfl) rfl ?_
          refine am_getR (q := 96) (a := 27) (k := 4) (n := 13) (j := 2) (r := some (3)) (Ls_27 hX5.1) (by decide) rfl (show T5.2.2 27 2 = some 3 by rw [hG5.2.1]; exact hR) (by decide) (Or.inl kf_X4_29) (am_tab tk_X4_readPerson 50 rfl) rfl ?_
          refine am_iload_n (q := 97) rfl (am_tab tk_X4_readPerson 51 rfl) rfl ?_
          refine am_iload_n (q := 98) rfl (am_tab tk_X4_readPerson 52 rfl) rfl ?_
          refine am_iload (q := 100) rfl (am_tab tk_X4_readPerson 53 rfl) rfl ?_
          refine am_callVr (q := 103) (me2 := M_X8_addPerson) (b := 3) (kb := 8) (nb := 17) (As := [am_i ((σ.2.1 27 6)), am_i v3, am_i v5]) (rest := []) (c_addPerson_3 T5 hX5.1 (σ.2.1 27 6) v3 v5 n ((hG5.2.2 3 2 (by unfold W_rz; omega)).trans hn) hn8) ⟨rfl, rfl⟩ (Ls_3 hX5.1) (by decide) ⟨Or.inr km_X4_155, kc_X8_addPerson, kn_X8, kd_X8_addPerson, ⟨(Nat.le_of_ble_eq_true rfl), (Nat.le_of_ble_eq_true rfl)⟩, ⟨(Nat.le_of_ble_eq_true rfl), (Nat.le_of_ble_eq_true rfl)⟩, (Nat.le_of_ble_eq_true rfl)⟩ ki_X8_addPerson ks_X8_addPerson rfl (am_tab tk_X4_readPerson 54 rfl) rfl ?_
          rintro r T9 ⟨rfl, hτ9⟩
          refine am_vret rfl (Nat.le_of_ble_eq_true rfl) (Nat.le_of_ble_eq_true rfl) (am_tab tk_X4_readPerson 55 rfl) ?_
          refine hQ _ _ ?_
          have hc9 : frw (W_tn 3) T5 T9 := by rw [hτ9]; exact ((((frw.refl (W_tn 3) T5).setN (by unfold W_tn; omega)).setN (by unfold W_tn; omega)).setN (by unfold W_tn; omega)).setN (by unfold W_tn; omega)
          have hd9 : frw (fun a _ => 3 ≤ a ∧ a ≤ 10) T5 T9 := by rw [hτ9]; exact ((((frw.refl (fun a _ => 3 ≤ a ∧ a ≤ 10) T5).setN (by omega)).setN (by omega)).setN (by omega)).setN (by omega)
          refine ⟨rfl, hX5.fr hd9 (fun a j h => by omega), fun i2 hi2 _ => ?_, (hG5.mono hTm).trans hc9⟩
          rw [hi] at hi2
          cases hi2
          have hT9 := (hPk.1.pe hPk.2 hn8 hnm v3 v5)
          rw [hτ9]
          have e1 : peH b E H i = _ := rfl
          unfold peH
          rw [hPk.2, show ((n : Int)).toNat = n by omega]
          rw [hi] at hw3 hw5
          rw [hw3, hw5] at hT9
          rw [hw3, hw5]
          exact hT9
    · refine am_iconst (q := 40) (n := 1) (by decide) (am_tab tk_X4_readPerson 21 rfl) rfl ?_
      refine am_goto (t := 44) (am_tab tk_X4_readPerson 22 rfl) (by decide) ?_
      refine am_iconst (q := 45) (n := 1) (by decide) (am_tab tk_X4_readPerson 24 rfl) rfl ?_
      refine am_callVr (q := 48) (me2 := M_X4_pass) (b := 27) (kb := 4) (nb := 13) (As := [am_i 1, am_i 1]) (rest := []) (c_passYT hX1 (by rw [h36]; decide) 1) ⟨rfl, rfl⟩ (Ls_27 hX1.1) (by decide) ⟨Or.inl km_X4_71, kc_X4_pass, kn_X4, kd_X4_pass, ⟨(Nat.le_of_ble_eq_true rfl), (Nat.le_of_ble_eq_true rfl)⟩, ⟨(Nat.le_of_ble_eq_true rfl), (Nat.le_of_ble_eq_true rfl)⟩, (Nat.le_of_ble_eq_true rfl)⟩ ki_X4_pass ks_X4_pass rfl (am_tab tk_X4_readPerson 25 rfl) rfl ?_
      rintro r T2 ⟨rfl, hX2, hG⟩
      have hG2 := hG1.trans hG
      rw [show npZ (pnP b E H p) = akF b E 2 (pnP b E H p) from ak_T h36] at hX2
      refine am_aload_n (q := 49) rfl (am_tab tk_X4_readPerson 26 rfl) rfl ?_
      refine am_iconst (q := 50) (n := 1) (by decide) (am_tab tk_X4_readPerson 27 rfl) rfl ?_
      refine am_bipush (q := 52) (n := 99) (by decide) rfl (am_tab tk_X4_readPerson 28 rfl) rfl ?_
      refine am_callVr (q := 55) (me2 := M_X4_readNumber) (b := 27) (kb := 4) (nb := 13) (As := [am_i 1, am_i 99]) (rest := []) (c_numZ hX2 1 99) ⟨rfl, rfl⟩ (Ls_27 hX2.1) (by decide) ⟨Or.inl km_X4_111, kc_X4_readNumber, kn_X4, kd_X4_readNumber, ⟨(Nat.le_of_ble_eq_true rfl), (Nat.le_of_ble_eq_true rfl)⟩, ⟨(Nat.le_of_ble_eq_true rfl), (Nat.le_of_ble_eq_true rfl)⟩, (Nat.le_of_ble_eq_true rfl)⟩ ki_X4_readNumber ks_X4_readNumber rfl (am_tab tk_X4_readPerson 29 rfl) rfl ?_
      rintro r T3 ⟨v3, rfl, hX3, hG, hv3⟩
      have hG3 := hG2.trans hG
      refine am_istore_n (q := 56) (by decide) (ls2 := [(3, am_i v3), (2, am_i 0), (1, am_i ((σ.2.1 27 6))), (0, am_r 27)]) rfl (am_tab tk_X4_readPerson 30 rfl) rfl ?_
      refine am_aload_n (q := 57) rfl (am_tab tk_X4_readPerson 31 rfl) rfl ?_
      refine am_aload_n (q := 58) rfl (am_tab tk_X4_readPerson 32 rfl) rfl ?_
      refine am_getI (q := 61) (a := 27) (k := 4) (n := 13) (j := 4) (x := (kdZ b E (nuF b E 1 99 (akF b E 2 (pnP b E H p))))) (Ls_27 hX3.1) (by decide) rfl hX3.kd (by decide) (Or.inl kf_X4_45) (am_tab tk_X4_readPerson 33 rfl) rfl ?_
      refine am_sipush (q := 64) (n := 131) (by decide) rfl (am_tab tk_X4_readPerson 34 rfl) rfl ?_
      refine am_icmp_ne (q := 67) (t := 71) (am_tab tk_X4_readPerson 35 rfl) (by decide) rfl (fun h64 => ?_) (fun h64 => ?_)
      · refine am_iconst (q := 72) (n := 0) (by decide) (am_tab tk_X4_readPerson 38 rfl) rfl ?_
        refine am_iconst (q := 73) (n := 1) (by decide) (am_tab tk_X4_readPerson 39 rfl) rfl ?_
        refine am_callVr (q := 76) (me2 := M_X4_pass) (b := 27) (kb := 4) (nb := 13) (As := [am_i 0, am_i 1]) (rest := []) (c_passYF hX3 1 (by decide)) ⟨rfl, rfl⟩ (Ls_27 hX3.1) (by decide) ⟨Or.inl km_X4_71, kc_X4_pass, kn_X4, kd_X4_pass, ⟨(Nat.le_of_ble_eq_true rfl), (Nat.le_of_ble_eq_true rfl)⟩, ⟨(Nat.le_of_ble_eq_true rfl), (Nat.le_of_ble_eq_true rfl)⟩, (Nat.le_of_ble_eq_true rfl)⟩ ki_X4_pass ks_X4_pass rfl (am_tab tk_X4_readPerson 40 rfl) rfl ?_
        rintro r T4 ⟨rfl, hX4, hG⟩
        have hG4 := hG3.trans hG
        rw [show ftZ b E 1 (nuF b E 1 99 (akF b E 2 (pnP b E H p))) = akF b E 3 (nuF b E 1 99 (akF b E 2 (pnP b E H p))) from ak_F h64] at hX4
        refine am_aload_n (q := 77) rfl (am_tab tk_X4_readPerson 41 rfl) rfl ?_
        refine am_iconst (q := 78) (n := 0) (by decide) (am_tab tk_X4_readPerson 42 rfl) rfl ?_
        refine am_bipush (q := 80) (n := 99) (by decide) rfl (am_tab tk_X4_readPerson 43 rfl) rfl ?_
        refine am_callVr (q := 83) (me2 := M_X4_readNumber) (b := 27) (kb := 4) (nb := 13) (As := [am_i 0, am_i 99]) (rest := []) (c_numZ hX4 0 99) ⟨rfl, rfl⟩ (Ls_27 hX4.1) (by decide) ⟨Or.inl km_X4_111, kc_X4_readNumber, kn_X4, kd_X4_readNumber, ⟨(Nat.le_of_ble_eq_true rfl), (Nat.le_of_ble_eq_true rfl)⟩, ⟨(Nat.le_of_ble_eq_true rfl), (Nat.le_of_ble_eq_true rfl)⟩, (Nat.le_of_ble_eq_true rfl)⟩ ki_X4_readNumber ks_X4_readNumber rfl (am_tab tk_X4_readPerson 44 rfl) rfl ?_
        rintro r T5 ⟨v5, rfl, hX5, hG, hv5⟩
        have hG5 := hG4.trans hG
        refine am_istore (q := 85) (by decide) (ls2 := [(4, am_i v5), (3, am_i v3), (2, am_i 0), (1, am_i ((σ.2.1 27 6))), (0, am_r 27)]) rfl (am_tab tk_X4_readPerson 45 rfl) rfl ?_
        refine am_aload_n (q := 86) rfl (am_tab tk_X4_readPerson 46 rfl) rfl ?_
        refine am_getI (q := 89) (a := 27) (k := 4) (n := 13) (j := 8) (x := (fkZ (nuF b E 0 99 (akF b E 3 (nuF b E 1 99 (akF b E 2 (pnP b E H p))))))) (Ls_27 hX5.1) (by decide) rfl hX5.fk (by decide) (Or.inl kf_X4_62) (am_tab tk_X4_readPerson 47 rfl) rfl ?_
        refine am_if_ne (q := 92) (t := 103) (am_tab tk_X4_readPerson 48 rfl) (by decide) rfl (fun h89 => ?_) (fun h89 => ?_)
        · refine am_vret rfl (Nat.le_of_ble_eq_true rfl) (Nat.le_of_ble_eq_true rfl) (am_tab tk_X4_readPerson 55 rfl) ?_
          refine hQ _ _ ?_
          exact ⟨rfl, hX5, fun i hi hl => absurd (hX5.fk0.mpr hl) h89, hG5.mono hTm⟩
        · have hl := hX5.fk0.mp h89
          have hl4 := nuF_l hl
          have hw5 := hv5 hl
          have hl3 := akF_l hl4
          have hw3 := hv3 hl3
          have hl2 := nuF_l hl3
          have hl1 := akF_l hl2
          have hl0 := pnP_l hl1
          have hn8 := hn8x hl0
          obtain ⟨i, hi, hk, hnm⟩ := pn_v hX0 hl1
          have hPk : TRr 3 T5 H ∧ H.2.1 85 0 = (n : Int) := by
            have := hP.fr hG5 hTN
            rw [hi] at this
            exact this
          refine am_aload_n (q := 93) rfl (am_tab tk_X4_readPerson 49 rfl) rfl ?_
          refine am_getR (q := 96) (a := 27) (k := 4) (n := 13) (j := 2) (r := some (3)) (Ls_27 hX5.1) (by decide) rfl (show T5.2.2 27 2 = some 3 by rw [hG5.2.1]; exact hR) (by decide) (Or.inl kf_X4_29) (am_tab tk_X4_readPerson 50 rfl) rfl ?_
          refine am_iload_n (q := 97) rfl (am_tab tk_X4_readPerson 51 rfl) rfl ?_
          refine am_iload_n (q := 98) rfl (am_tab tk_X4_readPerson 52 rfl) rfl ?_
          refine am_iload (q := 100) rfl (am_tab tk_X4_readPerson 53 rfl) rfl ?_
          refine am_callVr (q := 103) (me2 := M_X8_addPerson) (b := 3) (kb := 8) (nb := 17) (As := [am_i ((σ.2.1 27 6)), am_i v3, am_i v5]) (rest := []) (c_addPerson_3 T5 hX5.1 (σ.2.1 27 6) v3 v5 n ((hG5.2.2 3 2 (by unfold W_rz; omega)).trans hn) hn8) ⟨rfl, rfl⟩ (Ls_3 hX5.1) (by decide) ⟨Or.inr km_X4_155, kc_X8_addPerson, kn_X8, kd_X8_addPerson, ⟨(Nat.le_of_ble_eq_true rfl), (Nat.le_of_ble_eq_true rfl)⟩, ⟨(Nat.le_of_ble_eq_true rfl), (Nat.le_of_ble_eq_true rfl)⟩, (Nat.le_of_ble_eq_true rfl)⟩ ki_X8_addPerson ks_X8_addPerson rfl (am_tab tk_X4_readPerson 54 rfl) rfl ?_
          rintro r T9 ⟨rfl, hτ9⟩
          refine am_vret rfl (Nat.le_of_ble_eq_true rfl) (Nat.le_of_ble_eq_true rfl) (am_tab tk_X4_readPerson 55 rfl) ?_
          refine hQ _ _ ?_
          have hc9 : frw (W_tn 3) T5 T9 := by rw [hτ9]; exact ((((frw.refl (W_tn 3) T5).setN (by unfold W_tn; omega)).setN (by unfold W_tn; omega)).setN (by unfold W_tn; omega)).setN (by unfold W_tn; omega)
          have hd9 : frw (fun a _ => 3 ≤ a ∧ a ≤ 10) T5 T9 := by rw [hτ9]; exact ((((frw.refl (fun a _ => 3 ≤ a ∧ a ≤ 10) T5).setN (by omega)).setN (by omega)).setN (by omega)).setN (by omega)
          refine ⟨rfl, hX5.fr hd9 (fun a j h => by omega), fun i2 hi2 _ => ?_, (hG5.mono hTm).trans hc9⟩
          rw [hi] at hi2
          cases hi2
          have hT9 := (hPk.1.pe hPk.2 hn8 hnm v3 v5)
          rw [hτ9]
          have e1 : peH b E H i = _ := rfl
          unfold peH
          rw [hPk.2, show ((n : Int)).toNat = n by omega]
          rw [hi] at hw3 hw5
          rw [hw3, hw5] at hT9
          rw [hw3, hw5]
          exact hT9
      · refine am_iconst (q := 68) (n := 1) (by decide) (am_tab tk_X4_readPerson 36 rfl) rfl ?_
        refine am_goto (t := 72) (am_tab tk_X4_readPerson 37 rfl) (by decide) ?_
        refine am_iconst (q := 73) (n := 1) (by decide) (am_tab tk_X4_readPerson 39 rfl) rfl ?_
        refine am_callVr (q := 76) (me2 := M_X4_pass) (b := 27) (kb := 4) (nb := 13) (As := [am_i 1, am_i 1]) (rest := []) (c_passYT hX3 (by rw [h64]; decide) 1) ⟨rfl, rfl⟩ (Ls_27 hX3.1) (by decide) ⟨Or.inl km_X4_71, kc_X4_pass, kn_X4, kd_X4_pass, ⟨(Nat.le_of_ble_eq_true rfl), (Nat.le_of_ble_eq_true rfl)⟩, ⟨(Nat.le_of_ble_eq_true rfl), (Nat.le_of_ble_eq_true rfl)⟩, (Nat.le_of_ble_eq_true rfl)⟩ ki_X4_pass ks_X4_pass rfl (am_tab tk_X4_readPerson 40 rfl) rfl ?_
        rintro r T4 ⟨rfl, hX4, hG⟩
        have hG4 := hG3.trans hG
        rw [show npZ (nuF b E 1 99 (akF b E 2 (pnP b E H p))) = akF b E 3 (nuF b E 1 99 (akF b E 2 (pnP b E H p))) from ak_T h64] at hX4
        refine am_aload_n (q := 77) rfl (am_tab tk_X4_readPerson 41 rfl) rfl ?_
        refine am_iconst (q := 78) (n := 0) (by decide) (am_tab tk_X4_readPerson 42 rfl) rfl ?_
        refine am_bipush (q := 80) (n := 99) (by decide) rfl (am_tab tk_X4_readPerson 43 rfl) rfl ?_
        refine am_callVr (q := 83) (me2 := M_X4_readNumber) (b := 27) (kb := 4) (nb := 13) (As := [am_i 0, am_i 99]) (rest := []) (c_numZ hX4 0 99) ⟨rfl, rfl⟩ (Ls_27 hX4.1) (by decide) ⟨Or.inl km_X4_111, kc_X4_readNumber, kn_X4, kd_X4_readNumber, ⟨(Nat.le_of_ble_eq_true rfl), (Nat.le_of_ble_eq_true rfl)⟩, ⟨(Nat.le_of_ble_eq_true rfl), (Nat.le_of_ble_eq_true rfl)⟩, (Nat.le_of_ble_eq_true rfl)⟩ ki_X4_readNumber ks_X4_readNumber rfl (am_tab tk_X4_readPerson 44 rfl) rfl ?_
        rintro r T5 ⟨v5, rfl, hX5, hG, hv5⟩
        have hG5 := hG4.trans hG
        refine am_istore (q := 85) (by decide) (ls2 := [(4, am_i v5), (3, am_i v3), (2, am_i 0), (1, am_i ((σ.2.1 27 6))), (0, am_r 27)]) rfl (am_tab tk_X4_readPerson 45 rfl) rfl ?_
        refine am_aload_n (q := 86) rfl (am_tab tk_X4_readPerson 46 rfl) rfl ?_
        refine am_getI (q := 89) (a := 27) (k := 4) (n := 13) (j := 8) (x := (fkZ (nuF b E 0 99 (akF b E 3 (nuF b E 1 99 (akF b E 2 (pnP b E H p))))))) (Ls_27 hX5.1) (by decide) rfl hX5.fk (by decide) (Or.inl kf_X4_62) (am_tab tk_X4_readPerson 47 rfl) rfl ?_
        refine am_if_ne (q := 92) (t := 103) (am_tab tk_X4_readPerson 48 rfl) (by decide) rfl (fun h89 => ?_) (fun h89 => ?_)
        · refine am_vret rfl (Nat.le_of_ble_eq_true rfl) (Nat.le_of_ble_eq_true rfl) (am_tab tk_X4_readPerson 55 rfl) ?_
          refine hQ _ _ ?_
          exact ⟨rfl, hX5, fun i hi hl => absurd (hX5.fk0.mpr hl) h89, hG5.mono hTm⟩
        · have hl := hX5.fk0.mp h89
          have hl4 := nuF_l hl
          have hw5 := hv5 hl
          have hl3 := akF_l hl4
          have hw3 := hv3 hl3
          have hl2 := nuF_l hl3
          have hl1 := akF_l hl2
          have hl0 := pnP_l hl1
          have hn8 := hn8x hl0
          obtain ⟨i, hi, hk, hnm⟩ := pn_v hX0 hl1
          have hPk : TRr 3 T5 H ∧ H.2.1 85 0 = (n : Int) := by
            have := hP.fr hG5 hTN
            rw [hi] at this
            exact this
          refine am_aload_n (q := 93) rfl (am_tab tk_X4_readPerson 49 rfl) rfl ?_
          refine am_getR (q := 96) (a := 27) (k := 4) (n := 13) (j := 2) (r := some (3)) (Ls_27 hX5.1) (by decide) rfl (show T5.2.2 27 2 = some 3 by rw [hG5.2.1]; exact hR) (by decide) (Or.inl kf_X4_29) (am_tab tk_X4_readPerson 50 rfl) rfl ?_
          refine am_iload_n (q := 97) rfl (am_tab tk_X4_readPerson 51 rfl) rfl ?_
          refine am_iload_n (q := 98) rfl (am_tab tk_X4_readPerson 52 rfl) rfl ?_
          refine am_iload (q := 100) rfl (am_tab tk_X4_readPerson 53 rfl) rfl ?_
          refine am_callVr (q := 103) (me2 := M_X8_addPerson) (b := 3) (kb := 8) (nb := 17) (As := [am_i ((σ.2.1 27 6)), am_i v3, am_i v5]) (rest := []) (c_addPerson_3 T5 hX5.1 (σ.2.1 27 6) v3 v5 n ((hG5.2.2 3 2 (by unfold W_rz; omega)).trans hn) hn8) ⟨rfl, rfl⟩ (Ls_3 hX5.1) (by decide) ⟨Or.inr km_X4_155, kc_X8_addPerson, kn_X8, kd_X8_addPerson, ⟨(Nat.le_of_ble_eq_true rfl), (Nat.le_of_ble_eq_true rfl)⟩, ⟨(Nat.le_of_ble_eq_true rfl), (Nat.le_of_ble_eq_true rfl)⟩, (Nat.le_of_ble_eq_true rfl)⟩ ki_X8_addPerson ks_X8_addPerson rfl (am_tab tk_X4_readPerson 54 rfl) rfl ?_
          rintro r T9 ⟨rfl, hτ9⟩
          refine am_vret rfl (Nat.le_of_ble_eq_true rfl) (Nat.le_of_ble_eq_true rfl) (am_tab tk_X4_readPerson 55 rfl) ?_
          refine hQ _ _ ?_
          have hc9 : frw (W_tn 3) T5 T9 := by rw [hτ9]; exact ((((frw.refl (W_tn 3) T5).setN (by unfold W_tn; omega)).setN (by unfold W_tn; omega)).setN (by unfold W_tn; omega)).setN (by unfold W_tn; omega)
          have hd9 : frw (fun a _ => 3 ≤ a ∧ a ≤ 10) T5 T9 := by rw [hτ9]; exact ((((frw.refl (fun a _ => 3 ≤ a ∧ a ≤ 10) T5).setN (by omega)).setN (by omega)).setN (by omega)).setN (by omega)
          refine ⟨rfl, hX5.fr hd9 (fun a j h => by omega), fun i2 hi2 _ => ?_, (hG5.mono hTm).trans hc9⟩
          rw [hi] at hi2
          cases hi2
          have hT9 := (hPk.1.pe hPk.2 hn8 hnm v3 v5)
          rw [hτ9]
          have e1 : peH b E H i = _ := rfl
          unfold peH
          rw [hPk.2, show ((n : Int)).toNat = n by omega]
          rw [hi] at hw3 hw5
          rw [hw3, hw5] at hT9
          rw [hw3, hw5]
          exact hT9
  · refine am_iconst (q := 18) (n := 1) (by decide) (am_tab tk_X4_readPerson 9 rfl) rfl ?_
    refine am_goto (t := 22) (am_tab tk_X4_readPerson 10 rfl) (by decide) ?_
    refine am_istore_n (q := 23) (by decide) (ls2 := [(2, am_i 1), (1, am_i ((σ.2.1 27 6))), (0, am_r 27)]) rfl (am_tab tk_X4_readPerson 12 rfl) rfl ?_
    refine am_aload_n (q := 24) rfl (am_tab tk_X4_readPerson 13 rfl) rfl ?_
    refine am_iload_n (q := 25) rfl (am_tab tk_X4_readPerson 14 rfl) rfl ?_
    refine am_callVr (q := 28) (me2 := M_X4_readName) (b := 27) (kb := 4) (nb := 13) (As := [am_i 1]) (rest := []) (c_nameZ1 hX0) ⟨rfl, rfl⟩ (Ls_27 hX.1) (by decide) ⟨Or.inl km_X4_151, kc_X4_readName, kn_X4, kd_X4_readName, ⟨(Nat.le_of_ble_eq_true rfl), (Nat.le_of_ble_eq_true rfl)⟩, ⟨(Nat.le_of_ble_eq_true rfl), (Nat.le_of_ble_eq_true rfl)⟩, (Nat.le_of_ble_eq_true rfl)⟩ ki_X4_readName ks_X4_readName rfl (am_tab tk_X4_readPerson 15 rfl) rfl ?_
    rintro r T1 ⟨rfl, hX1, hG⟩
    have hG1 := hG0.trans hG
    rw [show naG b E true (p) = pnP b E H p from (pn_T hX0 hP h14)] at hX1
    refine am_aload_n (q := 29) rfl (am_tab tk_X4_readPerson 16 rfl) rfl ?_
    refine am_aload_n (q := 30) rfl (am_tab tk_X4_readPerson 17 rfl) rfl ?_
    refine am_getI (q := 33) (a := 27) (k := 4) (n := 13) (j := 4) (x := (kdZ b E (pnP b E H p))) (Ls_27 hX1.1) (by decide) rfl hX1.kd (by decide) (Or.inl kf_X4_45) (am_tab tk_X4_readPerson 18 rfl) rfl ?_
    refine am_sipush (q := 36) (n := 130) (by decide) rfl (am_tab tk_X4_readPerson 19 rfl) rfl ?_
    refine am_icmp_ne (q := 39) (t := 43) (am_tab tk_X4_readPerson 20 rfl) (by decide) rfl (fun h36 => ?_) (fun h36 => ?_)
    · refine am_iconst (q := 44) (n := 0) (by decide) (am_tab tk_X4_readPerson 23 rfl) rfl ?_
      refine am_iconst (q := 45) (n := 1) (by decide) (am_tab tk_X4_readPerson 24 rfl) rfl ?_
      refine am_callVr (q := 48) (me2 := M_X4_pass) (b := 27) (kb := 4) (nb := 13) (As := [am_i 0, am_i 1]) (rest := []) (c_passYF hX1 1 (by decide)) ⟨rfl, rfl⟩ (Ls_27 hX1.1) (by decide) ⟨Or.inl km_X4_71, kc_X4_pass, kn_X4, kd_X4_pass, ⟨(Nat.le_of_ble_eq_true rfl), (Nat.le_of_ble_eq_true rfl)⟩, ⟨(Nat.le_of_ble_eq_true rfl), (Nat.le_of_ble_eq_true rfl)⟩, (Nat.le_of_ble_eq_true rfl)⟩ ki_X4_pass ks_X4_pass rfl (am_tab tk_X4_readPerson 25 rfl) rfl ?_
      rintro r T2 ⟨rfl, hX2, hG⟩
      have hG2 := hG1.trans hG
      rw [show ftZ b E 1 (pnP b E H p) = akF b E 2 (pnP b E H p) from ak_F h36] at hX2
      refine am_aload_n (q := 49) rfl (am_tab tk_X4_readPerson 26 rfl) rfl ?_
      refine am_iconst (q := 50) (n := 1) (by decide) (am_tab tk_X4_readPerson 27 rfl) rfl ?_
      refine am_bipush (q := 52) (n := 99) (by decide) rfl (am_tab tk_X4_readPerson 28 rfl) rfl ?_
      refine am_callVr (q := 55) (me2 := M_X4_readNumber) (b := 27) (kb := 4) (nb := 13) (As := [am_i 1, am_i 99]) (rest := []) (c_numZ hX2 1 99) ⟨rfl, rfl⟩ (Ls_27 hX2.1) (by decide) ⟨Or.inl km_X4_111, kc_X4_readNumber, kn_X4, kd_X4_readNumber, ⟨(Nat.le_of_ble_eq_true rfl), (Nat.le_of_ble_eq_true rfl)⟩, ⟨(Nat.le_of_ble_eq_true rfl), (Nat.le_of_ble_eq_true rfl)⟩, (Nat.le_of_ble_eq_true rfl)⟩ ki_X4_readNumber ks_X4_readNumber rfl (am_tab tk_X4_readPerson 29 rfl) rfl ?_
      rintro r T3 ⟨v3, rfl, hX3, hG, hv3⟩
      have hG3 := hG2.trans hG
      refine am_istore_n (q := 56) (by decide) (ls2 := [(3, am_i v3), (2, am_i 1), (1, am_i ((σ.2.1 27 6))), (0, am_r 27)]) rfl (am_tab tk_X4_readPerson 30 rfl) rfl ?_
      refine am_aload_n (q := 57) rfl (am_tab tk_X4_readPerson 31 rfl) rfl ?_
      refine am_aload_n (q := 58) rfl (am_tab tk_X4_readPerson 32 rfl) rfl ?_
      refine am_getI (q := 61) (a := 27) (k := 4) (n := 13) (j := 4) (x := (kdZ b E (nuF b E 1 99 (akF b E 2 (pnP b E H p))))) (Ls_27 hX3.1) (by decide) rfl hX3.kd (by decide) (Or.inl kf_X4_45) (am_tab tk_X4_readPerson 33 rfl) rfl ?_
      refine am_sipush (q := 64) (n := 131) (by decide) rfl (am_tab tk_X4_readPerson 34 rfl) rfl ?_
      refine am_icmp_ne (q := 67) (t := 71) (am_tab tk_X4_readPerson 35 rfl) (by decide) rfl (fun h64 => ?_) (fun h64 => ?_)
      · refine am_iconst (q := 72) (n := 0) (by decide) (am_tab tk_X4_readPerson 38 rfl) rfl ?_
        refine am_iconst (q := 73) (n := 1) (by decide) (am_tab tk_X4_readPerson 39 rfl) rfl ?_
        refine am_callVr (q := 76) (me2 := M_X4_pass) (b := 27) (kb := 4) (nb := 13) (As := [am_i 0, am_i 1]) (rest := []) (c_passYF hX3 1 (by decide)) ⟨rfl, rfl⟩ (Ls_27 hX3.1) (by decide) ⟨Or.inl km_X4_71, kc_X4_pass, kn_X4, kd_X4_pass, ⟨(Nat.le_of_ble_eq_true rfl), (Nat.le_of_ble_eq_true rfl)⟩, ⟨(Nat.le_of_ble_eq_true rfl), (Nat.le_of_ble_eq_true rfl)⟩, (Nat.le_of_ble_eq_true rfl)⟩ ki_X4_pass ks_X4_pass rfl (am_tab tk_X4_readPerson 40 rfl) rfl ?_
        rintro r T4 ⟨rfl, hX4, hG⟩
        have hG4 := hG3.trans hG
        rw [show ftZ b E 1 (nuF b E 1 99 (akF b E 2 (pnP b E H p))) = akF b E 3 (nuF b E 1 99 (akF b E 2 (pnP b E H p))) from ak_F h64] at hX4
        refine am_aload_n (q := 77) rfl (am_tab tk_X4_readPerson 41 rfl) rfl ?_
        refine am_iconst (q := 78) (n := 0) (by decide) (am_tab tk_X4_readPerson 42 rfl) rfl ?_
        refine am_bipush (q := 80) (n := 99) (by decide) rfl (am_tab tk_X4_readPerson 43 rfl) rfl ?_
        refine am_callVr (q := 83) (me2 := M_X4_readNumber) (b := 27) (kb := 4) (nb := 13) (As := [am_i 0, am_i 99]) (rest := []) (c_numZ hX4 0 99) ⟨rfl, rfl⟩ (Ls_27 hX4.1) (by decide) ⟨Or.inl km_X4_111, kc_X4_readNumber, kn_X4, kd_X4_readNumber, ⟨(Nat.le_of_ble_eq_true rfl), (Nat.le_of_ble_eq_true rfl)⟩, ⟨(Nat.le_of_ble_eq_true rfl), (Nat.le_of_ble_eq_true rfl)⟩, (Nat.le_of_ble_eq_true rfl)⟩ ki_X4_readNumber ks_X4_readNumber rfl (am_tab tk_X4_readPerson 44 rfl) rfl ?_
        rintro r T5 ⟨v5, rfl, hX5, hG, hv5⟩
        have hG5 := hG4.trans hG
        refine am_istore (q := 85) (by decide) (ls2 := [(4, am_i v5), (3, am_i v3), (2, am_i 1), (1, am_i ((σ.2.1 27 6))), (0, am_r 27)]) rfl (am_tab tk_X4_readPerson 45 rfl) rfl ?_
        refine am_aload_n (q := 86) rfl (am_tab tk_X4_readPerson 46 rfl) rfl ?_
        refine am_getI (q := 89) (a := 27) (k := 4) (n := 13) (j := 8) (x := (fkZ (nuF b E 0 99 (akF b E 3 (nuF b E 1 99 (akF b E 2 (pnP b E H p))))))) (Ls_27 hX5.1) (by decide) rfl hX5.fk (by decide) (Or.inl kf_X4_62) (am_tab tk_X4_readPerson 47 rfl) rfl ?_
        refine am_if_ne (q := 92) (t := 103) (am_tab tk_X4_readPerson 48 rfl) (by decide) rfl (fun h89 => ?_) (fun h89 => ?_)
        · refine am_vret rfl (Nat.le_of_ble_eq_true rfl) (Nat.le_of_ble_eq_true rfl) (am_tab tk_X4_readPerson 55 rfl) ?_
          refine hQ _ _ ?_
          exact ⟨rfl, hX5, fun i hi hl => absurd (hX5.fk0.mpr hl) h89, hG5.mono hTm⟩
        · have hl := hX5.fk0.mp h89
          have hl4 := nuF_l hl
          have hw5 := hv5 hl
          have hl3 := akF_l hl4
          have hw3 := hv3 hl3
          have hl2 := nuF_l hl3
          have hl1 := akF_l hl2
          have hl0 := pnP_l hl1
          have hn8 := hn8x hl0
          obtain ⟨i, hi, hk, hnm⟩ := pn_v hX0 hl1
          have hPk : TRr 3 T5 H ∧ H.2.1 85 0 = (n : Int) := by
            have := hP.fr hG5 hTN
            rw [hi] at this
            exact this
          refine am_aload_n (q := 93) rfl (am_tab tk_X4_readPerson 49 rfl) rfl ?_
          refine am_getR (q := 96) (a := 27) (k := 4) (n := 13) (j := 2) (r := some (3)) (Ls_27 hX5.1) (by decide) rfl (show T5.2.2 27 2 = some 3 by rw [hG5.2.1]; exact hR) (by decide) (Or.inl kf_X4_29) (am_tab tk_X4_readPerson 50 rfl) rfl ?_
          refine am_iload_n (q := 97) rfl (am_tab tk_X4_readPerson 51 rfl) rfl ?_
          refine am_iload_n (q := 98) rfl (am_tab tk_X4_readPerson 52 rfl) rfl ?_
          refine am_iload (q := 100) rfl (am_tab tk_X4_readPerson 53 rfl) rfl ?_
          refine am_callVr (q := 103) (me2 := M_X8_addPerson) (b := 3) (kb := 8) (nb := 17) (As := [am_i ((σ.2.1 27 6)), am_i v3, am_i v5]) (rest := []) (c_addPerson_3 T5 hX5.1 (σ.2.1 27 6) v3 v5 n ((hG5.2.2 3 2 (by unfold W_rz; omega)).trans hn) hn8) ⟨rfl, rfl⟩ (Ls_3 hX5.1) (by decide) ⟨Or.inr km_X4_155, kc_X8_addPerson, kn_X8, kd_X8_addPerson, ⟨(Nat.le_of_ble_eq_true rfl), (Nat.le_of_ble_eq_true rfl)⟩, ⟨(Nat.le_of_ble_eq_true rfl), (Nat.le_of_ble_eq_true rfl)⟩, (Nat.le_of_ble_eq_true rfl)⟩ ki_X8_addPerson ks_X8_addPerson rfl (am_tab tk_X4_readPerson 54 rfl) rfl ?_
          rintro r T9 ⟨rfl, hτ9⟩
          refine am_vret rfl (Nat.le_of_ble_eq_true rfl) (Nat.le_of_ble_eq_true rfl) (am_tab tk_X4_readPerson 55 rfl) ?_
          refine hQ _ _ ?_
          have hc9 : frw (W_tn 3) T5 T9 := by rw [hτ9]; exact ((((frw.refl (W_tn 3) T5).setN (by unfold W_tn; omega)).setN (by unfold W_tn; omega)).setN (by unfold W_tn; omega)).setN (by unfold W_tn; omega)
          have hd9 : frw (fun a _ => 3 ≤ a ∧ a ≤ 10) T5 T9 := by rw [hτ9]; exact ((((frw.refl (fun a _ => 3 ≤ a ∧ a ≤ 10) T5).setN (by omega)).setN (by omega)).setN (by omega)).setN (by omega)
          refine ⟨rfl, hX5.fr hd9 (fun a j h => by omega), fun i2 hi2 _ => ?_, (hG5.mono hTm).trans hc9⟩
          rw [hi] at hi2
          cases hi2
          have hT9 := (hPk.1.pe hPk.2 hn8 hnm v3 v5)
          rw [hτ9]
          have e1 : peH b E H i = _ := rfl
          unfold peH
          rw [hPk.2, show ((n : Int)).toNat = n by omega]
          rw [hi] at hw3 hw5
          rw [hw3, hw5] at hT9
          rw [hw3, hw5]
          exact hT9
      · refine am_iconst (q := 68) (n := 1) (by decide) (am_tab tk_X4_readPerson 36 rfl) rfl ?_
        refine am_goto (t := 72) (am_tab tk_X4_readPerson 37 rfl) (by decide) ?_
        refine am_iconst (q := 73) (n := 1) (by decide) (am_tab tk_X4_readPerson 39 rfl) rfl ?_
        refine am_callVr (q := 76) (me2 := M_X4_pass) (b := 27) (kb := 4) (nb := 13) (As := [am_i 1, am_i 1]) (rest := []) (c_passYT hX3 (by rw [h64]; decide) 1) ⟨rfl, rfl⟩ (Ls_27 hX3.1) (by decide) ⟨Or.inl km_X4_71, kc_X4_pass, kn_X4, kd_X4_pass, ⟨(Nat.le_of_ble_eq_true rfl), (Nat.le_of_ble_eq_true rfl)⟩, ⟨(Nat.le_of_ble_eq_true rfl), (Nat.le_of_ble_eq_true rfl)⟩, (Nat.le_of_ble_eq_true rfl)⟩ ki_X4_pass ks_X4_pass rfl (am_tab tk_X4_readPerson 40 rfl) rfl ?_
        rintro r T4 ⟨rfl, hX4, hG⟩
        have hG4 := hG3.trans hG
        rw [show npZ (nuF b E 1 99 (akF b E 2 (pnP b E H p))) = akF b E 3 (nuF b E 1 99 (akF b E 2 (pnP b E H p))) from ak_T h64] at hX4
        refine am_aload_n (q := 77) rfl (am_tab tk_X4_readPerson 41 rfl) rfl ?_
        refine am_iconst (q := 78) (n := 0) (by decide) (am_tab tk_X4_readPerson 42 rfl) rfl ?_
        refine am_bipush (q := 80) (n := 99) (by decide) rfl (am_tab tk_X4_readPerson 43 rfl) rfl ?_
        refine am_callVr (q := 83) (me2 := M_X4_readNumber) (b := 27) (kb := 4) (nb := 13) (As := [am_i 0, am_i 99]) (rest := []) (c_numZ hX4 0 99) ⟨rfl, rfl⟩ (Ls_27 hX4.1) (by decide) ⟨Or.inl km_X4_111, kc_X4_readNumber, kn_X4, kd_X4_readNumber, ⟨(Nat.le_of_ble_eq_true rfl), (Nat.le_of_ble_eq_true rfl)⟩, ⟨(Nat.le_of_ble_eq_true rfl), (Nat.le_of_ble_eq_true rfl)⟩, (Nat.le_of_ble_eq_true rfl)⟩ ki_X4_readNumber ks_X4_readNumber rfl (am_tab tk_X4_readPerson 44 rfl) rfl ?_
        rintro r T5 ⟨v5, rfl, hX5, hG, hv5⟩
        have hG5 := hG4.trans hG
        refine am_istore (q := 85) (by decide) (ls2 := [(4, am_i v5), (3, am_i v3), (2, am_i 1), (1, am_i ((σ.2.1 27 6))), (0, am_r 27)]) rfl (am_tab tk_X4_readPerson 45 rfl) rfl ?_
        refine am_aload_n (q := 86) rfl (am_tab tk_X4_readPerson 46 rfl) rfl ?_
        refine am_getI (q := 89) (a := 27) (k := 4) (n := 13) (j := 8) (x := (fkZ (nuF b E 0 99 (akF b E 3 (nuF b E 1 99 (akF b E 2 (pnP b E H p))))))) (Ls_27 hX5.1) (by decide) rfl hX5.fk (by decide) (Or.inl kf_X4_62) (am_tab tk_X4_readPerson 47 rfl) rfl ?_
        refine am_if_ne (q := 92) (t := 103) (am_tab tk_X4_readPerson 48 rfl) (by decide) rfl (fun h89 => ?_) (fun h89 => ?_)
        · refine am_vret rfl (Nat.le_of_ble_eq_true rfl) (Nat.le_of_ble_eq_true rfl) (am_tab tk_X4_readPerson 55 rfl) ?_
          refine hQ _ _ ?_
          exact ⟨rfl, hX5, fun i hi hl => absurd (hX5.fk0.mpr hl) h89, hG5.mono hTm⟩
        · have hl := hX5.fk0.mp h89
          have hl4 := nuF_l hl
          have hw5 := hv5 hl
          have hl3 := akF_l hl4
          have hw3 := hv3 hl3
          have hl2 := nuF_l hl3
          have hl1 := akF_l hl2
          have hl0 := pnP_l hl1
          have hn8 := hn8x hl0
          obtain ⟨i, hi, hk, hnm⟩ := pn_v hX0 hl1
          have hPk : TRr 3 T5 H ∧ H.2.1 85 0 = (n : Int) := by
            have := hP.fr hG5 hTN
            rw [hi] at this
            exact this
          refine am_aload_n (q := 93) rfl (am_tab tk_X4_readPerson 49 rfl) rfl ?_
          refine am_getR (q := 96) (a := 27) (k := 4) (n := 13) (j := 2) (r := some (3)) (Ls_27 hX5.1) (by decide) rfl (show T5.2.2 27 2 = some 3 by rw [hG5.2.1]; exact hR) (by decide) (Or.inl kf_X4_29) (am_tab tk_X4_readPerson 50 rfl) rfl ?_
          refine am_iload_n (q := 97) rfl (am_tab tk_X4_readPerson 51 rfl) rfl ?_
          refine am_iload_n (q := 98) rfl (am_tab tk_X4_readPerson 52 rfl) rfl ?_
          refine am_iload (q := 100) rfl (am_tab tk_X4_readPerson 53 rfl) rfl ?_
          refine am_callVr (q := 103) (me2 := M_X8_addPerson) (b := 3) (kb := 8) (nb := 17) (As := [am_i ((σ.2.1 27 6)), am_i v3, am_i v5]) (rest := []) (c_addPerson_3 T5 hX5.1 (σ.2.1 27 6) v3 v5 n ((hG5.2.2 3 2 (by unfold W_rz; omega)).trans hn) hn8) ⟨rfl, rfl⟩ (Ls_3 hX5.1) (by decide) ⟨Or.inr km_X4_155, kc_X8_addPerson, kn_X8, kd_X8_addPerson, ⟨(Nat.le_of_ble_eq_true rfl), (Nat.le_of_ble_eq_true rfl)⟩, ⟨(Nat.le_of_ble_eq_true rfl), (Nat.le_of_ble_eq_true rfl)⟩, (Nat.le_of_ble_eq_true rfl)⟩ ki_X8_addPerson ks_X8_addPerson rfl (am_tab tk_X4_readPerson 54 rfl) rfl ?_
          rintro r T9 ⟨rfl, hτ9⟩
          refine am_vret rfl (Nat.le_of_ble_eq_true rfl) (Nat.le_of_ble_eq_true rfl) (am_tab tk_X4_readPerson 55 rfl) ?_
          refine hQ _ _ ?_
          have hc9 : frw (W_tn 3) T5 T9 := by rw [hτ9]; exact ((((frw.refl (W_tn 3) T5).setN (by unfold W_tn; omega)).setN (by unfold W_tn; omega)).setN (by unfold W_tn; omega)).setN (by unfold W_tn; omega)
          have hd9 : frw (fun a _ => 3 ≤ a ∧ a ≤ 10) T5 T9 := by rw [hτ9]; exact ((((frw.refl (fun a _ => 3 ≤ a ∧ a ≤ 10) T5).setN (by omega)).setN (by omega)).setN (by omega)).setN (by omega)
          refine ⟨rfl, hX5.fr hd9 (fun a j h => by omega), fun i2 hi2 _ => ?_, (hG5.mono hTm).trans hc9⟩
          rw [hi] at hi2
          cases hi2
          have hT9 := (hPk.1.pe hPk.2 hn8 hnm v3 v5)
          rw [hτ9]
          have e1 : peH b E H i = _ := rfl
          unfold peH
          rw [hPk.2, show ((n : Int)).toNat = n by omega]
          rw [hi] at hw3 hw5
          rw [hw3, hw5] at hT9
          rw [hw3, hw5]
          exact hT9
    · refine am_iconst (q := 40) (n := 1) (by decide) (am_tab tk_X4_readPerson 21 rfl) rfl ?_
      refine am_goto (t := 44) (am_tab tk_X4_readPerson 22 rfl) (by decide) ?_
      refine am_iconst (q := 45) (n := 1) (by decide) (am_tab tk_X4_readPerson 24 rfl) rfl ?_
      refine am_callVr (q := 48) (me2 := M_X4_pass) (b := 27) (kb := 4) (nb := 13) (As := [am_i 1, am_i 1]) (rest := []) (c_passYT hX1 (by rw [h36]; decide) 1) ⟨rfl, rfl⟩ (Ls_27 hX1.1) (by decide) ⟨Or.inl km_X4_71, kc_X4_pass, kn_X4, kd_X4_pass, ⟨(Nat.le_of_ble_eq_true rfl), (Nat.le_of_ble_eq_true rfl)⟩, ⟨(Nat.le_of_ble_eq_true rfl), (Nat.le_of_ble_eq_true rfl)⟩, (Nat.le_of_ble_eq_true rfl)⟩ ki_X4_pass ks_X4_pass rfl (am_tab tk_X4_readPerson 25 rfl) rfl ?_
      rintro r T2 ⟨rfl, hX2, hG⟩
      have hG2 := hG1.trans hG
      rw [show npZ (pnP b E H p) = akF b E 2 (pnP b E H p) from ak_T h36] at hX2
      refine am_aload_n (q := 49) rfl (am_tab tk_X4_readPerson 26 rfl) rfl ?_
      refine am_iconst (q := 50) (n := 1) (by decide) (am_tab tk_X4_readPerson 27 rfl) rfl ?_
      refine am_bipush (q := 52) (n := 99) (by decide) rfl (am_tab tk_X4_readPerson 28 rfl) rfl ?_
      refine am_callVr (q := 55) (me2 := M_X4_readNumber) (b := 27) (kb := 4) (nb := 13) (As := [am_i 1, am_i 99]) (rest := []) (c_numZ hX2 1 99) ⟨rfl, rfl⟩ (Ls_27 hX2.1) (by decide) ⟨Or.inl km_X4_111, kc_X4_readNumber, kn_X4, kd_X4_readNumber, ⟨(Nat.le_of_ble_eq_true rfl), (Nat.le_of_ble_eq_true rfl)⟩, ⟨(Nat.le_of_ble_eq_true rfl), (Nat.le_of_ble_eq_true rfl)⟩, (Nat.le_of_ble_eq_true rfl)⟩ ki_X4_readNumber ks_X4_readNumber rfl (am_tab tk_X4_readPerson 29 rfl) rfl ?_
      rintro r T3 ⟨v3, rfl, hX3, hG, hv3⟩
      have hG3 := hG2.trans hG
      refine am_istore_n (q := 56) (by decide) (ls2 := [(3, am_i v3), (2, am_i 1), (1, am_i ((σ.2.1 27 6))), (0, am_r 27)]) rfl (am_tab tk_X4_readPerson 30 rfl) rfl ?_
      refine am_aload_n (q := 57) rfl (am_tab tk_X4_readPerson 31 rfl) rfl ?_
      refine am_aload_n (q := 58) rfl (am_tab tk_X4_readPerson 32 rfl) rfl ?_
      refine am_getI (q := 61) (a := 27) (k := 4) (n := 13) (j := 4) (x := (kdZ b E (nuF b E 1 99 (akF b E 2 (pnP b E H p))))) (Ls_27 hX3.1) (by decide) rfl hX3.kd (by decide) (Or.inl kf_X4_45) (am_tab tk_X4_readPerson 33 rfl) rfl ?_
      refine am_sipush (q := 64) (n := 131) (by decide) rfl (am_tab tk_X4_readPerson 34 rfl) rfl ?_
      refine am_icmp_ne (q := 67) (t := 71) (am_tab tk_X4_readPerson 35 rfl) (by decide) rfl (fun h64 => ?_) (fun h64 => ?_)
      · refine am_iconst (q := 72) (n := 0) (by decide) (am_tab tk_X4_readPerson 38 rfl) rfl ?_
        refine am_iconst (q := 73) (n := 1) (by decide) (am_tab tk_X4_readPerson 39 rfl) rfl ?_
        refine am_callVr (q := 76) (me2 := M_X4_pass) (b := 27) (kb := 4) (nb := 13) (As := [am_i 0, am_i 1]) (rest := []) (c_passYF hX3 1 (by decide)) ⟨rfl, rfl⟩ (Ls_27 hX3.1) (by decide) ⟨Or.inl km_X4_71, kc_X4_pass, kn_X4, kd_X4_pass, ⟨(Nat.le_of_ble_eq_true rfl), (Nat.le_of_ble_eq_true rfl)⟩, ⟨(Nat.le_of_ble_eq_true rfl), (Nat.le_of_ble_eq_true rfl)⟩, (Nat.le_of_ble_eq_true rfl)⟩ ki_X4_pass ks_X4_pass rfl (am_tab tk_X4_readPerson 40 rfl) rfl ?_
        rintro r T4 ⟨rfl, hX4, hG⟩
        have hG4 := hG3.trans hG
        rw [show ftZ b E 1 (nuF b E 1 99 (akF b E 2 (pnP b E H p))) = akF b E 3 (nuF b E 1 99 (akF b E 2 (pnP b E H p))) from ak_F h64] at hX4
        refine am_aload_n (q := 77) rfl (am_tab tk_X4_readPerson 41 rfl) rfl ?_
        refine am_iconst (q := 78) (n := 0) (by decide) (am_tab tk_X4_readPerson 42 rfl) rfl ?_
        refine am_bipush (q := 80) (n := 99) (by decide) rfl (am_tab tk_X4_readPerson 43 rfl) rfl ?_
        refine am_callVr (q := 83) (me2 := M_X4_readNumber) (b := 27) (kb := 4) (nb := 13) (As := [am_i 0, am_i 99]) (rest := []) (c_numZ hX4 0 99) ⟨rfl, rfl⟩ (Ls_27 hX4.1) (by decide) ⟨Or.inl km_X4_111, kc_X4_readNumber, kn_X4, kd_X4_readNumber, ⟨(Nat.le_of_ble_eq_true rfl), (Nat.le_of_ble_eq_true rfl)⟩, ⟨(Nat.le_of_ble_eq_true rfl), (Nat.le_of_ble_eq_true rfl)⟩, (Nat.le_of_ble_eq_true rfl)⟩ ki_X4_readNumber ks_X4_readNumber rfl (am_tab tk_X4_readPerson 44 rfl) rfl ?_
        rintro r T5 ⟨v5, rfl, hX5, hG, hv5⟩
        have hG5 := hG4.trans hG
        refine am_istore (q := 85) (by decide) (ls2 := [(4, am_i v5), (3, am_i v3), (2, am_i 1), (1, am_i ((σ.2.1 27 6))), (0, am_r 27)]) rfl (am_tab tk_X4_readPerson 45 rfl) rfl ?_
        refine am_aload_n (q := 86) rfl (am_tab tk_X4_readPerson 46 rfl) rfl ?_
        refine am_getI (q := 89) (a := 27) (k := 4) (n := 13) (j := 8) (x := (fkZ (nuF b E 0 99 (akF b E 3 (nuF b E 1 99 (akF b E 2 (pnP b E H p))))))) (Ls_27 hX5.1) (by decide) rfl hX5.fk (by decide) (Or.inl kf_X4_62) (am_tab tk_X4_readPerson 47 rfl) rfl ?_
        refine am_if_ne (q := 92) (t := 103) (am_tab tk_X4_readPerson 48 rfl) (by decide) rfl (fun h89 => ?_) (fun h89 => ?_)
        · refine am_vret rfl (Nat.le_of_ble_eq_true rfl) (Nat.le_of_ble_eq_true rfl) (am_tab tk_X4_readPerson 55 rfl) ?_
          refine hQ _ _ ?_
          exact ⟨rfl, hX5, fun i hi hl => absurd (hX5.fk0.mpr hl) h89, hG5.mono hTm⟩
        · have hl := hX5.fk0.mp h89
          have hl4 := nuF_l hl
          have hw5 := hv5 hl
          have hl3 := akF_l hl4
          have hw3 := hv3 hl3
          have hl2 := nuF_l hl3
          have hl1 := akF_l hl2
          have hl0 := pnP_l hl1
          have hn8 := hn8x hl0
          obtain ⟨i, hi, hk, hnm⟩ := pn_v hX0 hl1
          have hPk : TRr 3 T5 H ∧ H.2.1 85 0 = (n : Int) := by
            have := hP.fr hG5 hTN
            rw [hi] at this
            exact this
          refine am_aload_n (q := 93) rfl (am_tab tk_X4_readPerson 49 rfl) rfl ?_
          refine am_getR (q := 96) (a := 27) (k := 4) (n := 13) (j := 2) (r := some (3)) (Ls_27 hX5.1) (by decide) rfl (show T5.2.2 27 2 = some 3 by rw [hG5.2.1]; exact hR) (by decide) (Or.inl kf_X4_29) (am_tab tk_X4_readPerson 50 rfl) rfl ?_
          refine am_iload_n (q := 97) rfl (am_tab tk_X4_readPerson 51 rfl) rfl ?_
          refine am_iload_n (q := 98) rfl (am_tab tk_X4_readPerson 52 rfl) rfl ?_
          refine am_iload (q := 100) rfl (am_tab tk_X4_readPerson 53 rfl) rfl ?_
          refine am_callVr (q := 103) (me2 := M_X8_addPerson) (b := 3) (kb := 8) (nb := 17) (As := [am_i ((σ.2.1 27 6)), am_i v3, am_i v5]) (rest := []) (c_addPerson_3 T5 hX5.1 (σ.2.1 27 6) v3 v5 n ((hG5.2.2 3 2 (by unfold W_rz; omega)).trans hn) hn8) ⟨rfl, rfl⟩ (Ls_3 hX5.1) (by decide) ⟨Or.inr km_X4_155, kc_X8_addPerson, kn_X8, kd_X8_addPerson, ⟨(Nat.le_of_ble_eq_true rfl), (Nat.le_of_ble_eq_true rfl)⟩, ⟨(Nat.le_of_ble_eq_true rfl), (Nat.le_of_ble_eq_true rfl)⟩, (Nat.le_of_ble_eq_true rfl)⟩ ki_X8_addPerson ks_X8_addPerson rfl (am_tab tk_X4_readPerson 54 rfl) rfl ?_
          rintro r T9 ⟨rfl, hτ9⟩
          refine am_vret rfl (Nat.le_of_ble_eq_true rfl) (Nat.le_of_ble_eq_true rfl) (am_tab tk_X4_readPerson 55 rfl) ?_
          refine hQ _ _ ?_
          have hc9 : frw (W_tn 3) T5 T9 := by rw [hτ9]; exact ((((frw.refl (W_tn 3) T5).setN (by unfold W_tn; omega)).setN (by unfold W_tn; omega)).setN (by unfold W_tn; omega)).setN (by unfold W_tn; omega)
          have hd9 : frw (fun a _ => 3 ≤ a ∧ a ≤ 10) T5 T9 := by rw [hτ9]; exact ((((frw.refl (fun a _ => 3 ≤ a ∧ a ≤ 10) T5).setN (by omega)).setN (by omega)).setN (by omega)).setN (by omega)
          refine ⟨rfl, hX5.fr hd9 (fun a j h => by omega), fun i2 hi2 _ => ?_, (hG5.mono hTm).trans hc9⟩
          rw [hi] at hi2
          cases hi2
          have hT9 := (hPk.1.pe hPk.2 hn8 hnm v3 v5)
          rw [hτ9]
          have e1 : peH b E H i = _ := rfl
          unfold peH
          rw [hPk.2, show ((n : Int)).toNat = n by omega]
          rw [hi] at hw3 hw5
          rw [hw3, hw5] at hT9
          rw [hw3, hw5]
          exact hT9
      · refine am_iconst (q := 68) (n := 1) (by decide) (am_tab tk_X4_readPerson 36 rfl) rfl ?_
        refine am_goto (t := 72) (am_tab tk_X4_readPerson 37 rfl) (by decide) ?_
        refine am_iconst (q := 73) (n := 1) (by decide) (am_tab tk_X4_readPerson 39 rfl) rfl ?_
        refine am_callVr (q := 76) (me2 := M_X4_pass) (b := 27) (kb := 4) (nb := 13) (As := [am_i 1, am_i 1]) (rest := []) (c_passYT hX3 (by rw [h64]; decide) 1) ⟨rfl, rfl⟩ (Ls_27 hX3.1) (by decide) ⟨Or.inl km_X4_71, kc_X4_pass, kn_X4, kd_X4_pass, ⟨(Nat.le_of_ble_eq_true rfl), (Nat.le_of_ble_eq_true rfl)⟩, ⟨(Nat.le_of_ble_eq_true rfl), (Nat.le_of_ble_eq_true rfl)⟩, (Nat.le_of_ble_eq_true rfl)⟩ ki_X4_pass ks_X4_pass rfl (am_tab tk_X4_readPerson 40 rfl) rfl ?_
        rintro r T4 ⟨rfl, hX4, hG⟩
        have hG4 := hG3.trans hG
        rw [show npZ (nuF b E 1 99 (akF b E 2 (pnP b E H p))) = akF b E 3 (nuF b E 1 99 (akF b E 2 (pnP b E H p))) from ak_T h64] at hX4
        refine am_aload_n (q := 77) rfl (am_tab tk_X4_readPerson 41 rfl) rfl ?_
        refine am_iconst (q := 78) (n := 0) (by decide) (am_tab tk_X4_readPerson 42 rfl) rfl ?_
        refine am_bipush (q := 80) (n := 99) (by decide) rfl (am_tab tk_X4_readPerson 43 rfl) rfl ?_
        refine am_callVr (q := 83) (me2 := M_X4_readNumber) (b := 27) (kb := 4) (nb := 13) (As := [am_i 0, am_i 99]) (rest := []) (c_numZ hX4 0 99) ⟨rfl, rfl⟩ (Ls_27 hX4.1) (by decide) ⟨Or.inl km_X4_111, kc_X4_readNumber, kn_X4, kd_X4_readNumber, ⟨(Nat.le_of_ble_eq_true rfl), (Nat.le_of_ble_eq_true rfl)⟩, ⟨(Nat.le_of_ble_eq_true rfl), (Nat.le_of_ble_eq_true rfl)⟩, (Nat.le_of_ble_eq_true rfl)⟩ ki_X4_readNumber ks_X4_readNumber rfl (am_tab tk_X4_readPerson 44 rfl) rfl ?_
        rintro r T5 ⟨v5, rfl, hX5, hG, hv5⟩
        have hG5 := hG4.trans hG
        refine am_istore (q := 85) (by decide) (ls2 := [(4, am_i v5), (3, am_i v3), (2, am_i 1), (1, am_i ((σ.2.1 27 6))), (0, am_r 27)]) rfl (am_tab tk_X4_readPerson 45 rfl) rfl ?_
        refine am_aload_n (q := 86) rfl (am_tab tk_X4_readPerson 46 rfl) rfl ?_
        refine am_getI (q := 89) (a := 27) (k := 4) (n := 13) (j := 8) (x := (fkZ (nuF b E 0 99 (akF b E 3 (nuF b E 1 99 (akF b E 2 (pnP b E H p))))))) (Ls_27 hX5.1) (by decide) rfl hX5.fk (by decide) (Or.inl kf_X4_62) (am_tab tk_X4_readPerson 47 rfl) rfl ?_
        refine am_if_ne (q := 92) (t := 103) (am_tab tk_X4_readPerson 48 rfl) (by decide) rfl (fun h89 => ?_) (fun h89 => ?_)
        · refine am_vret rfl (Nat.le_of_ble_eq_true rfl) (Nat.le_of_ble_eq_true rfl) (am_tab tk_X4_readPerson 55 rfl) ?_
          refine hQ _ _ ?_
          exact ⟨rfl, hX5, fun i hi hl => absurd (hX5.fk0.mpr hl) h89, hG5.mono hTm⟩
        · have hl := hX5.fk0.mp h89
          have hl4 := nuF_l hl
          have hw5 := hv5 hl
          have hl3 := akF_l hl4
          have hw3 := hv3 hl3
          have hl2 := nuF_l hl3
          have hl1 := akF_l hl2
          have hl0 := pnP_l hl1
          have hn8 := hn8x hl0
          obtain ⟨i, hi, hk, hnm⟩ := pn_v hX0 hl1
          have hPk : TRr 3 T5 H ∧ H.2.1 85 0 = (n : Int) := by
            have := hP.fr hG5 hTN
            rw [hi] at this
            exact this
          refine am_aload_n (q := 93) rfl (am_tab tk_X4_readPerson 49 rfl) rfl ?_
          refine am_getR (q := 96) (a := 27) (k := 4) (n := 13) (j := 2) (r := some (3)) (Ls_27 hX5.1) (by decide) rfl (show T5.2.2 27 2 = some 3 by rw [hG5.2.1]; exact hR) (by decide) (Or.inl kf_X4_29) (am_tab tk_X4_readPerson 50 rfl) rfl ?_
          refine am_iload_n (q := 97) rfl (am_tab tk_X4_readPerson 51 rfl) rfl ?_
          refine am_iload_n (q := 98) rfl (am_tab tk_X4_readPerson 52 rfl) rfl ?_
          refine am_iload (q := 100) rfl (am_tab tk_X4_readPerson 53 rfl) rfl ?_
          refine am_callVr (q := 103) (me2 := M_X8_addPerson) (b := 3) (kb := 8) (nb := 17) (As := [am_i ((σ.2.1 27 6)), am_i v3, am_i v5]) (rest := []) (c_addPerson_3 T5 hX5.1 (σ.2.1 27 6) v3 v5 n ((hG5.2.2 3 2 (by unfold W_rz; omega)).trans hn) hn8) ⟨rfl, rfl⟩ (Ls_3 hX5.1) (by decide) ⟨Or.inr km_X4_155, kc_X8_addPerson, kn_X8, kd_X8_addPerson, ⟨(Nat.le_of_ble_eq_true rfl), (Nat.le_of_ble_eq_true rfl)⟩, ⟨(Nat.le_of_ble_eq_true rfl), (Nat.le_of_ble_eq_true rfl)⟩, (Nat.le_of_ble_eq_true rfl)⟩ ki_X8_addPerson ks_X8_addPerson rfl (am_tab tk_X4_readPerson 54 rfl) rfl ?_
          rintro r T9 ⟨rfl, hτ9⟩
          refine am_vret rfl (Nat.le_of_ble_eq_true rfl) (Nat.le_of_ble_eq_true rfl) (am_tab tk_X4_readPerson 55 rfl) ?_
          refine hQ _ _ ?_
          have hc9 : frw (W_tn 3) T5 T9 := by rw [hτ9]; exact ((((frw.refl (W_tn 3) T5).setN (by unfold W_tn; omega)).setN (by unfold W_tn; omega)).setN (by unfold W_tn; omega)).setN (by unfold W_tn; omega)
          have hd9 : frw (fun a _ => 3 ≤ a ∧ a ≤ 10) T5 T9 := by rw [hτ9]; exact ((((frw.refl (fun a _ => 3 ≤ a ∧ a ≤ 10) T5).setN (by omega)).setN (by omega)).setN (by omega)).setN (by omega)
          refine ⟨rfl, hX5.fr hd9 (fun a j h => by omega), fun i2 hi2 _ => ?_, (hG5.mono hTm).trans hc9⟩
          rw [hi] at hi2
          cases hi2
          have hT9 := (hPk.1.pe hPk.2 hn8 hnm v3 v5)
          rw [hτ9]
          have e1 : peH b E H i = _ := rfl
          unfold peH
          rw [hPk.2, show ((n : Int)).toNat = n by omega]
          rw [hi] at hw3 hw5
          rw [hw3, hw5] at hT9
          rw [hw3, hw5]
          exact hT9
theorem c_readPerson_15 (b : Nat → Int) (E : Nat) (cv : Nat → Int) (M : Nat) (p : PZ) (σ H : am_H) (hX : RY b E cv M σ p) (hR : σ.2.2 27 2 = some 15) (n : Nat) (hn : σ.2.1 15 2 = (n : Int)) (h8 : n ≤ 8) (D : Int) (hD : σ.2.1 15 0 = D) (hP : PL 15 σ H n p) (hn8x : p.isLeft = true → n < 8)   : am_met M_X4_readPerson [am_r 27] σ (fun r σ' => r = none ∧ RY b E cv M σ' (nuF b E 0 99 (akF b E 3 (nuF b E 1 99 (akF b E 2 (pnP b E H p))))) ∧ (∀ i, p = .inl i → (nuF b E 0 99 (akF b E 3 (nuF b E 1 99 (akF b E 2 (pnP b E H p))))).isLeft = true → TRr 15 σ' (peH b E H i)) ∧ frw (W_tn 15) σ σ') := by
  refine am_qq (fun Q hQ => ?_)
  refine am_enter (show plainFor yX4_readPerson = true by decide +kernel) rfl (Nat.le_of_ble_eq_true rfl) (fun _ _ _ => trivial) ?_
  have hX0 := hX
  have hG0 := frw.refl W_rz σ
  have hTN : ∀ a j, 15 ≤ a ∧ a ≤ 15 + 7 → ¬ W_rz a j := fun a j h => by unfold W_rz; omega
  have hTm : ∀ a j, W_rz a j → W_tn 15 a j := fun a j h => Or.inr h
  refine am_aload_n (q := 1) rfl (am_tab tk_X4_readPerson 0 rfl) rfl ?_
  refine am_getI (q := 4) (a := 27) (k := 4) (n := 13) (j := 6) (x := (σ.2.1 27 6)) (Ls_27 hX.1) (by decide) rfl rfl (by decide) (Or.inl kf_X4_104) (am_tab tk_X4_readPerson 1 rfl) rfl ?_
  refine am_istore_n (q := 5) (by decide) (ls2 := [(1, am_i ((σ.2.1 27 6))), (0, am_r 27)]) rfl (am_tab tk_X4_readPerson 2 rfl) rfl ?_
  refine am_aload_n (q := 6) rfl (am_tab tk_X4_readPerson 3 rfl) rfl ?_
  refine am_getR (q := 9) (a := 27) (k := 4) (n := 13) (j := 2) (r := some (15)) (Ls_27 hX.1) (by decide) rfl hR (by decide) (Or.inl kf_X4_29) (am_tab tk_X4_readPerson 4 rfl) rfl ?_
  refine am_iload_n (q := 10) rfl (am_tab tk_X4_readPerson 5 rfl) rfl ?_
  refine am_callVr (q := 13) (me2 := M_X8_find) (b := 15) (kb := 8) (nb := 17) (As := [am_i ((σ.2.1 27 6))]) (rest := []) (c_find_15 σ hX0.1 (σ.2.1 27 6) n hn h8) ⟨rfl, rfl⟩ (Ls_15 hX.1) (by decide) ⟨Or.inr km_X4_147, kc_X8_find, kn_X8, kd_X8_find, ⟨(Nat.le_of_ble_eq_true rfl), (Nat.le_of_ble_eq_true rfl)⟩, ⟨(Nat.le_of_ble_eq_true rfl), (Nat.le_of_ble_eq_true rfl)⟩, (Nat.le_of_ble_eq_true rfl)⟩ ki_X8_find ks_X8_find rfl (am_tab tk_X4_readPerson 6 rfl) rfl ?_
  rintro r τ9 ⟨rfl, hτ9⟩
  rw [hτ9]
  rw [show firstQ (fun k => decide (σ.2.1 16 k = σ.2.1 27 6)) n = FD 15 σ n from rfl]
  refine am_iconst (q := 14) (n := (-1)) (by decide) (am_tab tk_X4_readPerson 7 rfl) rfl ?_
  refine am_icmp_ne (q := 17) (t := 21) (am_tab tk_X4_readPerson 8 rfl) (by decide) rfl (fun h14 => ?_) (fun h14 => ?_)
  · refine am_iconst (q := 22) (n := 0) (by decide) (am_tab tk_X4_readPerson 11 rfl) rfl ?_
    refine am_istore_n (q := 23) (by decide) (ls2 := [(2, am_i 0), (1, am_i ((σ.2.1 27 6))), (0, am_r 27)]) rfl (am_tab tk_X4_readPerson 12 rfl) rfl ?_
    refine am_aload_n (q := 24) rfl (am_tab tk_X4_readPerson 13 rfl) rfl ?_
    refine am_iload_n (q := 25) rfl (am_tab tk_X4_readPerson 14 rfl) rfl ?_
    refine am_callVr (q := 28) (me2 := M_X4_readName) (b := 27) (kb := 4) (nb := 13) (As := [am_i 0]) (rest := []) (c_nameZ0 hX0) ⟨rfl, rfl⟩ (Ls_27 hX.1) (by decide) ⟨Or.inl km_X4_151, kc_X4_readName, kn_X4, kd_X4_readName, ⟨(Nat.le_of_ble_eq_true rfl), (Nat.le_of_ble_eq_true rfl)⟩, ⟨(Nat.le_of_ble_eq_true rfl), (Nat.le_of_ble_eq_true rfl)⟩, (Nat.le_of_ble_eq_true rfl)⟩ ki_X4_readName ks_X4_readName rfl (am_tab tk_X4_readPerson 15 rfl) rfl ?_
    rintro r T1 ⟨rfl, hX1, hG⟩
    have hG1 := hG0.trans hG
    rw [show naG b E false (p) = pnP b E H p from (pn_F hX0 hP h14)] at hX1
    refine am_aload_n (q := 29) rfl (am_tab tk_X4_readPerson 16 rfl) rfl ?_
    refine am_aload_n (q := 30) rfl (am_tab tk_X4_readPerson 17 rfl) rfl ?_
    refine am_getI (q := 33) (a := 27) (k := 4) (n := 13) (j := 4) (x := (kdZ b E (pnP b E H p))) (Ls_27 hX1.1) (by decide) rfl hX1.kd (by decide) (Or.inl kf_X4_45) (am_tab tk_X4_readPerson 18 rfl) rfl ?_
    refine am_sipush (q := 36) (n := 130) (by decide) rfl (am_tab tk_X4_readPerson 19 rfl) rfl ?_
    refine am_icmp_ne (q := 39) (t := 43) (am_tab tk_X4_readPerson 20 rfl) (by decide) rfl (fun h36 => ?_) (fun h36 => ?_)
    · refine am_iconst (q := 44) (n := 0) (by decide) (am_tab tk_X4_readPerson 23 rfl) rfl ?_
      refine am_iconst (q := 45) (n := 1) (by decide) (am_tab tk_X4_readPerson 24 rfl) rfl ?_
      refine am_callVr (q := 48) (me2 := M_X4_pass) (b := 27) (kb := 4) (nb := 13) (As := [am_i 0, am_i 1]) (rest := []) (c_passYF hX1 1 (by decide)) ⟨rfl, rfl⟩ (Ls_27 hX1.1) (by decide) ⟨Or.inl km_X4_71, kc_X4_pass, kn_X4, kd_X4_pass, ⟨(Nat.le_of_ble_eq_true rfl), (Nat.le_of_ble_eq_true rfl)⟩, ⟨(Nat.le_of_ble_eq_true rfl), (Nat.le_of_ble_eq_true rfl)⟩, (Nat.le_of_ble_eq_true rfl)⟩ ki_X4_pass ks_X4_pass rfl (am_tab tk_X4_readPerson 25 rfl) rfl ?_
      rintro r T2 ⟨rfl, hX2, hG⟩
      have hG2 := hG1.trans hG
      rw [show ftZ b E 1 (pnP b E H p) = akF b E 2 (pnP b E H p) from ak_F h36] at hX2
      refine am_aload_n (q := 49) rfl (am_tab tk_X4_readPerson 26 rfl) rfl ?_
      refine am_iconst (q := 50) (n := 1) (by decide) (am_tab tk_X4_readPerson 27 rfl) rfl ?_
      refine am_bipush (q := 52) (n := 99) (by decide) rfl (am_tab tk_X4_readPerson 28 rfl) rfl ?_
      refine am_callVr (q := 55) (me2 := M_X4_readNumber) (b := 27) (kb := 4) (nb := 13) (As := [am_i 1, am_i 99]) (rest := []) (c_numZ hX2 1 99) ⟨rfl, rfl⟩ (Ls_27 hX2.1) (by decide) ⟨Or.inl km_X4_111, kc_X4_readNumber, kn_X4, kd_X4_readNumber, ⟨(Nat.le_of_ble_eq_true rfl), (Nat.le_of_ble_eq_true rfl)⟩, ⟨(Nat.le_of_ble_eq_true rfl), (Nat.le_of_ble_eq_true rfl)⟩, (Nat.le_of_ble_eq_true rfl)⟩ ki_X4_readNumber ks_X4_readNumber rfl (am_tab tk_X4_readPerson 29 rfl) rfl ?_
      rintro r T3 ⟨v3, rfl, hX3, hG, hv3⟩
      have hG3 := hG2.trans hG
      refine am_istore_n (q := 56) (by decide) (ls2 := [(3, am_i v3), (2, am_i 0), (1, am_i ((σ.2.1 27 6))), (0, am_r 27)]) rfl (am_tab tk_X4_readPerson 30 rfl) rfl ?_
      refine am_aload_n (q := 57) rfl (am_tab tk_X4_readPerson 31 rfl) rfl ?_
      refine am_aload_n (q := 58) rfl (am_tab tk_X4_readPerson 32 rfl) rfl ?_
      refine am_getI (q := 61) (a := 27) (k := 4) (n := 13) (j := 4) (x := (kdZ b E (nuF b E 1 99 (akF b E 2 (pnP b E H p))))) (Ls_27 hX3.1) (by decide) rfl hX3.kd (by decide) (Or.inl kf_X4_45) (am_tab tk_X4_readPerson 33 rfl) rfl ?_
      refine am_sipush (q := 64) (n := 131) (by decide) rfl (am_tab tk_X4_readPerson 34 rfl) rfl ?_
      refine am_icmp_ne (q := 67) (t := 71) (am_tab tk_X4_readPerson 35 rfl) (by decide) rfl (fun h64 => ?_) (fun h64 => ?_)
      · refine am_iconst (q := 72) (n := 0) (by decide) (am_tab tk_X4_readPerson 38 rfl) rfl ?_
        refine am_iconst (q := 73) (n := 1) (by decide) (am_tab tk_X4_readPerson 39 rfl) rfl ?_
        refine am_callVr (q := 76) (me2 := M_X4_pass) (b := 27) (kb := 4) (nb := 13) (As := [am_i 0, am_i 1]) (rest := []) (c_passYF hX3 1 (by decide)) ⟨rfl, rfl⟩ (Ls_27 hX3.1) (by decide) ⟨Or.inl km_X4_71, kc_X4_pass, kn_X4, kd_X4_pass, ⟨(Nat.le_of_ble_eq_true rfl), (Nat.le_of_ble_eq_true rfl)⟩, ⟨(Nat.le_of_ble_eq_true rfl), (Nat.le_of_ble_eq_true rfl)⟩, (Nat.le_of_ble_eq_true rfl)⟩ ki_X4_pass ks_X4_pass rfl (am_tab tk_X4_readPerson 40 rfl) rfl ?_
        rintro r T4 ⟨rfl, hX4, hG⟩
        have hG4 := hG3.trans hG
        rw [show ftZ b E 1 (nuF b E 1 99 (akF b E 2 (pnP b E H p))) = akF b E 3 (nuF b E 1 99 (akF b E 2 (pnP b E H p))) from ak_F h64] at hX4
        refine am_aload_n (q := 77) rfl (am_tab tk_X4_readPerson 41 rfl) rfl ?_
        refine am_iconst (q := 78) (n := 0) (by decide) (am_tab tk_X4_readPerson 42 rfl) rfl ?_
        refine am_bipush (q := 80) (n := 99) (by decide) rfl (am_tab tk_X4_readPerson 43 rfl) rfl ?_
        refine am_callVr (q := 83) (me2 := M_X4_readNumber) (b := 27) (kb := 4) (nb := 13) (As := [am_i 0, am_i 99]) (rest := []) (c_numZ hX4 0 99) ⟨rfl, rfl⟩ (Ls_27 hX4.1) (by decide) ⟨Or.inl km_X4_111, kc_X4_readNumber, kn_X4, kd_X4_readNumber, ⟨(Nat.le_of_ble_eq_true rfl), (Nat.le_of_ble_eq_true rfl)⟩, ⟨(Nat.le_of_ble_eq_true rfl), (Nat.le_of_ble_eq_true rfl)⟩, (Nat.le_of_ble_eq_true rfl)⟩ ki_X4_readNumber ks_X4_readNumber rfl (am_tab tk_X4_readPerson 44 rfl) rfl ?_
        rintro r T5 ⟨v5, rfl, hX5, hG, hv5⟩
        have hG5 := hG4.trans hG
        refine am_istore (q := 85) (by decide) (ls2 := [(4, am_i v5), (3, am_i v3), (2, am_i 0), (1, am_i ((σ.2.1 27 6))), (0, am_r 27)]) rfl (am_tab tk_X4_readPerson 45 rfl) rfl ?_
        refine am_aload_n (q := 86) rfl (am_tab tk_X4_readPerson 46 rfl) rfl ?_
        refine am_getI (q := 89) (a := 27) (k := 4) (n := 13) (j := 8) (x := (fkZ (nuF b E 0 99 (akF b E 3 (nuF b E 1 99 (akF b E 2 (pnP b E H p))))))) (Ls_27 hX5.1) (by decide) rfl hX5.fk (by decide) (Or.inl kf_X4_62) (am_tab tk_X4_readPerson 47 rfl) rfl ?_
        refine am_if_ne (q := 92) (t := 103) (am_tab tk_X4_readPerson 48 rfl) (by decide) rfl (fun h89 => ?_) (fun h89 => ?_)
        · refine am_vret rfl (Nat.le_of_ble_eq_true rfl) (Nat.le_of_ble_eq_true rfl) (am_tab tk_X4_readPerson 55 rfl) ?_
          refine hQ _ _ ?_
          exact ⟨rfl, hX5, fun i hi hl => absurd (hX5.fk0.mpr hl) h89, hG5.mono hTm⟩
        · have hl := hX5.fk0.mp h89
          have hl4 := nuF_l hl
          have hw5 := hv5 hl
          have hl3 := akF_l hl4
          have hw3 := hv3 hl3
          have hl2 := nuF_l hl3
          have hl1 := akF_l hl2
          have hl0 := pnP_l hl1
          have hn8 := hn8x hl0
          obtain ⟨i, hi, hk, hnm⟩ := pn_v hX0 hl1
          have hPk : TRr 15 T5 H ∧ H.2.1 85 0 = (n : Int) := by
            have := hP.fr hG5 hTN
            rw [hi] at this
            exact this
          refine am_aload_n (q := 93) rfl (am_tab tk_X4_readPerson 49 rfl) rfl ?_
          refine am_getR (q := 96) (a := 27) (k := 4) (n := 13) (j := 2) (r := some (15)) (Ls_27 hX5.1) (by decide) rfl (show T5.2.2 27 2 = some 15 by rw [hG5.2.1]; exact hR) (by decide) (Or.inl kf_X4_29) (am_tab tk_X4_readPerson 50 rfl) rfl ?_
          refine am_iload_n (q := 97) rfl (am_tab tk_X4_readPerson 51 rfl) rfl ?_
          refine am_iload_n (q := 98) rfl (am_tab tk_X4_readPerson 52 rfl) rfl ?_
          refine am_iload (q := 100) rfl (am_tab tk_X4_readPerson 53 rfl) rfl ?_
          refine am_callVr (q := 103) (me2 := M_X8_addPerson) (b := 15) (kb := 8) (nb := 17) (As := [am_i ((σ.2.1 27 6)), am_i v3, am_i v5]) (rest := []) (c_addPerson_15 T5 hX5.1 (σ.2.1 27 6) v3 v5 n ((hG5.2.2 15 2 (by unfold W_rz; omega)).trans hn) hn8) ⟨rfl, rfl⟩ (Ls_15 hX5.1) (by decide) ⟨Or.inr km_X4_155, kc_X8_addPerson, kn_X8, kd_X8_addPerson, ⟨(Nat.le_of_ble_eq_true rfl), (Nat.le_of_ble_eq_true rfl)⟩, ⟨(Nat.le_of_ble_eq_true rfl), (Nat.le_of_ble_eq_true rfl)⟩, (Nat.le_of_ble_eq_true rfl)⟩ ki_X8_addPerson ks_X8_addPerson rfl (am_tab tk_X4_readPerson 54 rfl) rfl ?_
          rintro r T9 ⟨rfl, hτ9⟩
          refine am_vret rfl (Nat.le_of_ble_eq_true rfl) (Nat.le_of_ble_eq_true rfl) (am_tab tk_X4_readPerson 55 rfl) ?_
          refine hQ _ _ ?_
          have hc9 : frw (W_tn 15) T5 T9 := by rw [hτ9]; exact ((((frw.refl (W_tn 15) T5).setN (by unfold W_tn; omega)).setN (by unfold W_tn; omega)).setN (by unfold W_tn; omega)).setN (by unfold W_tn; omega)
          have hd9 : frw (fun a _ => 15 ≤ a ∧ a ≤ 22) T5 T9 := by rw [hτ9]; exact ((((frw.refl (fun a _ => 15 ≤ a ∧ a ≤ 22) T5).setN (by omega)).setN (by omega)).setN (by omega)).setN (by omega)
          refine ⟨rfl, hX5.fr hd9 (fun a j h => by omega), fun i2 hi2 _ => ?_, (hG5.mono hTm).trans hc9⟩
          rw [hi] at hi2
          cases hi2
          have hT9 := (hPk.1.pe hPk.2 hn8 hnm v3 v5)
          rw [hτ9]
          have e1 : peH b E H i = _ := rfl
          unfold peH
          rw [hPk.2, show ((n : Int)).toNat = n by omega]
          rw [hi] at hw3 hw5
          rw [hw3, hw5] at hT9
          rw [hw3, hw5]
          exact hT9
      · refine am_iconst (q := 68) (n := 1) (by decide) (am_tab tk_X4_readPerson 36 rfl) rfl ?_
        refine am_goto (t := 72) (am_tab tk_X4_readPerson 37 rfl) (by decide) ?_
        refine am_iconst (q := 73) (n := 1) (by decide) (am_tab tk_X4_readPerson 39 rfl) rfl ?_
        refine am_callVr (q := 76) (me2 := M_X4_pass) (b := 27) (kb := 4) (nb := 13) (As := [am_i 1, am_i 1]) (rest := []) (c_passYT hX3 (by rw [h64]; decide) 1) ⟨rfl, rfl⟩ (Ls_27 hX3.1) (by decide) ⟨Or.inl km_X4_71, kc_X4_pass, kn_X4, kd_X4_pass, ⟨(Nat.le_of_ble_eq_true rfl), (Nat.le_of_ble_eq_true rfl)⟩, ⟨(Nat.le_of_ble_eq_true rfl), (Nat.le_of_ble_eq_true rfl)⟩, (Nat.le_of_ble_eq_true rfl)⟩ ki_X4_pass ks_X4_pass rfl (am_tab tk_X4_readPerson 40 rfl) rfl ?_
        rintro r T4 ⟨rfl, hX4, hG⟩
        have hG4 := hG3.trans hG
        rw [show npZ (nuF b E 1 99 (akF b E 2 (pnP b E H p))) = akF b E 3 (nuF b E 1 99 (akF b E 2 (pnP b E H p))) from ak_T h64] at hX4
        refine am_aload_n (q := 77) rfl (am_tab tk_X4_readPerson 41 rfl) rfl ?_
        refine am_iconst (q := 78) (n := 0) (by decide) (am_tab tk_X4_readPerson 42 rfl) rfl ?_
        refine am_bipush (q := 80) (n := 99) (by decide) rfl (am_tab tk_X4_readPerson 43 rfl) rfl ?_
        refine am_callVr (q := 83) (me2 := M_X4_readNumber) (b := 27) (kb := 4) (nb := 13) (As := [am_i 0, am_i 99]) (rest := []) (c_numZ hX4 0 99) ⟨rfl, rfl⟩ (Ls_27 hX4.1) (by decide) ⟨Or.inl km_X4_111, kc_X4_readNumber, kn_X4, kd_X4_readNumber, ⟨(Nat.le_of_ble_eq_true rfl), (Nat.le_of_ble_eq_true rfl)⟩, ⟨(Nat.le_of_ble_eq_true rfl), (Nat.le_of_ble_eq_true rfl)⟩, (Nat.le_of_ble_eq_true rfl)⟩ ki_X4_readNumber ks_X4_readNumber rfl (am_tab tk_X4_readPerson 44 rfl) rfl ?_
        rintro r T5 ⟨v5, rfl, hX5, hG, hv5⟩
        have hG5 := hG4.trans hG
        refine am_istore (q := 85) (by decide) (ls2 := [(4, am_i v5), (3, am_i v3), (2, am_i 0), (1, am_i ((σ.2.1 27 6))), (0, am_r 27)]) rfl (am_tab tk_X4_readPerson 45 rfl) rfl ?_
        refine am_aload_n (q := 86) rfl (am_tab tk_X4_readPerson 46 rfl) rfl ?_
        refine am_getI (q := 89) (a := 27) (k := 4) (n := 13) (j := 8) (x := (fkZ (nuF b E 0 99 (akF b E 3 (nuF b E 1 99 (akF b E 2 (pnP b E H p))))))) (Ls_27 hX5.1) (by decide) rfl hX5.fk (by decide) (Or.inl kf_X4_62) (am_tab tk_X4_readPerson 47 rfl) rfl ?_
        refine am_if_ne (q := 92) (t := 103) (am_tab tk_X4_readPerson 48 rfl) (by decide) rfl (fun h89 => ?_) (fun h89 => ?_)
        · refine am_vret rfl (Nat.le_of_ble_eq_true rfl) (Nat.le_of_ble_eq_true rfl) (am_tab tk_X4_readPerson 55 rfl) ?_
          refine hQ _ _ ?_
          exact ⟨rfl, hX5, fun i hi hl => absurd (hX5.fk0.mpr hl) h89, hG5.mono hTm⟩
        · have hl := hX5.fk0.mp h89
          have hl4 := nuF_l hl
          have hw5 := hv5 hl
          have hl3 := akF_l hl4
          have hw3 := hv3 hl3
          have hl2 := nuF_l hl3
          have hl1 := akF_l hl2
          have hl0 := pnP_l hl1
          have hn8 := hn8x hl0
          obtain ⟨i, hi, hk, hnm⟩ := pn_v hX0 hl1
          have hPk : TRr 15 T5 H ∧ H.2.1 85 0 = (n : Int) := by
            have := hP.fr hG5 hTN
            rw [hi] at this
            exact this
          refine am_aload_n (q := 93) rfl (am_tab tk_X4_readPerson 49 rfl) rfl ?_
          refine am_getR (q := 96) (a := 27) (k := 4) (n := 13) (j := 2) (r := some (15)) (Ls_27 hX5.1) (by decide) rfl (show T5.2.2 27 2 = some 15 by rw [hG5.2.1]; exact hR) (by decide) (Or.inl kf_X4_29) (am_tab tk_X4_readPerson 50 rfl) rfl ?_
          refine am_iload_n (q := 97) rfl (am_tab tk_X4_readPerson 51 rfl) rfl ?_
          refine am_iload_n (q := 98) rfl (am_tab tk_X4_readPerson 52 rfl) rfl ?_
          refine am_iload (q := 100) rfl (am_tab tk_X4_readPerson 53 rfl) rfl ?_
          refine am_callVr (q := 103) (me2 := M_X8_addPerson) (b := 15) (kb := 8) (nb := 17) (As := [am_i ((σ.2.1 27 6)), am_i v3, am_i v5]) (rest := []) (c_addPerson_15 T5 hX5.1 (σ.2.1 27 6) v3 v5 n ((hG5.2.2 15 2 (by unfold W_rz; omega)).trans hn) hn8) ⟨rfl, rfl⟩ (Ls_15 hX5.1) (by decide) ⟨Or.inr km_X4_155, kc_X8_addPerson, kn_X8, kd_X8_addPerson, ⟨(Nat.le_of_ble_eq_true rfl), (Nat.le_of_ble_eq_true rfl)⟩, ⟨(Nat.le_of_ble_eq_true rfl), (Nat.le_of_ble_eq_true rfl)⟩, (Nat.le_of_ble_eq_true rfl)⟩ ki_X8_addPerson ks_X8_addPerson rfl (am_tab tk_X4_readPerson 54 rfl) rfl ?_
          rintro r T9 ⟨rfl, hτ9⟩
          refine am_vret rfl (Nat.le_of_ble_eq_true rfl) (Nat.le_of_ble_eq_true rfl) (am_tab tk_X4_readPerson 55 rfl) ?_
          refine hQ _ _ ?_
          have hc9 : frw (W_tn 15) T5 T9 := by rw [hτ9]; exact ((((frw.refl (W_tn 15) T5).setN (by unfold W_tn; omega)).setN (by unfold W_tn; omega)).setN (by unfold W_tn; omega)).setN (by unfold W_tn; omega)
          have hd9 : frw (fun a _ => 15 ≤ a ∧ a ≤ 22) T5 T9 := by rw [hτ9]; exact ((((frw.refl (fun a _ => 15 ≤ a ∧ a ≤ 22) T5).setN (by omega)).setN (by omega)).setN (by omega)).setN (by omega)
          refine ⟨rfl, hX5.fr hd9 (fun a j h => by omega), fun i2 hi2 _ => ?_, (hG5.mono hTm).trans hc9⟩
          rw [hi] at hi2
          cases hi2
          have hT9 := (hPk.1.pe hPk.2 hn8 hnm v3 v5)
          rw [hτ9]
          have e1 : peH b E H i = _ := rfl
          unfold peH
          rw [hPk.2, show ((n : Int)).toNat = n by omega]
          rw [hi] at hw3 hw5
          rw [hw3, hw5] at hT9
          rw [hw3, hw5]
          exact hT9
    · refine am_iconst (q := 40) (n := 1) (by decide) (am_tab tk_X4_readPerson 21 rfl) rfl ?_
      refine am_goto (t := 44) (am_tab tk_X4_readPerson 22 rfl) (by decide) ?_
      refine am_iconst (q := 45) (n := 1) (by decide) (am_tab tk_X4_readPerson 24 rfl) rfl ?_
      refine am_callVr (q := 48) (me2 := M_X4_pass) (b := 27) (kb := 4) (nb := 13) (As := [am_i 1, am_i 1]) (rest := []) (c_passYT hX1 (by rw [h36]; decide) 1) ⟨rfl, rfl⟩ (Ls_27 hX1.1) (by decide) ⟨Or.inl km_X4_71, kc_X4_pass, kn_X4, kd_X4_pass, ⟨(Nat.le_of_ble_eq_true rfl), (Nat.le_of_ble_eq_true rfl)⟩, ⟨(Nat.le_of_ble_eq_true rfl), (Nat.le_of_ble_eq_true rfl)⟩, (Nat.le_of_ble_eq_true rfl)⟩ ki_X4_pass ks_X4_pass rfl (am_tab tk_X4_readPerson 25 rfl) rfl ?_
      rintro r T2 ⟨rfl, hX2, hG⟩
      have hG2 := hG1.trans hG
      rw [show npZ (pnP b E H p) = akF b E 2 (pnP b E H p) from ak_T h36] at hX2
      refine am_aload_n (q := 49) rfl (am_tab tk_X4_readPerson 26 rfl) rfl ?_
      refine am_iconst (q := 50) (n := 1) (by decide) (am_tab tk_X4_readPerson 27 rfl) rfl ?_
      refine am_bipush (q := 52) (n := 99) (by decide) rfl (am_tab tk_X4_readPerson 28 rfl) rfl ?_
      refine am_callVr (q := 55) (me2 := M_X4_readNumber) (b := 27) (kb := 4) (nb := 13) (As := [am_i 1, am_i 99]) (rest := []) (c_numZ hX2 1 99) ⟨rfl, rfl⟩ (Ls_27 hX2.1) (by decide) ⟨Or.inl km_X4_111, kc_X4_readNumber, kn_X4, kd_X4_readNumber, ⟨(Nat.le_of_ble_eq_true rfl), (Nat.le_of_ble_eq_true rfl)⟩, ⟨(Nat.le_of_ble_eq_true rfl), (Nat.le_of_ble_eq_true rfl)⟩, (Nat.le_of_ble_eq_true rfl)⟩ ki_X4_readNumber ks_X4_readNumber rfl (am_tab tk_X4_readPerson 29 rfl) rfl ?_
      rintro r T3 ⟨v3, rfl, hX3, hG, hv3⟩
      have hG3 := hG2.trans hG
      refine am_istore_n (q := 56) (by decide) (ls2 := [(3, am_i v3), (2, am_i 0), (1, am_i ((σ.2.1 27 6))), (0, am_r 27)]) rfl (am_tab tk_X4_readPerson 30 rfl) rfl ?_
      refine am_aload_n (q := 57) rfl (am_tab tk_X4_readPerson 31 rfl) rfl ?_
      refine am_aload_n (q := 58) rfl (am_tab tk_X4_readPerson 32 rfl) rfl ?_
      refine am_getI (q := 61) (a := 27) (k := 4) (n := 13) (j := 4) (x := (kdZ b E (nuF b E 1 99 (akF b E 2 (pnP b E H p))))) (Ls_27 hX3.1) (by decide) rfl hX3.kd (by decide) (Or.inl kf_X4_45) (am_tab tk_X4_readPerson 33 rfl) rfl ?_
      refine am_sipush (q := 64) (n := 131) (by decide) rfl (am_tab tk_X4_readPerson 34 rfl) rfl ?_
      refine am_icmp_ne (q := 67) (t := 71) (am_tab tk_X4_readPerson 35 rfl) (by decide) rfl (fun h64 => ?_) (fun h64 => ?_)
      · refine am_iconst (q := 72) (n := 0) (by decide) (am_tab tk_X4_readPerson 38 rfl) rfl ?_
        refine am_iconst (q := 73) (n := 1) (by decide) (am_tab tk_X4_readPerson 39 rfl) rfl ?_
        refine am_callVr (q := 76) (me2 := M_X4_pass) (b := 27) (kb := 4) (nb := 13) (As := [am_i 0, am_i 1]) (rest := []) (c_passYF hX3 1 (by decide)) ⟨rfl, rfl⟩ (Ls_27 hX3.1) (by decide) ⟨Or.inl km_X4_71, kc_X4_pass, kn_X4, kd_X4_pass, ⟨(Nat.le_of_ble_eq_true rfl), (Nat.le_of_ble_eq_true rfl)⟩, ⟨(Nat.le_of_ble_eq_true rfl), (Nat.le_of_ble_eq_true rfl)⟩, (Nat.le_of_ble_eq_true rfl)⟩ ki_X4_pass ks_X4_pass rfl (am_tab tk_X4_readPerson 40 rfl) rfl ?_
        rintro r T4 ⟨rfl, hX4, hG⟩
        have hG4 := hG3.trans hG
        rw [show ftZ b E 1 (nuF b E 1 99 (akF b E 2 (pnP b E H p))) = akF b E 3 (nuF b E 1 99 (akF b E 2 (pnP b E H p))) from ak_F h64] at hX4
        refine am_aload_n (q := 77) rfl (am_tab tk_X4_readPerson 41 rfl) rfl ?_
        refine am_iconst (q := 78) (n := 0) (by decide) (am_tab tk_X4_readPerson 42 rfl) rfl ?_
        refine am_bipush (q := 80) (n := 99) (by decide) rfl (am_tab tk_X4_readPerson 43 rfl) rfl ?_
        refine am_callVr (q := 83) (me2 := M_X4_readNumber) (b := 27) (kb := 4) (nb := 13) (As := [am_i 0, am_i 99]) (rest := []) (c_numZ hX4 0 99) ⟨rfl, rfl⟩ (Ls_27 hX4.1) (by decide) ⟨Or.inl km_X4_111, kc_X4_readNumber, kn_X4, kd_X4_readNumber, ⟨(Nat.le_of_ble_eq_true rfl), (Nat.le_of_ble_eq_true rfl)⟩, ⟨(Nat.le_of_ble_eq_true rfl), (Nat.le_of_ble_eq_true rfl)⟩, (Nat.le_of_ble_eq_true rfl)⟩ ki_X4_readNumber ks_X4_readNumber rfl (am_tab tk_X4_readPerson 44 rfl) rfl ?_
        rintro r T5 ⟨v5, rfl, hX5, hG, hv5⟩
        have hG5 := hG4.trans hG
        refine am_istore (q := 85) (by decide) (ls2 := [(4, am_i v5), (3, am_i v3), (2, am_i 0), (1, am_i ((σ.2.1 27 6))), (0, am_r 27)]) rfl (am_tab tk_X4_readPerson 45 rfl) rfl ?_
        refine am_aload_n (q := 86) rfl (am_tab tk_X4_readPerson 46 rfl) rfl ?_
        refine am_getI (q := 89) (a := 27) (k := 4) (n := 13) (j := 8) (x := (fkZ (nuF b E 0 99 (akF b E 3 (nuF b E 1 99 (akF b E 2 (pnP b E H p))))))) (Ls_27 hX5.1) (by decide) rfl hX5.fk (by decide) (Or.inl kf_X4_62) (am_tab tk_X4_readPerson 47 rfl) rfl ?_
        refine am_if_ne (q := 92) (t := 103) (am_tab tk_X4_readPerson 48 rfl) (by decide) rfl (fun h89 => ?_) (fun h89 => ?_)
        · refine am_vret rfl (Nat.le_of_ble_eq_true rfl) (Nat.le_of_ble_eq_true rfl) (am_tab tk_X4_readPerson 55 rfl) ?_
          refine hQ _ _ ?_
          exact ⟨rfl, hX5, fun i hi hl => absurd (hX5.fk0.mpr hl) h89, hG5.mono hTm⟩
        · have hl := hX5.fk0.mp h89
          have hl4 := nuF_l hl
          have hw5 := hv5 hl
          have hl3 := akF_l hl4
          have hw3 := hv3 hl3
          have hl2 := nuF_l hl3
          have hl1 := akF_l hl2
          have hl0 := pnP_l hl1
          have hn8 := hn8x hl0
          obtain ⟨i, hi, hk, hnm⟩ := pn_v hX0 hl1
          have hPk : TRr 15 T5 H ∧ H.2.1 85 0 = (n : Int) := by
            have := hP.fr hG5 hTN
            rw [hi] at this
            exact this
          refine am_aload_n (q := 93) rfl (am_tab tk_X4_readPerson 49 rfl) rfl ?_
          refine am_getR (q := 96) (a := 27) (k := 4) (n := 13) (j := 2) (r := some (15)) (Ls_27 hX5.1) (by decide) rfl (show T5.2.2 27 2 = some 15 by rw [hG5.2.1]; exact hR) (by decide) (Or.inl kf_X4_29) (am_tab tk_X4_readPerson 50 rfl) rfl ?_
          refine am_iload_n (q := 97) rfl (am_tab tk_X4_readPerson 51 rfl) rfl ?_
          refine am_iload_n (q := 98) rfl (am_tab tk_X4_readPerson 52 rfl) rfl ?_
          refine am_iload (q := 100) rfl (am_tab tk_X4_readPerson 53 rfl) rfl ?_
          refine am_callVr (q := 103) (me2 := M_X8_addPerson) (b := 15) (kb := 8) (nb := 17) (As := [am_i ((σ.2.1 27 6)), am_i v3, am_i v5]) (rest := []) (c_addPerson_15 T5 hX5.1 (σ.2.1 27 6) v3 v5 n ((hG5.2.2 15 2 (by unfold W_rz; omega)).trans hn) hn8) ⟨rfl, rfl⟩ (Ls_15 hX5.1) (by decide) ⟨Or.inr km_X4_155, kc_X8_addPerson, kn_X8, kd_X8_addPerson, ⟨(Nat.le_of_ble_eq_true rfl), (Nat.le_of_ble_eq_true rfl)⟩, ⟨(Nat.le_of_ble_eq_true rfl), (Nat.le_of_ble_eq_true rfl)⟩, (Nat.le_of_ble_eq_true rfl)⟩ ki_X8_addPerson ks_X8_addPerson rfl (am_tab tk_X4_readPerson 54 rfl) rfl ?_
          rintro r T9 ⟨rfl, hτ9⟩
          refine am_vret rfl (Nat.le_of_ble_eq_true rfl) (Nat.le_of_ble_eq_true rfl) (am_tab tk_X4_readPerson 55 rfl) ?_
          refine hQ _ _ ?_
          have hc9 : frw (W_tn 15) T5 T9 := by rw [hτ9]; exact ((((frw.refl (W_tn 15) T5).setN (by unfold W_tn; omega)).setN (by unfold W_tn; omega)).setN (by unfold W_tn; omega)).setN (by unfold W_tn; omega)
          have hd9 : frw (fun a _ => 15 ≤ a ∧ a ≤ 22) T5 T9 := by rw [hτ9]; exact ((((frw.refl (fun a _ => 15 ≤ a ∧ a ≤ 22) T5).setN (by omega)).setN (by omega)).setN (by omega)).setN (by omega)
          refine ⟨rfl, hX5.fr hd9 (fun a j h => by omega), fun i2 hi2 _ => ?_, (hG5.mono hTm).trans hc9⟩
          rw [hi] at hi2
          cases hi2
          have hT9 := (hPk.1.pe hPk.2 hn8 hnm v3 v5)
          rw [hτ9]
          have e1 : peH b E H i = _ := rfl
          unfold peH
          rw [hPk.2, show ((n : Int)).toNat = n by omega]
          rw [hi] at hw3 hw5
          rw [hw3, hw5] at hT9
          rw [hw3, hw5]
          exact hT9
      · refine am_iconst (q := 68) (n := 1) (by decide) (am_tab tk_X4_readPerson 36 rfl) rfl ?_
        refine am_goto (t := 72) (am_tab tk_X4_readPerson 37 rfl) (by decide) ?_
        refine am_iconst (q := 73) (n := 1) (by decide) (am_tab tk_X4_readPerson 39 rfl) rfl ?_
        refine am_callVr (q := 76) (me2 := M_X4_pass) (b := 27) (kb := 4) (nb := 13) (As := [am_i 1, am_i 1]) (rest := []) (c_passYT hX3 (by rw [h64]; decide) 1) ⟨rfl, rfl⟩ (Ls_27 hX3.1) (by decide) ⟨Or.inl km_X4_71, kc_X4_pass, kn_X4, kd_X4_pass, ⟨(Nat.le_of_ble_eq_true rfl), (Nat.le_of_ble_eq_true rfl)⟩, ⟨(Nat.le_of_ble_eq_true rfl), (Nat.le_of_ble_eq_true rfl)⟩, (Nat.le_of_ble_eq_true rfl)⟩ ki_X4_pass ks_X4_pass rfl (am_tab tk_X4_readPerson 40 rfl) rfl ?_
        rintro r T4 ⟨rfl, hX4, hG⟩
        have hG4 := hG3.trans hG
        rw [show npZ (nuF b E 1 99 (akF b E 2 (pnP b E H p))) = akF b E 3 (nuF b E 1 99 (akF b E 2 (pnP b E H p))) from ak_T h64] at hX4
        refine am_aload_n (q := 77) rfl (am_tab tk_X4_readPerson 41 rfl) rfl ?_
        refine am_iconst (q := 78) (n := 0) (by decide) (am_tab tk_X4_readPerson 42 rfl) rfl ?_
        refine am_bipush (q := 80) (n := 99) (by decide) rfl (am_tab tk_X4_readPerson 43 rfl) rfl ?_
        refine am_callVr (q := 83) (me2 := M_X4_readNumber) (b := 27) (kb := 4) (nb := 13) (As := [am_i 0, am_i 99]) (rest := []) (c_numZ hX4 0 99) ⟨rfl, rfl⟩ (Ls_27 hX4.1) (by decide) ⟨Or.inl km_X4_111, kc_X4_readNumber, kn_X4, kd_X4_readNumber, ⟨(Nat.le_of_ble_eq_true rfl), (Nat.le_of_ble_eq_true rfl)⟩, ⟨(Nat.le_of_ble_eq_true rfl), (Nat.le_of_ble_eq_true rfl)⟩, (Nat.le_of_ble_eq_true rfl)⟩ ki_X4_readNumber ks_X4_readNumber rfl (am_tab tk_X4_readPerson 44 rfl) rfl ?_
        rintro r T5 ⟨v5, rfl, hX5, hG, hv5⟩
        have hG5 := hG4.trans hG
        refine am_istore (q := 85) (by decide) (ls2 := [(4, am_i v5), (3, am_i v3), (2, am_i 0), (1, am_i ((σ.2.1 27 6))), (0, am_r 27)]) rfl (am_tab tk_X4_readPerson 45 rfl) rfl ?_
        refine am_aload_n (q := 86) rfl (am_tab tk_X4_readPerson 46 rfl) rfl ?_
        refine am_getI (q := 89) (a := 27) (k := 4) (n := 13) (j := 8) (x := (fkZ (nuF b E 0 99 (akF b E 3 (nuF b E 1 99 (akF b E 2 (pnP b E H p))))))) (Ls_27 hX5.1) (by decide) rfl hX5.fk (by decide) (Or.inl kf_X4_62) (am_tab tk_X4_readPerson 47 rfl) rfl ?_
        refine am_if_ne (q := 92) (t := 103) (am_tab tk_X4_readPerson 48 rfl) (by decide) rfl (fun h89 => ?_) (fun h89 => ?_)
        · refine am_vret rfl (Nat.le_of_ble_eq_true rfl) (Nat.le_of_ble_eq_true rfl) (am_tab tk_X4_readPerson 55 rfl) ?_
          refine hQ _ _ ?_
          exact ⟨rfl, hX5, fun i hi hl => absurd (hX5.fk0.mpr hl) h89, hG5.mono hTm⟩
        · have hl := hX5.fk0.mp h89
          have hl4 := nuF_l hl
          have hw5 := hv5 hl
          have hl3 := akF_l hl4
          have hw3 := hv3 hl3
          have hl2 := nuF_l hl3
          have hl1 := akF_l hl2
          have hl0 := pnP_l hl1
          have hn8 := hn8x hl0
          obtain ⟨i, hi, hk, hnm⟩ := pn_v hX0 hl1
          have hPk : TRr 15 T5 H ∧ H.2.1 85 0 = (n : Int) := by
            have := hP.fr hG5 hTN
            rw [hi] at this
            exact this
          refine am_aload_n (q := 93) rfl (am_tab tk_X4_readPerson 49 rfl) rfl ?_
          refine am_getR (q := 96) (a := 27) (k := 4) (n := 13) (j := 2) (r := some (15)) (Ls_27 hX5.1) (by decide) rfl (show T5.2.2 27 2 = some 15 by rw [hG5.2.1]; exact hR) (by decide) (Or.inl kf_X4_29) (am_tab tk_X4_readPerson 50 rfl) rfl ?_
          refine am_iload_n (q := 97) rfl (am_tab tk_X4_readPerson 51 rfl) rfl ?_
          refine am_iload_n (q := 98) rfl (am_tab tk_X4_readPerson 52 rfl) rfl ?_
          refine am_iload (q := 100) rfl (am_tab tk_X4_readPerson 53 rfl) rfl ?_
          refine am_callVr (q := 103) (me2 := M_X8_addPerson) (b := 15) (kb := 8) (nb := 17) (As := [am_i ((σ.2.1 27 6)), am_i v3, am_i v5]) (rest := []) (c_addPerson_15 T5 hX5.1 (σ.2.1 27 6) v3 v5 n ((hG5.2.2 15 2 (by unfold W_rz; omega)).trans hn) hn8) ⟨rfl, rfl⟩ (Ls_15 hX5.1) (by decide) ⟨Or.inr km_X4_155, kc_X8_addPerson, kn_X8, kd_X8_addPerson, ⟨(Nat.le_of_ble_eq_true rfl), (Nat.le_of_ble_eq_true rfl)⟩, ⟨(Nat.le_of_ble_eq_true rfl), (Nat.le_of_ble_eq_true rfl)⟩, (Nat.le_of_ble_eq_true rfl)⟩ ki_X8_addPerson ks_X8_addPerson rfl (am_tab tk_X4_readPerson 54 rfl) rfl ?_
          rintro r T9 ⟨rfl, hτ9⟩
          refine am_vret rfl (Nat.le_of_ble_eq_true rfl) (Nat.le_of_ble_eq_true rfl) (am_tab tk_X4_readPerson 55 rfl) ?_
          refine hQ _ _ ?_
          have hc9 : frw (W_tn 15) T5 T9 := by rw [hτ9]; exact ((((frw.refl (W_tn 15) T5).setN (by unfold W_tn; omega)).setN (by unfold W_tn; omega)).setN (by unfold W_tn; omega)).setN (by unfold W_tn; omega)
          have hd9 : frw (fun a _ => 15 ≤ a ∧ a ≤ 22) T5 T9 := by rw [hτ9]; exact ((((frw.refl (fun a _ => 15 ≤ a ∧ a ≤ 22) T5).setN (by omega)).setN (by omega)).setN (by omega)).setN (by omega)
          refine ⟨rfl, hX5.fr hd9 (fun a j h => by omega), fun i2 hi2 _ => ?_, (hG5.mono hTm).trans hc9⟩
          rw [hi] at hi2
          cases hi2
          have hT9 := (hPk.1.pe hPk.2 hn8 hnm v3 v5)
          rw [hτ9]
          have e1 : peH b E H i = _ := rfl
          unfold peH
          rw [hPk.2, show ((n : Int)).toNat = n by omega]
          rw [hi] at hw3 hw5
          rw [hw3, hw5] at hT9
          rw [hw3, hw5]
          exact hT9
  · refine am_iconst (q := 18) (n := 1) (by decide) (am_tab tk_X4_readPerson 9 rfl) rfl ?_
    refine am_goto (t := 22) (am_tab tk_X4_readPerson 10 rfl) (by decide) ?_
    refine am_istore_n (q := 23) (by decide) (ls2 := [(2, am_i 1), (1, am_i ((σ.2.1 27 6))), (0, am_r 27)]) rfl (am_tab tk_X4_readPerson 12 rfl) rfl ?_
    refine am_aload_n (q := 24) rfl (am_tab tk_X4_readPerson 13 rfl) rfl ?_
    refine am_iload_n (q := 25) rfl (am_tab tk_X4_readPerson 14 rfl) rfl ?_
    refine am_callVr (q := 28) (me2 := M_X4_readName) (b := 27) (kb := 4) (nb := 13) (As := [am_i 1]) (rest := []) (c_nameZ1 hX0) ⟨rfl, rfl⟩ (Ls_27 hX.1) (by decide) ⟨Or.inl km_X4_151, kc_X4_readName, kn_X4, kd_X4_readName, ⟨(Nat.le_of_ble_eq_true rfl), (Nat.le_of_ble_eq_true rfl)⟩, ⟨(Nat.le_of_ble_eq_true rfl), (Nat.le_of_ble_eq_true rfl)⟩, (Nat.le_of_ble_eq_true rfl)⟩ ki_X4_readName ks_X4_readName rfl (am_tab tk_X4_readPerson 15 rfl) rfl ?_
    rintro r T1 ⟨rfl, hX1, hG⟩
    have hG1 := hG0.trans hG
    rw [show naG b E true (p) = pnP b E H p from (pn_T hX0 hP h14)] at hX1
    refine am_aload_n (q := 29) rfl (am_tab tk_X4_readPerson 16 rfl) rfl ?_
    refine am_aload_n (q := 30) rfl (am_tab tk_X4_readPerson 17 rfl) rfl ?_
    refine am_getI (q := 33) (a := 27) (k := 4) (n := 13) (j := 4) (x := (kdZ b E (pnP b E H p))) (Ls_27 hX1.1) (by decide) rfl hX1.kd (by decide) (Or.inl kf_X4_45) (am_tab tk_X4_readPerson 18 rfl) rfl ?_
    refine am_sipush (q := 36) (n := 130) (by decide) rfl (am_tab tk_X4_readPerson 19 rfl) rfl ?_
    refine am_icmp_ne (q := 39) (t := 43) (am_tab tk_X4_readPerson 20 rfl) (by decide) rfl (fun h36 => ?_) (fun h36 => ?_)
    · refine am_iconst (q := 44) (n := 0) (by decide) (am_tab tk_X4_readPerson 23 rfl) rfl ?_
      refine am_iconst (q := 45) (n := 1) (by decide) (am_tab tk_X4_readPerson 24 rfl) rfl ?_
      refine am_callVr (q := 48) (me2 := M_X4_pass) (b := 27) (kb := 4) (nb := 13) (As := [am_i 0, am_i 1]) (rest := []) (c_passYF hX1 1 (by decide)) ⟨rfl, rfl⟩ (Ls_27 hX1.1) (by decide) ⟨Or.inl km_X4_71, kc_X4_pass, kn_X4, kd_X4_pass, ⟨(Nat.le_of_ble_eq_true rfl), (Nat.le_of_ble_eq_true rfl)⟩, ⟨(Nat.le_of_ble_eq_true rfl), (Nat.le_of_ble_eq_true rfl)⟩, (Nat.le_of_ble_eq_true rfl)⟩ ki_X4_pass ks_X4_pass rfl (am_tab tk_X4_readPerson 25 rfl) rfl ?_
      rintro r T2 ⟨rfl, hX2, hG⟩
      have hG2 := hG1.trans hG
      rw [show ftZ b E 1 (pnP b E H p) = akF b E 2 (pnP b E H p) from ak_F h36] at hX2
      refine am_aload_n (q := 49) rfl (am_tab tk_X4_readPerson 26 rfl) rfl ?_
      refine am_iconst (q := 50) (n := 1) (by decide) (am_tab tk_X4_readPerson 27 rfl) rfl ?_
      refine am_bipush (q := 52) (n := 99) (by decide) rfl (am_tab tk_X4_readPerson 28 rfl) rfl ?_
      refine am_callVr (q := 55) (me2 := M_X4_readNumber) (b := 27) (kb := 4) (nb := 13) (As := [am_i 1, am_i 99]) (rest := []) (c_numZ hX2 1 99) ⟨rfl, rfl⟩ (Ls_27 hX2.1) (by decide) ⟨Or.inl km_X4_111, kc_X4_readNumber, kn_X4, kd_X4_readNumber, ⟨(Nat.le_of_ble_eq_true rfl), (Nat.le_of_ble_eq_true rfl)⟩, ⟨(Nat.le_of_ble_eq_true rfl), (Nat.le_of_ble_eq_true rfl)⟩, (Nat.le_of_ble_eq_true rfl)⟩ ki_X4_readNumber ks_X4_readNumber rfl (am_tab tk_X4_readPerson 29 rfl) rfl ?_
      rintro r T3 ⟨v3, rfl, hX3, hG, hv3⟩
      have hG3 := hG2.trans hG
      refine am_istore_n (q := 56) (by decide) (ls2 := [(3, am_i v3), (2, am_i 1), (1, am_i ((σ.2.1 27 6))), (0, am_r 27)]) rfl (am_tab tk_X4_readPerson 30 rfl) rfl ?_
      refine am_aload_n (q := 57) rfl (am_tab tk_X4_readPerson 31 rfl) rfl ?_
      refine am_aload_n (q := 58) rfl (am_tab tk_X4_readPerson 32 rfl) rfl ?_
      refine am_getI (q := 61) (a := 27) (k := 4) (n := 13) (j := 4) (x := (kdZ b E (nuF b E 1 99 (akF b E 2 (pnP b E H p))))) (Ls_27 hX3.1) (by decide) rfl hX3.kd (by decide) (Or.inl kf_X4_45) (am_tab tk_X4_readPerson 33 rfl) rfl ?_
      refine am_sipush (q := 64) (n := 131) (by decide) rfl (am_tab tk_X4_readPerson 34 rfl) rfl ?_
      refine am_icmp_ne (q := 67) (t := 71) (am_tab tk_X4_readPerson 35 rfl) (by decide) rfl (fun h64 => ?_) (fun h64 => ?_)
      · refine am_iconst (q := 72) (n := 0) (by decide) (am_tab tk_X4_readPerson 38 rfl) rfl ?_
        refine am_iconst (q := 73) (n := 1) (by decide) (am_tab tk_X4_readPerson 39 rfl) rfl ?_
        refine am_callVr (q := 76) (me2 := M_X4_pass) (b := 27) (kb := 4) (nb := 13) (As := [am_i 0, am_i 1]) (rest := []) (c_passYF hX3 1 (by decide)) ⟨rfl, rfl⟩ (Ls_27 hX3.1) (by decide) ⟨Or.inl km_X4_71, kc_X4_pass, kn_X4, kd_X4_pass, ⟨(Nat.le_of_ble_eq_true rfl), (Nat.le_of_ble_eq_true rfl)⟩, ⟨(Nat.le_of_ble_eq_true rfl), (Nat.le_of_ble_eq_true rfl)⟩, (Nat.le_of_ble_eq_true rfl)⟩ ki_X4_pass ks_X4_pass rfl (am_tab tk_X4_readPerson 40 rfl) rfl ?_
        rintro r T4 ⟨rfl, hX4, hG⟩
        have hG4 := hG3.trans hG
        rw [show ftZ b E 1 (nuF b E 1 99 (akF b E 2 (pnP b E H p))) = akF b E 3 (nuF b E 1 99 (akF b E 2 (pnP b E H p))) from ak_F h64] at hX4
        refine am_aload_n (q := 77) rfl (am_tab tk_X4_readPerson 41 rfl) rfl ?_
        refine am_iconst (q := 78) (n := 0) (by decide) (am_tab tk_X4_readPerson 42 rfl) rfl ?_
        refine am_bipush (q := 80) (n := 99) (by decide) rfl (am_tab tk_X4_readPerson 43 rfl) rfl ?_
        refine am_callVr (q := 83) (me2 := M_X4_readNumber) (b := 27) (kb := 4) (nb := 13) (As := [am_i 0, am_i 99]) (rest := []) (c_numZ hX4 0 99) ⟨rfl, rfl⟩ (Ls_27 hX4.1) (by decide) ⟨Or.inl km_X4_111, kc_X4_readNumber, kn_X4, kd_X4_readNumber, ⟨(Nat.le_of_ble_eq_true rfl), (Nat.le_of_ble_eq_true rfl)⟩, ⟨(Nat.le_of_ble_eq_true rfl), (Nat.le_of_ble_eq_true rfl)⟩, (Nat.le_of_ble_eq_true rfl)⟩ ki_X4_readNumber ks_X4_readNumber rfl (am_tab tk_X4_readPerson 44 rfl) rfl ?_
        rintro r T5 ⟨v5, rfl, hX5, hG, hv5⟩
        have hG5 := hG4.trans hG
        refine am_istore (q := 85) (by decide) (ls2 := [(4, am_i v5), (3, am_i v3), (2, am_i 1), (1, am_i ((σ.2.1 27 6))), (0, am_r 27)]) rfl (am_tab tk_X4_readPerson 45 rfl) rfl ?_
        refine am_aload_n (q := 86) rfl (am_tab tk_X4_readPerson 46 rfl) rfl ?_
        refine am_getI (q := 89) (a := 27) (k := 4) (n := 13) (j := 8) (x := (fkZ (nuF b E 0 99 (akF b E 3 (nuF b E 1 99 (akF b E 2 (pnP b E H p))))))) (Ls_27 hX5.1) (by decide) rfl hX5.fk (by decide) (Or.inl kf_X4_62) (am_tab tk_X4_readPerson 47 rfl) rfl ?_
        refine am_if_ne (q := 92) (t := 103) (am_tab tk_X4_readPerson 48 rfl) (by decide) rfl (fun h89 => ?_) (fun h89 => ?_)
        · refine am_vret rfl (Nat.le_of_ble_eq_true rfl) (Nat.le_of_ble_eq_true rfl) (am_tab tk_X4_readPerson 55 rfl) ?_
          refine hQ _ _ ?_
          exact ⟨rfl, hX5, fun i hi hl => absurd (hX5.fk0.mpr hl) h89, hG5.mono hTm⟩
        · have hl := hX5.fk0.mp h89
          have hl4 := nuF_l hl
          have hw5 := hv5 hl
          have hl3 := akF_l hl4
          have hw3 := hv3 hl3
          have hl2 := nuF_l hl3
          have hl1 := akF_l hl2
          have hl0 := pnP_l hl1
          have hn8 := hn8x hl0
          obtain ⟨i, hi, hk, hnm⟩ := pn_v hX0 hl1
          have hPk : TRr 15 T5 H ∧ H.2.1 85 0 = (n : Int) := by
            have := hP.fr hG5 hTN
            rw [hi] at this
            exact this
          refine am_aload_n (q := 93) rfl (am_tab tk_X4_readPerson 49 rfl) rfl ?_
          refine am_getR (q := 96) (a := 27) (k := 4) (n := 13) (j := 2) (r := some (15)) (Ls_27 hX5.1) (by decide) rfl (show T5.2.2 27 2 = some 15 by rw [hG5.2.1]; exact hR) (by decide) (Or.inl kf_X4_29) (am_tab tk_X4_readPerson 50 rfl) rfl ?_
          refine am_iload_n (q := 97) rfl (am_tab tk_X4_readPerson 51 rfl) rfl ?_
          refine am_iload_n (q := 98) rfl (am_tab tk_X4_readPerson 52 rfl) rfl ?_
          refine am_iload (q := 100) rfl (am_tab tk_X4_readPerson 53 rfl) rfl ?_
          refine am_callVr (q := 103) (me2 := M_X8_addPerson) (b := 15) (kb := 8) (nb := 17) (As := [am_i ((σ.2.1 27 6)), am_i v3, am_i v5]) (rest := []) (c_addPerson_15 T5 hX5.1 (σ.2.1 27 6) v3 v5 n ((hG5.2.2 15 2 (by unfold W_rz; omega)).trans hn) hn8) ⟨rfl, rfl⟩ (Ls_15 hX5.1) (by decide) ⟨Or.inr km_X4_155, kc_X8_addPerson, kn_X8, kd_X8_addPerson, ⟨(Nat.le_of_ble_eq_true rfl), (Nat.le_of_ble_eq_true rfl)⟩, ⟨(Nat.le_of_ble_eq_true rfl), (Nat.le_of_ble_eq_true rfl)⟩, (Nat.le_of_ble_eq_true rfl)⟩ ki_X8_addPerson ks_X8_addPerson rfl (am_tab tk_X4_readPerson 54 rfl) rfl ?_
          rintro r T9 ⟨rfl, hτ9⟩
          refine am_vret rfl (Nat.le_of_ble_eq_true rfl) (Nat.le_of_ble_eq_true rfl) (am_tab tk_X4_readPerson 55 rfl) ?_
          refine hQ _ _ ?_
          have hc9 : frw (W_tn 15) T5 T9 := by rw [hτ9]; exact ((((frw.refl (W_tn 15) T5).setN (by unfold W_tn; omega)).setN (by unfold W_tn; omega)).setN (by unfold W_tn; omega)).setN (by unfold W_tn; omega)
          have hd9 : frw (fun a _ => 15 ≤ a ∧ a ≤ 22) T5 T9 := by rw [hτ9]; exact ((((frw.refl (fun a _ => 15 ≤ a ∧ a ≤ 22) T5).setN (by omega)).setN (by omega)).setN (by omega)).setN (by omega)
          refine ⟨rfl, hX5.fr hd9 (fun a j h => by omega), fun i2 hi2 _ => ?_, (hG5.mono hTm).trans hc9⟩
          rw [hi] at hi2
          cases hi2
          have hT9 := (hPk.1.pe hPk.2 hn8 hnm v3 v5)
          rw [hτ9]
          have e1 : peH b E H i = _ := rfl
          unfold peH
          rw [hPk.2, show ((n : Int)).toNat = n by omega]
          rw [hi] at hw3 hw5
          rw [hw3, hw5] at hT9
          rw [hw3, hw5]
          exact hT9
      · refine am_iconst (q := 68) (n := 1) (by decide) (am_tab tk_X4_readPerson 36 rfl) rfl ?_
        refine am_goto (t := 72) (am_tab tk_X4_readPerson 37 rfl) (by decide) ?_
        refine am_iconst (q := 73) (n := 1) (by decide) (am_tab tk_X4_readPerson 39 rfl) rfl ?_
        refine am_callVr (q := 76) (me2 := M_X4_pass) (b := 27) (kb := 4) (nb := 13) (As := [am_i 1, am_i 1]) (rest := []) (c_passYT hX3 (by rw [h64]; decide) 1) ⟨rfl, rfl⟩ (Ls_27 hX3.1) (by decide) ⟨Or.inl km_X4_71, kc_X4_pass, kn_X4, kd_X4_pass, ⟨(Nat.le_of_ble_eq_true rfl), (Nat.le_of_ble_eq_true rfl)⟩, ⟨(Nat.le_of_ble_eq_true rfl), (Nat.le_of_ble_eq_true rfl)⟩, (Nat.le_of_ble_eq_true rfl)⟩ ki_X4_pass ks_X4_pass rfl (am_tab tk_X4_readPerson 40 rfl) rfl ?_
        rintro r T4 ⟨rfl, hX4, hG⟩
        have hG4 := hG3.trans hG
        rw [show npZ (nuF b E 1 99 (akF b E 2 (pnP b E H p))) = akF b E 3 (nuF b E 1 99 (akF b E 2 (pnP b E H p))) from ak_T h64] at hX4
        refine am_aload_n (q := 77) rfl (am_tab tk_X4_readPerson 41 rfl) rfl ?_
        refine am_iconst (q := 78) (n := 0) (by decide) (am_tab tk_X4_readPerson 42 rfl) rfl ?_
        refine am_bipush (q := 80) (n := 99) (by decide) rfl (am_tab tk_X4_readPerson 43 rfl) rfl ?_
        refine am_callVr (q := 83) (me2 := M_X4_readNumber) (b := 27) (kb := 4) (nb := 13) (As := [am_i 0, am_i 99]) (rest := []) (c_numZ hX4 0 99) ⟨rfl, rfl⟩ (Ls_27 hX4.1) (by decide) ⟨Or.inl km_X4_111, kc_X4_readNumber, kn_X4, kd_X4_readNumber, ⟨(Nat.le_of_ble_eq_true rfl), (Nat.le_of_ble_eq_true rfl)⟩, ⟨(Nat.le_of_ble_eq_true rfl), (Nat.le_of_ble_eq_true rfl)⟩, (Nat.le_of_ble_eq_true rfl)⟩ ki_X4_readNumber ks_X4_readNumber rfl (am_tab tk_X4_readPerson 44 rfl) rfl ?_
        rintro r T5 ⟨v5, rfl, hX5, hG, hv5⟩
        have hG5 := hG4.trans hG
        refine am_istore (q := 85) (by decide) (ls2 := [(4, am_i v5), (3, am_i v3), (2, am_i 1), (1, am_i ((σ.2.1 27 6))), (0, am_r 27)]) rfl (am_tab tk_X4_readPerson 45 rfl) rfl ?_
        refine am_aload_n (q := 86) rfl (am_tab tk_X4_readPerson 46 rfl) rfl ?_
        refine am_getI (q := 89) (a := 27) (k := 4) (n := 13) (j := 8) (x := (fkZ (nuF b E 0 99 (akF b E 3 (nuF b E 1 99 (akF b E 2 (pnP b E H p))))))) (Ls_27 hX5.1) (by decide) rfl hX5.fk (by decide) (Or.inl kf_X4_62) (am_tab tk_X4_readPerson 47 rfl) rfl ?_
        refine am_if_ne (q := 92) (t := 103) (am_tab tk_X4_readPerson 48 rfl) (by decide) rfl (fun h89 => ?_) (fun h89 => ?_)
        · refine am_vret rfl (Nat.le_of_ble_eq_true rfl) (Nat.le_of_ble_eq_true rfl) (am_tab tk_X4_readPerson 55 rfl) ?_
          refine hQ _ _ ?_
          exact ⟨rfl, hX5, fun i hi hl => absurd (hX5.fk0.mpr hl) h89, hG5.mono hTm⟩
        · have hl := hX5.fk0.mp h89
          have hl4 := nuF_l hl
          have hw5 := hv5 hl
          have hl3 := akF_l hl4
          have hw3 := hv3 hl3
          have hl2 := nuF_l hl3
          have hl1 := akF_l hl2
          have hl0 := pnP_l hl1
          have hn8 := hn8x hl0
          obtain ⟨i, hi, hk, hnm⟩ := pn_v hX0 hl1
          have hPk : TRr 15 T5 H ∧ H.2.1 85 0 = (n : Int) := by
            have := hP.fr hG5 hTN
            rw [hi] at this
            exact this
          refine am_aload_n (q := 93) rfl (am_tab tk_X4_readPerson 49 rfl) rfl ?_
          refine am_getR (q := 96) (a := 27) (k := 4) (n := 13) (j := 2) (r := some (15)) (Ls_27 hX5.1) (by decide) rfl (show T5.2.2 27 2 = some 15 by rw [hG5.2.1]; exact hR) (by decide) (Or.inl kf_X4_29) (am_tab tk_X4_readPerson 50 rfl) rfl ?_
          refine am_iload_n (q := 97) rfl (am_tab tk_X4_readPerson 51 rfl) rfl ?_
          refine am_iload_n (q := 98) rfl (am_tab tk_X4_readPerson 52 rfl) rfl ?_
          refine am_iload (q := 100) rfl (am_tab tk_X4_readPerson 53 rfl) rfl ?_
          refine am_callVr (q := 103) (me2 := M_X8_addPerson) (b := 15) (kb := 8) (nb := 17) (As := [am_i ((σ.2.1 27 6)), am_i v3, am_i v5]) (rest := []) (c_addPerson_15 T5 hX5.1 (σ.2.1 27 6) v3 v5 n ((hG5.2.2 15 2 (by unfold W_rz; omega)).trans hn) hn8) ⟨rfl, rfl⟩ (Ls_15 hX5.1) (by decide) ⟨Or.inr km_X4_155, kc_X8_addPerson, kn_X8, kd_X8_addPerson, ⟨(Nat.le_of_ble_eq_true rfl), (Nat.le_of_ble_eq_true rfl)⟩, ⟨(Nat.le_of_ble_eq_true rfl), (Nat.le_of_ble_eq_true rfl)⟩, (Nat.le_of_ble_eq_true rfl)⟩ ki_X8_addPerson ks_X8_addPerson rfl (am_tab tk_X4_readPerson 54 rfl) rfl ?_
          rintro r T9 ⟨rfl, hτ9⟩
          refine am_vret rfl (Nat.le_of_ble_eq_true rfl) (Nat.le_of_ble_eq_true rfl) (am_tab tk_X4_readPerson 55 rfl) ?_
          refine hQ _ _ ?_
          have hc9 : frw (W_tn 15) T5 T9 := by rw [hτ9]; exact ((((frw.refl (W_tn 15) T5).setN (by unfold W_tn; omega)).setN (by unfold W_tn; omega)).setN (by unfold W_tn; omega)).setN (by unfold W_tn; omega)
          have hd9 : frw (fun a _ => 15 ≤ a ∧ a ≤ 22) T5 T9 := by rw [hτ9]; exact ((((frw.refl (fun a _ => 15 ≤ a ∧ a ≤ 22) T5).setN (by omega)).setN (by omega)).setN (by omega)).setN (by omega)
          refine ⟨rfl, hX5.fr hd9 (fun a j h => by omega), fun i2 hi2 _ => ?_, (hG5.mono hTm).trans hc9⟩
          rw [hi] at hi2
          cases hi2
          have hT9 := (hPk.1.pe hPk.2 hn8 hnm v3 v5)
          rw [hτ9]
          have e1 : peH b E H i = _ := rfl
          unfold peH
          rw [hPk.2, show ((n : Int)).toNat = n by omega]
          rw [hi] at hw3 hw5
          rw [hw3, hw5] at hT9
          rw [hw3, hw5]
          exact hT9
    · refine am_iconst (q := 40) (n := 1) (by decide) (am_tab tk_X4_readPerson 21 rfl) rfl ?_
      refine am_goto (t := 44) (am_tab tk_X4_readPerson 22 rfl) (by decide) ?_
      refine am_iconst (q := 45) (n := 1) (by decide) (am_tab tk_X4_readPerson 24 rfl) rfl ?_
      refine am_callVr (q := 48) (me2 := M_X4_pass) (b := 27) (kb := 4) (nb := 13) (As := [am_i 1, am_i 1]) (rest := []) (c_passYT hX1 (by rw [h36]; decide) 1) ⟨rfl, rfl⟩ (Ls_27 hX1.1) (by decide) ⟨Or.inl km_X4_71, kc_X4_pass, kn_X4, kd_X4_pass, ⟨(Nat.le_of_ble_eq_true rfl), (Nat.le_of_ble_eq_true rfl)⟩, ⟨(Nat.le_of_ble_eq_true rfl), (Nat.le_of_ble_eq_true rfl)⟩, (Nat.le_of_ble_eq_true rfl)⟩ ki_X4_pass ks_X4_pass rfl (am_tab tk_X4_readPerson 25 rfl) rfl ?_
      rintro r T2 ⟨rfl, hX2, hG⟩
      have hG2 := hG1.trans hG
      rw [show npZ (pnP b E H p) = akF b E 2 (pnP b E H p) from ak_T h36] at hX2
      refine am_aload_n (q := 49) rfl (am_tab tk_X4_readPerson 26 rfl) rfl ?_
      refine am_iconst (q := 50) (n := 1) (by decide) (am_tab tk_X4_readPerson 27 rfl) rfl ?_
      refine am_bipush (q := 52) (n := 99) (by decide) rfl (am_tab tk_X4_readPerson 28 rfl) rfl ?_
      refine am_callVr (q := 55) (me2 := M_X4_readNumber) (b := 27) (kb := 4) (nb := 13) (As := [am_i 1, am_i 99]) (rest := []) (c_numZ hX2 1 99) ⟨rfl, rfl⟩ (Ls_27 hX2.1) (by decide) ⟨Or.inl km_X4_111, kc_X4_readNumber, kn_X4, kd_X4_readNumber, ⟨(Nat.le_of_ble_eq_true rfl), (Nat.le_of_ble_eq_true rfl)⟩, ⟨(Nat.le_of_ble_eq_true rfl), (Nat.le_of_ble_eq_true rfl)⟩, (Nat.le_of_ble_eq_true rfl)⟩ ki_X4_readNumber ks_X4_readNumber rfl (am_tab tk_X4_readPerson 29 rfl) rfl ?_
      rintro r T3 ⟨v3, rfl, hX3, hG, hv3⟩
      have hG3 := hG2.trans hG
      refine am_istore_n (q := 56) (by decide) (ls2 := [(3, am_i v3), (2, am_i 1), (1, am_i ((σ.2.1 27 6))), (0, am_r 27)]) rfl (am_tab tk_X4_readPerson 30 rfl) rfl ?_
      refine am_aload_n (q := 57) rfl (am_tab tk_X4_readPerson 31 rfl) rfl ?_
      refine am_aload_n (q := 58) rfl (am_tab tk_X4_readPerson 32 rfl) rfl ?_
      refine am_getI (q := 61) (a := 27) (k := 4) (n := 13) (j := 4) (x := (kdZ b E (nuF b E 1 99 (akF b E 2 (pnP b E H p))))) (Ls_27 hX3.1) (by decide) rfl hX3.kd (by decide) (Or.inl kf_X4_45) (am_tab tk_X4_readPerson 33 rfl) rfl ?_
      refine am_sipush (q := 64) (n := 131) (by decide) rfl (am_tab tk_X4_readPerson 34 rfl) rfl ?_
      refine am_icmp_ne (q := 67) (t := 71) (am_tab tk_X4_readPerson 35 rfl) (by decide) rfl (fun h64 => ?_) (fun h64 => ?_)
      · refine am_iconst (q := 72) (n := 0) (by decide) (am_tab tk_X4_readPerson 38 rfl) rfl ?_
        refine am_iconst (q := 73) (n := 1) (by decide) (am_tab tk_X4_readPerson 39 rfl) rfl ?_
        refine am_callVr (q := 76) (me2 := M_X4_pass) (b := 27) (kb := 4) (nb := 13) (As := [am_i 0, am_i 1]) (rest := []) (c_passYF hX3 1 (by decide)) ⟨rfl, rfl⟩ (Ls_27 hX3.1) (by decide) ⟨Or.inl km_X4_71, kc_X4_pass, kn_X4, kd_X4_pass, ⟨(Nat.le_of_ble_eq_true rfl), (Nat.le_of_ble_eq_true rfl)⟩, ⟨(Nat.le_of_ble_eq_true rfl), (Nat.le_of_ble_eq_true rfl)⟩, (Nat.le_of_ble_eq_true rfl)⟩ ki_X4_pass ks_X4_pass rfl (am_tab tk_X4_readPerson 40 rfl) rfl ?_
        rintro r T4 ⟨rfl, hX4, hG⟩
        have hG4 := hG3.trans hG
        rw [show ftZ b E 1 (nuF b E 1 99 (akF b E 2 (pnP b E H p))) = akF b E 3 (nuF b E 1 99 (akF b E 2 (pnP b E H p))) from ak_F h64] at hX4
        refine am_aload_n (q := 77) rfl (am_tab tk_X4_readPerson 41 rfl) rfl ?_
        refine am_iconst (q := 78) (n := 0) (by decide) (am_tab tk_X4_readPerson 42 rfl) rfl ?_
        refine am_bipush (q := 80) (n := 99) (by decide) rfl (am_tab tk_X4_readPerson 43 rfl) rfl ?_
        refine am_callVr (q := 83) (me2 := M_X4_readNumber) (b := 27) (kb := 4) (nb := 13) (As := [am_i 0, am_i 99]) (rest := []) (c_numZ hX4 0 99) ⟨rfl, rfl⟩ (Ls_27 hX4.1) (by decide) ⟨Or.inl km_X4_111, kc_X4_readNumber, kn_X4, kd_X4_readNumber, ⟨(Nat.le_of_ble_eq_true rfl), (Nat.le_of_ble_eq_true rfl)⟩, ⟨(Nat.le_of_ble_eq_true rfl), (Nat.le_of_ble_eq_true rfl)⟩, (Nat.le_of_ble_eq_true rfl)⟩ ki_X4_readNumber ks_X4_readNumber rfl (am_tab tk_X4_readPerson 44 rfl) rfl ?_
        rintro r T5 ⟨v5, rfl, hX5, hG, hv5⟩
        have hG5 := hG4.trans hG
        refine am_istore (q := 85) (by decide) (ls2 := [(4, am_i v5), (3, am_i v3), (2, am_i 1), (1, am_i ((σ.2.1 27 6))), (0, am_r 27)]) rfl (am_tab tk_X4_readPerson 45 rfl) rfl ?_
        refine am_aload_n (q := 86) rfl (am_tab tk_X4_readPerson 46 rfl) rfl ?_
        refine am_getI (q := 89) (a := 27) (k := 4) (n := 13) (j := 8) (x := (fkZ (nuF b E 0 99 (akF b E 3 (nuF b E 1 99 (akF b E 2 (pnP b E H p))))))) (Ls_27 hX5.1) (by decide) rfl hX5.fk (by decide) (Or.inl kf_X4_62) (am_tab tk_X4_readPerson 47 rfl) rfl ?_
        refine am_if_ne (q := 92) (t := 103) (am_tab tk_X4_readPerson 48 rfl) (by decide) rfl (fun h89 => ?_) (fun h89 => ?_)
        · refine am_vret rfl (Nat.le_of_ble_eq_true rfl) (Nat.le_of_ble_eq_true rfl) (am_tab tk_X4_readPerson 55 rfl) ?_
          refine hQ _ _ ?_
          exact ⟨rfl, hX5, fun i hi hl => absurd (hX5.fk0.mpr hl) h89, hG5.mono hTm⟩
        · have hl := hX5.fk0.mp h89
          have hl4 := nuF_l hl
          have hw5 := hv5 hl
          have hl3 := akF_l hl4
          have hw3 := hv3 hl3
          have hl2 := nuF_l hl3
          have hl1 := akF_l hl2
          have hl0 := pnP_l hl1
          have hn8 := hn8x hl0
          obtain ⟨i, hi, hk, hnm⟩ := pn_v hX0 hl1
          have hPk : TRr 15 T5 H ∧ H.2.1 85 0 = (n : Int) := by
            have := hP.fr hG5 hTN
            rw [hi] at this
            exact this
          refine am_aload_n (q := 93) rfl (am_tab tk_X4_readPerson 49 rfl) rfl ?_
          refine am_getR (q := 96) (a := 27) (k := 4) (n := 13) (j := 2) (r := some (15)) (Ls_27 hX5.1) (by decide) rfl (show T5.2.2 27 2 = some 15 by rw [hG5.2.1]; exact hR) (by decide) (Or.inl kf_X4_29) (am_tab tk_X4_readPerson 50 rfl) rfl ?_
          refine am_iload_n (q := 97) rfl (am_tab tk_X4_readPerson 51 rfl) rfl ?_
          refine am_iload_n (q := 98) rfl (am_tab tk_X4_readPerson 52 rfl) rfl ?_
          refine am_iload (q := 100) rfl (am_tab tk_X4_readPerson 53 rfl) rfl ?_
          refine am_callVr (q := 103) (me2 := M_X8_addPerson) (b := 15) (kb := 8) (nb := 17) (As := [am_i ((σ.2.1 27 6)), am_i v3, am_i v5]) (rest := []) (c_addPerson_15 T5 hX5.1 (σ.2.1 27 6) v3 v5 n ((hG5.2.2 15 2 (by unfold W_rz; omega)).trans hn) hn8) ⟨rfl, rfl⟩ (Ls_15 hX5.1) (by decide) ⟨Or.inr km_X4_155, kc_X8_addPerson, kn_X8, kd_X8_addPerson, ⟨(Nat.le_of_ble_eq_true rfl), (Nat.le_of_ble_eq_true rfl)⟩, ⟨(Nat.le_of_ble_eq_true rfl), (Nat.le_of_ble_eq_true rfl)⟩, (Nat.le_of_ble_eq_true rfl)⟩ ki_X8_addPerson ks_X8_addPerson rfl (am_tab tk_X4_readPerson 54 rfl) rfl ?_
          rintro r T9 ⟨rfl, hτ9⟩
          refine am_vret rfl (Nat.le_of_ble_eq_true rfl) (Nat.le_of_ble_eq_true rfl) (am_tab tk_X4_readPerson 55 rfl) ?_
          refine hQ _ _ ?_
          have hc9 : frw (W_tn 15) T5 T9 := by rw [hτ9]; exact ((((frw.refl (W_tn 15) T5).setN (by unfold W_tn; omega)).setN (by unfold W_tn; omega)).setN (by unfold W_tn; omega)).setN (by unfold W_tn; omega)
          have hd9 : frw (fun a _ => 15 ≤ a ∧ a ≤ 22) T5 T9 := by rw [hτ9]; exact ((((frw.refl (fun a _ => 15 ≤ a ∧ a ≤ 22) T5).setN (by omega)).setN (by omega)).setN (by omega)).setN (by omega)
          refine ⟨rfl, hX5.fr hd9 (fun a j h => by omega), fun i2 hi2 _ => ?_, (hG5.mono hTm).trans hc9⟩
          rw [hi] at hi2
          cases hi2
          have hT9 := (hPk.1.pe hPk.2 hn8 hnm v3 v5)
          rw [hτ9]
          have e1 : peH b E H i = _ := rfl
          unfold peH
          rw [hPk.2, show ((n : Int)).toNat = n by omega]
          rw [hi] at hw3 hw5
          rw [hw3, hw5] at hT9
          rw [hw3, hw5]
          exact hT9
      · refine am_iconst (q := 68) (n := 1) (by decide) (am_tab tk_X4_readPerson 36 rfl) rfl ?_
        refine am_goto (t := 72) (am_tab tk_X4_readPerson 37 rfl) (by decide) ?_
        refine am_iconst (q := 73) (n := 1) (by decide) (am_tab tk_X4_readPerson 39 rfl) rfl ?_
        refine am_callVr (q := 76) (me2 := M_X4_pass) (b := 27) (kb := 4) (nb := 13) (As := [am_i 1, am_i 1]) (rest := []) (c_passYT hX3 (by rw [h64]; decide) 1) ⟨rfl, rfl⟩ (Ls_27 hX3.1) (by decide) ⟨Or.inl km_X4_71, kc_X4_pass, kn_X4, kd_X4_pass, ⟨(Nat.le_of_ble_eq_true rfl), (Nat.le_of_ble_eq_true rfl)⟩, ⟨(Nat.le_of_ble_eq_true rfl), (Nat.le_of_ble_eq_true rfl)⟩, (Nat.le_of_ble_eq_true rfl)⟩ ki_X4_pass ks_X4_pass rfl (am_tab tk_X4_readPerson 40 rfl) rfl ?_
        rintro r T4 ⟨rfl, hX4, hG⟩
        have hG4 := hG3.trans hG
        rw [show npZ (nuF b E 1 99 (akF b E 2 (pnP b E H p))) = akF b E 3 (nuF b E 1 99 (akF b E 2 (pnP b E H p))) from ak_T h64] at hX4
        refine am_aload_n (q := 77) rfl (am_tab tk_X4_readPerson 41 rfl) rfl ?_
        refine am_iconst (q := 78) (n := 0) (by decide) (am_tab tk_X4_readPerson 42 rfl) rfl ?_
        refine am_bipush (q := 80) (n := 99) (by decide) rfl (am_tab tk_X4_readPerson 43 rfl) rfl ?_
        refine am_callVr (q := 83) (me2 := M_X4_readNumber) (b := 27) (kb := 4) (nb := 13) (As := [am_i 0, am_i 99]) (rest := []) (c_numZ hX4 0 99) ⟨rfl, rfl⟩ (Ls_27 hX4.1) (by decide) ⟨Or.inl km_X4_111, kc_X4_readNumber, kn_X4, kd_X4_readNumber, ⟨(Nat.le_of_ble_eq_true rfl), (Nat.le_of_ble_eq_true rfl)⟩, ⟨(Nat.le_of_ble_eq_true rfl), (Nat.le_of_ble_eq_true rfl)⟩, (Nat.le_of_ble_eq_true rfl)⟩ ki_X4_readNumber ks_X4_readNumber rfl (am_tab tk_X4_readPerson 44 rfl) rfl ?_
        rintro r T5 ⟨v5, rfl, hX5, hG, hv5⟩
        have hG5 := hG4.trans hG
        refine am_istore (q := 85) (by decide) (ls2 := [(4, am_i v5), (3, am_i v3), (2, am_i 1), (1, am_i ((σ.2.1 27 6))), (0, am_r 27)]) rfl (am_tab tk_X4_readPerson 45 rfl) rfl ?_
        refine am_aload_n (q := 86) rfl (am_tab tk_X4_readPerson 46 rfl) rfl ?_
        refine am_getI (q := 89) (a := 27) (k := 4) (n := 13) (j := 8) (x := (fkZ (nuF b E 0 99 (akF b E 3 (nuF b E 1 99 (akF b E 2 (pnP b E H p))))))) (Ls_27 hX5.1) (by decide) rfl hX5.fk (by decide) (Or.inl kf_X4_62) (am_tab tk_X4_readPerson 47 rfl) rfl ?_
        refine am_if_ne (q := 92) (t := 103) (am_tab tk_X4_readPerson 48 rfl) (by decide) rfl (fun h89 => ?_) (fun h89 => ?_)
        · refine am_vret rfl (Nat.le_of_ble_eq_true rfl) (Nat.le_of_ble_eq_true rfl) (am_tab tk_X4_readPerson 55 rfl) ?_
          refine hQ _ _ ?_
          exact ⟨rfl, hX5, fun i hi hl => absurd (hX5.fk0.mpr hl) h89, hG5.mono hTm⟩
        · have hl := hX5.fk0.mp h89
          have hl4 := nuF_l hl
          have hw5 := hv5 hl
          have hl3 := akF_l hl4
          have hw3 := hv3 hl3
          have hl2 := nuF_l hl3
          have hl1 := akF_l hl2
          have hl0 := pnP_l hl1
          have hn8 := hn8x hl0
          obtain ⟨i, hi, hk, hnm⟩ := pn_v hX0 hl1
          have hPk : TRr 15 T5 H ∧ H.2.1 85 0 = (n : Int) := by
            have := hP.fr hG5 hTN
            rw [hi] at this
            exact this
          refine am_aload_n (q := 93) rfl (am_tab tk_X4_readPerson 49 rfl) rfl ?_
          refine am_getR (q := 96) (a := 27) (k := 4) (n := 13) (j := 2) (r := some (15)) (Ls_27 hX5.1) (by decide) rfl (show T5.2.2 27 2 = some 15 by rw [hG5.2.1]; exact hR) (by decide) (Or.inl kf_X4_29) (am_tab tk_X4_readPerson 50 rfl) rfl ?_
          refine am_iload_n (q := 97) rfl (am_tab tk_X4_readPerson 51 rfl) rfl ?_
          refine am_iload_n (q := 98) rfl (am_tab tk_X4_readPerson 52 rfl) rfl ?_
          refine am_iload (q := 100) rfl (am_tab tk_X4_readPerson 53 rfl) rfl ?_
          refine am_callVr (q := 103) (me2 := M_X8_addPerson) (b := 15) (kb := 8) (nb := 17) (As := [am_i ((σ.2.1 27 6)), am_i v3, am_i v5]) (rest := []) (c_addPerson_15 T5 hX5.1 (σ.2.1 27 6) v3 v5 n ((hG5.2.2 15 2 (by unfold W_rz; omega)).trans hn) hn8) ⟨rfl, rfl⟩ (Ls_15 hX5.1) (by decide) ⟨Or.inr km_X4_155, kc_X8_addPerson, kn_X8, kd_X8_addPerson, ⟨(Nat.le_of_ble_eq_true rfl), (Nat.le_of_ble_eq_true rfl)⟩, ⟨(Nat.le_of_ble_eq_true rfl), (Nat.le_of_ble_eq_true rfl)⟩, (Nat.le_of_ble_eq_true rfl)⟩ ki_X8_addPerson ks_X8_addPerson rfl (am_tab tk_X4_readPerson 54 rfl) rfl ?_
          rintro r T9 ⟨rfl, hτ9⟩
          refine am_vret rfl (Nat.le_of_ble_eq_true rfl) (Nat.le_of_ble_eq_true rfl) (am_tab tk_X4_readPerson 55 rfl) ?_
          refine hQ _ _ ?_
          have hc9 : frw (W_tn 15) T5 T9 := by rw [hτ9]; exact ((((frw.refl (W_tn 15) T5).setN (by unfold W_tn; omega)).setN (by unfold W_tn; omega)).setN (by unfold W_tn; omega)).setN (by unfold W_tn; omega)
          have hd9 : frw (fun a _ => 15 ≤ a ∧ a ≤ 22) T5 T9 := by rw [hτ9]; exact ((((frw.refl (fun a _ => 15 ≤ a ∧ a ≤ 22) T5).setN (by omega)).setN (by omega)).setN (by omega)).setN (by omega)
          refine ⟨rfl, hX5.fr hd9 (fun a j h => by omega), fun i2 hi2 _ => ?_, (hG5.mono hTm).trans hc9⟩
          rw [hi] at hi2
          cases hi2
          have hT9 := (hPk.1.pe hPk.2 hn8 hnm v3 v5)
          rw [hτ9]
          have e1 : peH b E H i = _ := rfl
          unfold peH
          rw [hPk.2, show ((n : Int)).toNat = n by omega]
          rw [hi] at hw3 hw5
          rw [hw3, hw5] at hT9
          rw [hw3, hw5]
          exact hT9
