theorem c_readReminds_3 (b : Nat → Int) (E : Nat) (cv : Nat → Int) (M : Nat) (p : PZ) (σ H : am_H) (hX : RY b E cv M σ p) (hR : σ.2.2 27 2 = some 3) (n : Nat) (hn : σ.2.1 3 2 = (n : Int)) (h8 : n ≤ 8) (D : Int) (hD : σ.2.1 3 0 = D) (hP : PL 3 σ H n p) (hc3 : p.isLeft = true → 0 ≤ H.2.1 85 2 ∧ H.2.1 85 2 ≤ 20)   : am_met M_X4_readReminds [am_r 27] σ (fun r σ' => r = none ∧ RY b E cv M σ' (rmP b E H p) ∧ (∀ i, p = .inl i → (rmP b E H p).isLeft = true → TRr 3 σ' (rmH b E H i)) ∧ frw (W_tn 3) σ σ') := by
  refine am_qq (fun Q hQ => ?_)
  refine am_enter (show plainFor yX4_readReminds = true by decide +kernel) rfl (Nat.le_of_ble_eq_true rfl) (fun _ _ _ => trivial) ?_
  have hX0 := hX
  have hG0 := frw.refl W_rz σ
  have hTN : ∀ a j, 3 ≤ a ∧ a ≤ 3 + 7 → ¬ W_rz a j := fun a j h => by unfold W_rz; omega
  have hTm : ∀ a j, W_rz a j → W_tn 3 a j := fun a j h => Or.inr h
  refine am_aload_n (q := 1) rfl (am_tab tk_X4_readReminds 0 rfl) rfl ?_
  refine am_getR (q := 4) (a := 27) (k := 4) (n := 13) (j := 2) (r := some (3)) (Ls_27 hX.1) (by decide) rfl hR (by decide) (Or.inl kf_X4_29) (am_tab tk_X4_readReminds 1 rfl) rfl ?_
  refine am_aload_n (q := 5) rfl (am_tab tk_X4_readReminds 2 rfl) rfl ?_
  refine am_getI (q := 8) (a := 27) (k := 4) (n := 13) (j := 6) (x := (σ.2.1 27 6)) (Ls_27 hX.1) (by decide) rfl rfl (by decide) (Or.inl kf_X4_104) (am_tab tk_X4_readReminds 3 rfl) rfl ?_
  refine am_callVr (q := 11) (me2 := M_X8_find) (b := 3) (kb := 8) (nb := 17) (As := [am_i ((σ.2.1 27 6))]) (rest := []) (c_find_3 σ hX0.1 (σ.2.1 27 6) n hn h8) ⟨rfl, rfl⟩ (Ls_3 hX.1) (by decide) ⟨Or.inr km_X4_147, kc_X8_find, kn_X8, kd_X8_find, ⟨(Nat.le_of_ble_eq_true rfl), (Nat.le_of_ble_eq_true rfl)⟩, ⟨(Nat.le_of_ble_eq_true rfl), (Nat.le_of_ble_eq_true rfl)⟩, (Nat.le_of_ble_eq_true rfl)⟩ ki_X8_find ks_X8_find rfl (am_tab tk_X4_readReminds 4 rfl) rfl ?_
  rintro r τ9 ⟨rfl, hτ9⟩
  rw [hτ9]
  rw [show firstQ (fun k => decide (σ.2.1 4 k = σ.2.1 27 6)) n = FD 3 σ n from rfl]
  refine am_istore_n (q := 12) (by decide) (ls2 := [(1, am_i ((FD 3 σ n))), (0, am_r 27)]) rfl (am_tab tk_X4_readReminds 5 rfl) rfl ?_
  refine am_aload_n (q := 13) rfl (am_tab tk_X4_readReminds 6 rfl) rfl ?_
  refine am_iload_n (q := 14) rfl (am_tab tk_X4_readReminds 7 rfl) rfl ?_
  refine am_iconst (q := 15) (n := (-1)) (by decide) (am_tab tk_X4_readReminds 8 rfl) rfl ?_
  refine am_icmp_eq (q := 18) (t := 22) (am_tab tk_X4_readReminds 9 rfl) (by decide) rfl (fun h15 => ?_) (fun h15 => ?_)
  · refine am_iconst (q := 23) (n := 0) (by decide) (am_tab tk_X4_readReminds 12 rfl) rfl ?_
    refine am_callVr (q := 26) (me2 := M_X4_readName) (b := 27) (kb := 4) (nb := 13) (As := [am_i 0]) (rest := []) (c_nameZ0 hX0) ⟨rfl, rfl⟩ (Ls_27 hX.1) (by decide) ⟨Or.inl km_X4_151, kc_X4_readName, kn_X4, kd_X4_readName, ⟨(Nat.le_of_ble_eq_true rfl), (Nat.le_of_ble_eq_true rfl)⟩, ⟨(Nat.le_of_ble_eq_true rfl), (Nat.le_of_ble_eq_true rfl)⟩, (Nat.le_of_ble_eq_true rfl)⟩ ki_X4_readName ks_X4_readName rfl (am_tab tk_X4_readReminds 13 rfl) rfl ?_
    rintro r T1 ⟨rfl, hX1, hG⟩
    have hG1 := hG0.trans hG
    rw [show naG b E false (p) = phF b E H p from (ph_F hX0 hP h15)] at hX1
    have hP1 : PL 3 T1 H n (phF b E H p) := (hP.fr hG1 hTN).l phF_l
    refine am_aload_n (q := 27) rfl (am_tab tk_X4_readReminds 14 rfl) rfl ?_
    refine am_getR (q := 30) (a := 27) (k := 4) (n := 13) (j := 2) (r := some (3)) (Ls_27 hX1.1) (by decide) rfl (show T1.2.2 27 2 = some 3 by rw [hG1.2.1]; exact hR) (by decide) (Or.inl kf_X4_29) (am_tab tk_X4_readReminds 15 rfl) rfl ?_
    refine am_aload_n (q := 31) rfl (am_tab tk_X4_readReminds 16 rfl) rfl ?_
    refine am_getI (q := 34) (a := 27) (k := 4) (n := 13) (j := 6) (x := (T1.2.1 27 6)) (Ls_27 hX1.1) (by decide) rfl rfl (by decide) (Or.inl kf_X4_104) (am_tab tk_X4_readReminds 17 rfl) rfl ?_
    refine am_callVr (q := 37) (me2 := M_X8_find) (b := 3) (kb := 8) (nb := 17) (As := [am_i ((T1.2.1 27 6))]) (rest := []) (c_find_3 T1 hX1.1 (T1.2.1 27 6) n ((hG1.2.2 3 2 (by unfold W_rz; omega)).trans hn) h8) ⟨rfl, rfl⟩ (Ls_3 hX1.1) (by decide) ⟨Or.inr km_X4_147, kc_X8_find, kn_X8, kd_X8_find, ⟨(Nat.le_of_ble_eq_true rfl), (Nat.le_of_ble_eq_true rfl)⟩, ⟨(Nat.le_of_ble_eq_true rfl), (Nat.le_of_ble_eq_true rfl)⟩, (Nat.le_of_ble_eq_true rfl)⟩ ki_X8_find ks_X8_find rfl (am_tab tk_X4_readReminds 18 rfl) rfl ?_
    rintro r τ9 ⟨rfl, hτ9⟩
    rw [hτ9]
    rw [show firstQ (fun k => decide (T1.2.1 4 k = T1.2.1 27 6)) n = FD 3 T1 n from rfl]
    refine am_istore_n (q := 38) (by decide) (ls2 := [(2, am_i ((FD 3 T1 n))), (1, am_i ((FD 3 σ n))), (0, am_r 27)]) rfl (am_tab tk_X4_readReminds 19 rfl) rfl ?_
    refine am_aload_n (q := 39) rfl (am_tab tk_X4_readReminds 20 rfl) rfl ?_
    refine am_getI (q := 42) (a := 27) (k := 4) (n := 13) (j := 5) (x := (T1.2.1 27 5)) (Ls_27 hX1.1) (by decide) rfl rfl (by decide) (Or.inl kf_X4_55) (am_tab tk_X4_readReminds 21 rfl) rfl ?_
    refine am_istore_n (q := 43) (by decide) (ls2 := [(3, am_i ((T1.2.1 27 5))), (2, am_i ((FD 3 T1 n))), (1, am_i ((FD 3 σ n))), (0, am_r 27)]) rfl (am_tab tk_X4_readReminds 22 rfl) rfl ?_
    refine am_aload_n (q := 44) rfl (am_tab tk_X4_readReminds 23 rfl) rfl ?_
    refine am_iload_n (q := 45) rfl (am_tab tk_X4_readReminds 24 rfl) rfl ?_
    refine am_iconst (q := 46) (n := (-1)) (by decide) (am_tab tk_X4_readReminds 25 rfl) rfl ?_
    refine am_icmp_eq (q := 49) (t := 53) (am_tab tk_X4_readReminds 26 rfl) (by decide) rfl (fun h46 => ?_) (fun h46 => ?_)
    · refine am_iconst (q := 54) (n := 0) (by decide) (am_tab tk_X4_readReminds 29 rfl) rfl ?_
      refine am_callVr (q := 57) (me2 := M_X4_readName) (b := 27) (kb := 4) (nb := 13) (As := [am_i 0]) (rest := []) (c_nameZ0 hX1) ⟨rfl, rfl⟩ (Ls_27 hX1.1) (by decide) ⟨Or.inl km_X4_151, kc_X4_readName, kn_X4, kd_X4_readName, ⟨(Nat.le_of_ble_eq_true rfl), (Nat.le_of_ble_eq_true rfl)⟩, ⟨(Nat.le_of_ble_eq_true rfl), (Nat.le_of_ble_eq_true rfl)⟩, (Nat.le_of_ble_eq_true rfl)⟩ ki_X4_readName ks_X4_readName rfl (am_tab tk_X4_readReminds 30 rfl) rfl ?_
      rintro r T2 ⟨rfl, hX2, hG⟩
      have hG2 := hG1.trans hG
      rw [show naG b E false (phF b E H p) = phF b E H (phF b E H p) from (ph_F hX1 hP1 h46)] at hX2
      refine am_aload_n (q := 58) rfl (am_tab tk_X4_readReminds 31 rfl) rfl ?_
      refine am_getI (q := 61) (a := 27) (k := 4) (n := 13) (j := 8) (x := (fkZ (phF b E H (phF b E H p)))) (Ls_27 hX2.1) (by decide) rfl hX2.fk (by decide) (Or.inl kf_X4_62) (am_tab tk_X4_readReminds 32 rfl) rfl ?_
      refine am_if_ne (q := 64) (t := 82) (am_tab tk_X4_readReminds 33 rfl) (by decide) rfl (fun h61 => ?_) (fun h61 => ?_)
      · refine am_vret rfl (Nat.le_of_ble_eq_true rfl) (Nat.le_of_ble_eq_true rfl) (am_tab tk_X4_readReminds 44 rfl) ?_
        refine hQ _ _ ?_
        have e9 : rmP b E H p = phF b E H (phF b E H p) := if_neg (fun z => absurd (hX2.fk0.mpr z.1) h61)
        rw [e9]
        exact ⟨rfl, hX2, fun i hi hl => absurd (hX2.fk0.mpr hl) h61, hG2.mono hTm⟩
      · have hl := hX2.fk0.mp h61
        have hl1 := phF_l hl
        have hl0 := phF_l hl1
        have hfd := ph_v hX0 hP hl1
        have hfr := ph_ne hX0 hP hl1
        have hfe := ph_v hX1 hP1 hl
        have hfs := ph_ne hX1 hP1 hl
        obtain ⟨i0, hi0⟩ := isl hl0
        have hPk : TRr 3 T2 H ∧ H.2.1 85 0 = (n : Int) := by
          have := hP.fr hG2 hTN
          rw [hi0] at this
          exact this
        obtain ⟨a0, ha0⟩ := Int.eq_ofNat_of_zero_le hfr.1
        obtain ⟨d0, hd0⟩ := Int.eq_ofNat_of_zero_le hfs.1
        have ha8 : a0 < 8 := by omega
        have hd8 : d0 < 8 := by omega
        have hpn : (a0 : Int) < H.2.1 85 0 := by rw [hPk.2]; omega
        have hq4 := hPk.1.2.2.1 a0 ha8
        rw [if_pos hpn] at hq4
        have hr9 : 0 ≤ T2.2.1 7 a0 ∧ T2.2.1 7 a0 < 256 := hq4.2.1
        have hc9 : 0 ≤ T2.2.1 3 4 ∧ T2.2.1 3 4 ≤ 1000 := by
          have := hc3 hl0
          rw [hPk.1.1.2.2.2.2.1]
          omega
        have hft : (a0 = d0 ∨ tb (T2.2.1 7 a0) (d0 : Int) = 1) ↔ (pOf H (nZ b E p) = pOf H (nZ b E (phF b E H p)) ∨ tb (H.2.1 89 (pOf H (nZ b E p)).toNat) (pOf H (nZ b E (phF b E H p))) = 1) := by
          rw [← hfd, ← hfe, ha0, hd0, show ((a0 : Int)).toNat = a0 by omega, ← hq4.1]
          exact ⟨fun z => z.elim (fun u => Or.inl (by omega)) Or.inr, fun z => z.elim (fun u => Or.inl (by omega)) Or.inr⟩
        refine am_aload_n (q := 65) rfl (am_tab tk_X4_readReminds 34 rfl) rfl ?_
        refine am_getR (q := 68) (a := 27) (k := 4) (n := 13) (j := 2) (r := some (3)) (Ls_27 hX2.1) (by decide) rfl (show T2.2.2 27 2 = some 3 by rw [hG2.2.1]; exact hR) (by decide) (Or.inl kf_X4_29) (am_tab tk_X4_readReminds 35 rfl) rfl ?_
        refine am_iload_n (q := 69) rfl (am_tab tk_X4_readReminds 36 rfl) rfl ?_
        refine am_iload_n (q := 70) rfl (am_tab tk_X4_readReminds 37 rfl) rfl ?_
        by_cases ft : a0 = d0 ∨ tb (T2.2.1 7 a0) (d0 : Int) = 1
        · refine am_callVr (q := 73) (me2 := M_X8_addReminds) (b := 3) (kb := 8) (nb := 17) (As := [am_i ((FD 3 σ n)), am_i ((FD 3 T1 n))]) (rest := []) (by rw [ha0, hd0]; exact am_mono (c_addReminds_3 T2 hX2.1 a0 d0 ha8 hd8 hr9 hc9) (fun r τ h => h.elim (fun z => (show r = some (am_i 0) ∧ τ = T2 from z.2)) (fun z => absurd ft z.1))) ⟨rfl, rfl⟩ (Ls_3 hX2.1) (by decide) ⟨Or.inr km_X4_163, kc_X8_addReminds, kn_X8, kd_X8_addReminds, ⟨(Nat.le_of_ble_eq_true rfl), (Nat.le_of_ble_eq_true rfl)⟩, ⟨(Nat.le_of_ble_eq_true rfl), (Nat.le_of_ble_eq_true rfl)⟩, (Nat.le_of_ble_eq_true rfl)⟩ ki_X8_addReminds ks_X8_addReminds rfl (am_tab tk_X4_readReminds 38 rfl) rfl ?_
          rintro r T9 ⟨rfl, hτ9⟩
          rw [hτ9]
          refine am_if_ne (q := 76) (t := 82) (am_tab tk_X4_readReminds 39 rfl) (by decide) rfl (fun h73 => ?_) (fun h73 => ?_)
          · exact absurd rfl h73
          · refine am_aload_n (q := 77) rfl (am_tab tk_X4_readReminds 40 rfl) rfl ?_
            refine am_iconst (q := 78) (n := 3) (by decide) (am_tab tk_X4_readReminds 41 rfl) rfl ?_
            refine am_iload_n (q := 79) rfl (am_tab tk_X4_readReminds 42 rfl) rfl ?_
            refine am_callVr (q := 82) (me2 := M_X4_fail) (b := 27) (kb := 4) (nb := 13) (As := [am_i 3, am_i ((T1.2.1 27 5))]) (rest := []) (c_failY hX2 3 (T1.2.1 27 5) (by decide)) ⟨rfl, rfl⟩ (Ls_27 hX2.1) (by decide) ⟨Or.inl km_X4_58, kc_X4_fail, kn_X4, kd_X4_fail, ⟨(Nat.le_of_ble_eq_true rfl), (Nat.le_of_ble_eq_true rfl)⟩, ⟨(Nat.le_of_ble_eq_true rfl), (Nat.le_of_ble_eq_true rfl)⟩, (Nat.le_of_ble_eq_true rfl)⟩ ki_X4_fail ks_X4_fail rfl (am_tab tk_X4_readReminds 43 rfl) rfl ?_
            rintro r T3 ⟨rfl, hX3, hG⟩
            have hG3 := hG2.trans hG
            refine am_vret rfl (Nat.le_of_ble_eq_true rfl) (Nat.le_of_ble_eq_true rfl) (am_tab tk_X4_readReminds 44 rfl) ?_
            refine hQ _ _ ?_
            have e9 : rmP b E H p = flZ 3 (T1.2.1 27 5) (phF b E H (phF b E H p)) := by
              rw [fl_l hl, hX1.pz hl1]
              exact if_pos ⟨hl, hft.mp ft⟩
            rw [e9]
            exact ⟨rfl, hX3, fun i hi hl => absurd hl (by rw [fl_l ‹(phF b E H (phF b E H p)).isLeft = true›]; simp), hG3.mono hTm⟩
        · refine am_callVr (q := 73) (me2 := M_X8_addReminds) (b := 3) (kb := 8) (nb := 17) (As := [am_i ((FD 3 σ n)), am_i ((FD 3 T1 n))]) (rest := []) (by rw [ha0, hd0]; exact am_mono (c_addReminds_3 T2 hX2.1 a0 d0 ha8 hd8 hr9 hc9) (fun r τ h => h.elim (fun z => absurd z.1 ft) (fun z => (show r = some (am_i 1) ∧ τ = _ from z.2)))) ⟨rfl, rfl⟩ (Ls_3 hX2.1) (by decide) ⟨Or.inr km_X4_163, kc_X8_addReminds, kn_X8, kd_X8_addReminds, ⟨(Nat.le_of_ble_eq_true rfl), (Nat.le_of_ble_eq_true rfl)⟩, ⟨(Nat.le_of_ble_eq_true rfl), (Nat.le_of_ble_eq_true rfl)⟩, (Nat.le_of_ble_eq_true rfl)⟩ ki_X8_addReminds ks_X8_addReminds rfl (am_tab tk_X4_readReminds 38 rfl) rfl ?_
          rintro r T9 ⟨rfl, hτ9⟩
          refine am_if_ne (q := 76) (t := 82) (am_tab tk_X4_readReminds 39 rfl) (by decide) rfl (fun h73 => ?_) (fun h73 => ?_)
          · refine am_vret rfl (Nat.le_of_ble_eq_true rfl) (Nat.le_of_ble_eq_true rfl) (am_tab tk_X4_readReminds 44 rfl) ?_
            refine hQ _ _ ?_
            have e9 : rmP b E H p = phF b E H (phF b E H p) := if_neg (fun z => ft (hft.mpr z.2))
            rw [e9]
            have hd7 : frw (fun a j => 3 ≤ a ∧ a ≤ 10 ∧ ¬ (a = 3 ∧ j = 1)) T2 T9 := by rw [hτ9]; exact (((frw.refl (fun a j => 3 ≤ a ∧ a ≤ 10 ∧ ¬ (a = 3 ∧ j = 1)) T2).setN (by omega)).setN (by omega)).setN (by omega)
            refine ⟨rfl, hX2.fr hd7 (fun a j h => by omega), fun i2 hi2 _ => ?_, (hG2.mono hTm).trans (hd7.mono (fun a j h => Or.inl (by omega)))⟩
            have hT9 := hPk.1.rm ha8 hd8 hpn
            rw [hτ9]
            unfold rmH rmA rmB
            rw [← hi2, ← hfd, ← hfe, ha0, hd0, show ((a0 : Int)).toNat = a0 by omega]
            exact hT9
          · exact absurd h73 (by decide)
    · refine am_iconst (q := 50) (n := 1) (by decide) (am_tab tk_X4_readReminds 27 rfl) rfl ?_
      refine am_goto (t := 54) (am_tab tk_X4_readReminds 28 rfl) (by decide) ?_
      refine am_callVr (q := 57) (me2 := M_X4_readName) (b := 27) (kb := 4) (nb := 13) (As := [am_i 1]) (rest := []) (c_nameZ1 hX1) ⟨rfl, rfl⟩ (Ls_27 hX1.1) (by decide) ⟨Or.inl km_X4_151, kc_X4_readName, kn_X4, kd_X4_readName, ⟨(Nat.le_of_ble_eq_true rfl), (Nat.le_of_ble_eq_true rfl)⟩, ⟨(Nat.le_of_ble_eq_true rfl), (Nat.le_of_ble_eq_true rfl)⟩, (Nat.le_of_ble_eq_true rfl)⟩ ki_X4_readName ks_X4_readName rfl (am_tab tk_X4_readReminds 30 rfl) rfl ?_
      rintro r T2 ⟨rfl, hX2, hG⟩
      have hG2 := hG1.trans hG
      rw [show naG b E true (phF b E H p) = phF b E H (phF b E H p) from (ph_T hX1 hP1 h46)] at hX2
      refine am_aload_n (q := 58) rfl (am_tab tk_X4_readReminds 31 rfl) rfl ?_
      refine am_getI (q := 61) (a := 27) (k := 4) (n := 13) (j := 8) (x := (fkZ (phF b E H (phF b E H p)))) (Ls_27 hX2.1) (by decide) rfl hX2.fk (by decide) (Or.inl kf_X4_62) (am_tab tk_X4_readReminds 32 rfl) rfl ?_
      refine am_if_ne (q := 64) (t := 82) (am_tab tk_X4_readReminds 33 rfl) (by decide) rfl (fun h61 => ?_) (fun h61 => ?_)
      · refine am_vret rfl (Nat.le_of_ble_eq_true rfl) (Nat.le_of_ble_eq_true rfl) (am_tab tk_X4_readReminds 44 rfl) ?_
        refine hQ _ _ ?_
        have e9 : rmP b E H p = phF b E H (phF b E H p) := if_neg (fun z => absurd (hX2.fk0.mpr z.1) h61)
        rw [e9]
        exact ⟨rfl, hX2, fun i hi hl => absurd (hX2.fk0.mpr hl) h61, hG2.mono hTm⟩
      · have hl := hX2.fk0.mp h61
        have hl1 := phF_l hl
        have hl0 := phF_l hl1
        have hfd := ph_v hX0 hP hl1
        have hfr := ph_ne hX0 hP hl1
        have hfe := ph_v hX1 hP1 hl
        have hfs := ph_ne hX1 hP1 hl
        obtain ⟨i0, hi0⟩ := isl hl0
        have hPk : TRr 3 T2 H ∧ H.2.1 85 0 = (n : Int) := by
          have := hP.fr hG2 hTN
          rw [hi0] at this
          exact this
        obtain ⟨a0, ha0⟩ := Int.eq_ofNat_of_zero_le hfr.1
        obtain ⟨d0, hd0⟩ := Int.eq_ofNat_of_zero_le hfs.1
        have ha8 : a0 < 8 := by omega
        have hd8 : d0 < 8 := by omega
        have hpn : (a0 : Int) < H.2.1 85 0 := by rw [hPk.2]; omega
        have hq4 := hPk.1.2.2.1 a0 ha8
        rw [if_pos hpn] at hq4
        have hr9 : 0 ≤ T2.2.1 7 a0 ∧ T2.2.1 7 a0 < 256 := hq4.2.1
        have hc9 : 0 ≤ T2.2.1 3 4 ∧ T2.2.1 3 4 ≤ 1000 := by
          have := hc3 hl0
          rw [hPk.1.1.2.2.2.2.1]
          omega
        have hft : (a0 = d0 ∨ tb (T2.2.1 7 a0) (d0 : Int) = 1) ↔ (pOf H (nZ b E p) = pOf H (nZ b E (phF b E H p)) ∨ tb (H.2.1 89 (pOf H (nZ b E p)).toNat) (pOf H (nZ b E (phF b E H p))) = 1) := by
          rw [← hfd, ← hfe, ha0, hd0, show ((a0 : Int)).toNat = a0 by omega, ← hq4.1]
          exact ⟨fun z => z.elim (fun u => Or.inl (by omega)) Or.inr, fun z => z.elim (fun u => Or.inl (by omega)) Or.inr⟩
        refine am_aload_n (q := 65) rfl (am_tab tk_X4_readReminds 34 rfl) rfl ?_
        refine am_getR (q := 68) (a := 27) (k := 4) (n := 13) (j := 2) (r := some (3)) (Ls_27 hX2.1) (by decide) rfl (show T2.2.2 27 2 = some 3 by rw [hG2.2.1]; exact hR) (by decide) (Or.inl kf_X4_29) (am_tab tk_X4_readReminds 35 rfl) rfl ?_
        refine am_iload_n (q := 69) rfl (am_tab tk_X4_readReminds 36 rfl) rfl ?_
        refine am_iload_n (q := 70) rfl (am_tab tk_X4_readReminds 37 rfl) rfl ?_
        by_cases ft : a0 = d0 ∨ tb (T2.2.1 7 a0) (d0 : Int) = 1
        · refine am_callVr (q := 73) (me2 := M_X8_addReminds) (b := 3) (kb := 8) (nb := 17) (As := [am_i ((FD 3 σ n)), am_i ((FD 3 T1 n))]) (rest := []) (by rw [ha0, hd0]; exact am_mono (c_addReminds_3 T2 hX2.1 a0 d0 ha8 hd8 hr9 hc9) (fun r τ h => h.elim (fun z => (show r = some (am_i 0) ∧ τ = T2 from z.2)) (fun z => absurd ft z.1))) ⟨rfl, rfl⟩ (Ls_3 hX2.1) (by decide) ⟨Or.inr km_X4_163, kc_X8_addReminds, kn_X8, kd_X8_addReminds, ⟨(Nat.le_of_ble_eq_true rfl), (Nat.le_of_ble_eq_true rfl)⟩, ⟨(Nat.le_of_ble_eq_true rfl), (Nat.le_of_ble_eq_true rfl)⟩, (Nat.le_of_ble_eq_true rfl)⟩ ki_X8_addReminds ks_X8_addReminds rfl (am_tab tk_X4_readReminds 38 rfl) rfl ?_
          rintro r T9 ⟨rfl, hτ9⟩
          rw [hτ9]
          refine am_if_ne (q := 76) (t := 82) (am_tab tk_X4_readReminds 39 rfl) (by decide) rfl (fun h73 => ?_) (fun h73 => ?_)
          · exact absurd rfl h73
          · refine am_aload_n (q := 77) rfl (am_tab tk_X4_readReminds 40 rfl) rfl ?_
            refine am_iconst (q := 78) (n := 3) (by decide) (am_tab tk_X4_readReminds 41 rfl) rfl ?_
            refine am_iload_n (q := 79) rfl (am_tab tk_X4_readReminds 42 rfl) rfl ?_
            refine am_callVr (q := 82) (me2 := M_X4_fail) (b := 27) (kb := 4) (nb := 13) (As := [am_i 3, am_i ((T1.2.1 27 5))]) (rest := []) (c_failY hX2 3 (T1.2.1 27 5) (by decide)) ⟨rfl, rfl⟩ (Ls_27 hX2.1) (by decide) ⟨Or.inl km_X4_58, kc_X4_fail, kn_X4, kd_X4_fail, ⟨(Nat.le_of_ble_eq_true rfl), (Nat.le_of_ble_eq_true rfl)⟩, ⟨(Nat.le_of_ble_eq_true rfl), (Nat.le_of_ble_eq_true rfl)⟩, (Nat.le_of_ble_eq_true rfl)⟩ ki_X4_fail ks_X4_fail rfl (am_tab tk_X4_readReminds 43 rfl) rfl ?_
            rintro r T3 ⟨rfl, hX3, hG⟩
            have hG3 := hG2.trans hG
            refine am_vret rfl (Nat.le_of_ble_eq_true rfl) (Nat.le_of_ble_eq_true rfl) (am_tab tk_X4_readReminds 44 rfl) ?_
            refine hQ _ _ ?_
            have e9 : rmP b E H p = flZ 3 (T1.2.1 27 5) (phF b E H (phF b E H p)) := by
              rw [fl_l hl, hX1.pz hl1]
              exact if_pos ⟨hl, hft.mp ft⟩
            rw [e9]
            exact ⟨rfl, hX3, fun i hi hl => absurd hl (by rw [fl_l ‹(phF b E H (phF b E H p)).isLeft = true›]; simp), hG3.mono hTm⟩
        · refine am_callVr (q := 73) (me2 := M_X8_addReminds) (b := 3) (kb := 8) (nb := 17) (As := [am_i ((FD 3 σ n)), am_i ((FD 3 T1 n))]) (rest := []) (by rw [ha0, hd0]; exact am_mono (c_addReminds_3 T2 hX2.1 a0 d0 ha8 hd8 hr9 hc9) (fun r τ h => h.elim (fun z => absurd z.1 ft) (fun z => (show r = some (am_i 1) ∧ τ = _ from z.2)))) ⟨rfl, rfl⟩ (Ls_3 hX2.1) (by decide) ⟨Or.inr km_X4_163, kc_X8_addReminds, kn_X8, kd_X8_addReminds, ⟨(Nat.le_of_ble_eq_true rfl), (Nat.le_of_ble_eq_true rfl)⟩, ⟨(Nat.le_of_ble_eq_true rfl), (Nat.le_of_ble_eq_true rfl)⟩, (Nat.le_of_ble_eq_true rfl)⟩ ki_X8_addReminds ks_X8_addReminds rfl (am_tab tk_X4_readReminds 38 rfl) rfl ?_
          rintro r T9 ⟨rfl, hτ9⟩
          refine am_if_ne (q := 76) (t := 82) (am_tab tk_X4_readReminds 39 rfl) (by decide) rfl (fun h73 => ?_) (fun h73 => ?_)
          · refine am_vret rfl (Nat.le_of_ble_eq_true rfl) (Nat.le_of_ble_eq_true rfl) (am_tab tk_X4_readReminds 44 rfl) ?_
            refine hQ _ _ ?_
            have e9 : rmP b E H p = phF b E H (phF b E H p) := if_neg (fun z => ft (hft.mpr z.2))
            rw [e9]
            have hd7 : frw (fun a j => 3 ≤ a ∧ a ≤ 10 ∧ ¬ (a = 3 ∧ j = 1)) T2 T9 := by rw [hτ9]; exact (((frw.refl (fun a j => 3 ≤ a ∧ a ≤ 10 ∧ ¬ (a = 3 ∧ j = 1)) T2).setN (by omega)).setN (by omega)).setN (by omega)
            refine ⟨rfl, hX2.fr hd7 (fun a j h => by omega), fun i2 hi2 _ => ?_, (hG2.mono hTm).trans (hd7.mono (fun a j h => Or.inl (by omega)))⟩
            have hT9 := hPk.1.rm ha8 hd8 hpn
            rw [hτ9]
            unfold rmH rmA rmB
            rw [← hi2, ← hfd, ← hfe, ha0, hd0, show ((a0 : Int)).toNat = a0 by omega]
            exact hT9
          · exact absurd h73 (by decide)
  · refine am_iconst (q := 19) (n := 1) (by decide) (am_tab tk_X4_readReminds 10 rfl) rfl ?_
    refine am_goto (t := 23) (am_tab tk_X4_readReminds 11 rfl) (by decide) ?_
    refine am_callVr (q := 26) (me2 := M_X4_readName) (b := 27) (kb := 4) (nb := 13) (As := [am_i 1]) (rest := []) (c_nameZ1 hX0) ⟨rfl, rfl⟩ (Ls_27 hX.1) (by decide) ⟨Or.inl km_X4_151, kc_X4_readName, kn_X4, kd_X4_readName, ⟨(Nat.le_of_ble_eq_true rfl), (Nat.le_of_ble_eq_true rfl)⟩, ⟨(Nat.le_of_ble_eq_true rfl), (Nat.le_of_ble_eq_true rfl)⟩, (Nat.le_of_ble_eq_true rfl)⟩ ki_X4_readName ks_X4_readName rfl (am_tab tk_X4_readReminds 13 rfl) rfl ?_
    rintro r T1 ⟨rfl, hX1, hG⟩
    have hG1 := hG0.trans hG
    rw [show naG b E true (p) = phF b E H p from (ph_T hX0 hP h15)] at hX1
    have hP1 : PL 3 T1 H n (phF b E H p) := (hP.fr hG1 hTN).l phF_l
    refine am_aload_n (q := 27) rfl (am_tab tk_X4_readReminds 14 rfl) rfl ?_
    refine am_getR (q := 30) (a := 27) (k := 4) (n := 13) (j := 2) (r := some (3)) (Ls_27 hX1.1) (by decide) rfl (show T1.2.2 27 2 = some 3 by rw [hG1.2.1]; exact hR) (by decide) (Or.inl kf_X4_29) (am_tab tk_X4_readReminds 15 rfl) rfl ?_
    refine am_aload_n (q := 31) rfl (am_tab tk_X4_readReminds 16 rfl) rfl ?_
    refine am_getI (q := 34) (a := 27) (k := 4) (n := 13) (j := 6) (x := (T1.2.1 27 6)) (Ls_27 hX1.1) (by decide) rfl rfl (by decide) (Or.inl kf_X4_104) (am_tab tk_X4_readReminds 17 rfl) rfl ?_
    refine am_callVr (q := 37) (me2 := M_X8_find) (b := 3) (kb := 8) (nb := 17) (As := [am_i ((T1.2.1 27 6))]) (rest := []) (c_find_3 T1 hX1.1 (T1.2.1 27 6) n ((hG1.2.2 3 2 (by unfold W_rz; omega)).trans hn) h8) ⟨rfl, rfl⟩ (Ls_3 hX1.1) (by decide) ⟨Or.inr km_X4_147, kc_X8_find, kn_X8, kd_X8_find, ⟨(Nat.le_of_ble_eq_true rfl), (Nat.le_of_ble_eq_true rfl)⟩, ⟨(Nat.le_of_ble_eq_true rfl), (Nat.le_of_ble_eq_true rfl)⟩, (Nat.le_of_ble_eq_true rfl)⟩ ki_X8_find ks_X8_find rfl (am_tab tk_X4_readReminds 18 rfl) rfl ?_
    rintro r τ9 ⟨rfl, hτ9⟩
    rw [hτ9]
    rw [show firstQ (fun k => decide (T1.2.1 4 k = T1.2.1 27 6)) n = FD 3 T1 n from rfl]
    refine am_istore_n (q := 38) (by decide) (ls2 := [(2, am_i ((FD 3 T1 n))), (1, am_i ((FD 3 σ n))), (0, am_r 27)]) rfl (am_tab tk_X4_readReminds 19 rfl) rfl ?_
    refine am_aload_n (q := 39) rfl (am_tab tk_X4_readReminds 20 rfl) rfl ?_
    refine am_getI (q := 42) (a := 27) (k := 4) (n := 13) (j := 5) (x := (T1.2.1 27 5)) (Ls_27 hX1.1) (by decide) rfl rfl (by decide) (Or.inl kf_X4_55) (am_tab tk_X4_readReminds 21 rfl) rfl ?_
    refine am_istore_n (q := 43) (by decide) (ls2 := [(3, am_i ((T1.2.1 27 5))), (2, am_i ((FD 3 T1 n))), (1, am_i ((FD 3 σ n))), (0, am_r 27)]) rfl (am_tab tk_X4_readReminds 22 rfl) rfl ?_
    refine am_aload_n (q := 44) rfl (am_tab tk_X4_readReminds 23 rfl) rfl ?_
    refine am_iload_n (q := 45) rfl (am_tab tk_X4_readReminds 24 rfl) rfl ?_
    refine am_iconst (q := 46) (n := (-1)) (by decide) (am_tab tk_X4_readReminds 25 rfl) rfl ?_
    refine am_icmp_eq (q := 49) (t := 53) (am_tab tk_X4_readReminds 26 rfl) (by decide) rfl (fun h46 => ?_) (fun h46 => ?_)
    · refine am_iconst (q := 54) (n := 0) (by decide) (am_tab tk_X4_readReminds 29 rfl) rfl ?_
      refine am_callVr (q := 57) (me2 := M_X4_readName) (b := 27) (kb := 4) (nb := 13) (As := [am_i 0]) (rest := []) (c_nameZ0 hX1) ⟨rfl, rfl⟩ (Ls_27 hX1.1) (by decide) ⟨Or.inl km_X4_151, kc_X4_readName, kn_X4, kd_X4_readName, ⟨(Nat.le_of_ble_eq_true rfl), (Nat.le_of_ble_eq_true rfl)⟩, ⟨(Nat.le_of_ble_eq_true rfl), (Nat.le_of_ble_eq_true rfl)⟩, (Nat.le_of_ble_eq_true rfl)⟩ ki_X4_readName ks_X4_readName rfl (am_tab tk_X4_readReminds 30 rfl) rfl ?_
      rintro r T2 ⟨rfl, hX2, hG⟩
      have hG2 := hG1.trans hG
      rw [show naG b E false (phF b E H p) = phF b E H (phF b E H p) from (ph_F hX1 hP1 h46)] at hX2
      refine am_aload_n (q := 58) rfl (am_tab tk_X4_readReminds 31 rfl) rfl ?_
      refine am_getI (q := 61) (a := 27) (k := 4) (n := 13) (j := 8) (x := (fkZ (phF b E H (phF b E H p)))) (Ls_27 hX2.1) (by decide) rfl hX2.fk (by decide) (Or.inl kf_X4_62) (am_tab tk_X4_readReminds 32 rfl) rfl ?_
      refine am_if_ne (q := 64) (t := 82) (am_tab tk_X4_readReminds 33 rfl) (by decide) rfl (fun h61 => ?_) (fun h61 => ?_)
      · refine am_vret rfl (Nat.le_of_ble_eq_true rfl) (Nat.le_of_ble_eq_true rfl) (am_tab tk_X4_readReminds 44 rfl) ?_
        refine hQ _ _ ?_
        have e9 : rmP b E H p = phF b E H (phF b E H p) := if_neg (fun z => absurd (hX2.fk0.mpr z.1) h61)
        rw [e9]
        exact ⟨rfl, hX2, fun i hi hl => absurd (hX2.fk0.mpr hl) h61, hG2.mono hTm⟩
      · have hl := hX2.fk0.mp h61
        have hl1 := phF_l hl
        have hl0 := phF_l hl1
        have hfd := ph_v hX0 hP hl1
        have hfr := ph_ne hX0 hP hl1
        have hfe := ph_v hX1 hP1 hl
        have hfs := ph_ne hX1 hP1 hl
        obtain ⟨i0, hi0⟩ := isl hl0
        have hPk : TRr 3 T2 H ∧ H.2.1 85 0 = (n : Int) := by
          have := hP.fr hG2 hTN
          rw [hi0] at this
          exact this
        obtain ⟨a0, ha0⟩ := Int.eq_ofNat_of_zero_le hfr.1
        obtain ⟨d0, hd0⟩ := Int.eq_ofNat_of_zero_le hfs.1
        have ha8 : a0 < 8 := by omega
        have hd8 : d0 < 8 := by omega
        have hpn : (a0 : Int) < H.2.1 85 0 := by rw [hPk.2]; omega
        have hq4 := hPk.1.2.2.1 a0 ha8
        rw [if_pos hpn] at hq4
        have hr9 : 0 ≤ T2.2.1 7 a0 ∧ T2.2.1 7 a0 < 256 := hq4.2.1
        have hc9 : 0 ≤ T2.2.1 3 4 ∧ T2.2.1 3 4 ≤ 1000 := by
          have := hc3 hl0
          rw [hPk.1.1.2.2.2.2.1]
          omega
        have hft : (a0 = d0 ∨ tb (T2.2.1 7 a0) (d0 : Int) = 1) ↔ (pOf H (nZ b E p) = pOf H (nZ b E (phF b E H p)) ∨ tb (H.2.1 89 (pOf H (nZ b E p)).toNat) (pOf H (nZ b E (phF b E H p))) = 1) := by
          rw [← hfd, ← hfe, ha0, hd0, show ((a0 : Int)).toNat = a0 by omega, ← hq4.1]
          exact ⟨fun z => z.elim (fun u => Or.inl (by omega)) Or.inr, fun z => z.elim (fun u => Or.inl (by omega)) Or.inr⟩
        refine am_aload_n (q := 65) rfl (am_tab tk_X4_readReminds 34 rfl) rfl ?_
        refine am_getR (q := 68) (a := 27) (k := 4) (n := 13) (j := 2) (r := some (3)) (Ls_27 hX2.1) (by decide) rfl (show T2.2.2 27 2 = some 3 by rw [hG2.2.1]; exact hR) (by decide) (Or.inl kf_X4_29) (am_tab tk_X4_readReminds 35 rfl) rfl ?_
        refine am_iload_n (q := 69) rfl (am_tab tk_X4_readReminds 36 rfl) rfl ?_
        refine am_iload_n (q := 70) rfl (am_tab tk_X4_readReminds 37 rfl) rfl ?_
        by_cases ft : a0 = d0 ∨ tb (T2.2.1 7 a0) (d0 : Int) = 1
        · refine am_callVr (q := 73) (me2 := M_X8_addReminds) (b := 3) (kb := 8) (nb := 17) (As := [am_i ((FD 3 σ n)), am_i ((FD 3 T1 n))]) (rest := []) (by rw [ha0, hd0]; exact am_mono (c_addReminds_3 T2 hX2.1 a0 d0 ha8 hd8 hr9 hc9) (fun r τ h => h.elim (fun z => (show r = some (am_i 0) ∧ τ = T2 from z.2)) (fun z => absurd ft z.1))) ⟨rfl, rfl⟩ (Ls_3 hX2.1) (by decide) ⟨Or.inr km_X4_163, kc_X8_addReminds, kn_X8, kd_X8_addReminds, ⟨(Nat.le_of_ble_eq_true rfl), (Nat.le_of_ble_eq_true rfl)⟩, ⟨(Nat.le_of_ble_eq_true rfl), (Nat.le_of_ble_eq_true rfl)⟩, (Nat.le_of_ble_eq_true rfl)⟩ ki_X8_addReminds ks_X8_addReminds rfl (am_tab tk_X4_readReminds 38 rfl) rfl ?_
          rintro r T9 ⟨rfl, hτ9⟩
          rw [hτ9]
          refine am_if_ne (q := 76) (t := 82) (am_tab tk_X4_readReminds 39 rfl) (by decide) rfl (fun h73 => ?_) (fun h73 => ?_)
          · exact absurd rfl h73
          · refine am_aload_n (q := 77) rfl (am_tab tk_X4_readReminds 40 rfl) rfl ?_
            refine am_iconst (q := 78) (n := 3) (by decide) (am_tab tk_X4_readReminds 41 rfl) rfl ?_
            refine am_iload_n (q := 79) rfl (am_tab tk_X4_readReminds 42 rfl) rfl ?_
            refine am_callVr (q := 82) (me2 := M_X4_fail) (b := 27) (kb := 4) (nb := 13) (As := [am_i 3, am_i ((T1.2.1 27 5))]) (rest := []) (c_failY hX2 3 (T1.2.1 27 5) (by decide)) ⟨rfl, rfl⟩ (Ls_27 hX2.1) (by decide) ⟨Or.inl km_X4_58, kc_X4_fail, kn_X4, kd_X4_fail, ⟨(Nat.le_of_ble_eq_true rfl), (Nat.le_of_ble_eq_true rfl)⟩, ⟨(Nat.le_of_ble_eq_true rfl), (Nat.le_of_ble_eq_true rfl)⟩, (Nat.le_of_ble_eq_true rfl)⟩ ki_X4_fail ks_X4_fail rfl (am_tab tk_X4_readReminds 43 rfl) rfl ?_
            rintro r T3 ⟨rfl, hX3, hG⟩
            have hG3 := hG2.trans hG
            refine am_vret rfl (Nat.le_of_ble_eq_true rfl) (Nat.le_of_ble_eq_true rfl) (am_tab tk_X4_readReminds 44 rfl) ?_
            refine hQ _ _ ?_
            have e9 : rmP b E H p = flZ 3 (T1.2.1 27 5) (phF b E H (phF b E H p)) := by
              rw [fl_l hl, hX1.pz hl1]
              exact if_pos ⟨hl, hft.mp ft⟩
            rw [e9]
            exact ⟨rfl, hX3, fun i hi hl => absurd hl (by rw [fl_l ‹(phF b E H (phF b E H p)).isLeft = true›]; simp), hG3.mono hTm⟩
        · refine am_callVr (q := 73) (me2 := M_X8_addReminds) (b := 3) (kb := 8) (nb := 17) (As := [am_i ((FD 3 σ n)), am_i ((FD 3 T1 n))]) (rest := []) (by rw [ha0, hd0]; exact am_mono (c_addReminds_3 T2 hX2.1 a0 d0 ha8 hd8 hr9 hc9) (fun r τ h => h.elim (fun z => absurd z.1 ft) (fun z => (show r = some (am_i 1) ∧ τ = _ from z.2)))) ⟨rfl, rfl⟩ (Ls_3 hX2.1) (by decide) ⟨Or.inr km_X4_163, kc_X8_addReminds, kn_X8, kd_X8_addReminds, ⟨(Nat.le_of_ble_eq_true rfl), (Nat.le_of_ble_eq_true rfl)⟩, ⟨(Nat.le_of_ble_eq_true rfl), (Nat.le_of_ble_eq_true rfl)⟩, (Nat.le_of_ble_eq_true rfl)⟩ ki_X8_addReminds ks_X8_addReminds rfl (am_tab tk_X4_readReminds 38 rfl) rfl ?_
          rintro r T9 ⟨rfl, hτ9⟩
          refine am_if_ne (q := 76) (t := 82) (am_tab tk_X4_readReminds 39 rfl) (by decide) rfl (fun h73 => ?_) (fun h73 => ?_)
          · refine am_vret rfl (Nat.le_of_ble_eq_true rfl) (Nat.le_of_ble_eq_true rfl) (am_tab tk_X4_readReminds 44 rfl) ?_
            refine hQ _ _ ?_
            have e9 : rmP b E H p = phF b E H (phF b E H p) := if_neg (fun z => ft (hft.mpr z.2))
            rw [e9]
            have hd7 : frw (fun a j => 3 ≤ a ∧ a ≤ 10 ∧ ¬ (a = 3 ∧ j = 1)) T2 T9 := by rw [hτ9]; exact (((frw.refl (fun a j => 3 ≤ a ∧ a ≤ 10 ∧ ¬ (a = 3 ∧ j = 1)) T2).setN (by omega)).setN (by omega)).setN (by omega)
            refine ⟨rfl, hX2.fr hd7 (fun a j h => by omega), fun i2 hi2 _ => ?_, (hG2.mono hTm).trans (hd7.mono (fun a j h => Or.inl (by omega)))⟩
            have hT9 := hPk.1.rm ha8 hd8 hpn
            rw [hτ9]
            unfold rmH rmA rmB
            rw [← hi2, ← hfd, ← hfe, ha0, hd0, show ((a0 : Int)).toNat = a0 by omega]
            exact hT9
          · exact absurd h73 (by decide)
    · refine am_iconst (q := 50) (n := 1) (by decide) (am_tab tk_X4_readReminds 27 rfl) rfl ?_
      refine am_goto (t := 54) (am_tab tk_X4_readReminds 28 rfl) (by decide) ?_
      refine am_callVr (q := 57) (me2 := M_X4_readName) (b := 27) (kb := 4) (nb := 13) (As := [am_i 1]) (rest := []) (c_nameZ1 hX1) ⟨rfl, rfl⟩ (Ls_27 hX1.1) (by decide) ⟨Or.inl km_X4_151, kc_X4_readName, kn_X4, kd_X4_readName, ⟨(Nat.le_of_ble_eq_true rfl), (Nat.le_of_ble_eq_true rfl)⟩, ⟨(Nat.le_of_ble_eq_true rfl), (Nat.le_of_ble_eq_true rfl)⟩, (Nat.le_of_ble_eq_true rfl)⟩ ki_X4_readName ks_X4_readName rfl (am_tab tk_X4_readReminds 30 rfl) rfl ?_
      rintro r T2 ⟨rfl, hX2, hG⟩
      have hG2 := hG1.trans hG
      rw [show naG b E true (phF b E H p) = phF b E H (phF b E H p) from (ph_T hX1 hP1 h46)] at hX2
      refine am_aload_n (q := 58) rfl (am_tab tk_X4_readReminds 31 rfl) rfl ?_
      refine am_getI (q := 61) (a := 27) (k := 4) (n := 13) (j := 8) (x := (fkZ (phF b E H (phF b E H p)))) (Ls_27 hX2.1) (by decide) rfl hX2.fk (by decide) (Or.inl kf_X4_62) (am_tab tk_X4_readReminds 32 rfl) rfl ?_
      refine am_if_ne (q := 64) (t := 82) (am_tab tk_X4_readReminds 33 rfl) (by decide) rfl (fun h61 => ?_) (fun h61 => ?_)
      · refine am_vret rfl (Nat.le_of_ble_eq_true rfl) (Nat.le_of_ble_eq_true rfl) (am_tab tk_X4_readReminds 44 rfl) ?_
        refine hQ _ _ ?_
        have e9 : rmP b E H p = phF b E H (phF b E H p) := if_neg (fun z => absurd (hX2.fk0.mpr z.1) h61)
        rw [e9]
        exact ⟨rfl, hX2, fun i hi hl => absurd (hX2.fk0.mpr hl) h61, hG2.mono hTm⟩
      · have hl := hX2.fk0.mp h61
        have hl1 := phF_l hl
        have hl0 := phF_l hl1
        have hfd := ph_v hX0 hP hl1
        have hfr := ph_ne hX0 hP hl1
        have hfe := ph_v hX1 hP1 hl
        have hfs := ph_ne hX1 hP1 hl
        obtain ⟨i0, hi0⟩ := isl hl0
        have hPk : TRr 3 T2 H ∧ H.2.1 85 0 = (n : Int) := by
          have := hP.fr hG2 hTN
          rw [hi0] at this
          exact this
        obtain ⟨a0, ha0⟩ := Int.eq_ofNat_of_zero_le hfr.1
        obtain ⟨d0, hd0⟩ := Int.eq_ofNat_of_zero_le hfs.1
        have ha8 : a0 < 8 := by omega
        have hd8 : d0 < 8 := by omega
        have hpn : (a0 : Int) < H.2.1 85 0 := by rw [hPk.2]; omega
        have hq4 := hPk.1.2.2.1 a0 ha8
        rw [if_pos hpn] at hq4
        have hr9 : 0 ≤ T2.2.1 7 a0 ∧ T2.2.1 7 a0 < 256 := hq4.2.1
        have hc9 : 0 ≤ T2.2.1 3 4 ∧ T2.2.1 3 4 ≤ 1000 := by
          have := hc3 hl0
          rw [hPk.1.1.2.2.2.2.1]
          omega
        have hft : (a0 = d0 ∨ tb (T2.2.1 7 a0) (d0 : Int) = 1) ↔ (pOf H (nZ b E p) = pOf H (nZ b E (phF b E H p)) ∨ tb (H.2.1 89 (pOf H (nZ b E p)).toNat) (pOf H (nZ b E (phF b E H p))) = 1) := by
          rw [← hfd, ← hfe, ha0, hd0, show ((a0 : Int)).toNat = a0 by omega, ← hq4.1]
          exact ⟨fun z => z.elim (fun u => Or.inl (by omega)) Or.inr, fun z => z.elim (fun u => Or.inl (by omega)) Or.inr⟩
        refine am_aload_n (q := 65) rfl (am_tab tk_X4_readReminds 34 rfl) rfl ?_
        refine am_getR (q := 68) (a := 27) (k := 4) (n := 13) (j := 2) (r := some (3)) (Ls_27 hX2.1) (by decide) rfl (show T2.2.2 27 2 = some 3 by rw [hG2.2.1]; exact hR) (by decide) (Or.inl kf_X4_29) (am_tab tk_X4_readReminds 35 rfl) rfl ?_
        refine am_iload_n (q := 69) rfl (am_tab tk_X4_readReminds 36 rfl) rfl ?_
        refine am_iload_n (q := 70) rfl (am_tab tk_X4_readReminds 37 rfl) rfl ?_
        by_cases ft : a0 = d0 ∨ tb (T2.2.1 7 a0) (d0 : Int) = 1
        · refine am_callVr (q := 73) (me2 := M_X8_addReminds) (b := 3) (kb := 8) (nb := 17) (As := [am_i ((FD 3 σ n)), am_i ((FD 3 T1 n))]) (rest := []) (by rw [ha0, hd0]; exact am_mono (c_addReminds_3 T2 hX2.1 a0 d0 ha8 hd8 hr9 hc9) (fun r τ h => h.elim (fun z => (show r = some (am_i 0) ∧ τ = T2 from z.2)) (fun z => absurd ft z.1))) ⟨rfl, rfl⟩ (Ls_3 hX2.1) (by decide) ⟨Or.inr km_X4_163, kc_X8_addReminds, kn_X8, kd_X8_addReminds, ⟨(Nat.le_of_ble_eq_true rfl), (Nat.le_of_ble_eq_true rfl)⟩, ⟨(Nat.le_of_ble_eq_true rfl), (Nat.le_of_ble_eq_true rfl)⟩, (Nat.le_of_ble_eq_true rfl)⟩ ki_X8_addReminds ks_X8_addReminds rfl (am_tab tk_X4_readReminds 38 rfl) rfl ?_
          rintro r T9 ⟨rfl, hτ9⟩
          rw [hτ9]
          refine am_if_ne (q := 76) (t := 82) (am_tab tk_X4_readReminds 39 rfl) (by decide) rfl (fun h73 => ?_) (fun h73 => ?_)
          · exact absurd rfl h73
          · refine am_aload_n (q := 77) rfl (am_tab tk_X4_readReminds 40 rfl) rfl ?_
            refine am_iconst (q := 78) (n := 3) (by decide) (am_tab tk_X4_readReminds 41 rfl) rfl ?_
            refine am_iload_n (q := 79) rfl (am_tab tk_X4_readReminds 42 rfl) rfl ?_
            refine am_callVr (q := 82) (me2 := M_X4_fail) (b := 27) (kb := 4) (nb := 13) (As := [am_i 3, am_i ((T1.2.1 27 5))]) (rest := []) (c_failY hX2 3 (T1.2.1 27 5) (by decide)) ⟨rfl, rfl⟩ (Ls_27 hX2.1) (by decide) ⟨Or.inl km_X4_58, kc_X4_fail, kn_X4, kd_X4_fail, ⟨(Nat.le_of_ble_eq_true rfl), (Nat.le_of_ble_eq_true rfl)⟩, ⟨(Nat.le_of_ble_eq_true rfl), (Nat.le_of_ble_eq_true rfl)⟩, (Nat.le_of_ble_eq_true rfl)⟩ ki_X4_fail ks_X4_fail rfl (am_tab tk_X4_readReminds 43 rfl) rfl ?_
            rintro r T3 ⟨rfl, hX3, hG⟩
            have hG3 := hG2.trans hG
            refine am_vret rfl (Nat.le_of_ble_eq_true rfl) (Nat.le_of_ble_eq_true rfl) (am_tab tk_X4_readReminds 44 rfl) ?_
            refine hQ _ _ ?_
            have e9 : rmP b E H p = flZ 3 (T1.2.1 27 5) (phF b E H (phF b E H p)) := by
              rw [fl_l hl, hX1.pz hl1]
              exact if_pos ⟨hl, hft.mp ft⟩
            rw [e9]
            exact ⟨rfl, hX3, fun i hi hl => absurd hl (by rw [fl_l ‹(phF b E H (phF b E H p)).isLeft = true›]; simp), hG3.mono hTm⟩
        · refine am_callVr (q := 73) (me2 := M_X8_addReminds) (b := 3) (kb := 8) (nb := 17) (As := [am_i ((FD 3 σ n)), am_i ((FD 3 T1 n))]) (rest := []) (by rw [ha0, hd0]; exact am_mono (c_addReminds_3 T2 hX2.1 a0 d0 ha8 hd8 hr9 hc9) (fun r τ h => h.elim (fun z => absurd z.1 ft) (fun z => (show r = some (am_i 1) ∧ τ = _ from z.2)))) ⟨rfl, rfl⟩ (Ls_3 hX2.1) (by decide) ⟨Or.inr km_X4_163, kc_X8_addReminds, kn_X8, kd_X8_addReminds, ⟨(Nat.le_of_ble_eq_true rfl), (Nat.le_of_ble_eq_true rfl)⟩, ⟨(Nat.le_of_ble_eq_true rfl), (Nat.le_of_ble_eq_true rfl)⟩, (Nat.le_of_ble_eq_true rfl)⟩ ki_X8_addReminds ks_X8_addReminds rfl (am_tab tk_X4_readReminds 38 rfl) rfl ?_
          rintro r T9 ⟨rfl, hτ9⟩
          refine am_if_ne (q := 76) (t := 82) (am_tab tk_X4_readReminds 39 rfl) (by decide) rfl (fun h73 => ?_) (fun h73 => ?_)
          · refine am_vret rfl (Nat.le_of_ble_eq_true rfl) (Nat.le_of_ble_eq_true rfl) (am_tab tk_X4_readReminds 44 rfl) ?_
            refine hQ _ _ ?_
            have e9 : rmP b E H p = phF b E H (phF b E H p) := if_neg (fun z => ft (hft.mpr z.2))
            rw [e9]
            have hd7 : frw (fun a j => 3 ≤ a ∧ a ≤ 10 ∧ ¬ (a = 3 ∧ j = 1)) T2 T9 := by rw [hτ9]; exact (((frw.refl (fun a j => 3 ≤ a ∧ a ≤ 10 ∧ ¬ (a = 3 ∧ j = 1)) T2).setN (by omega)).setN (by omega)).setN (by omega)
            refine ⟨rfl, hX2.fr hd7 (fun a j h => by omega), fun i2 hi2 _ => ?_, (hG2.mono hTm).trans (hd7.mono (fun a j h => Or.inl (by omega)))⟩
            have hT9 := hPk.1.rm ha8 hd8 hpn
            rw [hτ9]
            unfold rmH rmA rmB
            rw [← hi2, ← hfd, ← hfe, ha0, hd0, show ((a0 : Int)).toNat = a0 by omega]
            exact hT9
          · exact absurd h73 (by decide)
theorem c_readReminds_15 (b : Nat → Int) (E : Nat) (cv : Nat → Int) (M : Nat) (p : PZ) (σ H : am_H) (hX : RY b E cv M σ p) (hR : σ.2.2 27 2 = some 15) (n : Nat) (hn : σ.2.1 15 2 = (n : Int)) (h8 : n ≤ 8) (D : Int) (hD : σ.2.1 15 0 = D) (hP : PL 15 σ H n p) (hc3 : p.isLeft = true → 0 ≤ H.2.1 85 2 ∧ H.2.1 85 2 ≤ 20)   : am_met M_X4_readReminds [am_r 27] σ (fun r σ' => r = none ∧ RY b E cv M σ' (rmP b E H p) ∧ (∀ i, p = .inl i → (rmP b E H p).isLeft = true → TRr 15 σ' (rmH b E H i)) ∧ frw (W_tn 15) σ σ') := by
  refine am_qq (fun Q hQ => ?_)
  refine am_enter (show plainFor yX4_readReminds = true by decide +kernel) rfl (Nat.le_of_ble_eq_true rfl) (fun _ _ _ => trivial) ?_
  have hX0 := hX
  have hG0 := frw.refl W_rz σ
  have hTN : ∀ a j, 15 ≤ a ∧ a ≤ 15 + 7 → ¬ W_rz a j := fun a j h => by unfold W_rz; omega
  have hTm : ∀ a j, W_rz a j → W_tn 15 a j := fun a j h => Or.inr h
  refine am_aload_n (q := 1) rfl (am_tab tk_X4_readReminds 0 rfl) rfl ?_
  refine am_getR (q := 4) (a := 27) (k := 4) (n := 13) (j := 2) (r := some (15)) (Ls_27 hX.1) (by decide) rfl hR (by decide) (Or.inl kf_X4_29) (am_tab tk_X4_readReminds 1 rfl) rfl ?_
  refine am_aload_n (q := 5) rfl (am_tab tk_X4_readReminds 2 rfl) rfl ?_
  refine am_getI (q := 8) (a := 27) (k := 4) (n := 13) (j := 6) (x := (σ.2.1 27 6)) (Ls_27 hX.1) (by decide) rfl rfl (by decide) (Or.inl kf_X4_104) (am_tab tk_X4_readReminds 3 rfl) rfl ?_
  refine am_callVr (q := 11) (me2 := M_X8_find) (b := 15) (kb := 8) (nb := 17) (As := [am_i ((σ.2.1 27 6))]) (rest := []) (c_find_15 σ hX0.1 (σ.2.1 27 6) n hn h8) ⟨rfl, rfl⟩ (Ls_15 hX.1) (by decide) ⟨Or.inr km_X4_147, kc_X8_find, kn_X8, kd_X8_find, ⟨(Nat.le_of_ble_eq_true rfl), (Nat.le_of_ble_eq_true rfl)⟩, ⟨(Nat.le_of_ble_eq_true rfl), (Nat.le_of_ble_eq_true rfl)⟩, (Nat.le_of_ble_eq_true rfl)⟩ ki_X8_find ks_X8_find rfl (am_tab tk_X4_readReminds 4 rfl) rfl ?_
  rintro r τ9 ⟨rfl, hτ9⟩
  rw [hτ9]
  rw [show firstQ (fun k => decide (σ.2.1 16 k = σ.2.1 27 6)) n = FD 15 σ n from rfl]
  refine am_istore_n (q := 12) (by decide) (ls2 := [(1, am_i ((FD 15 σ n))), (0, am_r 27)]) rfl (am_tab tk_X4_readReminds 5 rfl) rfl ?_
  refine am_aload_n (q := 13) rfl (am_tab tk_X4_readReminds 6 rfl) rfl ?_
  refine am_iload_n (q := 14) rfl (am_tab tk_X4_readReminds 7 rfl) rfl ?_
  refine am_iconst (q := 15) (n := (-1)) (by decide) (am_tab tk_X4_readReminds 8 rfl) rfl ?_
  refine am_icmp_eq (q := 18) (t := 22) (am_tab tk_X4_readReminds 9 rfl) (by decide) rfl (fun h15 => ?_) (fun h15 => ?_)
  · refine am_iconst (q := 23) (n := 0) (by decide) (am_tab tk_X4_readReminds 12 rfl) rfl ?_
    refine am_callVr (q := 26) (me2 := M_X4_readName) (b := 27) (kb := 4) (nb := 13) (As := [am_i 0]) (rest := []) (c_nameZ0 hX0) ⟨rfl, rfl⟩ (Ls_27 hX.1) (by decide) ⟨Or.inl km_X4_151, kc_X4_readName, kn_X4, kd_X4_readName, ⟨(Nat.le_of_ble_eq_true rfl), (Nat.le_of_ble_eq_true rfl)⟩, ⟨(Nat.le_of_ble_eq_true rfl), (Nat.le_of_ble_eq_true rfl)⟩, (Nat.le_of_ble_eq_true rfl)⟩ ki_X4_readName ks_X4_readName rfl (am_tab tk_X4_readReminds 13 rfl) rfl ?_
    rintro r T1 ⟨rfl, hX1, hG⟩
    have hG1 := hG0.trans hG
    rw [show naG b E false (p) = phF b E H p from (ph_F hX0 hP h15)] at hX1
    have hP1 : PL 15 T1 H n (phF b E H p) := (hP.fr hG1 hTN).l phF_l
    refine am_aload_n (q := 27) rfl (am_tab tk_X4_readReminds 14 rfl) rfl ?_
    refine am_getR (q := 30) (a := 27) (k := 4) (n := 13) (j := 2) (r := some (15)) (Ls_27 hX1.1) (by decide) rfl (show T1.2.2 27 2 = some 15 by rw [hG1.2.1]; exact hR) (by decide) (Or.inl kf_X4_29) (am_tab tk_X4_readReminds 15 rfl) rfl ?_
    refine am_aload_n (q := 31) rfl (am_tab tk_X4_readReminds 16 rfl) rfl ?_
    refine am_getI (q := 34) (a := 27) (k := 4) (n := 13) (j := 6) (x := (T1.2.1 27 6)) (Ls_27 hX1.1) (by decide) rfl rfl (by decide) (Or.inl kf_X4_104) (am_tab tk_X4_readReminds 17 rfl) rfl ?_
    refine am_callVr (q := 37) (me2 := M_X8_find) (b := 15) (kb := 8) (nb := 17) (As := [am_i ((T1.2.1 27 6))]) (rest := []) (c_find_15 T1 hX1.1 (T1.2.1 27 6) n ((hG1.2.2 15 2 (by unfold W_rz; omega)).trans hn) h8) ⟨rfl, rfl⟩ (Ls_15 hX1.1) (by decide) ⟨Or.inr km_X4_147, kc_X8_find, kn_X8, kd_X8_find, ⟨(Nat.le_of_ble_eq_true rfl), (Nat.le_of_ble_eq_true rfl)⟩, ⟨(Nat.le_of_ble_eq_true rfl), (Nat.le_of_ble_eq_true rfl)⟩, (Nat.le_of_ble_eq_true rfl)⟩ ki_X8_find ks_X8_find rfl (am_tab tk_X4_readReminds 18 rfl) rfl ?_
    rintro r τ9 ⟨rfl, hτ9⟩
    rw [hτ9]
    rw [show firstQ (fun k => decide (T1.2.1 16 k = T1.2.1 27 6)) n = FD 15 T1 n from rfl]
    refine am_istore_n (q := 38) (by decide) (ls2 := [(2, am_i ((FD 15 T1 n))), (1, am_i ((FD 15 σ n))), (0, am_r 27)]) rfl (am_tab tk_X4_readReminds 19 rfl) rfl ?_
    refine am_aload_n (q := 39) rfl (am_tab tk_X4_readReminds 20 rfl) rfl ?_
    refine am_getI (q := 42) (a := 27) (k := 4) (n := 13) (j := 5) (x := (T1.2.1 27 5)) (Ls_27 hX1.1) (by decide) rfl rfl (by decide) (Or.inl kf_X4_55) (am_tab tk_X4_readReminds 21 rfl) rfl ?_
    refine am_istore_n (q := 43) (by decide) (ls2 := [(3, am_i ((T1.2.1 27 5))), (2, am_i ((FD 15 T1 n))), (1, am_i ((FD 15 σ n))), (0, am_r 27)]) rfl (am_tab tk_X4_readReminds 22 rfl) rfl ?_
    refine am_aload_n (q := 44) rfl (am_tab tk_X4_readReminds 23 rfl) rfl ?_
    refine am_iload_n (q := 45) rfl (am_tab tk_X4_readReminds 24 rfl) rfl ?_
    refine am_iconst (q := 46) (n := (-1)) (by decide) (am_tab tk_X4_readReminds 25 rfl) rfl ?_
    refine am_icmp_eq (q := 49) (t := 53) (am_tab tk_X4_readReminds 26 rfl) (by decide) rfl (fun h46 => ?_) (fun h46 => ?_)
    · refine am_iconst (q := 54) (n := 0) (by decide) (am_tab tk_X4_readReminds 29 rfl) rfl ?_
      refine am_callVr (q := 57) (me2 := M_X4_readName) (b := 27) (kb := 4) (nb := 13) (As := [am_i 0]) (rest := []) (c_nameZ0 hX1) ⟨rfl, rfl⟩ (Ls_27 hX1.1) (by decide) ⟨Or.inl km_X4_151, kc_X4_readName, kn_X4, kd_X4_readName, ⟨(Nat.le_of_ble_eq_true rfl), (Nat.le_of_ble_eq_true rfl)⟩, ⟨(Nat.le_of_ble_eq_true rfl), (Nat.le_of_ble_eq_true rfl)⟩, (Nat.le_of_ble_eq_true rfl)⟩ ki_X4_readName ks_X4_readName rfl (am_tab tk_X4_readReminds 30 rfl) rfl ?_
      rintro r T2 ⟨rfl, hX2, hG⟩
      have hG2 := hG1.trans hG
      rw [show naG b E false (phF b E H p) = phF b E H (phF b E H p) from (ph_F hX1 hP1 h46)] at hX2
      refine am_aload_n (q := 58) rfl (am_tab tk_X4_readReminds 31 rfl) rfl ?_
      refine am_getI (q := 61) (a := 27) (k := 4) (n := 13) (j := 8) (x := (fkZ (phF b E H (phF b E H p)))) (Ls_27 hX2.1) (by decide) rfl hX2.fk (by decide) (Or.inl kf_X4_62) (am_tab tk_X4_readReminds 32 rfl) rfl ?_
      refine am_if_ne (q := 64) (t := 82) (am_tab tk_X4_readReminds 33 rfl) (by decide) rfl (fun h61 => ?_) (fun h61 => ?_)
      · refine am_vret rfl (Nat.le_of_ble_eq_true rfl) (Nat.le_of_ble_eq_true rfl) (am_tab tk_X4_readReminds 44 rfl) ?_
        refine hQ _ _ ?_
        have e9 : rmP b E H p = phF b E H (phF b E H p) := if_neg (fun z => absurd (hX2.fk0.mpr z.1) h61)
        rw [e9]
        exact ⟨rfl, hX2, fun i hi hl => absurd (hX2.fk0.mpr hl) h61, hG2.mono hTm⟩
      · have hl := hX2.fk0.mp h61
        have hl1 := phF_l hl
        have hl0 := phF_l hl1
        have hfd := ph_v hX0 hP hl1
        have hfr := ph_ne hX0 hP hl1
        have hfe := ph_v hX1 hP1 hl
        have hfs := ph_ne hX1 hP1 hl
        obtain ⟨i0, hi0⟩ := isl hl0
        have hPk : TRr 15 T2 H ∧ H.2.1 85 0 = (n : Int) := by
          have := hP.fr hG2 hTN
          rw [hi0] at this
          exact this
        obtain ⟨a0, ha0⟩ := Int.eq_ofNat_of_zero_le hfr.1
        obtain ⟨d0, hd0⟩ := Int.eq_ofNat_of_zero_le hfs.1
        have ha8 : a0 < 8 := by omega
        have hd8 : d0 < 8 := by omega
        have hpn : (a0 : Int) < H.2.1 85 0 := by rw [hPk.2]; omega
        have hq4 := hPk.1.2.2.1 a0 ha8
        rw [if_pos hpn] at hq4
        have hr9 : 0 ≤ T2.2.1 19 a0 ∧ T2.2.1 19 a0 < 256 := hq4.2.1
        have hc9 : 0 ≤ T2.2.1 15 4 ∧ T2.2.1 15 4 ≤ 1000 := by
          have := hc3 hl0
          rw [hPk.1.1.2.2.2.2.1]
          omega
        have hft : (a0 = d0 ∨ tb (T2.2.1 19 a0) (d0 : Int) = 1) ↔ (pOf H (nZ b E p) = pOf H (nZ b E (phF b E H p)) ∨ tb (H.2.1 89 (pOf H (nZ b E p)).toNat) (pOf H (nZ b E (phF b E H p))) = 1) := by
          rw [← hfd, ← hfe, ha0, hd0, show ((a0 : Int)).toNat = a0 by omega, ← hq4.1]
          exact ⟨fun z => z.elim (fun u => Or.inl (by omega)) Or.inr, fun z => z.elim (fun u => Or.inl (by omega)) Or.inr⟩
        refine am_aload_n (q := 65) rfl (am_tab tk_X4_readReminds 34 rfl) rfl ?_
        refine am_getR (q := 68) (a := 27) (k := 4) (n := 13) (j := 2) (r := some (15)) (Ls_27 hX2.1) (by decide) rfl (show T2.2.2 27 2 = some 15 by rw [hG2.2.1]; exact hR) (by decide) (Or.inl kf_X4_29) (am_tab tk_X4_readReminds 35 rfl) rfl ?_
        refine am_iload_n (q := 69) rfl (am_tab tk_X4_readReminds 36 rfl) rfl ?_
        refine am_iload_n (q := 70) rfl (am_tab tk_X4_readReminds 37 rfl) rfl ?_
        by_cases ft : a0 = d0 ∨ tb (T2.2.1 19 a0) (d0 : Int) = 1
        · refine am_callVr (q := 73) (me2 := M_X8_addReminds) (b := 15) (kb := 8) (nb := 17) (As := [am_i ((FD 15 σ n)), am_i ((FD 15 T1 n))]) (rest := []) (by rw [ha0, hd0]; exact am_mono (c_addReminds_15 T2 hX2.1 a0 d0 ha8 hd8 hr9 hc9) (fun r τ h => h.elim (fun z => (show r = some (am_i 0) ∧ τ = T2 from z.2)) (fun z => absurd ft z.1))) ⟨rfl, rfl⟩ (Ls_15 hX2.1) (by decide) ⟨Or.inr km_X4_163, kc_X8_addReminds, kn_X8, kd_X8_addReminds, ⟨(Nat.le_of_ble_eq_true rfl), (Nat.le_of_ble_eq_true rfl)⟩, ⟨(Nat.le_of_ble_eq_true rfl), (Nat.le_of_ble_eq_true rfl)⟩, (Nat.le_of_ble_eq_true rfl)⟩ ki_X8_addReminds ks_X8_addReminds rfl (am_tab tk_X4_readReminds 38 rfl) rfl ?_
          rintro r T9 ⟨rfl, hτ9⟩
          rw [hτ9]
          refine am_if_ne (q := 76) (t := 82) (am_tab tk_X4_readReminds 39 rfl) (by decide) rfl (fun h73 => ?_) (fun h73 => ?_)
          · exact absurd rfl h73
          · refine am_aload_n (q := 77) rfl (am_tab tk_X4_readReminds 40 rfl) rfl ?_
            refine am_iconst (q := 78) (n := 3) (by decide) (am_tab tk_X4_readReminds 41 rfl) rfl ?_
            refine am_iload_n (q := 79) rfl (am_tab tk_X4_readReminds 42 rfl) rfl ?_
            refine am_callVr (q := 82) (me2 := M_X4_fail) (b := 27) (kb := 4) (nb := 13) (As := [am_i 3, am_i ((T1.2.1 27 5))]) (rest := []) (c_failY hX2 3 (T1.2.1 27 5) (by decide)) ⟨rfl, rfl⟩ (Ls_27 hX2.1) (by decide) ⟨Or.inl km_X4_58, kc_X4_fail, kn_X4, kd_X4_fail, ⟨(Nat.le_of_ble_eq_true rfl), (Nat.le_of_ble_eq_true rfl)⟩, ⟨(Nat.le_of_ble_eq_true rfl), (Nat.le_of_ble_eq_true rfl)⟩, (Nat.le_of_ble_eq_true rfl)⟩ ki_X4_fail ks_X4_fail rfl (am_tab tk_X4_readReminds 43 rfl) rfl ?_
            rintro r T3 ⟨rfl, hX3, hG⟩
            have hG3 := hG2.trans hG
            refine am_vret rfl (Nat.le_of_ble_eq_true rfl) (Nat.le_of_ble_eq_true rfl) (am_tab tk_X4_readReminds 44 rfl) ?_
            refine hQ _ _ ?_
            have e9 : rmP b E H p = flZ 3 (T1.2.1 27 5) (phF b E H (phF b E H p)) := by
              rw [fl_l hl, hX1.pz hl1]
              exact if_pos ⟨hl, hft.mp ft⟩
            rw [e9]
            exact ⟨rfl, hX3, fun i hi hl => absurd hl (by rw [fl_l ‹(phF b E H (phF b E H p)).isLeft = true›]; simp), hG3.mono hTm⟩
        · refine am_callVr (q := 73) (me2 := M_X8_addReminds) (b := 15) (kb := 8) (nb := 17) (As := [am_i ((FD 15 σ n)), am_i ((FD 15 T1 n))]) (rest := []) (by rw [ha0, hd0]; exact am_mono (c_addReminds_15 T2 hX2.1 a0 d0 ha8 hd8 hr9 hc9) (fun r τ h => h.elim (fun z => absurd z.1 ft) (fun z => (show r = some (am_i 1) ∧ τ = _ from z.2)))) ⟨rfl, rfl⟩ (Ls_15 hX2.1) (by decide) ⟨Or.inr km_X4_163, kc_X8_addReminds, kn_X8, kd_X8_addReminds, ⟨(Nat.le_of_ble_eq_true rfl), (Nat.le_of_ble_eq_true rfl)⟩, ⟨(Nat.le_of_ble_eq_true rfl), (Nat.le_of_ble_eq_true rfl)⟩, (Nat.le_of_ble_eq_true rfl)⟩ ki_X8_addReminds ks_X8_addReminds rfl (am_tab tk_X4_readReminds 38 rfl) rfl ?_
          rintro r T9 ⟨rfl, hτ9⟩
          refine am_if_ne (q := 76) (t := 82) (am_tab tk_X4_readReminds 39 rfl) (by decide) rfl (fun h73 => ?_) (fun h73 => ?_)
          · refine am_vret rfl (Nat.le_of_ble_eq_true rfl) (Nat.le_of_ble_eq_true rfl) (am_tab tk_X4_readReminds 44 rfl) ?_
            refine hQ _ _ ?_
            have e9 : rmP b E H p = phF b E H (phF b E H p) := if_neg (fun z => ft (hft.mpr z.2))
            rw [e9]
            have hd7 : frw (fun a j => 15 ≤ a ∧ a ≤ 22 ∧ ¬ (a = 15 ∧ j = 1)) T2 T9 := by rw [hτ9]; exact (((frw.refl (fun a j => 15 ≤ a ∧ a ≤ 22 ∧ ¬ (a = 15 ∧ j = 1)) T2).setN (by omega)).setN (by omega)).setN (by omega)
            refine ⟨rfl, hX2.fr hd7 (fun a j h => by omega), fun i2 hi2 _ => ?_, (hG2.mono hTm).trans (hd7.mono (fun a j h => Or.inl (by omega)))⟩
            have hT9 := hPk.1.rm ha8 hd8 hpn
            rw [hτ9]
            unfold rmH rmA rmB
            rw [← hi2, ← hfd, ← hfe, ha0, hd0, show ((a0 : Int)).toNat = a0 by omega]
            exact hT9
          · exact absurd h73 (by decide)
    · refine am_iconst (q := 50) (n := 1) (by decide) (am_tab tk_X4_readReminds 27 rfl) rfl ?_
      refine am_goto (t := 54) (am_tab tk_X4_readReminds 28 rfl) (by decide) ?_
      refine am_callVr (q := 57) (me2 := M_X4_readName) (b := 27) (kb := 4) (nb := 13) (As := [am_i 1]) (rest := []) (c_nameZ1 hX1) ⟨rfl, rfl⟩ (Ls_27 hX1.1) (by decide) ⟨Or.inl km_X4_151, kc_X4_readName, kn_X4, kd_X4_readName, ⟨(Nat.le_of_ble_eq_true rfl), (Nat.le_of_ble_eq_true rfl)⟩, ⟨(Nat.le_of_ble_eq_true rfl), (Nat.le_of_ble_eq_true rfl)⟩, (Nat.le_of_ble_eq_true rfl)⟩ ki_X4_readName ks_X4_readName rfl (am_tab tk_X4_readReminds 30 rfl) rfl ?_
      rintro r T2 ⟨rfl, hX2, hG⟩
      have hG2 := hG1.trans hG
      rw [show naG b E true (phF b E H p) = phF b E H (phF b E H p) from (ph_T hX1 hP1 h46)] at hX2
      refine am_aload_n (q := 58) rfl (am_tab tk_X4_readReminds 31 rfl) rfl ?_
      refine am_getI (q := 61) (a := 27) (k := 4) (n := 13) (j := 8) (x := (fkZ (phF b E H (phF b E H p)))) (Ls_27 hX2.1) (by decide) rfl hX2.fk (by decide) (Or.inl kf_X4_62) (am_tab tk_X4_readReminds 32 rfl) rfl ?_
      refine am_if_ne (q := 64) (t := 82) (am_tab tk_X4_readReminds 33 rfl) (by decide) rfl (fun h61 => ?_) (fun h61 => ?_)
      · refine am_vret rfl (Nat.le_of_ble_eq_true rfl) (Nat.le_of_ble_eq_true rfl) (am_tab tk_X4_readReminds 44 rfl) ?_
        refine hQ _ _ ?_
        have e9 : rmP b E H p = phF b E H (phF b E H p) := if_neg (fun z => absurd (hX2.fk0.mpr z.1) h61)
        rw [e9]
        exact ⟨rfl, hX2, fun i hi hl => absurd (hX2.fk0.mpr hl) h61, hG2.mono hTm⟩
      · have hl := hX2.fk0.mp h61
        have hl1 := phF_l hl
        have hl0 := phF_l hl1
        have hfd := ph_v hX0 hP hl1
        have hfr := ph_ne hX0 hP hl1
        have hfe := ph_v hX1 hP1 hl
        have hfs := ph_ne hX1 hP1 hl
        obtain ⟨i0, hi0⟩ := isl hl0
        have hPk : TRr 15 T2 H ∧ H.2.1 85 0 = (n : Int) := by
          have := hP.fr hG2 hTN
          rw [hi0] at this
          exact this
        obtain ⟨a0, ha0⟩ := Int.eq_ofNat_of_zero_le hfr.1
        obtain ⟨d0, hd0⟩ := Int.eq_ofNat_of_zero_le hfs.1
        have ha8 : a0 < 8 := by omega
        have hd8 : d0 < 8 := by omega
        have hpn : (a0 : Int) < H.2.1 85 0 := by rw [hPk.2]; omega
        have hq4 := hPk.1.2.2.1 a0 ha8
        rw [if_pos hpn] at hq4
        have hr9 : 0 ≤ T2.2.1 19 a0 ∧ T2.2.1 19 a0 < 256 := hq4.2.1
        have hc9 : 0 ≤ T2.2.1 15 4 ∧ T2.2.1 15 4 ≤ 1000 := by
          have := hc3 hl0
          rw [hPk.1.1.2.2.2.2.1]
          omega
        have hft : (a0 = d0 ∨ tb (T2.2.1 19 a0) (d0 : Int) = 1) ↔ (pOf H (nZ b E p) = pOf H (nZ b E (phF b E H p)) ∨ tb (H.2.1 89 (pOf H (nZ b E p)).toNat) (pOf H (nZ b E (phF b E H p))) = 1) := by
          rw [← hfd, ← hfe, ha0, hd0, show ((a0 : Int)).toNat = a0 by omega, ← hq4.1]
          exact ⟨fun z => z.elim (fun u => Or.inl (by omega)) Or.inr, fun z => z.elim (fun u => Or.inl (by omega)) Or.inr⟩
        refine am_aload_n (q := 65) rfl (am_tab tk_X4_readReminds 34 rfl) rfl ?_
        refine am_getR (q := 68) (a := 27) (k := 4) (n := 13) (j := 2) (r := some (15)) (Ls_27 hX2.1) (by decide) rfl (show T2.2.2 27 2 = some 15 by rw [hG2.2.1]; exact hR) (by decide) (Or.inl kf_X4_29) (am_tab tk_X4_readReminds 35 rfl) rfl ?_
        refine am_iload_n (q := 69) rfl (am_tab tk_X4_readReminds 36 rfl) rfl ?_
        refine am_iload_n (q := 70) rfl (am_tab tk_X4_readReminds 37 rfl) rfl ?_
        by_cases ft : a0 = d0 ∨ tb (T2.2.1 19 a0) (d0 : Int) = 1
        · refine am_callVr (q := 73) (me2 := M_X8_addReminds) (b := 15) (kb := 8) (nb := 17) (As := [am_i ((FD 15 σ n)), am_i ((FD 15 T1 n))]) (rest := []) (by rw [ha0, hd0]; exact am_mono (c_addReminds_15 T2 hX2.1 a0 d0 ha8 hd8 hr9 hc9) (fun r τ h => h.elim (fun z => (show r = some (am_i 0) ∧ τ = T2 from z.2)) (fun z => absurd ft z.1))) ⟨rfl, rfl⟩ (Ls_15 hX2.1) (by decide) ⟨Or.inr km_X4_163, kc_X8_addReminds, kn_X8, kd_X8_addReminds, ⟨(Nat.le_of_ble_eq_true rfl), (Nat.le_of_ble_eq_true rfl)⟩, ⟨(Nat.le_of_ble_eq_true rfl), (Nat.le_of_ble_eq_true rfl)⟩, (Nat.le_of_ble_eq_true rfl)⟩ ki_X8_addReminds ks_X8_addReminds rfl (am_tab tk_X4_readReminds 38 rfl) rfl ?_
          rintro r T9 ⟨rfl, hτ9⟩
          rw [hτ9]
          refine am_if_ne (q := 76) (t := 82) (am_tab tk_X4_readReminds 39 rfl) (by decide) rfl (fun h73 => ?_) (fun h73 => ?_)
          · exact absurd rfl h73
          · refine am_aload_n (q := 77) rfl (am_tab tk_X4_readReminds 40 rfl) rfl ?_
            refine am_iconst (q := 78) (n := 3) (by decide) (am_tab tk_X4_readReminds 41 rfl) rfl ?_
            refine am_iload_n (q := 79) rfl (am_tab tk_X4_readReminds 42 rfl) rfl ?_
            refine am_callVr (q := 82) (me2 := M_X4_fail) (b := 27) (kb := 4) (nb := 13) (As := [am_i 3, am_i ((T1.2.1 27 5))]) (rest := []) (c_failY hX2 3 (T1.2.1 27 5) (by decide)) ⟨rfl, rfl⟩ (Ls_27 hX2.1) (by decide) ⟨Or.inl km_X4_58, kc_X4_fail, kn_X4, kd_X4_fail, ⟨(Nat.le_of_ble_eq_true rfl), (Nat.le_of_ble_eq_true rfl)⟩, ⟨(Nat.le_of_ble_eq_true rfl), (Nat.le_of_ble_eq_true rfl)⟩, (Nat.le_of_ble_eq_true rfl)⟩ ki_X4_fail ks_X4_fail rfl (am_tab tk_X4_readReminds 43 rfl) rfl ?_
            rintro r T3 ⟨rfl, hX3, hG⟩
            have hG3 := hG2.trans hG
            refine am_vret rfl (Nat.le_of_ble_eq_true rfl) (Nat.le_of_ble_eq_true rfl) (am_tab tk_X4_readReminds 44 rfl) ?_
            refine hQ _ _ ?_
            have e9 : rmP b E H p = flZ 3 (T1.2.1 27 5) (phF b E H (phF b E H p)) := by
              rw [fl_l hl, hX1.pz hl1]
              exact if_pos ⟨hl, hft.mp ft⟩
            rw [e9]
            exact ⟨rfl, hX3, fun i hi hl => absurd hl (by rw [fl_l ‹(phF b E H (phF b E H p)).isLeft = true›]; simp), hG3.mono hTm⟩
        · refine am_callVr (q := 73) (me2 := M_X8_addReminds) (b := 15) (kb := 8) (nb := 17) (As := [am_i ((FD 15 σ n)), am_i ((FD 15 T1 n))]) (rest := []) (by rw [ha0, hd0]; exact am_mono (c_addReminds_15 T2 hX2.1 a0 d0 ha8 hd8 hr9 hc9) (fun r τ h => h.elim (fun z => absurd z.1 ft) (fun z => (show r = some (am_i 1) ∧ τ = _ from z.2)))) ⟨rfl, rfl⟩ (Ls_15 hX2.1) (by decide) ⟨Or.inr km_X4_163, kc_X8_addReminds, kn_X8, kd_X8_addReminds, ⟨(Nat.le_of_ble_eq_true rfl), (Nat.le_of_ble_eq_true rfl)⟩, ⟨(Nat.le_of_ble_eq_true rfl), (Nat.le_of_ble_eq_true rfl)⟩, (Nat.le_of_ble_eq_true rfl)⟩ ki_X8_addReminds ks_X8_addReminds rfl (am_tab tk_X4_readReminds 38 rfl) rfl ?_
          rintro r T9 ⟨rfl, hτ9⟩
          refine am_if_ne (q := 76) (t := 82) (am_tab tk_X4_readReminds 39 rfl) (by decide) rfl (fun h73 => ?_) (fun h73 => ?_)
          · refine am_vret rfl (Nat.le_of_ble_eq_true rfl) (Nat.le_of_ble_eq_true rfl) (am_tab tk_X4_readReminds 44 rfl) ?_
            refine hQ _ _ ?_
            have e9 : rmP b E H p = phF b E H (phF b E H p) := if_neg (fun z => ft (hft.mpr z.2))
            rw [e9]
            have hd7 : frw (fun a j => 15 ≤ a ∧ a ≤ 22 ∧ ¬ (a = 15 ∧ j = 1)) T2 T9 := by rw [hτ9]; exact (((frw.refl (fun a j => 15 ≤ a ∧ a ≤ 22 ∧ ¬ (a = 15 ∧ j = 1)) T2).setN (by omega)).setN (by omega)).setN (by omega)
            refine ⟨rfl, hX2.fr hd7 (fun a j h => by omega), fun i2 hi2 _ => ?_, (hG2.mono hTm).trans (hd7.mono (fun a j h => Or.inl (by omega)))⟩
            have hT9 := hPk.1.rm ha8 hd8 hpn
            rw [hτ9]
            unfold rmH rmA rmB
            rw [← hi2, ← hfd, ← hfe, ha0, hd0, show ((a0 : Int)).toNat = a0 by omega]
            exact hT9
          · exact absurd h73 (by decide)
  · refine am_iconst (q := 19) (n := 1) (by decide) (am_tab tk_X4_readReminds 10 rfl) rfl ?_
    refine am_goto (t := 23) (am_tab tk_X4_readReminds 11 rfl) (by decide) ?_
    refine am_callVr (q := 26) (me2 := M_X4_readName) (b := 27) (kb := 4) (nb := 13) (As := [am_i 1]) (rest := []) (c_nameZ1 hX0) ⟨rfl, rfl⟩ (Ls_27 hX.1) (by decide) ⟨Or.inl km_X4_151, kc_X4_readName, kn_X4, kd_X4_readName, ⟨(Nat.le_of_ble_eq_true rfl), (Nat.le_of_ble_eq_true rfl)⟩, ⟨(Nat.le_of_ble_eq_true rfl), (Nat.le_of_ble_eq_true rfl)⟩, (Nat.le_of_ble_eq_true rfl)⟩ ki_X4_readName ks_X4_readName rfl (am_tab tk_X4_readReminds 13 rfl) rfl ?_
    rintro r T1 ⟨rfl, hX1, hG⟩
    have hG1 := hG0.trans hG
    rw [show naG b E true (p) = phF b E H p from (ph_T hX0 hP h15)] at hX1
    have hP1 : PL 15 T1 H n (phF b E H p) := (hP.fr hG1 hTN).l phF_l
    refine am_aload_n (q := 27) rfl (am_tab tk_X4_readReminds 14 rfl) rfl ?_
    refine am_getR (q := 30) (a := 27) (k := 4) (n := 13) (j := 2) (r := some (15)) (Ls_27 hX1.1) (by decide) rfl (show T1.2.2 27 2 = some 15 by rw [hG1.2.1]; exact hR) (by decide) (Or.inl kf_X4_29) (am_tab tk_X4_readReminds 15 rfl) rfl ?_
    refine am_aload_n (q := 31) rfl (am_tab tk_X4_readReminds 16 rfl) rfl ?_
    refine am_getI (q := 34) (a := 27) (k := 4) (n := 13) (j := 6) (x := (T1.2.1 27 6)) (Ls_27 hX1.1) (by decide) rfl rfl (by decide) (Or.inl kf_X4_104) (am_tab tk_X4_readReminds 17 rfl) rfl ?_
    refine am_callVr (q := 37) (me2 := M_X8_find) (b := 15) (kb := 8) (nb := 17) (As := [am_i ((T1.2.1 27 6))]) (rest := []) (c_find_15 T1 hX1.1 (T1.2.1 27 6) n ((hG1.2.2 15 2 (by unfold W_rz; omega)).trans hn) h8) ⟨rfl, rfl⟩ (Ls_15 hX1.1) (by decide) ⟨Or.inr km_X4_147, kc_X8_find, kn_X8, kd_X8_find, ⟨(Nat.le_of_ble_eq_true rfl), (Nat.le_of_ble_eq_true rfl)⟩, ⟨(Nat.le_of_ble_eq_true rfl), (Nat.le_of_ble_eq_true rfl)⟩, (Nat.le_of_ble_eq_true rfl)⟩ ki_X8_find ks_X8_find rfl (am_tab tk_X4_readReminds 18 rfl) rfl ?_
    rintro r τ9 ⟨rfl, hτ9⟩
    rw [hτ9]
    rw [show firstQ (fun k => decide (T1.2.1 16 k = T1.2.1 27 6)) n = FD 15 T1 n from rfl]
    refine am_istore_n (q := 38) (by decide) (ls2 := [(2, am_i ((FD 15 T1 n))), (1, am_i ((FD 15 σ n))), (0, am_r 27)]) rfl (am_tab tk_X4_readReminds 19 rfl) rfl ?_
    refine am_aload_n (q := 39) rfl (am_tab tk_X4_readReminds 20 rfl) rfl ?_
    refine am_getI (q := 42) (a := 27) (k := 4) (n := 13) (j := 5) (x := (T1.2.1 27 5)) (Ls_27 hX1.1) (by decide) rfl rfl (by decide) (Or.inl kf_X4_55) (am_tab tk_X4_readReminds 21 rfl) rfl ?_
    refine am_istore_n (q := 43) (by decide) (ls2 := [(3, am_i ((T1.2.1 27 5))), (2, am_i ((FD 15 T1 n))), (1, am_i ((FD 15 σ n))), (0, am_r 27)]) rfl (am_tab tk_X4_readReminds 22 rfl) rfl ?_
    refine am_aload_n (q := 44) rfl (am_tab tk_X4_readReminds 23 rfl) rfl ?_
    refine am_iload_n (q := 45) rfl (am_tab tk_X4_readReminds 24 rfl) rfl ?_
    refine am_iconst (q := 46) (n := (-1)) (by decide) (am_tab tk_X4_readReminds 25 rfl) rfl ?_
    refine am_icmp_eq (q := 49) (t := 53) (am_tab tk_X4_readReminds 26 rfl) (by decide) rfl (fun h46 => ?_) (fun h46 => ?_)
    · refine am_iconst (q := 54) (n := 0) (by decide) (am_tab tk_X4_readReminds 29 rfl) rfl ?_
      refine am_callVr (q := 57) (me2 := M_X4_readName) (b := 27) (kb := 4) (nb := 13) (As := [am_i 0]) (rest := []) (c_nameZ0 hX1) ⟨rfl, rfl⟩ (Ls_27 hX1.1) (by decide) ⟨Or.inl km_X4_151, kc_X4_readName, kn_X4, kd_X4_readName, ⟨(Nat.le_of_ble_eq_true rfl), (Nat.le_of_ble_eq_true rfl)⟩, ⟨(Nat.le_of_ble_eq_true rfl), (Nat.le_of_ble_eq_true rfl)⟩, (Nat.le_of_ble_eq_true rfl)⟩ ki_X4_readName ks_X4_readName rfl (am_tab tk_X4_readReminds 30 rfl) rfl ?_
      rintro r T2 ⟨rfl, hX2, hG⟩
      have hG2 := hG1.trans hG
      rw [show naG b E false (phF b E H p) = phF b E H (phF b E H p) from (ph_F hX1 hP1 h46)] at hX2
      refine am_aload_n (q := 58) rfl (am_tab tk_X4_readReminds 31 rfl) rfl ?_
      refine am_getI (q := 61) (a := 27) (k := 4) (n := 13) (j := 8) (x := (fkZ (phF b E H (phF b E H p)))) (Ls_27 hX2.1) (by decide) rfl hX2.fk (by decide) (Or.inl kf_X4_62) (am_tab tk_X4_readReminds 32 rfl) rfl ?_
      refine am_if_ne (q := 64) (t := 82) (am_tab tk_X4_readReminds 33 rfl) (by decide) rfl (fun h61 => ?_) (fun h61 => ?_)
      · refine am_vret rfl (Nat.le_of_ble_eq_true rfl) (Nat.le_of_ble_eq_true rfl) (am_tab tk_X4_readReminds 44 rfl) ?_
        refine hQ _ _ ?_
        have e9 : rmP b E H p = phF b E H (phF b E H p) := if_neg (fun z => absurd (hX2.fk0.mpr z.1) h61)
        rw [e9]
        exact ⟨rfl, hX2, fun i hi hl => absurd (hX2.fk0.mpr hl) h61, hG2.mono hTm⟩
      · have hl := hX2.fk0.mp h61
        have hl1 := phF_l hl
        have hl0 := phF_l hl1
        have hfd := ph_v hX0 hP hl1
        have hfr := ph_ne hX0 hP hl1
        have hfe := ph_v hX1 hP1 hl
        have hfs := ph_ne hX1 hP1 hl
        obtain ⟨i0, hi0⟩ := isl hl0
        have hPk : TRr 15 T2 H ∧ H.2.1 85 0 = (n : Int) := by
          have := hP.fr hG2 hTN
          rw [hi0] at this
          exact this
        obtain ⟨a0, ha0⟩ := Int.eq_ofNat_of_zero_le hfr.1
        obtain ⟨d0, hd0⟩ := Int.eq_ofNat_of_zero_le hfs.1
        have ha8 : a0 < 8 := by omega
        have hd8 : d0 < 8 := by omega
        have hpn : (a0 : Int) < H.2.1 85 0 := by rw [hPk.2]; omega
        have hq4 := hPk.1.2.2.1 a0 ha8
        rw [if_pos hpn] at hq4
        have hr9 : 0 ≤ T2.2.1 19 a0 ∧ T2.2.1 19 a0 < 256 := hq4.2.1
        have hc9 : 0 ≤ T2.2.1 15 4 ∧ T2.2.1 15 4 ≤ 1000 := by
          have := hc3 hl0
          rw [hPk.1.1.2.2.2.2.1]
          omega
        have hft : (a0 = d0 ∨ tb (T2.2.1 19 a0) (d0 : Int) = 1) ↔ (pOf H (nZ b E p) = pOf H (nZ b E (phF b E H p)) ∨ tb (H.2.1 89 (pOf H (nZ b E p)).toNat) (pOf H (nZ b E (phF b E H p))) = 1) := by
          rw [← hfd, ← hfe, ha0, hd0, show ((a0 : Int)).toNat = a0 by omega, ← hq4.1]
          exact ⟨fun z => z.elim (fun u => Or.inl (by omega)) Or.inr, fun z => z.elim (fun u => Or.inl (by omega)) Or.inr⟩
        refine am_aload_n (q := 65) rfl (am_tab tk_X4_readReminds 34 rfl) rfl ?_
        refine am_getR (q := 68) (a := 27) (k := 4) (n := 13) (j := 2) (r := some (15)) (Ls_27 hX2.1) (by decide) rfl (show T2.2.2 27 2 = some 15 by rw [hG2.2.1]; exact hR) (by decide) (Or.inl kf_X4_29) (am_tab tk_X4_readReminds 35 rfl) rfl ?_
        refine am_iload_n (q := 69) rfl (am_tab tk_X4_readReminds 36 rfl) rfl ?_
        refine am_iload_n (q := 70) rfl (am_tab tk_X4_readReminds 37 rfl) rfl ?_
        by_cases ft : a0 = d0 ∨ tb (T2.2.1 19 a0) (d0 : Int) = 1
        · refine am_callVr (q := 73) (me2 := M_X8_addReminds) (b := 15) (kb := 8) (nb := 17) (As := [am_i ((FD 15 σ n)), am_i ((FD 15 T1 n))]) (rest := []) (by rw [ha0, hd0]; exact am_mono (c_addReminds_15 T2 hX2.1 a0 d0 ha8 hd8 hr9 hc9) (fun r τ h => h.elim (fun z => (show r = some (am_i 0) ∧ τ = T2 from z.2)) (fun z => absurd ft z.1))) ⟨rfl, rfl⟩ (Ls_15 hX2.1) (by decide) ⟨Or.inr km_X4_163, kc_X8_addReminds, kn_X8, kd_X8_addReminds, ⟨(Nat.le_of_ble_eq_true rfl), (Nat.le_of_ble_eq_true rfl)⟩, ⟨(Nat.le_of_ble_eq_true rfl), (Nat.le_of_ble_eq_true rfl)⟩, (Nat.le_of_ble_eq_true rfl)⟩ ki_X8_addReminds ks_X8_addReminds rfl (am_tab tk_X4_readReminds 38 rfl) rfl ?_
          rintro r T9 ⟨rfl, hτ9⟩
          rw [hτ9]
          refine am_if_ne (q := 76) (t := 82) (am_tab tk_X4_readReminds 39 rfl) (by decide) rfl (fun h73 => ?_) (fun h73 => ?_)
          · exact absurd rfl h73
          · refine am_aload_n (q := 77) rfl (am_tab tk_X4_readReminds 40 rfl) rfl ?_
            refine am_iconst (q := 78) (n := 3) (by decide) (am_tab tk_X4_readReminds 41 rfl) rfl ?_
            refine am_iload_n (q := 79) rfl (am_tab tk_X4_readReminds 42 rfl) rfl ?_
            refine am_callVr (q := 82) (me2 := M_X4_fail) (b := 27) (kb := 4) (nb := 13) (As := [am_i 3, am_i ((T1.2.1 27 5))]) (rest := []) (c_failY hX2 3 (T1.2.1 27 5) (by decide)) ⟨rfl, rfl⟩ (Ls_27 hX2.1) (by decide) ⟨Or.inl km_X4_58, kc_X4_fail, kn_X4, kd_X4_fail, ⟨(Nat.le_of_ble_eq_true rfl), (Nat.le_of_ble_eq_true rfl)⟩, ⟨(Nat.le_of_ble_eq_true rfl), (Nat.le_of_ble_eq_true rfl)⟩, (Nat.le_of_ble_eq_true rfl)⟩ ki_X4_fail ks_X4_fail rfl (am_tab tk_X4_readReminds 43 rfl) rfl ?_
            rintro r T3 ⟨rfl, hX3, hG⟩
            have hG3 := hG2.trans hG
            refine am_vret rfl (Nat.le_of_ble_eq_true rfl) (Nat.le_of_ble_eq_true rfl) (am_tab tk_X4_readReminds 44 rfl) ?_
            refine hQ _ _ ?_
            have e9 : rmP b E H p = flZ 3 (T1.2.1 27 5) (phF b E H (phF b E H p)) := by
              rw [fl_l hl, hX1.pz hl1]
              exact if_pos ⟨hl, hft.mp ft⟩
            rw [e9]
            exact ⟨rfl, hX3, fun i hi hl => absurd hl (by rw [fl_l ‹(phF b E H (phF b E H p)).isLeft = true›]; simp), hG3.mono hTm⟩
        · refine am_callVr (q := 73) (me2 := M_X8_addReminds) (b := 15) (kb := 8) (nb := 17) (As := [am_i ((FD 15 σ n)), am_i ((FD 15 T1 n))]) (rest := []) (by rw [ha0, hd0]; exact am_mono (c_addReminds_15 T2 hX2.1 a0 d0 ha8 hd8 hr9 hc9) (fun r τ h => h.elim (fun z => absurd z.1 ft) (fun z => (show r = some (am_i 1) ∧ τ = _ from z.2)))) ⟨rfl, rfl⟩ (Ls_15 hX2.1) (by decide) ⟨Or.inr km_X4_163, kc_X8_addReminds, kn_X8, kd_X8_addReminds, ⟨(Nat.le_of_ble_eq_true rfl), (Nat.le_of_ble_eq_true rfl)⟩, ⟨(Nat.le_of_ble_eq_true rfl), (Nat.le_of_ble_eq_true rfl)⟩, (Nat.le_of_ble_eq_true rfl)⟩ ki_X8_addReminds ks_X8_addReminds rfl (am_tab tk_X4_readReminds 38 rfl) rfl ?_
          rintro r T9 ⟨rfl, hτ9⟩
          refine am_if_ne (q := 76) (t := 82) (am_tab tk_X4_readReminds 39 rfl) (by decide) rfl (fun h73 => ?_) (fun h73 => ?_)
          · refine am_vret rfl (Nat.le_of_ble_eq_true rfl) (Nat.le_of_ble_eq_true rfl) (am_tab tk_X4_readReminds 44 rfl) ?_
            refine hQ _ _ ?_
            have e9 : rmP b E H p = phF b E H (phF b E H p) := if_neg (fun z => ft (hft.mpr z.2))
            rw [e9]
            have hd7 : frw (fun a j => 15 ≤ a ∧ a ≤ 22 ∧ ¬ (a = 15 ∧ j = 1)) T2 T9 := by rw [hτ9]; exact (((frw.refl (fun a j => 15 ≤ a ∧ a ≤ 22 ∧ ¬ (a = 15 ∧ j = 1)) T2).setN (by omega)).setN (by omega)).setN (by omega)
            refine ⟨rfl, hX2.fr hd7 (fun a j h => by omega), fun i2 hi2 _ => ?_, (hG2.mono hTm).trans (hd7.mono (fun a j h => Or.inl (by omega)))⟩
            have hT9 := hPk.1.rm ha8 hd8 hpn
            rw [hτ9]
            unfold rmH rmA rmB
            rw [← hi2, ← hfd, ← hfe, ha0, hd0, show ((a0 : Int)).toNat = a0 by omega]
            exact hT9
          · exact absurd h73 (by decide)
    · refine am_iconst (q := 50) (n := 1) (by decide) (am_tab tk_X4_readReminds 27 rfl) rfl ?_
      refine am_goto (t := 54) (am_tab tk_X4_readReminds 28 rfl) (by decide) ?_
      refine am_callVr (q := 57) (me2 := M_X4_readName) (b := 27) (kb := 4) (nb := 13) (As := [am_i 1]) (rest := []) (c_nameZ1 hX1) ⟨rfl, rfl⟩ (Ls_27 hX1.1) (by decide) ⟨Or.inl km_X4_151, kc_X4_readName, kn_X4, kd_X4_readName, ⟨(Nat.le_of_ble_eq_true rfl), (Nat.le_of_ble_eq_true rfl)⟩, ⟨(Nat.le_of_ble_eq_true rfl), (Nat.le_of_ble_eq_true rfl)⟩, (Nat.le_of_ble_eq_true rfl)⟩ ki_X4_readName ks_X4_readName rfl (am_tab tk_X4_readReminds 30 rfl) rfl ?_
      rintro r T2 ⟨rfl, hX2, hG⟩
      have hG2 := hG1.trans hG
      rw [show naG b E true (phF b E H p) = phF b E H (phF b E H p) from (ph_T hX1 hP1 h46)] at hX2
      refine am_aload_n (q := 58) rfl (am_tab tk_X4_readReminds 31 rfl) rfl ?_
      refine am_getI (q := 61) (a := 27) (k := 4) (n := 13) (j := 8) (x := (fkZ (phF b E H (phF b E H p)))) (Ls_27 hX2.1) (by decide) rfl hX2.fk (by decide) (Or.inl kf_X4_62) (am_tab tk_X4_readReminds 32 rfl) rfl ?_
      refine am_if_ne (q := 64) (t := 82) (am_tab tk_X4_readReminds 33 rfl) (by decide) rfl (fun h61 => ?_) (fun h61 => ?_)
      · refine am_vret rfl (Nat.le_of_ble_eq_true rfl) (Nat.le_of_ble_eq_true rfl) (am_tab tk_X4_readReminds 44 rfl) ?_
        refine hQ _ _ ?_
        have e9 : rmP b E H p = phF b E H (phF b E H p) := if_neg (fun z => absurd (hX2.fk0.mpr z.1) h61)
        rw [e9]
        exact ⟨rfl, hX2, fun i hi hl => absurd (hX2.fk0.mpr hl) h61, hG2.mono hTm⟩
      · have hl := hX2.fk0.mp h61
        have hl1 := phF_l hl
        have hl0 := phF_l hl1
        have hfd := ph_v hX0 hP hl1
        have hfr := ph_ne hX0 hP hl1
        have hfe := ph_v hX1 hP1 hl
        have hfs := ph_ne hX1 hP1 hl
        obtain ⟨i0, hi0⟩ := isl hl0
        have hPk : TRr 15 T2 H ∧ H.2.1 85 0 = (n : Int) := by
          have := hP.fr hG2 hTN
          rw [hi0] at this
          exact this
        obtain ⟨a0, ha0⟩ := Int.eq_ofNat_of_zero_le hfr.1
        obtain ⟨d0, hd0⟩ := Int.eq_ofNat_of_zero_le hfs.1
        have ha8 : a0 < 8 := by omega
        have hd8 : d0 < 8 := by omega
        have hpn : (a0 : Int) < H.2.1 85 0 := by rw [hPk.2]; omega
        have hq4 := hPk.1.2.2.1 a0 ha8
        rw [if_pos hpn] at hq4
        have hr9 : 0 ≤ T2.2.1 19 a0 ∧ T2.2.1 19 a0 < 256 := hq4.2.1
        have hc9 : 0 ≤ T2.2.1 15 4 ∧ T2.2.1 15 4 ≤ 1000 := by
          have := hc3 hl0
          rw [hPk.1.1.2.2.2.2.1]
          omega
        have hft : (a0 = d0 ∨ tb (T2.2.1 19 a0) (d0 : Int) = 1) ↔ (pOf H (nZ b E p) = pOf H (nZ b E (phF b E H p)) ∨ tb (H.2.1 89 (pOf H (nZ b E p)).toNat) (pOf H (nZ b E (phF b E H p))) = 1) := by
          rw [← hfd, ← hfe, ha0, hd0, show ((a0 : Int)).toNat = a0 by omega, ← hq4.1]
          exact ⟨fun z => z.elim (fun u => Or.inl (by omega)) Or.inr, fun z => z.elim (fun u => Or.inl (by omega)) Or.inr⟩
        refine am_aload_n (q := 65) rfl (am_tab tk_X4_readReminds 34 rfl) rfl ?_
        refine am_getR (q := 68) (a := 27) (k := 4) (n := 13) (j := 2) (r := some (15)) (Ls_27 hX2.1) (by decide) rfl (show T2.2.2 27 2 = some 15 by rw [hG2.2.1]; exact hR) (by decide) (Or.inl kf_X4_29) (am_tab tk_X4_readReminds 35 rfl) rfl ?_
        refine am_iload_n (q := 69) rfl (am_tab tk_X4_readReminds 36 rfl) rfl ?_
        refine am_iload_n (q := 70) rfl (am_tab tk_X4_readReminds 37 rfl) rfl ?_
        by_cases ft : a0 = d0 ∨ tb (T2.2.1 19 a0) (d0 : Int) = 1
        · refine am_callVr (q := 73) (me2 := M_X8_addReminds) (b := 15) (kb := 8) (nb := 17) (As := [am_i ((FD 15 σ n)), am_i ((FD 15 T1 n))]) (rest := []) (by rw [ha0, hd0]; exact am_mono (c_addReminds_15 T2 hX2.1 a0 d0 ha8 hd8 hr9 hc9) (fun r τ h => h.elim (fun z => (show r = some (am_i 0) ∧ τ = T2 from z.2)) (fun z => absurd ft z.1))) ⟨rfl, rfl⟩ (Ls_15 hX2.1) (by decide) ⟨Or.inr km_X4_163, kc_X8_addReminds, kn_X8, kd_X8_addReminds, ⟨(Nat.le_of_ble_eq_true rfl), (Nat.le_of_ble_eq_true rfl)⟩, ⟨(Nat.le_of_ble_eq_true rfl), (Nat.le_of_ble_eq_true rfl)⟩, (Nat.le_of_ble_eq_true rfl)⟩ ki_X8_addReminds ks_X8_addReminds rfl (am_tab tk_X4_readReminds 38 rfl) rfl ?_
          rintro r T9 ⟨rfl, hτ9⟩
          rw [hτ9]
          refine am_if_ne (q := 76) (t := 82) (am_tab tk_X4_readReminds 39 rfl) (by decide) rfl (fun h73 => ?_) (fun h73 => ?_)
          · exact absurd rfl h73
          · refine am_aload_n (q := 77) rfl (am_tab tk_X4_readReminds 40 rfl) rfl ?_
            refine am_iconst (q := 78) (n := 3) (by decide) (am_tab tk_X4_readReminds 41 rfl) rfl ?_
            refine am_iload_n (q := 79) rfl (am_tab tk_X4_readReminds 42 rfl) rfl ?_
            refine am_callVr (q := 82) (me2 := M_X4_fail) (b := 27) (kb := 4) (nb := 13) (As := [am_i 3, am_i ((T1.2.1 27 5))]) (rest := []) (c_failY hX2 3 (T1.2.1 27 5) (by decide)) ⟨rfl, rfl⟩ (Ls_27 hX2.1) (by decide) ⟨Or.inl km_X4_58, kc_X4_fail, kn_X4, kd_X4_fail, ⟨(Nat.le_of_ble_eq_true rfl), (Nat.le_of_ble_eq_true rfl)⟩, ⟨(Nat.le_of_ble_eq_true rfl), (Nat.le_of_ble_eq_true rfl)⟩, (Nat.le_of_ble_eq_true rfl)⟩ ki_X4_fail ks_X4_fail rfl (am_tab tk_X4_readReminds 43 rfl) rfl ?_
            rintro r T3 ⟨rfl, hX3, hG⟩
            have hG3 := hG2.trans hG
            refine am_vret rfl (Nat.le_of_ble_eq_true rfl) (Nat.le_of_ble_eq_true rfl) (am_tab tk_X4_readReminds 44 rfl) ?_
            refine hQ _ _ ?_
            have e9 : rmP b E H p = flZ 3 (T1.2.1 27 5) (phF b E H (phF b E H p)) := by
              rw [fl_l hl, hX1.pz hl1]
              exact if_pos ⟨hl, hft.mp ft⟩
            rw [e9]
            exact ⟨rfl, hX3, fun i hi hl => absurd hl (by rw [fl_l ‹(phF b E H (phF b E H p)).isLeft = true›]; simp), hG3.mono hTm⟩
        · refine am_callVr (q := 73) (me2 := M_X8_addReminds) (b := 15) (kb := 8) (nb := 17) (As := [am_i ((FD 15 σ n)), am_i ((FD 15 T1 n))]) (rest := []) (by rw [ha0, hd0]; exact am_mono (c_addReminds_15 T2 hX2.1 a0 d0 ha8 hd8 hr9 hc9) (fun r τ h => h.elim (fun z => absurd z.1 ft) (fun z => (show r = some (am_i 1) ∧ τ = _ from z.2)))) ⟨rfl, rfl⟩ (Ls_15 hX2.1) (by decide) ⟨Or.inr km_X4_163, kc_X8_addReminds, kn_X8, kd_X8_addReminds, ⟨(Nat.le_of_ble_eq_true rfl), (Nat.le_of_ble_eq_true rfl)⟩, ⟨(Nat.le_of_ble_eq_true rfl), (Nat.le_of_ble_eq_true rfl)⟩, (Nat.le_of_ble_eq_true rfl)⟩ ki_X8_addReminds ks_X8_addReminds rfl (am_tab tk_X4_readReminds 38 rfl) rfl ?_
          rintro r T9 ⟨rfl, hτ9⟩
          refine am_if_ne (q := 76) (t := 82) (am_tab tk_X4_readReminds 39 rfl) (by decide) rfl (fun h73 => ?_) (fun h73 => ?_)
          · refine am_vret rfl (Nat.le_of_ble_eq_true rfl) (Nat.le_of_ble_eq_true rfl) (am_tab tk_X4_readReminds 44 rfl) ?_
            refine hQ _ _ ?_
            have e9 : rmP b E H p = phF b E H (phF b E H p) := if_neg (fun z => ft (hft.mpr z.2))
            rw [e9]
            have hd7 : frw (fun a j => 15 ≤ a ∧ a ≤ 22 ∧ ¬ (a = 15 ∧ j = 1)) T2 T9 := by rw [hτ9]; exact (((frw.refl (fun a j => 15 ≤ a ∧ a ≤ 22 ∧ ¬ (a = 15 ∧ j = 1)) T2).setN (by omega)).setN (by omega)).setN (by omega)
            refine ⟨rfl, hX2.fr hd7 (fun a j h => by omega), fun i2 hi2 _ => ?_, (hG2.mono hTm).trans (hd7.mono (fun a j h => Or.inl (by omega)))⟩
            have hT9 := hPk.1.rm ha8 hd8 hpn
            rw [hτ9]
            unfold rmH rmA rmB
            rw [← hi2, ← hfd, ← hfe, ha0, hd0, show ((a0 : Int)).toNat = a0 by omega]
            exact hT9
          · exact absurd h73 (by decide)
theorem c_readFrost_3 (b : Nat → Int) (E : Nat) (cv : Nat → Int) (M : Nat) (p : PZ) (σ H : am_H) (hX : RY b E cv M σ p) (hR : σ.2.2 27 2 = some 3) (n : Nat) (hn : σ.2.1 3 2 = (n : Int)) (h8 : n ≤ 8) (D : Int) (hD : σ.2.1 3 0 = D) (hP : PL 3 σ H n p) (hD9 : D ≤ 90) (hc3 : p.isLeft = true → 0 ≤ H.2.1 85 3 ∧ H.2.1 85 3 ≤ 4)   : am_met M_X4_readFrost [am_r 27] σ (fun r σ' => r = none ∧ RY b E cv M σ' (nuF b E 1 30 (akF b E 8 (nuF b E 1 D p))) ∧ (∀ i, p = .inl i → (nuF b E 1 30 (akF b E 8 (nuF b E 1 D p))).isLeft = true → TRr 3 σ' (frH b E H i)) ∧ frw (W_tn 3) σ σ') := by
  refine am_qq (fun Q hQ => ?_)
  refine am_enter (show plainFor yX4_readFrost = true by decide +kernel) rfl (Nat.le_of_ble_eq_true rfl) (fun _ _ _ => trivial) ?_
  have hX0 := hX
  have hG0 := frw.refl W_rz σ
  have hTN : ∀ a j, 3 ≤ a ∧ a ≤ 3 + 7 → ¬ W_rz a j := fun a j h => by unfold W_rz; omega
  have hTm : ∀ a j, W_rz a j → W_tn 3 a j := fun a j h => Or.inr h
  refine am_aload_n (q := 1) rfl (am_tab tk_X4_readFrost 0 rfl) rfl ?_
  refine am_iconst (q := 2) (n := 1) (by decide) (am_tab tk_X4_readFrost 1 rfl) rfl ?_
  refine am_aload_n (q := 3) rfl (am_tab tk_X4_readFrost 2 rfl) rfl ?_
  refine am_getR (q := 6) (a := 27) (k := 4) (n := 13) (j := 2) (r := some (3)) (Ls_27 hX.1) (by decide) rfl hR (by decide) (Or.inl kf_X4_29) (am_tab tk_X4_readFrost 3 rfl) rfl ?_
  refine am_getI (q := 9) (a := 3) (k := 8) (n := 17) (j := 0) (x := D) (Ls_3 hX.1) (by decide) rfl hD (by decide) (Or.inr kf_X4_115) (am_tab tk_X4_readFrost 4 rfl) rfl ?_
  refine am_callVr (q := 12) (me2 := M_X4_readNumber) (b := 27) (kb := 4) (nb := 13) (As := [am_i 1, am_i D]) (rest := []) (c_numZ hX0 1 D) ⟨rfl, rfl⟩ (Ls_27 hX.1) (by decide) ⟨Or.inl km_X4_111, kc_X4_readNumber, kn_X4, kd_X4_readNumber, ⟨(Nat.le_of_ble_eq_true rfl), (Nat.le_of_ble_eq_true rfl)⟩, ⟨(Nat.le_of_ble_eq_true rfl), (Nat.le_of_ble_eq_true rfl)⟩, (Nat.le_of_ble_eq_true rfl)⟩ ki_X4_readNumber ks_X4_readNumber rfl (am_tab tk_X4_readFrost 5 rfl) rfl ?_
  rintro r T1 ⟨v1, rfl, hX1, hG, hv1⟩
  have hG1 := hG0.trans hG
  refine am_istore_n (q := 13) (by decide) (ls2 := [(1, am_i v1), (0, am_r 27)]) rfl (am_tab tk_X4_readFrost 6 rfl) rfl ?_
  refine am_aload_n (q := 14) rfl (am_tab tk_X4_readFrost 7 rfl) rfl ?_
  refine am_aload_n (q := 15) rfl (am_tab tk_X4_readFrost 8 rfl) rfl ?_
  refine am_getI (q := 18) (a := 27) (k := 4) (n := 13) (j := 4) (x := (kdZ b E (nuF b E 1 D (p)))) (Ls_27 hX1.1) (by decide) rfl hX1.kd (by decide) (Or.inl kf_X4_45) (am_tab tk_X4_readFrost 9 rfl) rfl ?_
  refine am_sipush (q := 21) (n := 136) (by decide) rfl (am_tab tk_X4_readFrost 10 rfl) rfl ?_
  refine am_icmp_ne (q := 24) (t := 28) (am_tab tk_X4_readFrost 11 rfl) (by decide) rfl (fun h21 => ?_) (fun h21 => ?_)
  · refine am_iconst (q := 29) (n := 0) (by decide) (am_tab tk_X4_readFrost 14 rfl) rfl ?_
    refine am_iconst (q := 30) (n := 1) (by decide) (am_tab tk_X4_readFrost 15 rfl) rfl ?_
    refine am_callVr (q := 33) (me2 := M_X4_pass) (b := 27) (kb := 4) (nb := 13) (As := [am_i 0, am_i 1]) (rest := []) (c_passYF hX1 1 (by decide)) ⟨rfl, rfl⟩ (Ls_27 hX1.1) (by decide) ⟨Or.inl km_X4_71, kc_X4_pass, kn_X4, kd_X4_pass, ⟨(Nat.le_of_ble_eq_true rfl), (Nat.le_of_ble_eq_true rfl)⟩, ⟨(Nat.le_of_ble_eq_true rfl), (Nat.le_of_ble_eq_true rfl)⟩, (Nat.le_of_ble_eq_true rfl)⟩ ki_X4_pass ks_X4_pass rfl (am_tab tk_X4_readFrost 16 rfl) rfl ?_
    rintro r T2 ⟨rfl, hX2, hG⟩
    have hG2 := hG1.trans hG
    rw [show ftZ b E 1 (nuF b E 1 D (p)) = akF b E 8 (nuF b E 1 D (p)) from ak_F h21] at hX2
    refine am_aload_n (q := 34) rfl (am_tab tk_X4_readFrost 17 rfl) rfl ?_
    refine am_iconst (q := 35) (n := 1) (by decide) (am_tab tk_X4_readFrost 18 rfl) rfl ?_
    refine am_bipush (q := 37) (n := 30) (by decide) rfl (am_tab tk_X4_readFrost 19 rfl) rfl ?_
    refine am_callVr (q := 40) (me2 := M_X4_readNumber) (b := 27) (kb := 4) (nb := 13) (As := [am_i 1, am_i 30]) (rest := []) (c_numZ hX2 1 30) ⟨rfl, rfl⟩ (Ls_27 hX2.1) (by decide) ⟨Or.inl km_X4_111, kc_X4_readNumber, kn_X4, kd_X4_readNumber, ⟨(Nat.le_of_ble_eq_true rfl), (Nat.le_of_ble_eq_true rfl)⟩, ⟨(Nat.le_of_ble_eq_true rfl), (Nat.le_of_ble_eq_true rfl)⟩, (Nat.le_of_ble_eq_true rfl)⟩ ki_X4_readNumber ks_X4_readNumber rfl (am_tab tk_X4_readFrost 20 rfl) rfl ?_
    rintro r T3 ⟨v3, rfl, hX3, hG, hv3⟩
    have hG3 := hG2.trans hG
    refine am_istore_n (q := 41) (by decide) (ls2 := [(2, am_i v3), (1, am_i v1), (0, am_r 27)]) rfl (am_tab tk_X4_readFrost 21 rfl) rfl ?_
    refine am_aload_n (q := 42) rfl (am_tab tk_X4_readFrost 22 rfl) rfl ?_
    refine am_getI (q := 45) (a := 27) (k := 4) (n := 13) (j := 8) (x := (fkZ (nuF b E 1 30 (akF b E 8 (nuF b E 1 D (p)))))) (Ls_27 hX3.1) (by decide) rfl hX3.fk (by decide) (Or.inl kf_X4_62) (am_tab tk_X4_readFrost 23 rfl) rfl ?_
    refine am_if_ne (q := 48) (t := 57) (am_tab tk_X4_readFrost 24 rfl) (by decide) rfl (fun h45 => ?_) (fun h45 => ?_)
    · refine am_vret rfl (Nat.le_of_ble_eq_true rfl) (Nat.le_of_ble_eq_true rfl) (am_tab tk_X4_readFrost 30 rfl) ?_
      refine hQ _ _ ?_
      exact ⟨rfl, hX3, fun i hi hl => absurd (hX3.fk0.mpr hl) h45, hG3.mono hTm⟩
    · have hl := hX3.fk0.mp h45
      have hw3 := hv3 hl
      have hl2 := nuF_l hl
      have hl1 := akF_l hl2
      have hw1 := hv1 hl1
      have hl0 := nuF_l hl1
      have hnr := nu_r hl1
      have hns := nu_r hl
      obtain ⟨i0, hi0⟩ := isl hl0
      have hPk : TRr 3 T3 H ∧ H.2.1 85 0 = (n : Int) := by
        have := hP.fr hG3 hTN
        rw [hi0] at this
        exact this
      have hHD : H.2.1 85 4 = D := by rw [← hPk.1.1.1, hG3.2.2 3 0 (by unfold W_rz; omega), hD]
      obtain ⟨a0, ha0⟩ := Int.eq_ofNat_of_zero_le (show 0 ≤ v1 by omega)
      obtain ⟨d0, hd0⟩ := Int.eq_ofNat_of_zero_le (show 0 ≤ v3 by omega)
      have hr9 : 1 ≤ a0 ∧ (a0 : Int) ≤ D ∧ D ≤ 90 ∧ d0 ≤ 30 := by omega
      have hcx := hc3 hl0
      obtain ⟨c0, hC0⟩ := Int.eq_ofNat_of_zero_le hcx.1
      have hc9 : 0 ≤ T3.2.1 3 5 ∧ T3.2.1 3 5 ≤ 1000 := by
        rw [hPk.1.1.2.2.2.2.2.1]
        omega
      refine am_aload_n (q := 49) rfl (am_tab tk_X4_readFrost 25 rfl) rfl ?_
      refine am_getR (q := 52) (a := 27) (k := 4) (n := 13) (j := 2) (r := some (3)) (Ls_27 hX3.1) (by decide) rfl (show T3.2.2 27 2 = some 3 by rw [hG3.2.1]; exact hR) (by decide) (Or.inl kf_X4_29) (am_tab tk_X4_readFrost 26 rfl) rfl ?_
      refine am_iload_n (q := 53) rfl (am_tab tk_X4_readFrost 27 rfl) rfl ?_
      refine am_iload_n (q := 54) rfl (am_tab tk_X4_readFrost 28 rfl) rfl ?_
      refine am_callVr (q := 57) (me2 := M_X8_addFrost) (b := 3) (kb := 8) (nb := 17) (As := [am_i v1, am_i v3]) (rest := []) (by rw [ha0, hd0]; exact c_addFrost_3 T3 hX3.1 a0 d0 D ((hG3.2.2 3 0 (by unfold W_rz; omega)).trans hD) hr9 hc9) ⟨rfl, rfl⟩ (Ls_3 hX3.1) (by decide) ⟨Or.inr km_X4_166, kc_X8_addFrost, kn_X8, kd_X8_addFrost, ⟨(Nat.le_of_ble_eq_true rfl), (Nat.le_of_ble_eq_true rfl)⟩, ⟨(Nat.le_of_ble_eq_true rfl), (Nat.le_of_ble_eq_true rfl)⟩, (Nat.le_of_ble_eq_true rfl)⟩ ki_X8_addFrost ks_X8_addFrost rfl (am_tab tk_X4_readFrost 29 rfl) rfl ?_
      rintro r T9 ⟨rfl, hτ9, hfz, hf9⟩
      refine am_vret rfl (Nat.le_of_ble_eq_true rfl) (Nat.le_of_ble_eq_true rfl) (am_tab tk_X4_readFrost 30 rfl) ?_
      refine hQ _ _ ?_
      refine ⟨rfl, hX3.fr hf9 (fun a j h => by omega), fun i2 hi2 _ => ?_, (hG3.mono hTm).trans (hf9.mono (fun a j h => Or.inl (by omega)))⟩
      have hT9 := hPk.1.fz hC0 hτ9 (by rw [hHD]; exact hfz) hf9
      have hw1b : v1 = zV b E i2 := by rw [hw1, hi2]; rfl
      unfold frH
      rw [hC0, hHD, ← hi2, ← hw3, ← hw1b, ha0, hd0, show (2 * (c0 : Int)).toNat = 2 * c0 by omega, show (2 * (c0 : Int) + 1).toNat = 2 * c0 + 1 by omega]
      exact hT9
  · refine am_iconst (q := 25) (n := 1) (by decide) (am_tab tk_X4_readFrost 12 rfl) rfl ?_
    refine am_goto (t := 29) (am_tab tk_X4_readFrost 13 rfl) (by decide) ?_
    refine am_iconst (q := 30) (n := 1) (by decide) (am_tab tk_X4_readFrost 15 rfl) rfl ?_
    refine am_callVr (q := 33) (me2 := M_X4_pass) (b := 27) (kb := 4) (nb := 13) (As := [am_i 1, am_i 1]) (rest := []) (c_passYT hX1 (by rw [h21]; decide) 1) ⟨rfl, rfl⟩ (Ls_27 hX1.1) (by decide) ⟨Or.inl km_X4_71, kc_X4_pass, kn_X4, kd_X4_pass, ⟨(Nat.le_of_ble_eq_true rfl), (Nat.le_of_ble_eq_true rfl)⟩, ⟨(Nat.le_of_ble_eq_true rfl), (Nat.le_of_ble_eq_true rfl)⟩, (Nat.le_of_ble_eq_true rfl)⟩ ki_X4_pass ks_X4_pass rfl (am_tab tk_X4_readFrost 16 rfl) rfl ?_
    rintro r T2 ⟨rfl, hX2, hG⟩
    have hG2 := hG1.trans hG
    rw [show npZ (nuF b E 1 D (p)) = akF b E 8 (nuF b E 1 D (p)) from ak_T h21] at hX2
    refine am_aload_n (q := 34) rfl (am_tab tk_X4_readFrost 17 rfl) rfl ?_
    refine am_iconst (q := 35) (n := 1) (by decide) (am_tab tk_X4_readFrost 18 rfl) rfl ?_
    refine am_bipush (q := 37) (n := 30) (by decide) rfl (am_tab tk_X4_readFrost 19 rfl) rfl ?_
    refine am_callVr (q := 40) (me2 := M_X4_readNumber) (b := 27) (kb := 4) (nb := 13) (As := [am_i 1, am_i 30]) (rest := []) (c_numZ hX2 1 30) ⟨rfl, rfl⟩ (Ls_27 hX2.1) (by decide) ⟨Or.inl km_X4_111, kc_X4_readNumber, kn_X4, kd_X4_readNumber, ⟨(Nat.le_of_ble_eq_true rfl), (Nat.le_of_ble_eq_true rfl)⟩, ⟨(Nat.le_of_ble_eq_true rfl), (Nat.le_of_ble_eq_true rfl)⟩, (Nat.le_of_ble_eq_true rfl)⟩ ki_X4_readNumber ks_X4_readNumber rfl (am_tab tk_X4_readFrost 20 rfl) rfl ?_
    rintro r T3 ⟨v3, rfl, hX3, hG, hv3⟩
    have hG3 := hG2.trans hG
    refine am_istore_n (q := 41) (by decide) (ls2 := [(2, am_i v3), (1, am_i v1), (0, am_r 27)]) rfl (am_tab tk_X4_readFrost 21 rfl) rfl ?_
    refine am_aload_n (q := 42) rfl (am_tab tk_X4_readFrost 22 rfl) rfl ?_
    refine am_getI (q := 45) (a := 27) (k := 4) (n := 13) (j := 8) (x := (fkZ (nuF b E 1 30 (akF b E 8 (nuF b E 1 D (p)))))) (Ls_27 hX3.1) (by decide) rfl hX3.fk (by decide) (Or.inl kf_X4_62) (am_tab tk_X4_readFrost 23 rfl) rfl ?_
    refine am_if_ne (q := 48) (t := 57) (am_tab tk_X4_readFrost 24 rfl) (by decide) rfl (fun h45 => ?_) (fun h45 => ?_)
    · refine am_vret rfl (Nat.le_of_ble_eq_true rfl) (Nat.le_of_ble_eq_true rfl) (am_tab tk_X4_readFrost 30 rfl) ?_
      refine hQ _ _ ?_
      exact ⟨rfl, hX3, fun i hi hl => absurd (hX3.fk0.mpr hl) h45, hG3.mono hTm⟩
    · have hl := hX3.fk0.mp h45
      have hw3 := hv3 hl
      have hl2 := nuF_l hl
      have hl1 := akF_l hl2
      have hw1 := hv1 hl1
      have hl0 := nuF_l hl1
      have hnr := nu_r hl1
      have hns := nu_r hl
      obtain ⟨i0, hi0⟩ := isl hl0
      have hPk : TRr 3 T3 H ∧ H.2.1 85 0 = (n : Int) := by
        have := hP.fr hG3 hTN
        rw [hi0] at this
        exact this
      have hHD : H.2.1 85 4 = D := by rw [← hPk.1.1.1, hG3.2.2 3 0 (by unfold W_rz; omega), hD]
      obtain ⟨a0, ha0⟩ := Int.eq_ofNat_of_zero_le (show 0 ≤ v1 by omega)
      obtain ⟨d0, hd0⟩ := Int.eq_ofNat_of_zero_le (show 0 ≤ v3 by omega)
      have hr9 : 1 ≤ a0 ∧ (a0 : Int) ≤ D ∧ D ≤ 90 ∧ d0 ≤ 30 := by omega
      have hcx := hc3 hl0
      obtain ⟨c0, hC0⟩ := Int.eq_ofNat_of_zero_le hcx.1
      have hc9 : 0 ≤ T3.2.1 3 5 ∧ T3.2.1 3 5 ≤ 1000 := by
        rw [hPk.1.1.2.2.2.2.2.1]
        omega
      refine am_aload_n (q := 49) rfl (am_tab tk_X4_readFrost 25 rfl) rfl ?_
      refine am_getR (q := 52) (a := 27) (k := 4) (n := 13) (j := 2) (r := some (3)) (Ls_27 hX3.1) (by decide) rfl (show T3.2.2 27 2 = some 3 by rw [hG3.2.1]; exact hR) (by decide) (Or.inl kf_X4_29) (am_tab tk_X4_readFrost 26 rfl) rfl ?_
      refine am_iload_n (q := 53) rfl (am_tab tk_X4_readFrost 27 rfl) rfl ?_
      refine am_iload_n (q := 54) rfl (am_tab tk_X4_readFrost 28 rfl) rfl ?_
      refine am_callVr (q := 57) (me2 := M_X8_addFrost) (b := 3) (kb := 8) (nb := 17) (As := [am_i v1, am_i v3]) (rest := []) (by rw [ha0, hd0]; exact c_addFrost_3 T3 hX3.1 a0 d0 D ((hG3.2.2 3 0 (by unfold W_rz; omega)).trans hD) hr9 hc9) ⟨rfl, rfl⟩ (Ls_3 hX3.1) (by decide) ⟨Or.inr km_X4_166, kc_X8_addFrost, kn_X8, kd_X8_addFrost, ⟨(Nat.le_of_ble_eq_true rfl), (Nat.le_of_ble_eq_true rfl)⟩, ⟨(Nat.le_of_ble_eq_true rfl), (Nat.le_of_ble_eq_true rfl)⟩, (Nat.le_of_ble_eq_true rfl)⟩ ki_X8_addFrost ks_X8_addFrost rfl (am_tab tk_X4_readFrost 29 rfl) rfl ?_
      rintro r T9 ⟨rfl, hτ9, hfz, hf9⟩
      refine am_vret rfl (Nat.le_of_ble_eq_true rfl) (Nat.le_of_ble_eq_true rfl) (am_tab tk_X4_readFrost 30 rfl) ?_
      refine hQ _ _ ?_
      refine ⟨rfl, hX3.fr hf9 (fun a j h => by omega), fun i2 hi2 _ => ?_, (hG3.mono hTm).trans (hf9.mono (fun a j h => Or.inl (by omega)))⟩
      have hT9 := hPk.1.fz hC0 hτ9 (by rw [hHD]; exact hfz) hf9
      have hw1b : v1 = zV b E i2 := by rw [hw1, hi2]; rfl
      unfold frH
      rw [hC0, hHD, ← hi2, ← hw3, ← hw1b, ha0, hd0, show (2 * (c0 : Int)).toNat = 2 * c0 by omega, show (2 * (c0 : Int) + 1).toNat = 2 * c0 + 1 by omega]
      exact hT9
theorem c_readFrost_15 (b : Nat → Int) (E : Nat) (cv : Nat → Int) (M : Nat) (p : PZ) (σ H : am_H) (hX : RY b E cv M σ p) (hR : σ.2.2 27 2 = some 15) (n : Nat) (hn : σ.2.1 15 2 = (n : Int)) (h8 : n ≤ 8) (D : Int) (hD : σ.2.1 15 0 = D) (hP : PL 15 σ H n p) (hD9 : D ≤ 90) (hc3 : p.isLeft = true → 0 ≤ H.2.1 85 3 ∧ H.2.1 85 3 ≤ 4)   : am_met M_X4_readFrost [am_r 27] σ (fun r σ' => r = none ∧ RY b E cv M σ' (nuF b E 1 30 (akF b E 8 (nuF b E 1 D p))) ∧ (∀ i, p = .inl i → (nuF b E 1 30 (akF b E 8 (nuF b E 1 D p))).isLeft = true → TRr 15 σ' (frH b E H i)) ∧ frw (W_tn 15) σ σ') := by
  refine am_qq (fun Q hQ => ?_)
  refine am_enter (show plainFor yX4_readFrost = true by decide +kernel) rfl (Nat.le_of_ble_eq_true rfl) (fun _ _ _ => trivial) ?_
  have hX0 := hX
  have hG0 := frw.refl W_rz σ
  have hTN : ∀ a j, 15 ≤ a ∧ a ≤ 15 + 7 → ¬ W_rz a j := fun a j h => by unfold W_rz; omega
  have hTm : ∀ a j, W_rz a j → W_tn 15 a j := fun a j h => Or.inr h
  refine am_aload_n (q := 1) rfl (am_tab tk_X4_readFrost 0 rfl) rfl ?_
  refine am_iconst (q := 2) (n := 1) (by decide) (am_tab tk_X4_readFrost 1 rfl) rfl ?_
  refine am_aload_n (q := 3) rfl (am_tab tk_X4_readFrost 2 rfl) rfl ?_
  refine am_getR (q := 6) (a := 27) (k := 4) (n := 13) (j := 2) (r := some (15)) (Ls_27 hX.1) (by decide) rfl hR (by decide) (Or.inl kf_X4_29) (am_tab tk_X4_readFrost 3 rfl) rfl ?_
  refine am_getI (q := 9) (a := 15) (k := 8) (n := 17) (j := 0) (x := D) (Ls_15 hX.1) (by decide) rfl hD (by decide) (Or.inr kf_X4_115) (am_tab tk_X4_readFrost 4 rfl) rfl ?_
  refine am_callVr (q := 12) (me2 := M_X4_readNumber) (b := 27) (kb := 4) (nb := 13) (As := [am_i 1, am_i D]) (rest := []) (c_numZ hX0 1 D) ⟨rfl, rfl⟩ (Ls_27 hX.1) (by decide) ⟨Or.inl km_X4_111, kc_X4_readNumber, kn_X4, kd_X4_readNumber, ⟨(Nat.le_of_ble_eq_true rfl), (Nat.le_of_ble_eq_true rfl)⟩, ⟨(Nat.le_of_ble_eq_true rfl), (Nat.le_of_ble_eq_true rfl)⟩, (Nat.le_of_ble_eq_true rfl)⟩ ki_X4_readNumber ks_X4_readNumber rfl (am_tab tk_X4_readFrost 5 rfl) rfl ?_
  rintro r T1 ⟨v1, rfl, hX1, hG, hv1⟩
  have hG1 := hG0.trans hG
  refine am_istore_n (q := 13) (by decide) (ls2 := [(1, am_i v1), (0, am_r 27)]) rfl (am_tab tk_X4_readFrost 6 rfl) rfl ?_
  refine am_aload_n (q := 14) rfl (am_tab tk_X4_readFrost 7 rfl) rfl ?_
  refine am_aload_n (q := 15) rfl (am_tab tk_X4_readFrost 8 rfl) rfl ?_
  refine am_getI (q := 18) (a := 27) (k := 4) (n := 13) (j := 4) (x := (kdZ b E (nuF b E 1 D (p)))) (Ls_27 hX1.1) (by decide) rfl hX1.kd (by decide) (Or.inl kf_X4_45) (am_tab tk_X4_readFrost 9 rfl) rfl ?_
  refine am_sipush (q := 21) (n := 136) (by decide) rfl (am_tab tk_X4_readFrost 10 rfl) rfl ?_
  refine am_icmp_ne (q := 24) (t := 28) (am_tab tk_X4_readFrost 11 rfl) (by decide) rfl (fun h21 => ?_) (fun h21 => ?_)
  · refine am_iconst (q := 29) (n := 0) (by decide) (am_tab tk_X4_readFrost 14 rfl) rfl ?_
    refine am_iconst (q := 30) (n := 1) (by decide) (am_tab tk_X4_readFrost 15 rfl) rfl ?_
    refine am_callVr (q := 33) (me2 := M_X4_pass) (b := 27) (kb := 4) (nb := 13) (As := [am_i 0, am_i 1]) (rest := []) (c_passYF hX1 1 (by decide)) ⟨rfl, rfl⟩ (Ls_27 hX1.1) (by decide) ⟨Or.inl km_X4_71, kc_X4_pass, kn_X4, kd_X4_pass, ⟨(Nat.le_of_ble_eq_true rfl), (Nat.le_of_ble_eq_true rfl)⟩, ⟨(Nat.le_of_ble_eq_true rfl), (Nat.le_of_ble_eq_true rfl)⟩, (Nat.le_of_ble_eq_true rfl)⟩ ki_X4_pass ks_X4_pass rfl (am_tab tk_X4_readFrost 16 rfl) rfl ?_
    rintro r T2 ⟨rfl, hX2, hG⟩
    have hG2 := hG1.trans hG
    rw [show ftZ b E 1 (nuF b E 1 D (p)) = akF b E 8 (nuF b E 1 D (p)) from ak_F h21] at hX2
    refine am_aload_n (q := 34) rfl (am_tab tk_X4_readFrost 17 rfl) rfl ?_
    refine am_iconst (q := 35) (n := 1) (by decide) (am_tab tk_X4_readFrost 18 rfl) rfl ?_
    refine am_bipush (q := 37) (n := 30) (by decide) rfl (am_tab tk_X4_readFrost 19 rfl) rfl ?_
    refine am_callVr (q := 40) (me2 := M_X4_readNumber) (b := 27) (kb := 4) (nb := 13) (As := [am_i 1, am_i 30]) (rest := []) (c_numZ hX2 1 30) ⟨rfl, rfl⟩ (Ls_27 hX2.1) (by decide) ⟨Or.inl km_X4_111, kc_X4_readNumber, kn_X4, kd_X4_readNumber, ⟨(Nat.le_of_ble_eq_true rfl), (Nat.le_of_ble_eq_true rfl)⟩, ⟨(Nat.le_of_ble_eq_true rfl), (Nat.le_of_ble_eq_true rfl)⟩, (Nat.le_of_ble_eq_true rfl)⟩ ki_X4_readNumber ks_X4_readNumber rfl (am_tab tk_X4_readFrost 20 rfl) rfl ?_
    rintro r T3 ⟨v3, rfl, hX3, hG, hv3⟩
    have hG3 := hG2.trans hG
    refine am_istore_n (q := 41) (by decide) (ls2 := [(2, am_i v3), (1, am_i v1), (0, am_r 27)]) rfl (am_tab tk_X4_readFrost 21 rfl) rfl ?_
    refine am_aload_n (q := 42) rfl (am_tab tk_X4_readFrost 22 rfl) rfl ?_
    refine am_getI (q := 45) (a := 27) (k := 4) (n := 13) (j := 8) (x := (fkZ (nuF b E 1 30 (akF b E 8 (nuF b E 1 D (p)))))) (Ls_27 hX3.1) (by decide) rfl hX3.fk (by decide) (Or.inl kf_X4_62) (am_tab tk_X4_readFrost 23 rfl) rfl ?_
    refine am_if_ne (q := 48) (t := 57) (am_tab tk_X4_readFrost 24 rfl) (by decide) rfl (fun h45 => ?_) (fun h45 => ?_)
    · refine am_vret rfl (Nat.le_of_ble_eq_true rfl) (Nat.le_of_ble_eq_true rfl) (am_tab tk_X4_readFrost 30 rfl) ?_
      refine hQ _ _ ?_
      exact ⟨rfl, hX3, fun i hi hl => absurd (hX3.fk0.mpr hl) h45, hG3.mono hTm⟩
    · have hl := hX3.fk0.mp h45
      have hw3 := hv3 hl
      have hl2 := nuF_l hl
      have hl1 := akF_l hl2
      have hw1 := hv1 hl1
      have hl0 := nuF_l hl1
      have hnr := nu_r hl1
      have hns := nu_r hl
      obtain ⟨i0, hi0⟩ := isl hl0
      have hPk : TRr 15 T3 H ∧ H.2.1 85 0 = (n : Int) := by
        have := hP.fr hG3 hTN
        rw [hi0] at this
        exact this
      have hHD : H.2.1 85 4 = D := by rw [← hPk.1.1.1, hG3.2.2 15 0 (by unfold W_rz; omega), hD]
      obtain ⟨a0, ha0⟩ := Int.eq_ofNat_of_zero_le (show 0 ≤ v1 by omega)
      obtain ⟨d0, hd0⟩ := Int.eq_ofNat_of_zero_le (show 0 ≤ v3 by omega)
      have hr9 : 1 ≤ a0 ∧ (a0 : Int) ≤ D ∧ D ≤ 90 ∧ d0 ≤ 30 := by omega
      have hcx := hc3 hl0
      obtain ⟨c0, hC0⟩ := Int.eq_ofNat_of_zero_le hcx.1
      have hc9 : 0 ≤ T3.2.1 15 5 ∧ T3.2.1 15 5 ≤ 1000 := by
        rw [hPk.1.1.2.2.2.2.2.1]
        omega
      refine am_aload_n (q := 49) rfl (am_tab tk_X4_readFrost 25 rfl) rfl ?_
      refine am_getR (q := 52) (a := 27) (k := 4) (n := 13) (j := 2) (r := some (15)) (Ls_27 hX3.1) (by decide) rfl (show T3.2.2 27 2 = some 15 by rw [hG3.2.1]; exact hR) (by decide) (Or.inl kf_X4_29) (am_tab tk_X4_readFrost 26 rfl) rfl ?_
      refine am_iload_n (q := 53) rfl (am_tab tk_X4_readFrost 27 rfl) rfl ?_
      refine am_iload_n (q := 54) rfl (am_tab tk_X4_readFrost 28 rfl) rfl ?_
      refine am_callVr (q := 57) (me2 := M_X8_addFrost) (b := 15) (kb := 8) (nb := 17) (As := [am_i v1, am_i v3]) (rest := []) (by rw [ha0, hd0]; exact c_addFrost_15 T3 hX3.1 a0 d0 D ((hG3.2.2 15 0 (by unfold W_rz; omega)).trans hD) hr9 hc9) ⟨rfl, rfl⟩ (Ls_15 hX3.1) (by decide) ⟨Or.inr km_X4_166, kc_X8_addFrost, kn_X8, kd_X8_addFrost, ⟨(Nat.le_of_ble_eq_true rfl), (Nat.le_of_ble_eq_true rfl)⟩, ⟨(Nat.le_of_ble_eq_true rfl), (Nat.le_of_ble_eq_true rfl)⟩, (Nat.le_of_ble_eq_true rfl)⟩ ki_X8_addFrost ks_X8_addFrost rfl (am_tab tk_X4_readFrost 29 rfl) rfl ?_
      rintro r T9 ⟨rfl, hτ9, hfz, hf9⟩
      refine am_vret rfl (Nat.le_of_ble_eq_true rfl) (Nat.le_of_ble_eq_true rfl) (am_tab tk_X4_readFrost 30 rfl) ?_
      refine hQ _ _ ?_
      refine ⟨rfl, hX3.fr hf9 (fun a j h => by omega), fun i2 hi2 _ => ?_, (hG3.mono hTm).trans (hf9.mono (fun a j h => Or.inl (by omega)))⟩
      have hT9 := hPk.1.fz hC0 hτ9 (by rw [hHD]; exact hfz) hf9
      have hw1b : v1 = zV b E i2 := by rw [hw1, hi2]; rfl
      unfold frH
      rw [hC0, hHD, ← hi2, ← hw3, ← hw1b, ha0, hd0, show (2 * (c0 : Int)).toNat = 2 * c0 by omega, show (2 * (c0 : Int) + 1).toNat = 2 * c0 + 1 by omega]
      exact hT9
  · refine am_iconst (q := 25) (n := 1) (by decide) (am_tab tk_X4_readFrost 12 rfl) rfl ?_
    refine am_goto (t := 29) (am_tab tk_X4_readFrost 13 rfl) (by decide) ?_
    refine am_iconst (q := 30) (n := 1) (by decide) (am_tab tk_X4_readFrost 15 rfl) rfl ?_
    refine am_callVr (q := 33) (me2 := M_X4_pass) (b := 27) (kb := 4) (nb := 13) (As := [am_i 1, am_i 1]) (rest := []) (c_passYT hX1 (by rw [h21]; decide) 1) ⟨rfl, rfl⟩ (Ls_27 hX1.1) (by decide) ⟨Or.inl km_X4_71, kc_X4_pass, kn_X4, kd_X4_pass, ⟨(Nat.le_of_ble_eq_true rfl), (Nat.le_of_ble_eq_true rfl)⟩, ⟨(Nat.le_of_ble_eq_true rfl), (Nat.le_of_ble_eq_true rfl)⟩, (Nat.le_of_ble_eq_true rfl)⟩ ki_X4_pass ks_X4_pass rfl (am_tab tk_X4_readFrost 16 rfl) rfl ?_
    rintro r T2 ⟨rfl, hX2, hG⟩
    have hG2 := hG1.trans hG
    rw [show npZ (nuF b E 1 D (p)) = akF b E 8 (nuF b E 1 D (p)) from ak_T h21] at hX2
    refine am_aload_n (q := 34) rfl (am_tab tk_X4_readFrost 17 rfl) rfl ?_
    refine am_iconst (q := 35) (n := 1) (by decide) (am_tab tk_X4_readFrost 18 rfl) rfl ?_
    refine am_bipush (q := 37) (n := 30) (by decide) rfl (am_tab tk_X4_readFrost 19 rfl) rfl ?_
    refine am_callVr (q := 40) (me2 := M_X4_readNumber) (b := 27) (kb := 4) (nb := 13) (As := [am_i 1, am_i 30]) (rest := []) (c_numZ hX2 1 30) ⟨rfl, rfl⟩ (Ls_27 hX2.1) (by decide) ⟨Or.inl km_X4_111, kc_X4_readNumber, kn_X4, kd_X4_readNumber, ⟨(Nat.le_of_ble_eq_true rfl), (Nat.le_of_ble_eq_true rfl)⟩, ⟨(Nat.le_of_ble_eq_true rfl), (Nat.le_of_ble_eq_true rfl)⟩, (Nat.le_of_ble_eq_true rfl)⟩ ki_X4_readNumber ks_X4_readNumber rfl (am_tab tk_X4_readFrost 20 rfl) rfl ?_
    rintro r T3 ⟨v3, rfl, hX3, hG, hv3⟩
    have hG3 := hG2.trans hG
    refine am_istore_n (q := 41) (by decide) (ls2 := [(2, am_i v3), (1, am_i v1), (0, am_r 27)]) rfl (am_tab tk_X4_readFrost 21 rfl) rfl ?_
    refine am_aload_n (q := 42) rfl (am_tab tk_X4_readFrost 22 rfl) rfl ?_
    refine am_getI (q := 45) (a := 27) (k := 4) (n := 13) (j := 8) (x := (fkZ (nuF b E 1 30 (akF b E 8 (nuF b E 1 D (p)))))) (Ls_27 hX3.1) (by decide) rfl hX3.fk (by decide) (Or.inl kf_X4_62) (am_tab tk_X4_readFrost 23 rfl) rfl ?_
    refine am_if_ne (q := 48) (t := 57) (am_tab tk_X4_readFrost 24 rfl) (by decide) rfl (fun h45 => ?_) (fun h45 => ?_)
    · refine am_vret rfl (Nat.le_of_ble_eq_true rfl) (Nat.le_of_ble_eq_true rfl) (am_tab tk_X4_readFrost 30 rfl) ?_
      refine hQ _ _ ?_
      exact ⟨rfl, hX3, fun i hi hl => absurd (hX3.fk0.mpr hl) h45, hG3.mono hTm⟩
    · have hl := hX3.fk0.mp h45
      have hw3 := hv3 hl
      have hl2 := nuF_l hl
      have hl1 := akF_l hl2
      have hw1 := hv1 hl1
      have hl0 := nuF_l hl1
      have hnr := nu_r hl1
      have hns := nu_r hl
      obtain ⟨i0, hi0⟩ := isl hl0
      have hPk : TRr 15 T3 H ∧ H.2.1 85 0 = (n : Int) := by
        have := hP.fr hG3 hTN
        rw [hi0] at this
        exact this
      have hHD : H.2.1 85 4 = D := by rw [← hPk.1.1.1, hG3.2.2 15 0 (by unfold W_rz; omega), hD]
      obtain ⟨a0, ha0⟩ := Int.eq_ofNat_of_zero_le (show 0 ≤ v1 by omega)
      obtain ⟨d0, hd0⟩ := Int.eq_ofNat_of_zero_le (show 0 ≤ v3 by omega)
      have hr9 : 1 ≤ a0 ∧ (a0 : Int) ≤ D ∧ D ≤ 90 ∧ d0 ≤ 30 := by omega
      have hcx := hc3 hl0
      obtain ⟨c0, hC0⟩ := Int.eq_ofNat_of_zero_le hcx.1
      have hc9 : 0 ≤ T3.2.1 15 5 ∧ T3.2.1 15 5 ≤ 1000 := by
        rw [hPk.1.1.2.2.2.2.2.1]
        omega
      refine am_aload_n (q := 49) rfl (am_tab tk_X4_readFrost 25 rfl) rfl ?_
      refine am_getR (q := 52) (a := 27) (k := 4) (n := 13) (j := 2) (r := some (15)) (Ls_27 hX3.1) (by decide) rfl (show T3.2.2 27 2 = some 15 by rw [hG3.2.1]; exact hR) (by decide) (Or.inl kf_X4_29) (am_tab tk_X4_readFrost 26 rfl) rfl ?_
      refine am_iload_n (q := 53) rfl (am_tab tk_X4_readFrost 27 rfl) rfl ?_
      refine am_iload_n (q := 54) rfl (am_tab tk_X4_readFrost 28 rfl) rfl ?_
      refine am_callVr (q := 57) (me2 := M_X8_addFrost) (b := 15) (kb := 8) (nb := 17) (As := [am_i v1, am_i v3]) (rest := []) (by rw [ha0, hd0]; exact c_addFrost_15 T3 hX3.1 a0 d0 D ((hG3.2.2 15 0 (by unfold W_rz; omega)).trans hD) hr9 hc9) ⟨rfl, rfl⟩ (Ls_15 hX3.1) (by decide) ⟨Or.inr km_X4_166, kc_X8_addFrost, kn_X8, kd_X8_addFrost, ⟨(Nat.le_of_ble_eq_true rfl), (Nat.le_of_ble_eq_true rfl)⟩, ⟨(Nat.le_of_ble_eq_true rfl), (Nat.le_of_ble_eq_true rfl)⟩, (Nat.le_of_ble_eq_true rfl)⟩ ki_X8_addFrost ks_X8_addFrost rfl (am_tab tk_X4_readFrost 29 rfl) rfl ?_
      rintro r T9 ⟨rfl, hτ9, hfz, hf9⟩
      refine am_vret rfl (Nat.le_of_ble_eq_true rfl) (Nat.le_of_ble_eq_true rfl) (am_tab tk_X4_readFrost 30 rfl) ?_
      refine hQ _ _ ?_
      refine ⟨rfl, hX3.fr hf9 (fun a j h => by omega), fun i2 hi2 _ => ?_, (hG3.mono hTm).trans (hf9.mono (fun a j h => Or.inl (by omega)))⟩
      have hT9 := hPk.1.fz hC0 hτ9 (by rw [hHD]; exact hfz) hf9
      have hw1b : v1 = zV b E i2 := by rw [hw1, hi2]; rfl
      unfold frH
      rw [hC0, hHD, ← hi2, ← hw3, ← hw1b, ha0, hd0, show (2 * (c0 : Int)).toNat = 2 * c0 by omega, show (2 * (c0 : Int) + 1).toNat = 2 * c0 + 1 by omega]
      exact hT9
