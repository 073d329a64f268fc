theorem RY.pz {b : Nat → Int} {E : Nat} {cv : Nat → Int} {M : Nat} {τ : am_H} {q : PZ} (h : RY b E cv M τ q) (hl : q.isLeft = true) : τ.2.1 27 5 = pZ b E q := by
  cases q with
  | inl i => exact h.2.2.2.1.2.2.1
  | inr e => exact absurd hl (by simp)
theorem nu_r {b : Nat → Int} {E : Nat} {lo hi : Int} {q : PZ} (h : (nuF b E lo hi q).isLeft = true) : lo ≤ vZ b E q ∧ vZ b E q ≤ hi := by
  cases q with
  | inr e => exact absurd h (by simp [nuF])
  | inl i =>
    by_cases g : zK b E i = 1 ∧ lo ≤ zV b E i ∧ zV b E i ≤ hi
    · exact g.2
    · have h2 : (if zK b E i = 1 ∧ lo ≤ zV b E i ∧ zV b E i ≤ hi then (.inl (i + 1) : PZ) else .inr (nfK b E i, nfP b E i)).isLeft = true := h
      rw [if_neg g] at h2
      exact absurd h2 (by simp)
theorem fl_l {k pl : Int} {q : PZ} (h : q.isLeft = true) : flZ k pl q = .inr (k, pl) := by
  cases q with
  | inl i => rfl
  | inr e => exact absurd h (by simp)
def toP (b : Nat → Int) (E : Nat) (H : am_H) (D : Int) (p : PZ) : PZ := if (nuF b E 1 D (akF b E 5 (phF b E H p))).isLeft = true ∧ tb (H.2.1 90 (vZ b E (akF b E 5 (phF b E H p))).toNat) (pOf H (nZ b E p)) = 1 then .inr (2, pZ b E (akF b E 5 (phF b E H p))) else nuF b E 1 D (akF b E 5 (phF b E H p))
def rmP (b : Nat → Int) (E : Nat) (H : am_H) (p : PZ) : PZ := if (phF b E H (phF b E H p)).isLeft = true ∧ (pOf H (nZ b E p) = pOf H (nZ b E (phF b E H p)) ∨ tb (H.2.1 89 (pOf H (nZ b E p)).toNat) (pOf H (nZ b E (phF b E H p))) = 1) then .inr (3, pZ b E (phF b E H p)) else phF b E H (phF b E H p)
theorem isl {q : PZ} (h : q.isLeft = true) : ∃ i, q = .inl i := by
  cases q with
  | inl i => exact ⟨i, rfl⟩
  | inr e => exact absurd h (by simp)
theorem c_readTold_3 (b : Nat → Int) (E : Nat) (cv : Nat → Int) (M : Nat) (p : PZ) (σ H : am_H) (hX : RY b E cv M σ p) (hR : σ.2.2 27 2 = some 3) (n : Nat) (hn : σ.2.1 3 2 = (n : Int)) (h8 : n ≤ 8) (D : Int) (hD : σ.2.1 3 0 = D) (hP : PL 3 σ H n p) (hD9 : D ≤ 90) (hc3 : p.isLeft = true → 0 ≤ H.2.1 85 1 ∧ H.2.1 85 1 ≤ 30)   : am_met M_X4_readTold [am_r 27] σ (fun r σ' => r = none ∧ RY b E cv M σ' (toP b E H D p) ∧ (∀ i, p = .inl i → (toP b E H D p).isLeft = true → TRr 3 σ' (toH b E H i)) ∧ frw (W_tn 3) σ σ') := by
  refine am_qq (fun Q hQ => ?_)
  refine am_enter (show plainFor yX4_readTold = true by decide +kernel) rfl (Nat.le_of_ble_eq_true rfl) (fun _ _ _ => trivial) ?_
  have hX0 := hX
  have hG0 := frw.refl W_rz σ
  have hTN : ∀ a j, 3 ≤ a ∧ a ≤ 3 + 7 → ¬ W_rz a j := fun a j h => by unfold W_rz; omega
  have hTm : ∀ a j, W_rz a j → W_tn 3 a j := fun a j h => Or.inr h
  refine am_aload_n (q := 1) rfl (am_tab tk_X4_readTold 0 rfl) rfl ?_
  refine am_getR (q := 4) (a := 27) (k := 4) (n := 13) (j := 2) (r := some (3)) (Ls_27 hX.1) (by decide) rfl hR (by decide) (Or.inl kf_X4_29) (am_tab tk_X4_readTold 1 rfl) rfl ?_
  refine am_aload_n (q := 5) rfl (am_tab tk_X4_readTold 2 rfl) rfl ?_
  refine am_getI (q := 8) (a := 27) (k := 4) (n := 13) (j := 6) (x := (σ.2.1 27 6)) (Ls_27 hX.1) (by decide) rfl rfl (by decide) (Or.inl kf_X4_104) (am_tab tk_X4_readTold 3 rfl) rfl ?_
  refine am_callVr (q := 11) (me2 := M_X8_find) (b := 3) (kb := 8) (nb := 17) (As := [am_i ((σ.2.1 27 6))]) (rest := []) (c_find_3 σ hX0.1 (σ.2.1 27 6) n hn h8) ⟨rfl, rfl⟩ (Ls_3 hX.1) (by decide) ⟨Or.inr km_X4_147, kc_X8_find, kn_X8, kd_X8_find, ⟨(Nat.le_of_ble_eq_true rfl), (Nat.le_of_ble_eq_true rfl)⟩, ⟨(Nat.le_of_ble_eq_true rfl), (Nat.le_of_ble_eq_true rfl)⟩, (Nat.le_of_ble_eq_true rfl)⟩ ki_X8_find ks_X8_find rfl (am_tab tk_X4_readTold 4 rfl) rfl ?_
  rintro r τ9 ⟨rfl, hτ9⟩
  rw [hτ9]
  rw [show firstQ (fun k => decide (σ.2.1 4 k = σ.2.1 27 6)) n = FD 3 σ n from rfl]
  refine am_istore_n (q := 12) (by decide) (ls2 := [(1, am_i ((FD 3 σ n))), (0, am_r 27)]) rfl (am_tab tk_X4_readTold 5 rfl) rfl ?_
  refine am_aload_n (q := 13) rfl (am_tab tk_X4_readTold 6 rfl) rfl ?_
  refine am_iload_n (q := 14) rfl (am_tab tk_X4_readTold 7 rfl) rfl ?_
  refine am_iconst (q := 15) (n := (-1)) (by decide) (am_tab tk_X4_readTold 8 rfl) rfl ?_
  refine am_icmp_eq (q := 18) (t := 22) (am_tab tk_X4_readTold 9 rfl) (by decide) rfl (fun h15 => ?_) (fun h15 => ?_)
  · refine am_iconst (q := 23) (n := 0) (by decide) (am_tab tk_X4_readTold 12 rfl) rfl ?_
    refine am_callVr (q := 26) (me2 := M_X4_readName) (b := 27) (kb := 4) (nb := 13) (As := [am_i 0]) (rest := []) (c_nameZ0 hX0) ⟨rfl, rfl⟩ (Ls_27 hX.1) (by decide) ⟨Or.inl km_X4_151, kc_X4_readName, kn_X4, kd_X4_readName, ⟨(Nat.le_of_ble_eq_true rfl), (Nat.le_of_ble_eq_true rfl)⟩, ⟨(Nat.le_of_ble_eq_true rfl), (Nat.le_of_ble_eq_true rfl)⟩, (Nat.le_of_ble_eq_true rfl)⟩ ki_X4_readName ks_X4_readName rfl (am_tab tk_X4_readTold 13 rfl) rfl ?_
    rintro r T1 ⟨rfl, hX1, hG⟩
    have hG1 := hG0.trans hG
    rw [show naG b E false (p) = phF b E H p from (ph_F hX0 hP h15)] at hX1
    refine am_aload_n (q := 27) rfl (am_tab tk_X4_readTold 14 rfl) rfl ?_
    refine am_aload_n (q := 28) rfl (am_tab tk_X4_readTold 15 rfl) rfl ?_
    refine am_getI (q := 31) (a := 27) (k := 4) (n := 13) (j := 4) (x := (kdZ b E (phF b E H p))) (Ls_27 hX1.1) (by decide) rfl hX1.kd (by decide) (Or.inl kf_X4_45) (am_tab tk_X4_readTold 16 rfl) rfl ?_
    refine am_sipush (q := 34) (n := 133) (by decide) rfl (am_tab tk_X4_readTold 17 rfl) rfl ?_
    refine am_icmp_ne (q := 37) (t := 41) (am_tab tk_X4_readTold 18 rfl) (by decide) rfl (fun h34 => ?_) (fun h34 => ?_)
    · refine am_iconst (q := 42) (n := 0) (by decide) (am_tab tk_X4_readTold 21 rfl) rfl ?_
      refine am_iconst (q := 43) (n := 1) (by decide) (am_tab tk_X4_readTold 22 rfl) rfl ?_
      refine am_callVr (q := 46) (me2 := M_X4_pass) (b := 27) (kb := 4) (nb := 13) (As := [am_i 0, am_i 1]) (rest := []) (c_passYF hX1 1 (by decide)) ⟨rfl, rfl⟩ (Ls_27 hX1.1) (by decide) ⟨Or.inl km_X4_71, kc_X4_pass, kn_X4, kd_X4_pass, ⟨(Nat.le_of_ble_eq_true rfl), (Nat.le_of_ble_eq_true rfl)⟩, ⟨(Nat.le_of_ble_eq_true rfl), (Nat.le_of_ble_eq_true rfl)⟩, (Nat.le_of_ble_eq_true rfl)⟩ ki_X4_pass ks_X4_pass rfl (am_tab tk_X4_readTold 23 rfl) rfl ?_
      rintro r T2 ⟨rfl, hX2, hG⟩
      have hG2 := hG1.trans hG
      rw [show ftZ b E 1 (phF b E H p) = akF b E 5 (phF b E H p) from ak_F h34] at hX2
      refine am_aload_n (q := 47) rfl (am_tab tk_X4_readTold 24 rfl) rfl ?_
      refine am_getI (q := 50) (a := 27) (k := 4) (n := 13) (j := 5) (x := (T2.2.1 27 5)) (Ls_27 hX2.1) (by decide) rfl rfl (by decide) (Or.inl kf_X4_55) (am_tab tk_X4_readTold 25 rfl) rfl ?_
      refine am_istore_n (q := 51) (by decide) (ls2 := [(2, am_i ((T2.2.1 27 5))), (1, am_i ((FD 3 σ n))), (0, am_r 27)]) rfl (am_tab tk_X4_readTold 26 rfl) rfl ?_
      refine am_aload_n (q := 52) rfl (am_tab tk_X4_readTold 27 rfl) rfl ?_
      refine am_iconst (q := 53) (n := 1) (by decide) (am_tab tk_X4_readTold 28 rfl) rfl ?_
      refine am_aload_n (q := 54) rfl (am_tab tk_X4_readTold 29 rfl) rfl ?_
      refine am_getR (q := 57) (a := 27) (k := 4) (n := 13) (j := 2) (r := some (3)) (Ls_27 hX2.1) (by decide) rfl (show T2.2.2 27 2 = some 3 by rw [hG2.2.1]; exact hR) (by decide) (Or.inl kf_X4_29) (am_tab tk_X4_readTold 30 rfl) rfl ?_
      refine am_getI (q := 60) (a := 3) (k := 8) (n := 17) (j := 0) (x := D) (Ls_3 hX2.1) (by decide) rfl ((hG2.2.2 3 0 (by unfold W_rz; omega)).trans hD) (by decide) (Or.inr kf_X4_115) (am_tab tk_X4_readTold 31 rfl) rfl ?_
      refine am_callVr (q := 63) (me2 := M_X4_readNumber) (b := 27) (kb := 4) (nb := 13) (As := [am_i 1, am_i D]) (rest := []) (c_numZ hX2 1 D) ⟨rfl, rfl⟩ (Ls_27 hX2.1) (by decide) ⟨Or.inl km_X4_111, kc_X4_readNumber, kn_X4, kd_X4_readNumber, ⟨(Nat.le_of_ble_eq_true rfl), (Nat.le_of_ble_eq_true rfl)⟩, ⟨(Nat.le_of_ble_eq_true rfl), (Nat.le_of_ble_eq_true rfl)⟩, (Nat.le_of_ble_eq_true rfl)⟩ ki_X4_readNumber ks_X4_readNumber rfl (am_tab tk_X4_readTold 32 rfl) rfl ?_
      rintro r T3 ⟨v3, rfl, hX3, hG, hv3⟩
      have hG3 := hG2.trans hG
      refine am_istore_n (q := 64) (by decide) (ls2 := [(3, am_i v3), (2, am_i ((T2.2.1 27 5))), (1, am_i ((FD 3 σ n))), (0, am_r 27)]) rfl (am_tab tk_X4_readTold 33 rfl) rfl ?_
      refine am_aload_n (q := 65) rfl (am_tab tk_X4_readTold 34 rfl) rfl ?_
      refine am_getI (q := 68) (a := 27) (k := 4) (n := 13) (j := 8) (x := (fkZ (nuF b E 1 D (akF b E 5 (phF b E H p))))) (Ls_27 hX3.1) (by decide) rfl hX3.fk (by decide) (Or.inl kf_X4_62) (am_tab tk_X4_readTold 35 rfl) rfl ?_
      refine am_if_ne (q := 71) (t := 89) (am_tab tk_X4_readTold 36 rfl) (by decide) rfl (fun h68 => ?_) (fun h68 => ?_)
      · refine am_vret rfl (Nat.le_of_ble_eq_true rfl) (Nat.le_of_ble_eq_true rfl) (am_tab tk_X4_readTold 47 rfl) ?_
        refine hQ _ _ ?_
        have e9 : toP b E H D p = nuF b E 1 D (akF b E 5 (phF b E H p)) := if_neg (fun z => absurd (hX3.fk0.mpr z.1) h68)
        rw [e9]
        exact ⟨rfl, hX3, fun i hi hl => absurd (hX3.fk0.mpr hl) h68, hG3.mono hTm⟩
      · have hl := hX3.fk0.mp h68
        have hl2 := nuF_l hl
        have hw3 := hv3 hl
        have hl1 := akF_l hl2
        have hl0 := phF_l hl1
        have hfd := ph_v hX0 hP hl1
        have hfr := ph_ne hX0 hP hl1
        have hnr := nu_r hl
        obtain ⟨i0, hi0⟩ := isl hl0
        have hPk : TRr 3 T3 H ∧ H.2.1 85 0 = (n : Int) := by
          have := hP.fr hG3 hTN
          rw [hi0] at this
          exact this
        obtain ⟨a0, ha0⟩ := Int.eq_ofNat_of_zero_le hfr.1
        obtain ⟨d0, hd0⟩ := Int.eq_ofNat_of_zero_le (show 0 ≤ v3 by omega)
        have ha8 : a0 < 8 := by omega
        have hd9 : 1 ≤ d0 ∧ d0 ≤ 90 := by omega
        have hq4 := hPk.1.2.2.2.1 d0 (by omega)
        have hr9 : 0 ≤ T3.2.1 9 d0 ∧ T3.2.1 9 d0 < 256 := by
          rw [show T3.2.1 9 d0 = _ from hq4.1]
          exact hq4.2
        have hc9 : 0 ≤ T3.2.1 3 3 ∧ T3.2.1 3 3 ≤ 1000 := by
          have := hc3 hl0
          rw [hPk.1.1.2.2.2.1]
          omega
        have hft : tb (T3.2.1 9 d0) (a0 : Int) = 1 ↔ tb (H.2.1 90 (vZ b E (akF b E 5 (phF b E H p))).toNat) (pOf H (nZ b E p)) = 1 := by
          rw [← hfd, ha0, ← hw3, hd0, show ((d0 : Int)).toNat = d0 by omega, ← hq4.1]
        refine am_aload_n (q := 72) rfl (am_tab tk_X4_readTold 37 rfl) rfl ?_
        refine am_getR (q := 75) (a := 27) (k := 4) (n := 13) (j := 2) (r := some (3)) (Ls_27 hX3.1) (by decide) rfl (show T3.2.2 27 2 = some 3 by rw [hG3.2.1]; exact hR) (by decide) (Or.inl kf_X4_29) (am_tab tk_X4_readTold 38 rfl) rfl ?_
        refine am_iload_n (q := 76) rfl (am_tab tk_X4_readTold 39 rfl) rfl ?_
        refine am_iload_n (q := 77) rfl (am_tab tk_X4_readTold 40 rfl) rfl ?_
        by_cases ft : tb (T3.2.1 9 d0) (a0 : Int) = 1
        · refine am_callVr (q := 80) (me2 := M_X8_addTold) (b := 3) (kb := 8) (nb := 17) (As := [am_i ((FD 3 σ n)), am_i v3]) (rest := []) (by rw [ha0, hd0]; exact am_mono (c_addTold_3 T3 hX3.1 a0 d0 ha8 hd9 hr9 hc9) (fun r τ h => h.elim (fun z => (show r = some (am_i 0) ∧ τ = T3 from z.2)) (fun z => absurd ft z.1))) ⟨rfl, rfl⟩ (Ls_3 hX3.1) (by decide) ⟨Or.inr km_X4_159, kc_X8_addTold, kn_X8, kd_X8_addTold, ⟨(Nat.le_of_ble_eq_true rfl), (Nat.le_of_ble_eq_true rfl)⟩, ⟨(Nat.le_of_ble_eq_true rfl), (Nat.le_of_ble_eq_true rfl)⟩, (Nat.le_of_ble_eq_true rfl)⟩ ki_X8_addTold ks_X8_addTold rfl (am_tab tk_X4_readTold 41 rfl) rfl ?_
          rintro r T9 ⟨rfl, hτ9⟩
          rw [hτ9]
          refine am_if_ne (q := 83) (t := 89) (am_tab tk_X4_readTold 42 rfl) (by decide) rfl (fun h80 => ?_) (fun h80 => ?_)
          · exact absurd rfl h80
          · refine am_aload_n (q := 84) rfl (am_tab tk_X4_readTold 43 rfl) rfl ?_
            refine am_iconst (q := 85) (n := 2) (by decide) (am_tab tk_X4_readTold 44 rfl) rfl ?_
            refine am_iload_n (q := 86) rfl (am_tab tk_X4_readTold 45 rfl) rfl ?_
            refine am_callVr (q := 89) (me2 := M_X4_fail) (b := 27) (kb := 4) (nb := 13) (As := [am_i 2, am_i ((T2.2.1 27 5))]) (rest := []) (c_failY hX3 2 (T2.2.1 27 5) (by decide)) ⟨rfl, rfl⟩ (Ls_27 hX3.1) (by decide) ⟨Or.inl km_X4_58, kc_X4_fail, kn_X4, kd_X4_fail, ⟨(Nat.le_of_ble_eq_true rfl), (Nat.le_of_ble_eq_true rfl)⟩, ⟨(Nat.le_of_ble_eq_true rfl), (Nat.le_of_ble_eq_true rfl)⟩, (Nat.le_of_ble_eq_true rfl)⟩ ki_X4_fail ks_X4_fail rfl (am_tab tk_X4_readTold 46 rfl) rfl ?_
            rintro r T4 ⟨rfl, hX4, hG⟩
            have hG4 := hG3.trans hG
            refine am_vret rfl (Nat.le_of_ble_eq_true rfl) (Nat.le_of_ble_eq_true rfl) (am_tab tk_X4_readTold 47 rfl) ?_
            refine hQ _ _ ?_
            have e9 : toP b E H D p = flZ 2 (T2.2.1 27 5) (nuF b E 1 D (akF b E 5 (phF b E H p))) := by
              rw [fl_l hl, hX2.pz hl2]
              exact if_pos ⟨hl, hft.mp ft⟩
            rw [e9]
            exact ⟨rfl, hX4, fun i hi hl => absurd hl (by rw [fl_l ‹(nuF b E 1 D (akF b E 5 (phF b E H p))).isLeft = true›]; simp), hG4.mono hTm⟩
        · refine am_callVr (q := 80) (me2 := M_X8_addTold) (b := 3) (kb := 8) (nb := 17) (As := [am_i ((FD 3 σ n)), am_i v3]) (rest := []) (by rw [ha0, hd0]; exact am_mono (c_addTold_3 T3 hX3.1 a0 d0 ha8 hd9 hr9 hc9) (fun r τ h => h.elim (fun z => absurd z.1 ft) (fun z => (show r = some (am_i 1) ∧ τ = _ from z.2)))) ⟨rfl, rfl⟩ (Ls_3 hX3.1) (by decide) ⟨Or.inr km_X4_159, kc_X8_addTold, kn_X8, kd_X8_addTold, ⟨(Nat.le_of_ble_eq_true rfl), (Nat.le_of_ble_eq_true rfl)⟩, ⟨(Nat.le_of_ble_eq_true rfl), (Nat.le_of_ble_eq_true rfl)⟩, (Nat.le_of_ble_eq_true rfl)⟩ ki_X8_addTold ks_X8_addTold rfl (am_tab tk_X4_readTold 41 rfl) rfl ?_
          rintro r T9 ⟨rfl, hτ9⟩
          refine am_if_ne (q := 83) (t := 89) (am_tab tk_X4_readTold 42 rfl) (by decide) rfl (fun h80 => ?_) (fun h80 => ?_)
          · refine am_vret rfl (Nat.le_of_ble_eq_true rfl) (Nat.le_of_ble_eq_true rfl) (am_tab tk_X4_readTold 47 rfl) ?_
            refine hQ _ _ ?_
            have e9 : toP b E H D p = nuF b E 1 D (akF b E 5 (phF b E H p)) := if_neg (fun z => ft (hft.mpr z.2))
            rw [e9]
            have hd8 : frw (fun a j => 3 ≤ a ∧ a ≤ 10 ∧ ¬ (a = 3 ∧ j = 1)) T3 T9 := by rw [hτ9]; exact ((frw.refl (fun a j => 3 ≤ a ∧ a ≤ 10 ∧ ¬ (a = 3 ∧ j = 1)) T3).setN (by omega)).setN (by omega)
            refine ⟨rfl, hX3.fr hd8 (fun a j h => by omega), fun i2 hi2 _ => ?_, (hG3.mono hTm).trans (hd8.mono (fun a j h => Or.inl (by omega)))⟩
            have hT9 := hPk.1.to ha8 hd9
            rw [hτ9]
            unfold toH toD rmA
            rw [← hi2, ← hw3, ← hfd, ha0, hd0, show ((d0 : Int)).toNat = d0 by omega]
            exact hT9
          · exact absurd h80 (by decide)
    · refine am_iconst (q := 38) (n := 1) (by decide) (am_tab tk_X4_readTold 19 rfl) rfl ?_
      refine am_goto (t := 42) (am_tab tk_X4_readTold 20 rfl) (by decide) ?_
      refine am_iconst (q := 43) (n := 1) (by decide) (am_tab tk_X4_readTold 22 rfl) rfl ?_
      refine am_callVr (q := 46) (me2 := M_X4_pass) (b := 27) (kb := 4) (nb := 13) (As := [am_i 1, am_i 1]) (rest := []) (c_passYT hX1 (by rw [h34]; decide) 1) ⟨rfl, rfl⟩ (Ls_27 hX1.1) (by decide) ⟨Or.inl km_X4_71, kc_X4_pass, kn_X4, kd_X4_pass, ⟨(Nat.le_of_ble_eq_true rfl), (Nat.le_of_ble_eq_true rfl)⟩, ⟨(Nat.le_of_ble_eq_true rfl), (Nat.le_of_ble_eq_true rfl)⟩, (Nat.le_of_ble_eq_true rfl)⟩ ki_X4_pass ks_X4_pass rfl (am_tab tk_X4_readTold 23 rfl) rfl ?_
      rintro r T2 ⟨rfl, hX2, hG⟩
      have hG2 := hG1.trans hG
      rw [show npZ (phF b E H p) = akF b E 5 (phF b E H p) from ak_T h34] at hX2
      refine am_aload_n (q := 47) rfl (am_tab tk_X4_readTold 24 rfl) rfl ?_
      refine am_getI (q := 50) (a := 27) (k := 4) (n := 13) (j := 5) (x := (T2.2.1 27 5)) (Ls_27 hX2.1) (by decide) rfl rfl (by decide) (Or.inl kf_X4_55) (am_tab tk_X4_readTold 25 rfl) rfl ?_
      refine am_istore_n (q := 51) (by decide) (ls2 := [(2, am_i ((T2.2.1 27 5))), (1, am_i ((FD 3 σ n))), (0, am_r 27)]) rfl (am_tab tk_X4_readTold 26 rfl) rfl ?_
      refine am_aload_n (q := 52) rfl (am_tab tk_X4_readTold 27 rfl) rfl ?_
      refine am_iconst (q := 53) (n := 1) (by decide) (am_tab tk_X4_readTold 28 rfl) rfl ?_
      refine am_aload_n (q := 54) rfl (am_tab tk_X4_readTold 29 rfl) rfl ?_
      refine am_getR (q := 57) (a := 27) (k := 4) (n := 13) (j := 2) (r := some (3)) (Ls_27 hX2.1) (by decide) rfl (show T2.2.2 27 2 = some 3 by rw [hG2.2.1]; exact hR) (by decide) (Or.inl kf_X4_29) (am_tab tk_X4_readTold 30 rfl) rfl ?_
      refine am_getI (q := 60) (a := 3) (k := 8) (n := 17) (j := 0) (x := D) (Ls_3 hX2.1) (by decide) rfl ((hG2.2.2 3 0 (by unfold W_rz; omega)).trans hD) (by decide) (Or.inr kf_X4_115) (am_tab tk_X4_readTold 31 rfl) rfl ?_
      refine am_callVr (q := 63) (me2 := M_X4_readNumber) (b := 27) (kb := 4) (nb := 13) (As := [am_i 1, am_i D]) (rest := []) (c_numZ hX2 1 D) ⟨rfl, rfl⟩ (Ls_27 hX2.1) (by decide) ⟨Or.inl km_X4_111, kc_X4_readNumber, kn_X4, kd_X4_readNumber, ⟨(Nat.le_of_ble_eq_true rfl), (Nat.le_of_ble_eq_true rfl)⟩, ⟨(Nat.le_of_ble_eq_true rfl), (Nat.le_of_ble_eq_true rfl)⟩, (Nat.le_of_ble_eq_true rfl)⟩ ki_X4_readNumber ks_X4_readNumber rfl (am_tab tk_X4_readTold 32 rfl) rfl ?_
      rintro r T3 ⟨v3, rfl, hX3, hG, hv3⟩
      have hG3 := hG2.trans hG
      refine am_istore_n (q := 64) (by decide) (ls2 := [(3, am_i v3), (2, am_i ((T2.2.1 27 5))), (1, am_i ((FD 3 σ n))), (0, am_r 27)]) rfl (am_tab tk_X4_readTold 33 rfl) rfl ?_
      refine am_aload_n (q := 65) rfl (am_tab tk_X4_readTold 34 rfl) rfl ?_
      refine am_getI (q := 68) (a := 27) (k := 4) (n := 13) (j := 8) (x := (fkZ (nuF b E 1 D (akF b E 5 (phF b E H p))))) (Ls_27 hX3.1) (by decide) rfl hX3.fk (by decide) (Or.inl kf_X4_62) (am_tab tk_X4_readTold 35 rfl) rfl ?_
      refine am_if_ne (q := 71) (t := 89) (am_tab tk_X4_readTold 36 rfl) (by decide) rfl (fun h68 => ?_) (fun h68 => ?_)
      · refine am_vret rfl (Nat.le_of_ble_eq_true rfl) (Nat.le_of_ble_eq_true rfl) (am_tab tk_X4_readTold 47 rfl) ?_
        refine hQ _ _ ?_
        have e9 : toP b E H D p = nuF b E 1 D (akF b E 5 (phF b E H p)) := if_neg (fun z => absurd (hX3.fk0.mpr z.1) h68)
        rw [e9]
        exact ⟨rfl, hX3, fun i hi hl => absurd (hX3.fk0.mpr hl) h68, hG3.mono hTm⟩
      · have hl := hX3.fk0.mp h68
        have hl2 := nuF_l hl
        have hw3 := hv3 hl
        have hl1 := akF_l hl2
        have hl0 := phF_l hl1
        have hfd := ph_v hX0 hP hl1
        have hfr := ph_ne hX0 hP hl1
        have hnr := nu_r hl
        obtain ⟨i0, hi0⟩ := isl hl0
        have hPk : TRr 3 T3 H ∧ H.2.1 85 0 = (n : Int) := by
          have := hP.fr hG3 hTN
          rw [hi0] at this
          exact this
        obtain ⟨a0, ha0⟩ := Int.eq_ofNat_of_zero_le hfr.1
        obtain ⟨d0, hd0⟩ := Int.eq_ofNat_of_zero_le (show 0 ≤ v3 by omega)
        have ha8 : a0 < 8 := by omega
        have hd9 : 1 ≤ d0 ∧ d0 ≤ 90 := by omega
        have hq4 := hPk.1.2.2.2.1 d0 (by omega)
        have hr9 : 0 ≤ T3.2.1 9 d0 ∧ T3.2.1 9 d0 < 256 := by
          rw [show T3.2.1 9 d0 = _ from hq4.1]
          exact hq4.2
        have hc9 : 0 ≤ T3.2.1 3 3 ∧ T3.2.1 3 3 ≤ 1000 := by
          have := hc3 hl0
          rw [hPk.1.1.2.2.2.1]
          omega
        have hft : tb (T3.2.1 9 d0) (a0 : Int) = 1 ↔ tb (H.2.1 90 (vZ b E (akF b E 5 (phF b E H p))).toNat) (pOf H (nZ b E p)) = 1 := by
          rw [← hfd, ha0, ← hw3, hd0, show ((d0 : Int)).toNat = d0 by omega, ← hq4.1]
        refine am_aload_n (q := 72) rfl (am_tab tk_X4_readTold 37 rfl) rfl ?_
        refine am_getR (q := 75) (a := 27) (k := 4) (n := 13) (j := 2) (r := some (3)) (Ls_27 hX3.1) (by decide) rfl (show T3.2.2 27 2 = some 3 by rw [hG3.2.1]; exact hR) (by decide) (Or.inl kf_X4_29) (am_tab tk_X4_readTold 38 rfl) rfl ?_
        refine am_iload_n (q := 76) rfl (am_tab tk_X4_readTold 39 rfl) rfl ?_
        refine am_iload_n (q := 77) rfl (am_tab tk_X4_readTold 40 rfl) rfl ?_
        by_cases ft : tb (T3.2.1 9 d0) (a0 : Int) = 1
        · refine am_callVr (q := 80) (me2 := M_X8_addTold) (b := 3) (kb := 8) (nb := 17) (As := [am_i ((FD 3 σ n)), am_i v3]) (rest := []) (by rw [ha0, hd0]; exact am_mono (c_addTold_3 T3 hX3.1 a0 d0 ha8 hd9 hr9 hc9) (fun r τ h => h.elim (fun z => (show r = some (am_i 0) ∧ τ = T3 from z.2)) (fun z => absurd ft z.1))) ⟨rfl, rfl⟩ (Ls_3 hX3.1) (by decide) ⟨Or.inr km_X4_159, kc_X8_addTold, kn_X8, kd_X8_addTold, ⟨(Nat.le_of_ble_eq_true rfl), (Nat.le_of_ble_eq_true rfl)⟩, ⟨(Nat.le_of_ble_eq_true rfl), (Nat.le_of_ble_eq_true rfl)⟩, (Nat.le_of_ble_eq_true rfl)⟩ ki_X8_addTold ks_X8_addTold rfl (am_tab tk_X4_readTold 41 rfl) rfl ?_
          rintro r T9 ⟨rfl, hτ9⟩
          rw [hτ9]
          refine am_if_ne (q := 83) (t := 89) (am_tab tk_X4_readTold 42 rfl) (by decide) rfl (fun h80 => ?_) (fun h80 => ?_)
          · exact absurd rfl h80
          · refine am_aload_n (q := 84) rfl (am_tab tk_X4_readTold 43 rfl) rfl ?_
            refine am_iconst (q := 85) (n := 2) (by decide) (am_tab tk_X4_readTold 44 rfl) rfl ?_
            refine am_iload_n (q := 86) rfl (am_tab tk_X4_readTold 45 rfl) rfl ?_
            refine am_callVr (q := 89) (me2 := M_X4_fail) (b := 27) (kb := 4) (nb := 13) (As := [am_i 2, am_i ((T2.2.1 27 5))]) (rest := []) (c_failY hX3 2 (T2.2.1 27 5) (by decide)) ⟨rfl, rfl⟩ (Ls_27 hX3.1) (by decide) ⟨Or.inl km_X4_58, kc_X4_fail, kn_X4, kd_X4_fail, ⟨(Nat.le_of_ble_eq_true rfl), (Nat.le_of_ble_eq_true rfl)⟩, ⟨(Nat.le_of_ble_eq_true rfl), (Nat.le_of_ble_eq_true rfl)⟩, (Nat.le_of_ble_eq_true rfl)⟩ ki_X4_fail ks_X4_fail rfl (am_tab tk_X4_readTold 46 rfl) rfl ?_
            rintro r T4 ⟨rfl, hX4, hG⟩
            have hG4 := hG3.trans hG
            refine am_vret rfl (Nat.le_of_ble_eq_true rfl) (Nat.le_of_ble_eq_true rfl) (am_tab tk_X4_readTold 47 rfl) ?_
            refine hQ _ _ ?_
            have e9 : toP b E H D p = flZ 2 (T2.2.1 27 5) (nuF b E 1 D (akF b E 5 (phF b E H p))) := by
              rw [fl_l hl, hX2.pz hl2]
              exact if_pos ⟨hl, hft.mp ft⟩
            rw [e9]
            exact ⟨rfl, hX4, fun i hi hl => absurd hl (by rw [fl_l ‹(nuF b E 1 D (akF b E 5 (phF b E H p))).isLeft = true›]; simp), hG4.mono hTm⟩
        · refine am_callVr (q := 80) (me2 := M_X8_addTold) (b := 3) (kb := 8) (nb := 17) (As := [am_i ((FD 3 σ n)), am_i v3]) (rest := []) (by rw [ha0, hd0]; exact am_mono (c_addTold_3 T3 hX3.1 a0 d0 ha8 hd9 hr9 hc9) (fun r τ h => h.elim (fun z => absurd z.1 ft) (fun z => (show r = some (am_i 1) ∧ τ = _ from z.2)))) ⟨rfl, rfl⟩ (Ls_3 hX3.1) (by decide) ⟨Or.inr km_X4_159, kc_X8_addTold, kn_X8, kd_X8_addTold, ⟨(Nat.le_of_ble_eq_true rfl), (Nat.le_of_ble_eq_true rfl)⟩, ⟨(Nat.le_of_ble_eq_true rfl), (Nat.le_of_ble_eq_true rfl)⟩, (Nat.le_of_ble_eq_true rfl)⟩ ki_X8_addTold ks_X8_addTold rfl (am_tab tk_X4_readTold 41 rfl) rfl ?_
          rintro r T9 ⟨rfl, hτ9⟩
          refine am_if_ne (q := 83) (t := 89) (am_tab tk_X4_readTold 42 rfl) (by decide) rfl (fun h80 => ?_) (fun h80 => ?_)
          · refine am_vret rfl (Nat.le_of_ble_eq_true rfl) (Nat.le_of_ble_eq_true rfl) (am_tab tk_X4_readTold 47 rfl) ?_
            refine hQ _ _ ?_
            have e9 : toP b E H D p = nuF b E 1 D (akF b E 5 (phF b E H p)) := if_neg (fun z => ft (hft.mpr z.2))
            rw [e9]
            have hd8 : frw (fun a j => 3 ≤ a ∧ a ≤ 10 ∧ ¬ (a = 3 ∧ j = 1)) T3 T9 := by rw [hτ9]; exact ((frw.refl (fun a j => 3 ≤ a ∧ a ≤ 10 ∧ ¬ (a = 3 ∧ j = 1)) T3).setN (by omega)).setN (by omega)
            refine ⟨rfl, hX3.fr hd8 (fun a j h => by omega), fun i2 hi2 _ => ?_, (hG3.mono hTm).trans (hd8.mono (fun a j h => Or.inl (by omega)))⟩
            have hT9 := hPk.1.to ha8 hd9
            rw [hτ9]
            unfold toH toD rmA
            rw [← hi2, ← hw3, ← hfd, ha0, hd0, show ((d0 : Int)).toNat = d0 by omega]
            exact hT9
          · exact absurd h80 (by decide)
  · refine am_iconst (q := 19) (n := 1) (by decide) (am_tab tk_X4_readTold 10 rfl) rfl ?_
    refine am_goto (t := 23) (am_tab tk_X4_readTold 11 rfl) (by decide) ?_
    refine am_callVr (q := 26) (me2 := M_X4_readName) (b := 27) (kb := 4) (nb := 13) (As := [am_i 1]) (rest := []) (c_nameZ1 hX0) ⟨rfl, rfl⟩ (Ls_27 hX.1) (by decide) ⟨Or.inl km_X4_151, kc_X4_readName, kn_X4, kd_X4_readName, ⟨(Nat.le_of_ble_eq_true rfl), (Nat.le_of_ble_eq_true rfl)⟩, ⟨(Nat.le_of_ble_eq_true rfl), (Nat.le_of_ble_eq_true rfl)⟩, (Nat.le_of_ble_eq_true rfl)⟩ ki_X4_readName ks_X4_readName rfl (am_tab tk_X4_readTold 13 rfl) rfl ?_
    rintro r T1 ⟨rfl, hX1, hG⟩
    have hG1 := hG0.trans hG
    rw [show naG b E true (p) = phF b E H p from (ph_T hX0 hP h15)] at hX1
    refine am_aload_n (q := 27) rfl (am_tab tk_X4_readTold 14 rfl) rfl ?_
    refine am_aload_n (q := 28) rfl (am_tab tk_X4_readTold 15 rfl) rfl ?_
    refine am_getI (q := 31) (a := 27) (k := 4) (n := 13) (j := 4) (x := (kdZ b E (phF b E H p))) (Ls_27 hX1.1) (by decide) rfl hX1.kd (by decide) (Or.inl kf_X4_45) (am_tab tk_X4_readTold 16 rfl) rfl ?_
    refine am_sipush (q := 34) (n := 133) (by decide) rfl (am_tab tk_X4_readTold 17 rfl) rfl ?_
    refine am_icmp_ne (q := 37) (t := 41) (am_tab tk_X4_readTold 18 rfl) (by decide) rfl (fun h34 => ?_) (fun h34 => ?_)
    · refine am_iconst (q := 42) (n := 0) (by decide) (am_tab tk_X4_readTold 21 rfl) rfl ?_
      refine am_iconst (q := 43) (n := 1) (by decide) (am_tab tk_X4_readTold 22 rfl) rfl ?_
      refine am_callVr (q := 46) (me2 := M_X4_pass) (b := 27) (kb := 4) (nb := 13) (As := [am_i 0, am_i 1]) (rest := []) (c_passYF hX1 1 (by decide)) ⟨rfl, rfl⟩ (Ls_27 hX1.1) (by decide) ⟨Or.inl km_X4_71, kc_X4_pass, kn_X4, kd_X4_pass, ⟨(Nat.le_of_ble_eq_true rfl), (Nat.le_of_ble_eq_true rfl)⟩, ⟨(Nat.le_of_ble_eq_true rfl), (Nat.le_of_ble_eq_true rfl)⟩, (Nat.le_of_ble_eq_true rfl)⟩ ki_X4_pass ks_X4_pass rfl (am_tab tk_X4_readTold 23 rfl) rfl ?_
      rintro r T2 ⟨rfl, hX2, hG⟩
      have hG2 := hG1.trans hG
      rw [show ftZ b E 1 (phF b E H p) = akF b E 5 (phF b E H p) from ak_F h34] at hX2
      refine am_aload_n (q := 47) rfl (am_tab tk_X4_readTold 24 rfl) rfl ?_
      refine am_getI (q := 50) (a := 27) (k := 4) (n := 13) (j := 5) (x := (T2.2.1 27 5)) (Ls_27 hX2.1) (by decide) rfl rfl (by decide) (Or.inl kf_X4_55) (am_tab tk_X4_readTold 25 rfl) rfl ?_
      refine am_istore_n (q := 51) (by decide) (ls2 := [(2, am_i ((T2.2.1 27 5))), (1, am_i ((FD 3 σ n))), (0, am_r 27)]) rfl (am_tab tk_X4_readTold 26 rfl) rfl ?_
      refine am_aload_n (q := 52) rfl (am_tab tk_X4_readTold 27 rfl) rfl ?_
      refine am_iconst (q := 53) (n := 1) (by decide) (am_tab tk_X4_readTold 28 rfl) rfl ?_
      refine am_aload_n (q := 54) rfl (am_tab tk_X4_readTold 29 rfl) rfl ?_
      refine am_getR (q := 57) (a := 27) (k := 4) (n := 13) (j := 2) (r := some (3)) (Ls_27 hX2.1) (by decide) rfl (show T2.2.2 27 2 = some 3 by rw [hG2.2.1]; exact hR) (by decide) (Or.inl kf_X4_29) (am_tab tk_X4_readTold 30 rfl) rfl ?_
      refine am_getI (q := 60) (a := 3) (k := 8) (n := 17) (j := 0) (x := D) (Ls_3 hX2.1) (by decide) rfl ((hG2.2.2 3 0 (by unfold W_rz; omega)).trans hD) (by decide) (Or.inr kf_X4_115) (am_tab tk_X4_readTold 31 rfl) rfl ?_
      refine am_callVr (q := 63) (me2 := M_X4_readNumber) (b := 27) (kb := 4) (nb := 13) (As := [am_i 1, am_i D]) (rest := []) (c_numZ hX2 1 D) ⟨rfl, rfl⟩ (Ls_27 hX2.1) (by decide) ⟨Or.inl km_X4_111, kc_X4_readNumber, kn_X4, kd_X4_readNumber, ⟨(Nat.le_of_ble_eq_true rfl), (Nat.le_of_ble_eq_true rfl)⟩, ⟨(Nat.le_of_ble_eq_true rfl), (Nat.le_of_ble_eq_true rfl)⟩, (Nat.le_of_ble_eq_true rfl)⟩ ki_X4_readNumber ks_X4_readNumber rfl (am_tab tk_X4_readTold 32 rfl) rfl ?_
      rintro r T3 ⟨v3, rfl, hX3, hG, hv3⟩
      have hG3 := hG2.trans hG
      refine am_istore_n (q := 64) (by decide) (ls2 := [(3, am_i v3), (2, am_i ((T2.2.1 27 5))), (1, am_i ((FD 3 σ n))), (0, am_r 27)]) rfl (am_tab tk_X4_readTold 33 rfl) rfl ?_
      refine am_aload_n (q := 65) rfl (am_tab tk_X4_readTold 34 rfl) rfl ?_
      refine am_getI (q := 68) (a := 27) (k := 4) (n := 13) (j := 8) (x := (fkZ (nuF b E 1 D (akF b E 5 (phF b E H p))))) (Ls_27 hX3.1) (by decide) rfl hX3.fk (by decide) (Or.inl kf_X4_62) (am_tab tk_X4_readTold 35 rfl) rfl ?_
      refine am_if_ne (q := 71) (t := 89) (am_tab tk_X4_readTold 36 rfl) (by decide) rfl (fun h68 => ?_) (fun h68 => ?_)
      · refine am_vret rfl (Nat.le_of_ble_eq_true rfl) (Nat.le_of_ble_eq_true rfl) (am_tab tk_X4_readTold 47 rfl) ?_
        refine hQ _ _ ?_
        have e9 : toP b E H D p = nuF b E 1 D (akF b E 5 (phF b E H p)) := if_neg (fun z => absurd (hX3.fk0.mpr z.1) h68)
        rw [e9]
        exact ⟨rfl, hX3, fun i hi hl => absurd (hX3.fk0.mpr hl) h68, hG3.mono hTm⟩
      · have hl := hX3.fk0.mp h68
        have hl2 := nuF_l hl
        have hw3 := hv3 hl
        have hl1 := akF_l hl2
        have hl0 := phF_l hl1
        have hfd := ph_v hX0 hP hl1
        have hfr := ph_ne hX0 hP hl1
        have hnr := nu_r hl
        obtain ⟨i0, hi0⟩ := isl hl0
        have hPk : TRr 3 T3 H ∧ H.2.1 85 0 = (n : Int) := by
          have := hP.fr hG3 hTN
          rw [hi0] at this
          exact this
        obtain ⟨a0, ha0⟩ := Int.eq_ofNat_of_zero_le hfr.1
        obtain ⟨d0, hd0⟩ := Int.eq_ofNat_of_zero_le (show 0 ≤ v3 by omega)
        have ha8 : a0 < 8 := by omega
        have hd9 : 1 ≤ d0 ∧ d0 ≤ 90 := by omega
        have hq4 := hPk.1.2.2.2.1 d0 (by omega)
        have hr9 : 0 ≤ T3.2.1 9 d0 ∧ T3.2.1 9 d0 < 256 := by
          rw [show T3.2.1 9 d0 = _ from hq4.1]
          exact hq4.2
        have hc9 : 0 ≤ T3.2.1 3 3 ∧ T3.2.1 3 3 ≤ 1000 := by
          have := hc3 hl0
          rw [hPk.1.1.2.2.2.1]
          omega
        have hft : tb (T3.2.1 9 d0) (a0 : Int) = 1 ↔ tb (H.2.1 90 (vZ b E (akF b E 5 (phF b E H p))).toNat) (pOf H (nZ b E p)) = 1 := by
          rw [← hfd, ha0, ← hw3, hd0, show ((d0 : Int)).toNat = d0 by omega, ← hq4.1]
        refine am_aload_n (q := 72) rfl (am_tab tk_X4_readTold 37 rfl) rfl ?_
        refine am_getR (q := 75) (a := 27) (k := 4) (n := 13) (j := 2) (r := some (3)) (Ls_27 hX3.1) (by decide) rfl (show T3.2.2 27 2 = some 3 by rw [hG3.2.1]; exact hR) (by decide) (Or.inl kf_X4_29) (am_tab tk_X4_readTold 38 rfl) rfl ?_
        refine am_iload_n (q := 76) rfl (am_tab tk_X4_readTold 39 rfl) rfl ?_
        refine am_iload_n (q := 77) rfl (am_tab tk_X4_readTold 40 rfl) rfl ?_
        by_cases ft : tb (T3.2.1 9 d0) (a0 : Int) = 1
        · refine am_callVr (q := 80) (me2 := M_X8_addTold) (b := 3) (kb := 8) (nb := 17) (As := [am_i ((FD 3 σ n)), am_i v3]) (rest := []) (by rw [ha0, hd0]; exact am_mono (c_addTold_3 T3 hX3.1 a0 d0 ha8 hd9 hr9 hc9) (fun r τ h => h.elim (fun z => (show r = some (am_i 0) ∧ τ = T3 from z.2)) (fun z => absurd ft z.1))) ⟨rfl, rfl⟩ (Ls_3 hX3.1) (by decide) ⟨Or.inr km_X4_159, kc_X8_addTold, kn_X8, kd_X8_addTold, ⟨(Nat.le_of_ble_eq_true rfl), (Nat.le_of_ble_eq_true rfl)⟩, ⟨(Nat.le_of_ble_eq_true rfl), (Nat.le_of_ble_eq_true rfl)⟩, (Nat.le_of_ble_eq_true rfl)⟩ ki_X8_addTold ks_X8_addTold rfl (am_tab tk_X4_readTold 41 rfl) rfl ?_
          rintro r T9 ⟨rfl, hτ9⟩
          rw [hτ9]
          refine am_if_ne (q := 83) (t := 89) (am_tab tk_X4_readTold 42 rfl) (by decide) rfl (fun h80 => ?_) (fun h80 => ?_)
          · exact absurd rfl h80
          · refine am_aload_n (q := 84) rfl (am_tab tk_X4_readTold 43 rfl) rfl ?_
            refine am_iconst (q := 85) (n := 2) (by decide) (am_tab tk_X4_readTold 44 rfl) rfl ?_
            refine am_iload_n (q := 86) rfl (am_tab tk_X4_readTold 45 rfl) rfl ?_
            refine am_callVr (q := 89) (me2 := M_X4_fail) (b := 27) (kb := 4) (nb := 13) (As := [am_i 2, am_i ((T2.2.1 27 5))]) (rest := []) (c_failY hX3 2 (T2.2.1 27 5) (by decide)) ⟨rfl, rfl⟩ (Ls_27 hX3.1) (by decide) ⟨Or.inl km_X4_58, kc_X4_fail, kn_X4, kd_X4_fail, ⟨(Nat.le_of_ble_eq_true rfl), (Nat.le_of_ble_eq_true rfl)⟩, ⟨(Nat.le_of_ble_eq_true rfl), (Nat.le_of_ble_eq_true rfl)⟩, (Nat.le_of_ble_eq_true rfl)⟩ ki_X4_fail ks_X4_fail rfl (am_tab tk_X4_readTold 46 rfl) rfl ?_
            rintro r T4 ⟨rfl, hX4, hG⟩
            have hG4 := hG3.trans hG
            refine am_vret rfl (Nat.le_of_ble_eq_true rfl) (Nat.le_of_ble_eq_true rfl) (am_tab tk_X4_readTold 47 rfl) ?_
            refine hQ _ _ ?_
            have e9 : toP b E H D p = flZ 2 (T2.2.1 27 5) (nuF b E 1 D (akF b E 5 (phF b E H p))) := by
              rw [fl_l hl, hX2.pz hl2]
              exact if_pos ⟨hl, hft.mp ft⟩
            rw [e9]
            exact ⟨rfl, hX4, fun i hi hl => absurd hl (by rw [fl_l ‹(nuF b E 1 D (akF b E 5 (phF b E H p))).isLeft = true›]; simp), hG4.mono hTm⟩
        · refine am_callVr (q := 80) (me2 := M_X8_addTold) (b := 3) (kb := 8) (nb := 17) (As := [am_i ((FD 3 σ n)), am_i v3]) (rest := []) (by rw [ha0, hd0]; exact am_mono (c_addTold_3 T3 hX3.1 a0 d0 ha8 hd9 hr9 hc9) (fun r τ h => h.elim (fun z => absurd z.1 ft) (fun z => (show r = some (am_i 1) ∧ τ = _ from z.2)))) ⟨rfl, rfl⟩ (Ls_3 hX3.1) (by decide) ⟨Or.inr km_X4_159, kc_X8_addTold, kn_X8, kd_X8_addTold, ⟨(Nat.le_of_ble_eq_true rfl), (Nat.le_of_ble_eq_true rfl)⟩, ⟨(Nat.le_of_ble_eq_true rfl), (Nat.le_of_ble_eq_true rfl)⟩, (Nat.le_of_ble_eq_true rfl)⟩ ki_X8_addTold ks_X8_addTold rfl (am_tab tk_X4_readTold 41 rfl) rfl ?_
          rintro r T9 ⟨rfl, hτ9⟩
          refine am_if_ne (q := 83) (t := 89) (am_tab tk_X4_readTold 42 rfl) (by decide) rfl (fun h80 => ?_) (fun h80 => ?_)
          · refine am_vret rfl (Nat.le_of_ble_eq_true rfl) (Nat.le_of_ble_eq_true rfl) (am_tab tk_X4_readTold 47 rfl) ?_
            refine hQ _ _ ?_
            have e9 : toP b E H D p = nuF b E 1 D (akF b E 5 (phF b E H p)) := if_neg (fun z => ft (hft.mpr z.2))
            rw [e9]
            have hd8 : frw (fun a j => 3 ≤ a ∧ a ≤ 10 ∧ ¬ (a = 3 ∧ j = 1)) T3 T9 := by rw [hτ9]; exact ((frw.refl (fun a j => 3 ≤ a ∧ a ≤ 10 ∧ ¬ (a = 3 ∧ j = 1)) T3).setN (by omega)).setN (by omega)
            refine ⟨rfl, hX3.fr hd8 (fun a j h => by omega), fun i2 hi2 _ => ?_, (hG3.mono hTm).trans (hd8.mono (fun a j h => Or.inl (by omega)))⟩
            have hT9 := hPk.1.to ha8 hd9
            rw [hτ9]
            unfold toH toD rmA
            rw [← hi2, ← hw3, ← hfd, ha0, hd0, show ((d0 : Int)).toNat = d0 by omega]
            exact hT9
          · exact absurd h80 (by decide)
    · refine am_iconst (q := 38) (n := 1) (by decide) (am_tab tk_X4_readTold 19 rfl) rfl ?_
      refine am_goto (t := 42) (am_tab tk_X4_readTold 20 rfl) (by decide) ?_
      refine am_iconst (q := 43) (n := 1) (by decide) (am_tab tk_X4_readTold 22 rfl) rfl ?_
      refine am_callVr (q := 46) (me2 := M_X4_pass) (b := 27) (kb := 4) (nb := 13) (As := [am_i 1, am_i 1]) (rest := []) (c_passYT hX1 (by rw [h34]; decide) 1) ⟨rfl, rfl⟩ (Ls_27 hX1.1) (by decide) ⟨Or.inl km_X4_71, kc_X4_pass, kn_X4, kd_X4_pass, ⟨(Nat.le_of_ble_eq_true rfl), (Nat.le_of_ble_eq_true rfl)⟩, ⟨(Nat.le_of_ble_eq_true rfl), (Nat.le_of_ble_eq_true rfl)⟩, (Nat.le_of_ble_eq_true rfl)⟩ ki_X4_pass ks_X4_pass rfl (am_tab tk_X4_readTold 23 rfl) rfl ?_
      rintro r T2 ⟨rfl, hX2, hG⟩
      have hG2 := hG1.trans hG
      rw [show npZ (phF b E H p) = akF b E 5 (phF b E H p) from ak_T h34] at hX2
      refine am_aload_n (q := 47) rfl (am_tab tk_X4_readTold 24 rfl) rfl ?_
      refine am_getI (q := 50) (a := 27) (k := 4) (n := 13) (j := 5) (x := (T2.2.1 27 5)) (Ls_27 hX2.1) (by decide) rfl rfl (by decide) (Or.inl kf_X4_55) (am_tab tk_X4_readTold 25 rfl) rfl ?_
      refine am_istore_n (q := 51) (by decide) (ls2 := [(2, am_i ((T2.2.1 27 5))), (1, am_i ((FD 3 σ n))), (0, am_r 27)]) rfl (am_tab tk_X4_readTold 26 rfl) rfl ?_
      refine am_aload_n (q := 52) rfl (am_tab tk_X4_readTold 27 rfl) rfl ?_
      refine am_iconst (q := 53) (n := 1) (by decide) (am_tab tk_X4_readTold 28 rfl) rfl ?_
      refine am_aload_n (q := 54) rfl (am_tab tk_X4_readTold 29 rfl) rfl ?_
      refine am_getR (q := 57) (a := 27) (k := 4) (n := 13) (j := 2) (r := some (3)) (Ls_27 hX2.1) (by decide) rfl (show T2.2.2 27 2 = some 3 by rw [hG2.2.1]; exact hR) (by decide) (Or.inl kf_X4_29) (am_tab tk_X4_readTold 30 rfl) rfl ?_
      refine am_getI (q := 60) (a := 3) (k := 8) (n := 17) (j := 0) (x := D) (Ls_3 hX2.1) (by decide) rfl ((hG2.2.2 3 0 (by unfold W_rz; omega)).trans hD) (by decide) (Or.inr kf_X4_115) (am_tab tk_X4_readTold 31 rfl) rfl ?_
      refine am_callVr (q := 63) (me2 := M_X4_readNumber) (b := 27) (kb := 4) (nb := 13) (As := [am_i 1, am_i D]) (rest := []) (c_numZ hX2 1 D) ⟨rfl, rfl⟩ (Ls_27 hX2.1) (by decide) ⟨Or.inl km_X4_111, kc_X4_readNumber, kn_X4, kd_X4_readNumber, ⟨(Nat.le_of_ble_eq_true rfl), (Nat.le_of_ble_eq_true rfl)⟩, ⟨(Nat.le_of_ble_eq_true rfl), (Nat.le_of_ble_eq_true rfl)⟩, (Nat.le_of_ble_eq_true rfl)⟩ ki_X4_readNumber ks_X4_readNumber rfl (am_tab tk_X4_readTold 32 rfl) rfl ?_
      rintro r T3 ⟨v3, rfl, hX3, hG, hv3⟩
      have hG3 := hG2.trans hG
      refine am_istore_n (q := 64) (by decide) (ls2 := [(3, am_i v3), (2, am_i ((T2.2.1 27 5))), (1, am_i ((FD 3 σ n))), (0, am_r 27)]) rfl (am_tab tk_X4_readTold 33 rfl) rfl ?_
      refine am_aload_n (q := 65) rfl (am_tab tk_X4_readTold 34 rfl) rfl ?_
      refine am_getI (q := 68) (a := 27) (k := 4) (n := 13) (j := 8) (x := (fkZ (nuF b E 1 D (akF b E 5 (phF b E H p))))) (Ls_27 hX3.1) (by decide) rfl hX3.fk (by decide) (Or.inl kf_X4_62) (am_tab tk_X4_readTold 35 rfl) rfl ?_
      refine am_if_ne (q := 71) (t := 89) (am_tab tk_X4_readTold 36 rfl) (by decide) rfl (fun h68 => ?_) (fun h68 => ?_)
      · refine am_vret rfl (Nat.le_of_ble_eq_true rfl) (Nat.le_of_ble_eq_true rfl) (am_tab tk_X4_readTold 47 rfl) ?_
        refine hQ _ _ ?_
        have e9 : toP b E H D p = nuF b E 1 D (akF b E 5 (phF b E H p)) := if_neg (fun z => absurd (hX3.fk0.mpr z.1) h68)
        rw [e9]
        exact ⟨rfl, hX3, fun i hi hl => absurd (hX3.fk0.mpr hl) h68, hG3.mono hTm⟩
      · have hl := hX3.fk0.mp h68
        have hl2 := nuF_l hl
        have hw3 := hv3 hl
        have hl1 := akF_l hl2
        have hl0 := phF_l hl1
        have hfd := ph_v hX0 hP hl1
        have hfr := ph_ne hX0 hP hl1
        have hnr := nu_r hl
        obtain ⟨i0, hi0⟩ := isl hl0
        have hPk : TRr 3 T3 H ∧ H.2.1 85 0 = (n : Int) := by
          have := hP.fr hG3 hTN
          rw [hi0] at this
          exact this
        obtain ⟨a0, ha0⟩ := Int.eq_ofNat_of_zero_le hfr.1
        obtain ⟨d0, hd0⟩ := Int.eq_ofNat_of_zero_le (show 0 ≤ v3 by omega)
        have ha8 : a0 < 8 := by omega
        have hd9 : 1 ≤ d0 ∧ d0 ≤ 90 := by omega
        have hq4 := hPk.1.2.2.2.1 d0 (by omega)
        have hr9 : 0 ≤ T3.2.1 9 d0 ∧ T3.2.1 9 d0 < 256 := by
          rw [show T3.2.1 9 d0 = _ from hq4.1]
          exact hq4.2
        have hc9 : 0 ≤ T3.2.1 3 3 ∧ T3.2.1 3 3 ≤ 1000 := by
          have := hc3 hl0
          rw [hPk.1.1.2.2.2.1]
          omega
        have hft : tb (T3.2.1 9 d0) (a0 : Int) = 1 ↔ tb (H.2.1 90 (vZ b E (akF b E 5 (phF b E H p))).toNat) (pOf H (nZ b E p)) = 1 := by
          rw [← hfd, ha0, ← hw3, hd0, show ((d0 : Int)).toNat = d0 by omega, ← hq4.1]
        refine am_aload_n (q := 72) rfl (am_tab tk_X4_readTold 37 rfl) rfl ?_
        refine am_getR (q := 75) (a := 27) (k := 4) (n := 13) (j := 2) (r := some (3)) (Ls_27 hX3.1) (by decide) rfl (show T3.2.2 27 2 = some 3 by rw [hG3.2.1]; exact hR) (by decide) (Or.inl kf_X4_29) (am_tab tk_X4_readTold 38 rfl) rfl ?_
        refine am_iload_n (q := 76) rfl (am_tab tk_X4_readTold 39 rfl) rfl ?_
        refine am_iload_n (q := 77) rfl (am_tab tk_X4_readTold 40 rfl) rfl ?_
        by_cases ft : tb (T3.2.1 9 d0) (a0 : Int) = 1
        · refine am_callVr (q := 80) (me2 := M_X8_addTold) (b := 3) (kb := 8) (nb := 17) (As := [am_i ((FD 3 σ n)), am_i v3]) (rest := []) (by rw [ha0, hd0]; exact am_mono (c_addTold_3 T3 hX3.1 a0 d0 ha8 hd9 hr9 hc9) (fun r τ h => h.elim (fun z => (show r = some (am_i 0) ∧ τ = T3 from z.2)) (fun z => absurd ft z.1))) ⟨rfl, rfl⟩ (Ls_3 hX3.1) (by decide) ⟨Or.inr km_X4_159, kc_X8_addTold, kn_X8, kd_X8_addTold, ⟨(Nat.le_of_ble_eq_true rfl), (Nat.le_of_ble_eq_true rfl)⟩, ⟨(Nat.le_of_ble_eq_true rfl), (Nat.le_of_ble_eq_true rfl)⟩, (Nat.le_of_ble_eq_true rfl)⟩ ki_X8_addTold ks_X8_addTold rfl (am_tab tk_X4_readTold 41 rfl) rfl ?_
          rintro r T9 ⟨rfl, hτ9⟩
          rw [hτ9]
          refine am_if_ne (q := 83) (t := 89) (am_tab tk_X4_readTold 42 rfl) (by decide) rfl (fun h80 => ?_) (fun h80 => ?_)
          · exact absurd rfl h80
          · refine am_aload_n (q := 84) rfl (am_tab tk_X4_readTold 43 rfl) rfl ?_
            refine am_iconst (q := 85) (n := 2) (by decide) (am_tab tk_X4_readTold 44 rfl) rfl ?_
            refine am_iload_n (q := 86) rfl (am_tab tk_X4_readTold 45 rfl) rfl ?_
            refine am_callVr (q := 89) (me2 := M_X4_fail) (b := 27) (kb := 4) (nb := 13) (As := [am_i 2, am_i ((T2.2.1 27 5))]) (rest := []) (c_failY hX3 2 (T2.2.1 27 5) (by decide)) ⟨rfl, rfl⟩ (Ls_27 hX3.1) (by decide) ⟨Or.inl km_X4_58, kc_X4_fail, kn_X4, kd_X4_fail, ⟨(Nat.le_of_ble_eq_true rfl), (Nat.le_of_ble_eq_true rfl)⟩, ⟨(Nat.le_of_ble_eq_true rfl), (Nat.le_of_ble_eq_true rfl)⟩, (Nat.le_of_ble_eq_true rfl)⟩ ki_X4_fail ks_X4_fail rfl (am_tab tk_X4_readTold 46 rfl) rfl ?_
            rintro r T4 ⟨rfl, hX4, hG⟩
            have hG4 := hG3.trans hG
            refine am_vret rfl (Nat.le_of_ble_eq_true rfl) (Nat.le_of_ble_eq_true rfl) (am_tab tk_X4_readTold 47 rfl) ?_
            refine hQ _ _ ?_
            have e9 : toP b E H D p = flZ 2 (T2.2.1 27 5) (nuF b E 1 D (akF b E 5 (phF b E H p))) := by
              rw [fl_l hl, hX2.pz hl2]
              exact if_pos ⟨hl, hft.mp ft⟩
            rw [e9]
            exact ⟨rfl, hX4, fun i hi hl => absurd hl (by rw [fl_l ‹(nuF b E 1 D (akF b E 5 (phF b E H p))).isLeft = true›]; simp), hG4.mono hTm⟩
        · refine am_callVr (q := 80) (me2 := M_X8_addTold) (b := 3) (kb := 8) (nb := 17) (As := [am_i ((FD 3 σ n)), am_i v3]) (rest := []) (by rw [ha0, hd0]; exact am_mono (c_addTold_3 T3 hX3.1 a0 d0 ha8 hd9 hr9 hc9) (fun r τ h => h.elim (fun z => absurd z.1 ft) (fun z => (show r = some (am_i 1) ∧ τ = _ from z.2)))) ⟨rfl, rfl⟩ (Ls_3 hX3.1) (by decide) ⟨Or.inr km_X4_159, kc_X8_addTold, kn_X8, kd_X8_addTold, ⟨(Nat.le_of_ble_eq_true rfl), (Nat.le_of_ble_eq_true rfl)⟩, ⟨(Nat.le_of_ble_eq_true rfl), (Nat.le_of_ble_eq_true rfl)⟩, (Nat.le_of_ble_eq_true rfl)⟩ ki_X8_addTold ks_X8_addTold rfl (am_tab tk_X4_readTold 41 rfl) rfl ?_
          rintro r T9 ⟨rfl, hτ9⟩
          refine am_if_ne (q := 83) (t := 89) (am_tab tk_X4_readTold 42 rfl) (by decide) rfl (fun h80 => ?_) (fun h80 => ?_)
          · refine am_vret rfl (Nat.le_of_ble_eq_true rfl) (Nat.le_of_ble_eq_true rfl) (am_tab tk_X4_readTold 47 rfl) ?_
            refine hQ _ _ ?_
            have e9 : toP b E H D p = nuF b E 1 D (akF b E 5 (phF b E H p)) := if_neg (fun z => ft (hft.mpr z.2))
            rw [e9]
            have hd8 : frw (fun a j => 3 ≤ a ∧ a ≤ 10 ∧ ¬ (a = 3 ∧ j = 1)) T3 T9 := by rw [hτ9]; exact ((frw.refl (fun a j => 3 ≤ a ∧ a ≤ 10 ∧ ¬ (a = 3 ∧ j = 1)) T3).setN (by omega)).setN (by omega)
            refine ⟨rfl, hX3.fr hd8 (fun a j h => by omega), fun i2 hi2 _ => ?_, (hG3.mono hTm).trans (hd8.mono (fun a j h => Or.inl (by omega)))⟩
            have hT9 := hPk.1.to ha8 hd9
            rw [hτ9]
            unfold toH toD rmA
            rw [← hi2, ← hw3, ← hfd, ha0, hd0, show ((d0 : Int)).toNat = d0 by omega]
            exact hT9
          · exact absurd h80 (by decide)
theorem c_readTold_15 (b : Nat → Int) (E : Nat) (cv : Nat → Int) (M : Nat) (p : PZ) (σ H : am_H) (hX : RY b E cv M σ p) (hR : σ.2.2 27 2 = some 15) (n : Nat) (hn : σ.2.1 15 2 = (n : Int)) (h8 : n ≤ 8) (D : Int) (hD : σ.2.1 15 0 = D) (hP : PL 15 σ H n p) (hD9 : D ≤ 90) (hc3 : p.isLeft = true → 0 ≤ H.2.1 85 1 ∧ H.2.1 85 1 ≤ 30)   : am_met M_X4_readTold [am_r 27] σ (fun r σ' => r = none ∧ RY b E cv M σ' (toP b E H D p) ∧ (∀ i, p = .inl i → (toP b E H D p).isLeft = true → TRr 15 σ' (toH b E H i)) ∧ frw (W_tn 15) σ σ') := by
  refine am_qq (fun Q hQ => ?_)
  refine am_enter (show plainFor yX4_readTold = true by decide +kernel) rfl (Nat.le_of_ble_eq_true rfl) (fun _ _ _ => trivial) ?_
  have hX0 := hX
  have hG0 := frw.refl W_rz σ
  have hTN : ∀ a j, 15 ≤ a ∧ a ≤ 15 + 7 → ¬ W_rz a j := fun a j h => by unfold W_rz; omega
  have hTm : ∀ a j, W_rz a j → W_tn 15 a j := fun a j h => Or.inr h
  refine am_aload_n (q := 1) rfl (am_tab tk_X4_readTold 0 rfl) rfl ?_
  refine am_getR (q := 4) (a := 27) (k := 4) (n := 13) (j := 2) (r := some (15)) (Ls_27 hX.1) (by decide) rfl hR (by decide) (Or.inl kf_X4_29) (am_tab tk_X4_readTold 1 rfl) rfl ?_
  refine am_aload_n (q := 5) rfl (am_tab tk_X4_readTold 2 rfl) rfl ?_
  refine am_getI (q := 8) (a := 27) (k := 4) (n := 13) (j := 6) (x := (σ.2.1 27 6)) (Ls_27 hX.1) (by decide) rfl rfl (by decide) (Or.inl kf_X4_104) (am_tab tk_X4_readTold 3 rfl) rfl ?_
  refine am_callVr (q := 11) (me2 := M_X8_find) (b := 15) (kb := 8) (nb := 17) (As := [am_i ((σ.2.1 27 6))]) (rest := []) (c_find_15 σ hX0.1 (σ.2.1 27 6) n hn h8) ⟨rfl, rfl⟩ (Ls_15 hX.1) (by decide) ⟨Or.inr km_X4_147, kc_X8_find, kn_X8, kd_X8_find, ⟨(Nat.le_of_ble_eq_true rfl), (Nat.le_of_ble_eq_true rfl)⟩, ⟨(Nat.le_of_ble_eq_true rfl), (Nat.le_of_ble_eq_true rfl)⟩, (Nat.le_of_ble_eq_true rfl)⟩ ki_X8_find ks_X8_find rfl (am_tab tk_X4_readTold 4 rfl) rfl ?_
  rintro r τ9 ⟨rfl, hτ9⟩
  rw [hτ9]
  rw [show firstQ (fun k => decide (σ.2.1 16 k = σ.2.1 27 6)) n = FD 15 σ n from rfl]
  refine am_istore_n (q := 12) (by decide) (ls2 := [(1, am_i ((FD 15 σ n))), (0, am_r 27)]) rfl (am_tab tk_X4_readTold 5 rfl) rfl ?_
  refine am_aload_n (q := 13) rfl (am_tab tk_X4_readTold 6 rfl) rfl ?_
  refine am_iload_n (q := 14) rfl (am_tab tk_X4_readTold 7 rfl) rfl ?_
  refine am_iconst (q := 15) (n := (-1)) (by decide) (am_tab tk_X4_readTold 8 rfl) rfl ?_
  refine am_icmp_eq (q := 18) (t := 22) (am_tab tk_X4_readTold 9 rfl) (by decide) rfl (fun h15 => ?_) (fun h15 => ?_)
  · refine am_iconst (q := 23) (n := 0) (by decide) (am_tab tk_X4_readTold 12 rfl) rfl ?_
    refine am_callVr (q := 26) (me2 := M_X4_readName) (b := 27) (kb := 4) (nb := 13) (As := [am_i 0]) (rest := []) (c_nameZ0 hX0) ⟨rfl, rfl⟩ (Ls_27 hX.1) (by decide) ⟨Or.inl km_X4_151, kc_X4_readName, kn_X4, kd_X4_readName, ⟨(Nat.le_of_ble_eq_true rfl), (Nat.le_of_ble_eq_true rfl)⟩, ⟨(Nat.le_of_ble_eq_true rfl), (Nat.le_of_ble_eq_true rfl)⟩, (Nat.le_of_ble_eq_true rfl)⟩ ki_X4_readName ks_X4_readName rfl (am_tab tk_X4_readTold 13 rfl) rfl ?_
    rintro r T1 ⟨rfl, hX1, hG⟩
    have hG1 := hG0.trans hG
    rw [show naG b E false (p) = phF b E H p from (ph_F hX0 hP h15)] at hX1
    refine am_aload_n (q := 27) rfl (am_tab tk_X4_readTold 14 rfl) rfl ?_
    refine am_aload_n (q := 28) rfl (am_tab tk_X4_readTold 15 rfl) rfl ?_
    refine am_getI (q := 31) (a := 27) (k := 4) (n := 13) (j := 4) (x := (kdZ b E (phF b E H p))) (Ls_27 hX1.1) (by decide) rfl hX1.kd (by decide) (Or.inl kf_X4_45) (am_tab tk_X4_readTold 16 rfl) rfl ?_
    refine am_sipush (q := 34) (n := 133) (by decide) rfl (am_tab tk_X4_readTold 17 rfl) rfl ?_
    refine am_icmp_ne (q := 37) (t := 41) (am_tab tk_X4_readTold 18 rfl) (by decide) rfl (fun h34 => ?_) (fun h34 => ?_)
    · refine am_iconst (q := 42) (n := 0) (by decide) (am_tab tk_X4_readTold 21 rfl) rfl ?_
      refine am_iconst (q := 43) (n := 1) (by decide) (am_tab tk_X4_readTold 22 rfl) rfl ?_
      refine am_callVr (q := 46) (me2 := M_X4_pass) (b := 27) (kb := 4) (nb := 13) (As := [am_i 0, am_i 1]) (rest := []) (c_passYF hX1 1 (by decide)) ⟨rfl, rfl⟩ (Ls_27 hX1.1) (by decide) ⟨Or.inl km_X4_71, kc_X4_pass, kn_X4, kd_X4_pass, ⟨(Nat.le_of_ble_eq_true rfl), (Nat.le_of_ble_eq_true rfl)⟩, ⟨(Nat.le_of_ble_eq_true rfl), (Nat.le_of_ble_eq_true rfl)⟩, (Nat.le_of_ble_eq_true rfl)⟩ ki_X4_pass ks_X4_pass rfl (am_tab tk_X4_readTold 23 rfl) rfl ?_
      rintro r T2 ⟨rfl, hX2, hG⟩
      have hG2 := hG1.trans hG
      rw [show ftZ b E 1 (phF b E H p) = akF b E 5 (phF b E H p) from ak_F h34] at hX2
      refine am_aload_n (q := 47) rfl (am_tab tk_X4_readTold 24 rfl) rfl ?_
      refine am_getI (q := 50) (a := 27) (k := 4) (n := 13) (j := 5) (x := (T2.2.1 27 5)) (Ls_27 hX2.1) (by decide) rfl rfl (by decide) (Or.inl kf_X4_55) (am_tab tk_X4_readTold 25 rfl) rfl ?_
      refine am_istore_n (q := 51) (by decide) (ls2 := [(2, am_i ((T2.2.1 27 5))), (1, am_i ((FD 15 σ n))), (0, am_r 27)]) rfl (am_tab tk_X4_readTold 26 rfl) rfl ?_
      refine am_aload_n (q := 52) rfl (am_tab tk_X4_readTold 27 rfl) rfl ?_
      refine am_iconst (q := 53) (n := 1) (by decide) (am_tab tk_X4_readTold 28 rfl) rfl ?_
      refine am_aload_n (q := 54) rfl (am_tab tk_X4_readTold 29 rfl) rfl ?_
      refine am_getR (q := 57) (a := 27) (k := 4) (n := 13) (j := 2) (r := some (15)) (Ls_27 hX2.1) (by decide) rfl (show T2.2.2 27 2 = some 15 by rw [hG2.2.1]; exact hR) (by decide) (Or.inl kf_X4_29) (am_tab tk_X4_readTold 30 rfl) rfl ?_
      refine am_getI (q := 60) (a := 15) (k := 8) (n := 17) (j := 0) (x := D) (Ls_15 hX2.1) (by decide) rfl ((hG2.2.2 15 0 (by unfold W_rz; omega)).trans hD) (by decide) (Or.inr kf_X4_115) (am_tab tk_X4_readTold 31 rfl) rfl ?_
      refine am_callVr (q := 63) (me2 := M_X4_readNumber) (b := 27) (kb := 4) (nb := 13) (As := [am_i 1, am_i D]) (rest := []) (c_numZ hX2 1 D) ⟨rfl, rfl⟩ (Ls_27 hX2.1) (by decide) ⟨Or.inl km_X4_111, kc_X4_readNumber, kn_X4, kd_X4_readNumber, ⟨(Nat.le_of_ble_eq_true rfl), (Nat.le_of_ble_eq_true rfl)⟩, ⟨(Nat.le_of_ble_eq_true rfl), (Nat.le_of_ble_eq_true rfl)⟩, (Nat.le_of_ble_eq_true rfl)⟩ ki_X4_readNumber ks_X4_readNumber rfl (am_tab tk_X4_readTold 32 rfl) rfl ?_
      rintro r T3 ⟨v3, rfl, hX3, hG, hv3⟩
      have hG3 := hG2.trans hG
      refine am_istore_n (q := 64) (by decide) (ls2 := [(3, am_i v3), (2, am_i ((T2.2.1 27 5))), (1, am_i ((FD 15 σ n))), (0, am_r 27)]) rfl (am_tab tk_X4_readTold 33 rfl) rfl ?_
      refine am_aload_n (q := 65) rfl (am_tab tk_X4_readTold 34 rfl) rfl ?_
      refine am_getI (q := 68) (a := 27) (k := 4) (n := 13) (j := 8) (x := (fkZ (nuF b E 1 D (akF b E 5 (phF b E H p))))) (Ls_27 hX3.1) (by decide) rfl hX3.fk (by decide) (Or.inl kf_X4_62) (am_tab tk_X4_readTold 35 rfl) rfl ?_
      refine am_if_ne (q := 71) (t := 89) (am_tab tk_X4_readTold 36 rfl) (by decide) rfl (fun h68 => ?_) (fun h68 => ?_)
      · refine am_vret rfl (Nat.le_of_ble_eq_true rfl) (Nat.le_of_ble_eq_true rfl) (am_tab tk_X4_readTold 47 rfl) ?_
        refine hQ _ _ ?_
        have e9 : toP b E H D p = nuF b E 1 D (akF b E 5 (phF b E H p)) := if_neg (fun z => absurd (hX3.fk0.mpr z.1) h68)
        rw [e9]
        exact ⟨rfl, hX3, fun i hi hl => absurd (hX3.fk0.mpr hl) h68, hG3.mono hTm⟩
      · have hl := hX3.fk0.mp h68
        have hl2 := nuF_l hl
        have hw3 := hv3 hl
        have hl1 := akF_l hl2
        have hl0 := phF_l hl1
        have hfd := ph_v hX0 hP hl1
        have hfr := ph_ne hX0 hP hl1
        have hnr := nu_r hl
        obtain ⟨i0, hi0⟩ := isl hl0
        have hPk : TRr 15 T3 H ∧ H.2.1 85 0 = (n : Int) := by
          have := hP.fr hG3 hTN
          rw [hi0] at this
          exact this
        obtain ⟨a0, ha0⟩ := Int.eq_ofNat_of_zero_le hfr.1
        obtain ⟨d0, hd0⟩ := Int.eq_ofNat_of_zero_le (show 0 ≤ v3 by omega)
        have ha8 : a0 < 8 := by omega
        have hd9 : 1 ≤ d0 ∧ d0 ≤ 90 := by omega
        have hq4 := hPk.1.2.2.2.1 d0 (by omega)
        have hr9 : 0 ≤ T3.2.1 21 d0 ∧ T3.2.1 21 d0 < 256 := by
          rw [show T3.2.1 21 d0 = _ from hq4.1]
          exact hq4.2
        have hc9 : 0 ≤ T3.2.1 15 3 ∧ T3.2.1 15 3 ≤ 1000 := by
          have := hc3 hl0
          rw [hPk.1.1.2.2.2.1]
          omega
        have hft : tb (T3.2.1 21 d0) (a0 : Int) = 1 ↔ tb (H.2.1 90 (vZ b E (akF b E 5 (phF b E H p))).toNat) (pOf H (nZ b E p)) = 1 := by
          rw [← hfd, ha0, ← hw3, hd0, show ((d0 : Int)).toNat = d0 by omega, ← hq4.1]
        refine am_aload_n (q := 72) rfl (am_tab tk_X4_readTold 37 rfl) rfl ?_
        refine am_getR (q := 75) (a := 27) (k := 4) (n := 13) (j := 2) (r := some (15)) (Ls_27 hX3.1) (by decide) rfl (show T3.2.2 27 2 = some 15 by rw [hG3.2.1]; exact hR) (by decide) (Or.inl kf_X4_29) (am_tab tk_X4_readTold 38 rfl) rfl ?_
        refine am_iload_n (q := 76) rfl (am_tab tk_X4_readTold 39 rfl) rfl ?_
        refine am_iload_n (q := 77) rfl (am_tab tk_X4_readTold 40 rfl) rfl ?_
        by_cases ft : tb (T3.2.1 21 d0) (a0 : Int) = 1
        · refine am_callVr (q := 80) (me2 := M_X8_addTold) (b := 15) (kb := 8) (nb := 17) (As := [am_i ((FD 15 σ n)), am_i v3]) (rest := []) (by rw [ha0, hd0]; exact am_mono (c_addTold_15 T3 hX3.1 a0 d0 ha8 hd9 hr9 hc9) (fun r τ h => h.elim (fun z => (show r = some (am_i 0) ∧ τ = T3 from z.2)) (fun z => absurd ft z.1))) ⟨rfl, rfl⟩ (Ls_15 hX3.1) (by decide) ⟨Or.inr km_X4_159, kc_X8_addTold, kn_X8, kd_X8_addTold, ⟨(Nat.le_of_ble_eq_true rfl), (Nat.le_of_ble_eq_true rfl)⟩, ⟨(Nat.le_of_ble_eq_true rfl), (Nat.le_of_ble_eq_true rfl)⟩, (Nat.le_of_ble_eq_true rfl)⟩ ki_X8_addTold ks_X8_addTold rfl (am_tab tk_X4_readTold 41 rfl) rfl ?_
          rintro r T9 ⟨rfl, hτ9⟩
          rw [hτ9]
          refine am_if_ne (q := 83) (t := 89) (am_tab tk_X4_readTold 42 rfl) (by decide) rfl (fun h80 => ?_) (fun h80 => ?_)
          · exact absurd rfl h80
          · refine am_aload_n (q := 84) rfl (am_tab tk_X4_readTold 43 rfl) rfl ?_
            refine am_iconst (q := 85) (n := 2) (by decide) (am_tab tk_X4_readTold 44 rfl) rfl ?_
            refine am_iload_n (q := 86) rfl (am_tab tk_X4_readTold 45 rfl) rfl ?_
            refine am_callVr (q := 89) (me2 := M_X4_fail) (b := 27) (kb := 4) (nb := 13) (As := [am_i 2, am_i ((T2.2.1 27 5))]) (rest := []) (c_failY hX3 2 (T2.2.1 27 5) (by decide)) ⟨rfl, rfl⟩ (Ls_27 hX3.1) (by decide) ⟨Or.inl km_X4_58, kc_X4_fail, kn_X4, kd_X4_fail, ⟨(Nat.le_of_ble_eq_true rfl), (Nat.le_of_ble_eq_true rfl)⟩, ⟨(Nat.le_of_ble_eq_true rfl), (Nat.le_of_ble_eq_true rfl)⟩, (Nat.le_of_ble_eq_true rfl)⟩ ki_X4_fail ks_X4_fail rfl (am_tab tk_X4_readTold 46 rfl) rfl ?_
            rintro r T4 ⟨rfl, hX4, hG⟩
            have hG4 := hG3.trans hG
            refine am_vret rfl (Nat.le_of_ble_eq_true rfl) (Nat.le_of_ble_eq_true rfl) (am_tab tk_X4_readTold 47 rfl) ?_
            refine hQ _ _ ?_
            have e9 : toP b E H D p = flZ 2 (T2.2.1 27 5) (nuF b E 1 D (akF b E 5 (phF b E H p))) := by
              rw [fl_l hl, hX2.pz hl2]
              exact if_pos ⟨hl, hft.mp ft⟩
            rw [e9]
            exact ⟨rfl, hX4, fun i hi hl => absurd hl (by rw [fl_l ‹(nuF b E 1 D (akF b E 5 (phF b E H p))).isLeft = true›]; simp), hG4.mono hTm⟩
        · refine am_callVr (q := 80) (me2 := M_X8_addTold) (b := 15) (kb := 8) (nb := 17) (As := [am_i ((FD 15 σ n)), am_i v3]) (rest := []) (by rw [ha0, hd0]; exact am_mono (c_addTold_15 T3 hX3.1 a0 d0 ha8 hd9 hr9 hc9) (fun r τ h => h.elim (fun z => absurd z.1 ft) (fun z => (show r = some (am_i 1) ∧ τ = _ from z.2)))) ⟨rfl, rfl⟩ (Ls_15 hX3.1) (by decide) ⟨Or.inr km_X4_159, kc_X8_addTold, kn_X8, kd_X8_addTold, ⟨(Nat.le_of_ble_eq_true rfl), (Nat.le_of_ble_eq_true rfl)⟩, ⟨(Nat.le_of_ble_eq_true rfl), (Nat.le_of_ble_eq_true rfl)⟩, (Nat.le_of_ble_eq_true rfl)⟩ ki_X8_addTold ks_X8_addTold rfl (am_tab tk_X4_readTold 41 rfl) rfl ?_
          rintro r T9 ⟨rfl, hτ9⟩
          refine am_if_ne (q := 83) (t := 89) (am_tab tk_X4_readTold 42 rfl) (by decide) rfl (fun h80 => ?_) (fun h80 => ?_)
          · refine am_vret rfl (Nat.le_of_ble_eq_true rfl) (Nat.le_of_ble_eq_true rfl) (am_tab tk_X4_readTold 47 rfl) ?_
            refine hQ _ _ ?_
            have e9 : toP b E H D p = nuF b E 1 D (akF b E 5 (phF b E H p)) := if_neg (fun z => ft (hft.mpr z.2))
            rw [e9]
            have hd8 : frw (fun a j => 15 ≤ a ∧ a ≤ 22 ∧ ¬ (a = 15 ∧ j = 1)) T3 T9 := by rw [hτ9]; exact ((frw.refl (fun a j => 15 ≤ a ∧ a ≤ 22 ∧ ¬ (a = 15 ∧ j = 1)) T3).setN (by omega)).setN (by omega)
            refine ⟨rfl, hX3.fr hd8 (fun a j h => by omega), fun i2 hi2 _ => ?_, (hG3.mono hTm).trans (hd8.mono (fun a j h => Or.inl (by omega)))⟩
            have hT9 := hPk.1.to ha8 hd9
            rw [hτ9]
            unfold toH toD rmA
            rw [← hi2, ← hw3, ← hfd, ha0, hd0, show ((d0 : Int)).toNat = d0 by omega]
            exact hT9
          · exact absurd h80 (by decide)
    · refine am_iconst (q := 38) (n := 1) (by decide) (am_tab tk_X4_readTold 19 rfl) rfl ?_
      refine am_goto (t := 42) (am_tab tk_X4_readTold 20 rfl) (by decide) ?_
      refine am_iconst (q := 43) (n := 1) (by decide) (am_tab tk_X4_readTold 22 rfl) rfl ?_
      refine am_callVr (q := 46) (me2 := M_X4_pass) (b := 27) (kb := 4) (nb := 13) (As := [am_i 1, am_i 1]) (rest := []) (c_passYT hX1 (by rw [h34]; decide) 1) ⟨rfl, rfl⟩ (Ls_27 hX1.1) (by decide) ⟨Or.inl km_X4_71, kc_X4_pass, kn_X4, kd_X4_pass, ⟨(Nat.le_of_ble_eq_true rfl), (Nat.le_of_ble_eq_true rfl)⟩, ⟨(Nat.le_of_ble_eq_true rfl), (Nat.le_of_ble_eq_true rfl)⟩, (Nat.le_of_ble_eq_true rfl)⟩ ki_X4_pass ks_X4_pass rfl (am_tab tk_X4_readTold 23 rfl) rfl ?_
      rintro r T2 ⟨rfl, hX2, hG⟩
      have hG2 := hG1.trans hG
      rw [show npZ (phF b E H p) = akF b E 5 (phF b E H p) from ak_T h34] at hX2
      refine am_aload_n (q := 47) rfl (am_tab tk_X4_readTold 24 rfl) rfl ?_
      refine am_getI (q := 50) (a := 27) (k := 4) (n := 13) (j := 5) (x := (T2.2.1 27 5)) (Ls_27 hX2.1) (by decide) rfl rfl (by decide) (Or.inl kf_X4_55) (am_tab tk_X4_readTold 25 rfl) rfl ?_
      refine am_istore_n (q := 51) (by decide) (ls2 := [(2, am_i ((T2.2.1 27 5))), (1, am_i ((FD 15 σ n))), (0, am_r 27)]) rfl (am_tab tk_X4_readTold 26 rfl) rfl ?_
      refine am_aload_n (q := 52) rfl (am_tab tk_X4_readTold 27 rfl) rfl ?_
      refine am_iconst (q := 53) (n := 1) (by decide) (am_tab tk_X4_readTold 28 rfl) rfl ?_
      refine am_aload_n (q := 54) rfl (am_tab tk_X4_readTold 29 rfl) rfl ?_
      refine am_getR (q := 57) (a := 27) (k := 4) (n := 13) (j := 2) (r := some (15)) (Ls_27 hX2.1) (by decide) rfl (show T2.2.2 27 2 = some 15 by rw [hG2.2.1]; exact hR) (by decide) (Or.inl kf_X4_29) (am_tab tk_X4_readTold 30 rfl) rfl ?_
      refine am_getI (q := 60) (a := 15) (k := 8) (n := 17) (j := 0) (x := D) (Ls_15 hX2.1) (by decide) rfl ((hG2.2.2 15 0 (by unfold W_rz; omega)).trans hD) (by decide) (Or.inr kf_X4_115) (am_tab tk_X4_readTold 31 rfl) rfl ?_
      refine am_callVr (q := 63) (me2 := M_X4_readNumber) (b := 27) (kb := 4) (nb := 13) (As := [am_i 1, am_i D]) (rest := []) (c_numZ hX2 1 D) ⟨rfl, rfl⟩ (Ls_27 hX2.1) (by decide) ⟨Or.inl km_X4_111, kc_X4_readNumber, kn_X4, kd_X4_readNumber, ⟨(Nat.le_of_ble_eq_true rfl), (Nat.le_of_ble_eq_true rfl)⟩, ⟨(Nat.le_of_ble_eq_true rfl), (Nat.le_of_ble_eq_true rfl)⟩, (Nat.le_of_ble_eq_true rfl)⟩ ki_X4_readNumber ks_X4_readNumber rfl (am_tab tk_X4_readTold 32 rfl) rfl ?_
      rintro r T3 ⟨v3, rfl, hX3, hG, hv3⟩
      have hG3 := hG2.trans hG
      refine am_istore_n (q := 64) (by decide) (ls2 := [(3, am_i v3), (2, am_i ((T2.2.1 27 5))), (1, am_i ((FD 15 σ n))), (0, am_r 27)]) rfl (am_tab tk_X4_readTold 33 rfl) rfl ?_
      refine am_aload_n (q := 65) rfl (am_tab tk_X4_readTold 34 rfl) rfl ?_
      refine am_getI (q := 68) (a := 27) (k := 4) (n := 13) (j := 8) (x := (fkZ (nuF b E 1 D (akF b E 5 (phF b E H p))))) (Ls_27 hX3.1) (by decide) rfl hX3.fk (by decide) (Or.inl kf_X4_62) (am_tab tk_X4_readTold 35 rfl) rfl ?_
      refine am_if_ne (q := 71) (t := 89) (am_tab tk_X4_readTold 36 rfl) (by decide) rfl (fun h68 => ?_) (fun h68 => ?_)
      · refine am_vret rfl (Nat.le_of_ble_eq_true rfl) (Nat.le_of_ble_eq_true rfl) (am_tab tk_X4_readTold 47 rfl) ?_
        refine hQ _ _ ?_
        have e9 : toP b E H D p = nuF b E 1 D (akF b E 5 (phF b E H p)) := if_neg (fun z => absurd (hX3.fk0.mpr z.1) h68)
        rw [e9]
        exact ⟨rfl, hX3, fun i hi hl => absurd (hX3.fk0.mpr hl) h68, hG3.mono hTm⟩
      · have hl := hX3.fk0.mp h68
        have hl2 := nuF_l hl
        have hw3 := hv3 hl
        have hl1 := akF_l hl2
        have hl0 := phF_l hl1
        have hfd := ph_v hX0 hP hl1
        have hfr := ph_ne hX0 hP hl1
        have hnr := nu_r hl
        obtain ⟨i0, hi0⟩ := isl hl0
        have hPk : TRr 15 T3 H ∧ H.2.1 85 0 = (n : Int) := by
          have := hP.fr hG3 hTN
          rw [hi0] at this
          exact this
        obtain ⟨a0, ha0⟩ := Int.eq_ofNat_of_zero_le hfr.1
        obtain ⟨d0, hd0⟩ := Int.eq_ofNat_of_zero_le (show 0 ≤ v3 by omega)
        have ha8 : a0 < 8 := by omega
        have hd9 : 1 ≤ d0 ∧ d0 ≤ 90 := by omega
        have hq4 := hPk.1.2.2.2.1 d0 (by omega)
        have hr9 : 0 ≤ T3.2.1 21 d0 ∧ T3.2.1 21 d0 < 256 := by
          rw [show T3.2.1 21 d0 = _ from hq4.1]
          exact hq4.2
        have hc9 : 0 ≤ T3.2.1 15 3 ∧ T3.2.1 15 3 ≤ 1000 := by
          have := hc3 hl0
          rw [hPk.1.1.2.2.2.1]
          omega
        have hft : tb (T3.2.1 21 d0) (a0 : Int) = 1 ↔ tb (H.2.1 90 (vZ b E (akF b E 5 (phF b E H p))).toNat) (pOf H (nZ b E p)) = 1 := by
          rw [← hfd, ha0, ← hw3, hd0, show ((d0 : Int)).toNat = d0 by omega, ← hq4.1]
        refine am_aload_n (q := 72) rfl (am_tab tk_X4_readTold 37 rfl) rfl ?_
        refine am_getR (q := 75) (a := 27) (k := 4) (n := 13) (j := 2) (r := some (15)) (Ls_27 hX3.1) (by decide) rfl (show T3.2.2 27 2 = some 15 by rw [hG3.2.1]; exact hR) (by decide) (Or.inl kf_X4_29) (am_tab tk_X4_readTold 38 rfl) rfl ?_
        refine am_iload_n (q := 76) rfl (am_tab tk_X4_readTold 39 rfl) rfl ?_
        refine am_iload_n (q := 77) rfl (am_tab tk_X4_readTold 40 rfl) rfl ?_
        by_cases ft : tb (T3.2.1 21 d0) (a0 : Int) = 1
        · refine am_callVr (q := 80) (me2 := M_X8_addTold) (b := 15) (kb := 8) (nb := 17) (As := [am_i ((FD 15 σ n)), am_i v3]) (rest := []) (by rw [ha0, hd0]; exact am_mono (c_addTold_15 T3 hX3.1 a0 d0 ha8 hd9 hr9 hc9) (fun r τ h => h.elim (fun z => (show r = some (am_i 0) ∧ τ = T3 from z.2)) (fun z => absurd ft z.1))) ⟨rfl, rfl⟩ (Ls_15 hX3.1) (by decide) ⟨Or.inr km_X4_159, kc_X8_addTold, kn_X8, kd_X8_addTold, ⟨(Nat.le_of_ble_eq_true rfl), (Nat.le_of_ble_eq_true rfl)⟩, ⟨(Nat.le_of_ble_eq_true rfl), (Nat.le_of_ble_eq_true rfl)⟩, (Nat.le_of_ble_eq_true rfl)⟩ ki_X8_addTold ks_X8_addTold rfl (am_tab tk_X4_readTold 41 rfl) rfl ?_
          rintro r T9 ⟨rfl, hτ9⟩
          rw [hτ9]
          refine am_if_ne (q := 83) (t := 89) (am_tab tk_X4_readTold 42 rfl) (by decide) rfl (fun h80 => ?_) (fun h80 => ?_)
          · exact absurd rfl h80
          · refine am_aload_n (q := 84) rfl (am_tab tk_X4_readTold 43 rfl) rfl ?_
            refine am_iconst (q := 85) (n := 2) (by decide) (am_tab tk_X4_readTold 44 rfl) rfl ?_
            refine am_iload_n (q := 86) rfl (am_tab tk_X4_readTold 45 rfl) rfl ?_
            refine am_callVr (q := 89) (me2 := M_X4_fail) (b := 27) (kb := 4) (nb := 13) (As := [am_i 2, am_i ((T2.2.1 27 5))]) (rest := []) (c_failY hX3 2 (T2.2.1 27 5) (by decide)) ⟨rfl, rfl⟩ (Ls_27 hX3.1) (by decide) ⟨Or.inl km_X4_58, kc_X4_fail, kn_X4, kd_X4_fail, ⟨(Nat.le_of_ble_eq_true rfl), (Nat.le_of_ble_eq_true rfl)⟩, ⟨(Nat.le_of_ble_eq_true rfl), (Nat.le_of_ble_eq_true rfl)⟩, (Nat.le_of_ble_eq_true rfl)⟩ ki_X4_fail ks_X4_fail rfl (am_tab tk_X4_readTold 46 rfl) rfl ?_
            rintro r T4 ⟨rfl, hX4, hG⟩
            have hG4 := hG3.trans hG
            refine am_vret rfl (Nat.le_of_ble_eq_true rfl) (Nat.le_of_ble_eq_true rfl) (am_tab tk_X4_readTold 47 rfl) ?_
            refine hQ _ _ ?_
            have e9 : toP b E H D p = flZ 2 (T2.2.1 27 5) (nuF b E 1 D (akF b E 5 (phF b E H p))) := by
              rw [fl_l hl, hX2.pz hl2]
              exact if_pos ⟨hl, hft.mp ft⟩
            rw [e9]
            exact ⟨rfl, hX4, fun i hi hl => absurd hl (by rw [fl_l ‹(nuF b E 1 D (akF b E 5 (phF b E H p))).isLeft = true›]; simp), hG4.mono hTm⟩
        · refine am_callVr (q := 80) (me2 := M_X8_addTold) (b := 15) (kb := 8) (nb := 17) (As := [am_i ((FD 15 σ n)), am_i v3]) (rest := []) (by rw [ha0, hd0]; exact am_mono (c_addTold_15 T3 hX3.1 a0 d0 ha8 hd9 hr9 hc9) (fun r τ h => h.elim (fun z => absurd z.1 ft) (fun z => (show r = some (am_i 1) ∧ τ = _ from z.2)))) ⟨rfl, rfl⟩ (Ls_15 hX3.1) (by decide) ⟨Or.inr km_X4_159, kc_X8_addTold, kn_X8, kd_X8_addTold, ⟨(Nat.le_of_ble_eq_true rfl), (Nat.le_of_ble_eq_true rfl)⟩, ⟨(Nat.le_of_ble_eq_true rfl), (Nat.le_of_ble_eq_true rfl)⟩, (Nat.le_of_ble_eq_true rfl)⟩ ki_X8_addTold ks_X8_addTold rfl (am_tab tk_X4_readTold 41 rfl) rfl ?_
          rintro r T9 ⟨rfl, hτ9⟩
          refine am_if_ne (q := 83) (t := 89) (am_tab tk_X4_readTold 42 rfl) (by decide) rfl (fun h80 => ?_) (fun h80 => ?_)
          · refine am_vret rfl (Nat.le_of_ble_eq_true rfl) (Nat.le_of_ble_eq_true rfl) (am_tab tk_X4_readTold 47 rfl) ?_
            refine hQ _ _ ?_
            have e9 : toP b E H D p = nuF b E 1 D (akF b E 5 (phF b E H p)) := if_neg (fun z => ft (hft.mpr z.2))
            rw [e9]
            have hd8 : frw (fun a j => 15 ≤ a ∧ a ≤ 22 ∧ ¬ (a = 15 ∧ j = 1)) T3 T9 := by rw [hτ9]; exact ((frw.refl (fun a j => 15 ≤ a ∧ a ≤ 22 ∧ ¬ (a = 15 ∧ j = 1)) T3).setN (by omega)).setN (by omega)
            refine ⟨rfl, hX3.fr hd8 (fun a j h => by omega), fun i2 hi2 _ => ?_, (hG3.mono hTm).trans (hd8.mono (fun a j h => Or.inl (by omega)))⟩
            have hT9 := hPk.1.to ha8 hd9
            rw [hτ9]
            unfold toH toD rmA
            rw [← hi2, ← hw3, ← hfd, ha0, hd0, show ((d0 : Int)).toNat = d0 by omega]
            exact hT9
          · exact absurd h80 (by decide)
  · refine am_iconst (q := 19) (n := 1) (by decide) (am_tab tk_X4_readTold 10 rfl) rfl ?_
    refine am_goto (t := 23) (am_tab tk_X4_readTold 11 rfl) (by decide) ?_
    refine am_callVr (q := 26) (me2 := M_X4_readName) (b := 27) (kb := 4) (nb := 13) (As := [am_i 1]) (rest := []) (c_nameZ1 hX0) ⟨rfl, rfl⟩ (Ls_27 hX.1) (by decide) ⟨Or.inl km_X4_151, kc_X4_readName, kn_X4, kd_X4_readName, ⟨(Nat.le_of_ble_eq_true rfl), (Nat.le_of_ble_eq_true rfl)⟩, ⟨(Nat.le_of_ble_eq_true rfl), (Nat.le_of_ble_eq_true rfl)⟩, (Nat.le_of_ble_eq_true rfl)⟩ ki_X4_readName ks_X4_readName rfl (am_tab tk_X4_readTold 13 rfl) rfl ?_
    rintro r T1 ⟨rfl, hX1, hG⟩
    have hG1 := hG0.trans hG
    rw [show naG b E true (p) = phF b E H p from (ph_T hX0 hP h15)] at hX1
    refine am_aload_n (q := 27) rfl (am_tab tk_X4_readTold 14 rfl) rfl ?_
    refine am_aload_n (q := 28) rfl (am_tab tk_X4_readTold 15 rfl) rfl ?_
    refine am_getI (q := 31) (a := 27) (k := 4) (n := 13) (j := 4) (x := (kdZ b E (phF b E H p))) (Ls_27 hX1.1) (by decide) rfl hX1.kd (by decide) (Or.inl kf_X4_45) (am_tab tk_X4_readTold 16 rfl) rfl ?_
    refine am_sipush (q := 34) (n := 133) (by decide) rfl (am_tab tk_X4_readTold 17 rfl) rfl ?_
    refine am_icmp_ne (q := 37) (t := 41) (am_tab tk_X4_readTold 18 rfl) (by decide) rfl (fun h34 => ?_) (fun h34 => ?_)
    · refine am_iconst (q := 42) (n := 0) (by decide) (am_tab tk_X4_readTold 21 rfl) rfl ?_
      refine am_iconst (q := 43) (n := 1) (by decide) (am_tab tk_X4_readTold 22 rfl) rfl ?_
      refine am_callVr (q := 46) (me2 := M_X4_pass) (b := 27) (kb := 4) (nb := 13) (As := [am_i 0, am_i 1]) (rest := []) (c_passYF hX1 1 (by decide)) ⟨rfl, rfl⟩ (Ls_27 hX1.1) (by decide) ⟨Or.inl km_X4_71, kc_X4_pass, kn_X4, kd_X4_pass, ⟨(Nat.le_of_ble_eq_true rfl), (Nat.le_of_ble_eq_true rfl)⟩, ⟨(Nat.le_of_ble_eq_true rfl), (Nat.le_of_ble_eq_true rfl)⟩, (Nat.le_of_ble_eq_true rfl)⟩ ki_X4_pass ks_X4_pass rfl (am_tab tk_X4_readTold 23 rfl) rfl ?_
      rintro r T2 ⟨rfl, hX2, hG⟩
      have hG2 := hG1.trans hG
      rw [show ftZ b E 1 (phF b E H p) = akF b E 5 (phF b E H p) from ak_F h34] at hX2
      refine am_aload_n (q := 47) rfl (am_tab tk_X4_readTold 24 rfl) rfl ?_
      refine am_getI (q := 50) (a := 27) (k := 4) (n := 13) (j := 5) (x := (T2.2.1 27 5)) (Ls_27 hX2.1) (by decide) rfl rfl (by decide) (Or.inl kf_X4_55) (am_tab tk_X4_readTold 25 rfl) rfl ?_
      refine am_istore_n (q := 51) (by decide) (ls2 := [(2, am_i ((T2.2.1 27 5))), (1, am_i ((FD 15 σ n))), (0, am_r 27)]) rfl (am_tab tk_X4_readTold 26 rfl) rfl ?_
      refine am_aload_n (q := 52) rfl (am_tab tk_X4_readTold 27 rfl) rfl ?_
      refine am_iconst (q := 53) (n := 1) (by decide) (am_tab tk_X4_readTold 28 rfl) rfl ?_
      refine am_aload_n (q := 54) rfl (am_tab tk_X4_readTold 29 rfl) rfl ?_
      refine am_getR (q := 57) (a := 27) (k := 4) (n := 13) (j := 2) (r := some (15)) (Ls_27 hX2.1) (by decide) rfl (show T2.2.2 27 2 = some 15 by rw [hG2.2.1]; exact hR) (by decide) (Or.inl kf_X4_29) (am_tab tk_X4_readTold 30 rfl) rfl ?_
      refine am_getI (q := 60) (a := 15) (k := 8) (n := 17) (j := 0) (x := D) (Ls_15 hX2.1) (by decide) rfl ((hG2.2.2 15 0 (by unfold W_rz; omega)).trans hD) (by decide) (Or.inr kf_X4_115) (am_tab tk_X4_readTold 31 rfl) rfl ?_
      refine am_callVr (q := 63) (me2 := M_X4_readNumber) (b := 27) (kb := 4) (nb := 13) (As := [am_i 1, am_i D]) (rest := []) (c_numZ hX2 1 D) ⟨rfl, rfl⟩ (Ls_27 hX2.1) (by decide) ⟨Or.inl km_X4_111, kc_X4_readNumber, kn_X4, kd_X4_readNumber, ⟨(Nat.le_of_ble_eq_true rfl), (Nat.le_of_ble_eq_true rfl)⟩, ⟨(Nat.le_of_ble_eq_true rfl), (Nat.le_of_ble_eq_true rfl)⟩, (Nat.le_of_ble_eq_true rfl)⟩ ki_X4_readNumber ks_X4_readNumber rfl (am_tab tk_X4_readTold 32 rfl) rfl ?_
      rintro r T3 ⟨v3, rfl, hX3, hG, hv3⟩
      have hG3 := hG2.trans hG
      refine am_istore_n (q := 64) (by decide) (ls2 := [(3, am_i v3), (2, am_i ((T2.2.1 27 5))), (1, am_i ((FD 15 σ n))), (0, am_r 27)]) rfl (am_tab tk_X4_readTold 33 rfl) rfl ?_
      refine am_aload_n (q := 65) rfl (am_tab tk_X4_readTold 34 rfl) rfl ?_
      refine am_getI (q := 68) (a := 27) (k := 4) (n := 13) (j := 8) (x := (fkZ (nuF b E 1 D (akF b E 5 (phF b E H p))))) (Ls_27 hX3.1) (by decide) rfl hX3.fk (by decide) (Or.inl kf_X4_62) (am_tab tk_X4_readTold 35 rfl) rfl ?_
      refine am_if_ne (q := 71) (t := 89) (am_tab tk_X4_readTold 36 rfl) (by decide) rfl (fun h68 => ?_) (fun h68 => ?_)
      · refine am_vret rfl (Nat.le_of_ble_eq_true rfl) (Nat.le_of_ble_eq_true rfl) (am_tab tk_X4_readTold 47 rfl) ?_
        refine hQ _ _ ?_
        have e9 : toP b E H D p = nuF b E 1 D (akF b E 5 (phF b E H p)) := if_neg (fun z => absurd (hX3.fk0.mpr z.1) h68)
        rw [e9]
        exact ⟨rfl, hX3, fun i hi hl => absurd (hX3.fk0.mpr hl) h68, hG3.mono hTm⟩
      · have hl := hX3.fk0.mp h68
        have hl2 := nuF_l hl
        have hw3 := hv3 hl
        have hl1 := akF_l hl2
        have hl0 := phF_l hl1
        have hfd := ph_v hX0 hP hl1
        have hfr := ph_ne hX0 hP hl1
        have hnr := nu_r hl
        obtain ⟨i0, hi0⟩ := isl hl0
        have hPk : TRr 15 T3 H ∧ H.2.1 85 0 = (n : Int) := by
          have := hP.fr hG3 hTN
          rw [hi0] at this
          exact this
        obtain ⟨a0, ha0⟩ := Int.eq_ofNat_of_zero_le hfr.1
        obtain ⟨d0, hd0⟩ := Int.eq_ofNat_of_zero_le (show 0 ≤ v3 by omega)
        have ha8 : a0 < 8 := by omega
        have hd9 : 1 ≤ d0 ∧ d0 ≤ 90 := by omega
        have hq4 := hPk.1.2.2.2.1 d0 (by omega)
        have hr9 : 0 ≤ T3.2.1 21 d0 ∧ T3.2.1 21 d0 < 256 := by
          rw [show T3.2.1 21 d0 = _ from hq4.1]
          exact hq4.2
        have hc9 : 0 ≤ T3.2.1 15 3 ∧ T3.2.1 15 3 ≤ 1000 := by
          have := hc3 hl0
          rw [hPk.1.1.2.2.2.1]
          omega
        have hft : tb (T3.2.1 21 d0) (a0 : Int) = 1 ↔ tb (H.2.1 90 (vZ b E (akF b E 5 (phF b E H p))).toNat) (pOf H (nZ b E p)) = 1 := by
          rw [← hfd, ha0, ← hw3, hd0, show ((d0 : Int)).toNat = d0 by omega, ← hq4.1]
        refine am_aload_n (q := 72) rfl (am_tab tk_X4_readTold 37 rfl) rfl ?_
        refine am_getR (q := 75) (a := 27) (k := 4) (n := 13) (j := 2) (r := some (15)) (Ls_27 hX3.1) (by decide) rfl (show T3.2.2 27 2 = some 15 by rw [hG3.2.1]; exact hR) (by decide) (Or.inl kf_X4_29) (am_tab tk_X4_readTold 38 rfl) rfl ?_
        refine am_iload_n (q := 76) rfl (am_tab tk_X4_readTold 39 rfl) rfl ?_
        refine am_iload_n (q := 77) rfl (am_tab tk_X4_readTold 40 rfl) rfl ?_
        by_cases ft : tb (T3.2.1 21 d0) (a0 : Int) = 1
        · refine am_callVr (q := 80) (me2 := M_X8_addTold) (b := 15) (kb := 8) (nb := 17) (As := [am_i ((FD 15 σ n)), am_i v3]) (rest := []) (by rw [ha0, hd0]; exact am_mono (c_addTold_15 T3 hX3.1 a0 d0 ha8 hd9 hr9 hc9) (fun r τ h => h.elim (fun z => (show r = some (am_i 0) ∧ τ = T3 from z.2)) (fun z => absurd ft z.1))) ⟨rfl, rfl⟩ (Ls_15 hX3.1) (by decide) ⟨Or.inr km_X4_159, kc_X8_addTold, kn_X8, kd_X8_addTold, ⟨(Nat.le_of_ble_eq_true rfl), (Nat.le_of_ble_eq_true rfl)⟩, ⟨(Nat.le_of_ble_eq_true rfl), (Nat.le_of_ble_eq_true rfl)⟩, (Nat.le_of_ble_eq_true rfl)⟩ ki_X8_addTold ks_X8_addTold rfl (am_tab tk_X4_readTold 41 rfl) rfl ?_
          rintro r T9 ⟨rfl, hτ9⟩
          rw [hτ9]
          refine am_if_ne (q := 83) (t := 89) (am_tab tk_X4_readTold 42 rfl) (by decide) rfl (fun h80 => ?_) (fun h80 => ?_)
          · exact absurd rfl h80
          · refine am_aload_n (q := 84) rfl (am_tab tk_X4_readTold 43 rfl) rfl ?_
            refine am_iconst (q := 85) (n := 2) (by decide) (am_tab tk_X4_readTold 44 rfl) rfl ?_
            refine am_iload_n (q := 86) rfl (am_tab tk_X4_readTold 45 rfl) rfl ?_
            refine am_callVr (q := 89) (me2 := M_X4_fail) (b := 27) (kb := 4) (nb := 13) (As := [am_i 2, am_i ((T2.2.1 27 5))]) (rest := []) (c_failY hX3 2 (T2.2.1 27 5) (by decide)) ⟨rfl, rfl⟩ (Ls_27 hX3.1) (by decide) ⟨Or.inl km_X4_58, kc_X4_fail, kn_X4, kd_X4_fail, ⟨(Nat.le_of_ble_eq_true rfl), (Nat.le_of_ble_eq_true rfl)⟩, ⟨(Nat.le_of_ble_eq_true rfl), (Nat.le_of_ble_eq_true rfl)⟩, (Nat.le_of_ble_eq_true rfl)⟩ ki_X4_fail ks_X4_fail rfl (am_tab tk_X4_readTold 46 rfl) rfl ?_
            rintro r T4 ⟨rfl, hX4, hG⟩
            have hG4 := hG3.trans hG
            refine am_vret rfl (Nat.le_of_ble_eq_true rfl) (Nat.le_of_ble_eq_true rfl) (am_tab tk_X4_readTold 47 rfl) ?_
            refine hQ _ _ ?_
            have e9 : toP b E H D p = flZ 2 (T2.2.1 27 5) (nuF b E 1 D (akF b E 5 (phF b E H p))) := by
              rw [fl_l hl, hX2.pz hl2]
              exact if_pos ⟨hl, hft.mp ft⟩
            rw [e9]
            exact ⟨rfl, hX4, fun i hi hl => absurd hl (by rw [fl_l ‹(nuF b E 1 D (akF b E 5 (phF b E H p))).isLeft = true›]; simp), hG4.mono hTm⟩
        · refine am_callVr (q := 80) (me2 := M_X8_addTold) (b := 15) (kb := 8) (nb := 17) (As := [am_i ((FD 15 σ n)), am_i v3]) (rest := []) (by rw [ha0, hd0]; exact am_mono (c_addTold_15 T3 hX3.1 a0 d0 ha8 hd9 hr9 hc9) (fun r τ h => h.elim (fun z => absurd z.1 ft) (fun z => (show r = some (am_i 1) ∧ τ = _ from z.2)))) ⟨rfl, rfl⟩ (Ls_15 hX3.1) (by decide) ⟨Or.inr km_X4_159, kc_X8_addTold, kn_X8, kd_X8_addTold, ⟨(Nat.le_of_ble_eq_true rfl), (Nat.le_of_ble_eq_true rfl)⟩, ⟨(Nat.le_of_ble_eq_true rfl), (Nat.le_of_ble_eq_true rfl)⟩, (Nat.le_of_ble_eq_true rfl)⟩ ki_X8_addTold ks_X8_addTold rfl (am_tab tk_X4_readTold 41 rfl) rfl ?_
          rintro r T9 ⟨rfl, hτ9⟩
          refine am_if_ne (q := 83) (t := 89) (am_tab tk_X4_readTold 42 rfl) (by decide) rfl (fun h80 => ?_) (fun h80 => ?_)
          · refine am_vret rfl (Nat.le_of_ble_eq_true rfl) (Nat.le_of_ble_eq_true rfl) (am_tab tk_X4_readTold 47 rfl) ?_
            refine hQ _ _ ?_
            have e9 : toP b E H D p = nuF b E 1 D (akF b E 5 (phF b E H p)) := if_neg (fun z => ft (hft.mpr z.2))
            rw [e9]
            have hd8 : frw (fun a j => 15 ≤ a ∧ a ≤ 22 ∧ ¬ (a = 15 ∧ j = 1)) T3 T9 := by rw [hτ9]; exact ((frw.refl (fun a j => 15 ≤ a ∧ a ≤ 22 ∧ ¬ (a = 15 ∧ j = 1)) T3).setN (by omega)).setN (by omega)
            refine ⟨rfl, hX3.fr hd8 (fun a j h => by omega), fun i2 hi2 _ => ?_, (hG3.mono hTm).trans (hd8.mono (fun a j h => Or.inl (by omega)))⟩
            have hT9 := hPk.1.to ha8 hd9
            rw [hτ9]
            unfold toH toD rmA
            rw [← hi2, ← hw3, ← hfd, ha0, hd0, show ((d0 : Int)).toNat = d0 by omega]
            exact hT9
          · exact absurd h80 (by decide)
    · refine am_iconst (q := 38) (n := 1) (by decide) (am_tab tk_X4_readTold 19 rfl) rfl ?_
      refine am_goto (t := 42) (am_tab tk_X4_readTold 20 rfl) (by decide) ?_
      refine am_iconst (q := 43) (n := 1) (by decide) (am_tab tk_X4_readTold 22 rfl) rfl ?_
      refine am_callVr (q := 46) (me2 := M_X4_pass) (b := 27) (kb := 4) (nb := 13) (As := [am_i 1, am_i 1]) (rest := []) (c_passYT hX1 (by rw [h34]; decide) 1) ⟨rfl, rfl⟩ (Ls_27 hX1.1) (by decide) ⟨Or.inl km_X4_71, kc_X4_pass, kn_X4, kd_X4_pass, ⟨(Nat.le_of_ble_eq_true rfl), (Nat.le_of_ble_eq_true rfl)⟩, ⟨(Nat.le_of_ble_eq_true rfl), (Nat.le_of_ble_eq_true rfl)⟩, (Nat.le_of_ble_eq_true rfl)⟩ ki_X4_pass ks_X4_pass rfl (am_tab tk_X4_readTold 23 rfl) rfl ?_
      rintro r T2 ⟨rfl, hX2, hG⟩
      have hG2 := hG1.trans hG
      rw [show npZ (phF b E H p) = akF b E 5 (phF b E H p) from ak_T h34] at hX2
      refine am_aload_n (q := 47) rfl (am_tab tk_X4_readTold 24 rfl) rfl ?_
      refine am_getI (q := 50) (a := 27) (k := 4) (n := 13) (j := 5) (x := (T2.2.1 27 5)) (Ls_27 hX2.1) (by decide) rfl rfl (by decide) (Or.inl kf_X4_55) (am_tab tk_X4_readTold 25 rfl) rfl ?_
      refine am_istore_n (q := 51) (by decide) (ls2 := [(2, am_i ((T2.2.1 27 5))), (1, am_i ((FD 15 σ n))), (0, am_r 27)]) rfl (am_tab tk_X4_readTold 26 rfl) rfl ?_
      refine am_aload_n (q := 52) rfl (am_tab tk_X4_readTold 27 rfl) rfl ?_
      refine am_iconst (q := 53) (n := 1) (by decide) (am_tab tk_X4_readTold 28 rfl) rfl ?_
      refine am_aload_n (q := 54) rfl (am_tab tk_X4_readTold 29 rfl) rfl ?_
      refine am_getR (q := 57) (a := 27) (k := 4) (n := 13) (j := 2) (r := some (15)) (Ls_27 hX2.1) (by decide) rfl (show T2.2.2 27 2 = some 15 by rw [hG2.2.1]; exact hR) (by decide) (Or.inl kf_X4_29) (am_tab tk_X4_readTold 30 rfl) rfl ?_
      refine am_getI (q := 60) (a := 15) (k := 8) (n := 17) (j := 0) (x := D) (Ls_15 hX2.1) (by decide) rfl ((hG2.2.2 15 0 (by unfold W_rz; omega)).trans hD) (by decide) (Or.inr kf_X4_115) (am_tab tk_X4_readTold 31 rfl) rfl ?_
      refine am_callVr (q := 63) (me2 := M_X4_readNumber) (b := 27) (kb := 4) (nb := 13) (As := [am_i 1, am_i D]) (rest := []) (c_numZ hX2 1 D) ⟨rfl, rfl⟩ (Ls_27 hX2.1) (by decide) ⟨Or.inl km_X4_111, kc_X4_readNumber, kn_X4, kd_X4_readNumber, ⟨(Nat.le_of_ble_eq_true rfl), (Nat.le_of_ble_eq_true rfl)⟩, ⟨(Nat.le_of_ble_eq_true rfl), (Nat.le_of_ble_eq_true rfl)⟩, (Nat.le_of_ble_eq_true rfl)⟩ ki_X4_readNumber ks_X4_readNumber rfl (am_tab tk_X4_readTold 32 rfl) rfl ?_
      rintro r T3 ⟨v3, rfl, hX3, hG, hv3⟩
      have hG3 := hG2.trans hG
      refine am_istore_n (q := 64) (by decide) (ls2 := [(3, am_i v3), (2, am_i ((T2.2.1 27 5))), (1, am_i ((FD 15 σ n))), (0, am_r 27)]) rfl (am_tab tk_X4_readTold 33 rfl) rfl ?_
      refine am_aload_n (q := 65) rfl (am_tab tk_X4_readTold 34 rfl) rfl ?_
      refine am_getI (q := 68) (a := 27) (k := 4) (n := 13) (j := 8) (x := (fkZ (nuF b E 1 D (akF b E 5 (phF b E H p))))) (Ls_27 hX3.1) (by decide) rfl hX3.fk (by decide) (Or.inl kf_X4_62) (am_tab tk_X4_readTold 35 rfl) rfl ?_
      refine am_if_ne (q := 71) (t := 89) (am_tab tk_X4_readTold 36 rfl) (by decide) rfl (fun h68 => ?_) (fun h68 => ?_)
      · refine am_vret rfl (Nat.le_of_ble_eq_true rfl) (Nat.le_of_ble_eq_true rfl) (am_tab tk_X4_readTold 47 rfl) ?_
        refine hQ _ _ ?_
        have e9 : toP b E H D p = nuF b E 1 D (akF b E 5 (phF b E H p)) := if_neg (fun z => absurd (hX3.fk0.mpr z.1) h68)
        rw [e9]
        exact ⟨rfl, hX3, fun i hi hl => absurd (hX3.fk0.mpr hl) h68, hG3.mono hTm⟩
      · have hl := hX3.fk0.mp h68
        have hl2 := nuF_l hl
        have hw3 := hv3 hl
        have hl1 := akF_l hl2
        have hl0 := phF_l hl1
        have hfd := ph_v hX0 hP hl1
        have hfr := ph_ne hX0 hP hl1
        have hnr := nu_r hl
        obtain ⟨i0, hi0⟩ := isl hl0
        have hPk : TRr 15 T3 H ∧ H.2.1 85 0 = (n : Int) := by
          have := hP.fr hG3 hTN
          rw [hi0] at this
          exact this
        obtain ⟨a0, ha0⟩ := Int.eq_ofNat_of_zero_le hfr.1
        obtain ⟨d0, hd0⟩ := Int.eq_ofNat_of_zero_le (show 0 ≤ v3 by omega)
        have ha8 : a0 < 8 := by omega
        have hd9 : 1 ≤ d0 ∧ d0 ≤ 90 := by omega
        have hq4 := hPk.1.2.2.2.1 d0 (by omega)
        have hr9 : 0 ≤ T3.2.1 21 d0 ∧ T3.2.1 21 d0 < 256 := by
          rw [show T3.2.1 21 d0 = _ from hq4.1]
          exact hq4.2
        have hc9 : 0 ≤ T3.2.1 15 3 ∧ T3.2.1 15 3 ≤ 1000 := by
          have := hc3 hl0
          rw [hPk.1.1.2.2.2.1]
          omega
        have hft : tb (T3.2.1 21 d0) (a0 : Int) = 1 ↔ tb (H.2.1 90 (vZ b E (akF b E 5 (phF b E H p))).toNat) (pOf H (nZ b E p)) = 1 := by
          rw [← hfd, ha0, ← hw3, hd0, show ((d0 : Int)).toNat = d0 by omega, ← hq4.1]
        refine am_aload_n (q := 72) rfl (am_tab tk_X4_readTold 37 rfl) rfl ?_
        refine am_getR (q := 75) (a := 27) (k := 4) (n := 13) (j := 2) (r := some (15)) (Ls_27 hX3.1) (by decide) rfl (show T3.2.2 27 2 = some 15 by rw [hG3.2.1]; exact hR) (by decide) (Or.inl kf_X4_29) (am_tab tk_X4_readTold 38 rfl) rfl ?_
        refine am_iload_n (q := 76) rfl (am_tab tk_X4_readTold 39 rfl) rfl ?_
        refine am_iload_n (q := 77) rfl (am_tab tk_X4_readTold 40 rfl) rfl ?_
        by_cases ft : tb (T3.2.1 21 d0) (a0 : Int) = 1
        · refine am_callVr (q := 80) (me2 := M_X8_addTold) (b := 15) (kb := 8) (nb := 17) (As := [am_i ((FD 15 σ n)), am_i v3]) (rest := []) (by rw [ha0, hd0]; exact am_mono (c_addTold_15 T3 hX3.1 a0 d0 ha8 hd9 hr9 hc9) (fun r τ h => h.elim (fun z => (show r = some (am_i 0) ∧ τ = T3 from z.2)) (fun z => absurd ft z.1))) ⟨rfl, rfl⟩ (Ls_15 hX3.1) (by decide) ⟨Or.inr km_X4_159, kc_X8_addTold, kn_X8, kd_X8_addTold, ⟨(Nat.le_of_ble_eq_true rfl), (Nat.le_of_ble_eq_true rfl)⟩, ⟨(Nat.le_of_ble_eq_true rfl), (Nat.le_of_ble_eq_true rfl)⟩, (Nat.le_of_ble_eq_true rfl)⟩ ki_X8_addTold ks_X8_addTold rfl (am_tab tk_X4_readTold 41 rfl) rfl ?_
          rintro r T9 ⟨rfl, hτ9⟩
          rw [hτ9]
          refine am_if_ne (q := 83) (t := 89) (am_tab tk_X4_readTold 42 rfl) (by decide) rfl (fun h80 => ?_) (fun h80 => ?_)
          · exact absurd rfl h80
          · refine am_aload_n (q := 84) rfl (am_tab tk_X4_readTold 43 rfl) rfl ?_
            refine am_iconst (q := 85) (n := 2) (by decide) (am_tab tk_X4_readTold 44 rfl) rfl ?_
            refine am_iload_n (q := 86) rfl (am_tab tk_X4_readTold 45 rfl) rfl ?_
            refine am_callVr (q := 89) (me2 := M_X4_fail) (b := 27) (kb := 4) (nb := 13) (As := [am_i 2, am_i ((T2.2.1 27 5))]) (rest := []) (c_failY hX3 2 (T2.2.1 27 5) (by decide)) ⟨rfl, rfl⟩ (Ls_27 hX3.1) (by decide) ⟨Or.inl km_X4_58, kc_X4_fail, kn_X4, kd_X4_fail, ⟨(Nat.le_of_ble_eq_true rfl), (Nat.le_of_ble_eq_true rfl)⟩, ⟨(Nat.le_of_ble_eq_true rfl), (Nat.le_of_ble_eq_true rfl)⟩, (Nat.le_of_ble_eq_true rfl)⟩ ki_X4_fail ks_X4_fail rfl (am_tab tk_X4_readTold 46 rfl) rfl ?_
            rintro r T4 ⟨rfl, hX4, hG⟩
            have hG4 := hG3.trans hG
            refine am_vret rfl (Nat.le_of_ble_eq_true rfl) (Nat.le_of_ble_eq_true rfl) (am_tab tk_X4_readTold 47 rfl) ?_
            refine hQ _ _ ?_
            have e9 : toP b E H D p = flZ 2 (T2.2.1 27 5) (nuF b E 1 D (akF b E 5 (phF b E H p))) := by
              rw [fl_l hl, hX2.pz hl2]
              exact if_pos ⟨hl, hft.mp ft⟩
            rw [e9]
            exact ⟨rfl, hX4, fun i hi hl => absurd hl (by rw [fl_l ‹(nuF b E 1 D (akF b E 5 (phF b E H p))).isLeft = true›]; simp), hG4.mono hTm⟩
        · refine am_callVr (q := 80) (me2 := M_X8_addTold) (b := 15) (kb := 8) (nb := 17) (As := [am_i ((FD 15 σ n)), am_i v3]) (rest := []) (by rw [ha0, hd0]; exact am_mono (c_addTold_15 T3 hX3.1 a0 d0 ha8 hd9 hr9 hc9) (fun r τ h => h.elim (fun z => absurd z.1 ft) (fun z => (show r = some (am_i 1) ∧ τ = _ from z.2)))) ⟨rfl, rfl⟩ (Ls_15 hX3.1) (by decide) ⟨Or.inr km_X4_159, kc_X8_addTold, kn_X8, kd_X8_addTold, ⟨(Nat.le_of_ble_eq_true rfl), (Nat.le_of_ble_eq_true rfl)⟩, ⟨(Nat.le_of_ble_eq_true rfl), (Nat.le_of_ble_eq_true rfl)⟩, (Nat.le_of_ble_eq_true rfl)⟩ ki_X8_addTold ks_X8_addTold rfl (am_tab tk_X4_readTold 41 rfl) rfl ?_
          rintro r T9 ⟨rfl, hτ9⟩
          refine am_if_ne (q := 83) (t := 89) (am_tab tk_X4_readTold 42 rfl) (by decide) rfl (fun h80 => ?_) (fun h80 => ?_)
          · refine am_vret rfl (Nat.le_of_ble_eq_true rfl) (Nat.le_of_ble_eq_true rfl) (am_tab tk_X4_readTold 47 rfl) ?_
            refine hQ _ _ ?_
            have e9 : toP b E H D p = nuF b E 1 D (akF b E 5 (phF b E H p)) := if_neg (fun z => ft (hft.mpr z.2))
            rw [e9]
            have hd8 : frw (fun a j => 15 ≤ a ∧ a ≤ 22 ∧ ¬ (a = 15 ∧ j = 1)) T3 T9 := by rw [hτ9]; exact ((frw.refl (fun a j => 15 ≤ a ∧ a ≤ 22 ∧ ¬ (a = 15 ∧ j = 1)) T3).setN (by omega)).setN (by omega)
            refine ⟨rfl, hX3.fr hd8 (fun a j h => by omega), fun i2 hi2 _ => ?_, (hG3.mono hTm).trans (hd8.mono (fun a j h => Or.inl (by omega)))⟩
            have hT9 := hPk.1.to ha8 hd9
            rw [hτ9]
            unfold toH toD rmA
            rw [← hi2, ← hw3, ← hfd, ha0, hd0, show ((d0 : Int)).toNat = d0 by omega]
            exact hT9
          · exact absurd h80 (by decide)
