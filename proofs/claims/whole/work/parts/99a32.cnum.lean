theorem c_open1q (b : Nat → Int) (E : Nat) (cv : Nat → Int) (M : Nat) (tk : Int) (q : Nat × List Int × Int) (σ : am_H) (hX : RX b E cv M tk σ (.inl q)) (h6 : ¬ kdS b E (.inl q) = 6) (ho : q.2.2 < 6)   : am_met M_X4_open [am_r 27] σ (fun r σ' => r = some (am_i 1) ∧ RX b E cv M tk σ' (ocS 1 (npS (.inl q))) ∧ frw W_ps σ σ') := by
  refine am_qq (fun Q hQ => ?_)
  refine am_enter (show plainFor yX4_open = true by decide +kernel) rfl (Nat.le_of_ble_eq_true rfl) (fun _ _ _ => trivial) ?_
  have h27 := hX.2.2.2.2.2
  refine am_aload_n (q := 1) rfl (am_tab tk_X4_open 0 rfl) rfl ?_
  refine am_aload_n (q := 2) rfl (am_tab tk_X4_open 1 rfl) rfl ?_
  refine am_getI (q := 5) (a := 27) (k := 4) (n := 13) (j := 7) (x := q.2.2) (Ls_27 hX.1.1) (by decide) rfl hX.2.2.2.2.2.1 (by decide) (Or.inl kf_X4_84) (am_tab tk_X4_open 2 rfl) rfl ?_
  refine am_bipush (q := 7) (n := 6) (by decide) rfl (am_tab tk_X4_open 3 rfl) rfl ?_
  refine am_icmp_ge (q := 10) (t := 14) (am_tab tk_X4_open 4 rfl) (by decide) rfl (fun h7 => ?_) (fun h7 => ?_)
  · exact absurd h7 (by omega)
  · refine am_iconst (q := 11) (n := 1) (by decide) (am_tab tk_X4_open 5 rfl) rfl ?_
    refine am_goto (t := 15) (am_tab tk_X4_open 6 rfl) (by decide) ?_
    refine am_iconst (q := 16) (n := 4) (by decide) (am_tab tk_X4_open 8 rfl) rfl ?_
    refine am_callVr (q := 19) (me2 := M_X4_pass) (b := 27) (kb := 4) (nb := 13) (As := [am_i 1, am_i 4]) (rest := []) (c_passT hX h6 4) ⟨rfl, rfl⟩ (Ls_27 hX.1.1) (by decide) ⟨Or.inl km_X4_71, kc_X4_pass, kn_X4, kd_X4_pass, ⟨(Nat.le_of_ble_eq_true rfl), (Nat.le_of_ble_eq_true rfl)⟩, ⟨(Nat.le_of_ble_eq_true rfl), (Nat.le_of_ble_eq_true rfl)⟩, (Nat.le_of_ble_eq_true rfl)⟩ ki_X4_pass ks_X4_pass rfl (am_tab tk_X4_open 9 rfl) rfl ?_
    rintro r T1 ⟨rfl, hX1, hG1⟩
    refine am_aload_n (q := 20) rfl (am_tab tk_X4_open 10 rfl) rfl ?_
    refine am_dup (q := 21) rfl (am_tab tk_X4_open 11 rfl) rfl ?_
    refine am_getI (q := 24) (a := 27) (k := 4) (n := 13) (j := 7) (x := q.2.2) (Ls_27 hX1.1.1) (by decide) rfl hX1.2.2.2.2.2.1 (by decide) (Or.inl kf_X4_84) (am_tab tk_X4_open 12 rfl) rfl ?_
    refine am_iconst (q := 25) (n := 1) (by decide) (am_tab tk_X4_open 13 rfl) rfl ?_
    refine am_iadd (q := 26) (by omega) (am_tab tk_X4_open 14 rfl) rfl ?_
    refine am_putI (q := 29) (k := 4) (n := 13) (j := 7) (Ls_27 hX1.1.1) (by decide) rfl (by decide) (Or.inl ⟨kf_X4_84, rfl⟩) (am_tab tk_X4_open 15 rfl) rfl ?_
    refine am_aload_n (q := 30) rfl (am_tab tk_X4_open 16 rfl) rfl ?_
    refine am_getI (q := 33) (a := 27) (k := 4) (n := 13) (j := 8) (x := 0) (Ls_27 hX1.1.1) (by decide) rfl hX1.2.1.2.2.2.2.1 (by decide) (Or.inl kf_X4_62) (am_tab tk_X4_open 17 rfl) rfl ?_
    refine am_if_ne (q := 36) (t := 40) (am_tab tk_X4_open 18 rfl) (by decide) rfl (fun h33 => ?_) (fun h33 => ?_)
    · exact absurd rfl h33
    · refine am_iconst (q := 37) (n := 1) (by decide) (am_tab tk_X4_open 19 rfl) rfl ?_
      refine am_goto (t := 41) (am_tab tk_X4_open 20 rfl) (by decide) ?_
      refine am_iret (Or.inr ⟨rfl, by first | exact Or.inl rfl | exact Or.inr rfl | omega⟩) (Nat.le_of_ble_eq_true rfl) (Nat.le_of_ble_eq_true rfl) (am_tab tk_X4_open 22 rfl) ?_
      refine hQ _ _ ?_
      refine ⟨rfl, ?_, hG1.setN (by unfold W_ps; omega)⟩
      have hF9 : frw W_ps T1 (am_setN T1 27 7 (q.2.2 + 1)) := (frw.refl W_ps T1).setN (by unfold W_ps; omega)
      obtain ⟨h1, h2, h3, h4, h5, h9⟩ := hX1.2
      refine ⟨hX1.1.fr hF9, h1, h2, h3, h4, rfl, ?_⟩
      show 0 ≤ q.2.2 + 1 ∧ q.2.2 + 1 ≤ 6
      omega
theorem c_open0q (b : Nat → Int) (E : Nat) (cv : Nat → Int) (M : Nat) (tk : Int) (q : Nat × List Int × Int) (σ : am_H) (hX : RX b E cv M tk σ (.inl q)) (ho : q.2.2 = 6)   : am_met M_X4_open [am_r 27] σ (fun r σ' => r = some (am_i 0) ∧ RX b E cv M tk σ' (ftS b E 4 (.inl q)) ∧ frw W_ps σ σ') := by
  refine am_qq (fun Q hQ => ?_)
  refine am_enter (show plainFor yX4_open = true by decide +kernel) rfl (Nat.le_of_ble_eq_true rfl) (fun _ _ _ => trivial) ?_
  have h27 := hX.2.2.2.2.2
  refine am_aload_n (q := 1) rfl (am_tab tk_X4_open 0 rfl) rfl ?_
  refine am_aload_n (q := 2) rfl (am_tab tk_X4_open 1 rfl) rfl ?_
  refine am_getI (q := 5) (a := 27) (k := 4) (n := 13) (j := 7) (x := q.2.2) (Ls_27 hX.1.1) (by decide) rfl hX.2.2.2.2.2.1 (by decide) (Or.inl kf_X4_84) (am_tab tk_X4_open 2 rfl) rfl ?_
  refine am_bipush (q := 7) (n := 6) (by decide) rfl (am_tab tk_X4_open 3 rfl) rfl ?_
  refine am_icmp_ge (q := 10) (t := 14) (am_tab tk_X4_open 4 rfl) (by decide) rfl (fun h7 => ?_) (fun h7 => ?_)
  · refine am_iconst (q := 15) (n := 0) (by decide) (am_tab tk_X4_open 7 rfl) rfl ?_
    refine am_iconst (q := 16) (n := 4) (by decide) (am_tab tk_X4_open 8 rfl) rfl ?_
    refine am_callVr (q := 19) (me2 := M_X4_pass) (b := 27) (kb := 4) (nb := 13) (As := [am_i 0, am_i 4]) (rest := []) (c_pass0 b E cv σ hX.1.1 4 q.1 hX.2.1 (by decide)) ⟨rfl, rfl⟩ (Ls_27 hX.1.1) (by decide) ⟨Or.inl km_X4_71, kc_X4_pass, kn_X4, kd_X4_pass, ⟨(Nat.le_of_ble_eq_true rfl), (Nat.le_of_ble_eq_true rfl)⟩, ⟨(Nat.le_of_ble_eq_true rfl), (Nat.le_of_ble_eq_true rfl)⟩, (Nat.le_of_ble_eq_true rfl)⟩ ki_X4_pass ks_X4_pass rfl (am_tab tk_X4_open 9 rfl) rfl ?_
    rintro r T1 ⟨rfl, hZ1, hG1⟩
    refine am_aload_n (q := 20) rfl (am_tab tk_X4_open 10 rfl) rfl ?_
    refine am_dup (q := 21) rfl (am_tab tk_X4_open 11 rfl) rfl ?_
    refine am_getI (q := 24) (a := 27) (k := 4) (n := 13) (j := 7) (x := q.2.2) (Ls_27 (hG1.L hX.1.1)) (by decide) rfl ((hG1.2.2 27 7 (by unfold W_rz; omega)).trans hX.2.2.2.2.2.1) (by decide) (Or.inl kf_X4_84) (am_tab tk_X4_open 12 rfl) rfl ?_
    refine am_iconst (q := 25) (n := 1) (by decide) (am_tab tk_X4_open 13 rfl) rfl ?_
    refine am_iadd (q := 26) (by omega) (am_tab tk_X4_open 14 rfl) rfl ?_
    refine am_putI (q := 29) (k := 4) (n := 13) (j := 7) (Ls_27 (hG1.L hX.1.1)) (by decide) rfl (by decide) (Or.inl ⟨kf_X4_84, rfl⟩) (am_tab tk_X4_open 15 rfl) rfl ?_
    refine am_aload_n (q := 30) rfl (am_tab tk_X4_open 16 rfl) rfl ?_
    refine am_getI (q := 33) (a := 27) (k := 4) (n := 13) (j := 8) (x := 4) (Ls_27 (hG1.L hX.1.1)) (by decide) rfl hZ1.1 (by decide) (Or.inl kf_X4_62) (am_tab tk_X4_open 17 rfl) rfl ?_
    refine am_if_ne (q := 36) (t := 40) (am_tab tk_X4_open 18 rfl) (by decide) rfl (fun h33 => ?_) (fun h33 => ?_)
    · refine am_iconst (q := 41) (n := 0) (by decide) (am_tab tk_X4_open 21 rfl) rfl ?_
      refine am_iret (Or.inr ⟨rfl, by first | exact Or.inl rfl | exact Or.inr rfl | omega⟩) (Nat.le_of_ble_eq_true rfl) (Nat.le_of_ble_eq_true rfl) (am_tab tk_X4_open 22 rfl) ?_
      refine hQ _ _ ?_
      have hF9 : frw W_ps σ (am_setN T1 27 7 (q.2.2 + 1)) := (rz_ps hG1).setN (by unfold W_ps; omega)
      refine ⟨rfl, ⟨hX.1.fr hF9, ⟨hZ1.1, hZ1.2.1, hZ1.2.2.1, hZ1.2.2.2⟩, ?_, ?_, h27.2⟩, hF9⟩
      · show 0 ≤ T1.2.1 28 1 ∧ T1.2.1 28 1 ≤ 1600
        rw [hG1.2.2 28 1 (by unfold W_rz; omega)]
        have h28 := hX.2.2.2.1
        omega
      · show q.2.2 ≤ q.2.2 + 1 ∧ q.2.2 + 1 ≤ q.2.2 + 1
        omega
    · exact absurd h33 (by decide)
  · exact absurd h7 (by omega)
theorem c_open1 {b : Nat → Int} {E : Nat} {cv : Nat → Int} {M : Nat} {tk : Int} {σ : am_H} {s : SX} (hX : RX b E cv M tk σ s) (h6 : ¬ kdS b E s = 6) (ho : oS s < 6) : am_met M_X4_open [am_r 27] σ (fun r σ' => r = some (am_i 1) ∧ RX b E cv M tk σ' (ocS 1 (npS s)) ∧ frw W_ps σ σ') := by
  cases s with
  | inl q => exact c_open1q b E cv M tk q σ hX h6 ho
  | inr q => exact absurd rfl h6
theorem c_open0 {b : Nat → Int} {E : Nat} {cv : Nat → Int} {M : Nat} {tk : Int} {σ : am_H} {s : SX} (hX : RX b E cv M tk σ s) (h6 : ¬ kdS b E s = 6) (ho : oS s = 6) : am_met M_X4_open [am_r 27] σ (fun r σ' => r = some (am_i 0) ∧ RX b E cv M tk σ' (ftS b E 4 s) ∧ frw W_ps σ σ') := by
  cases s with
  | inl q => exact c_open0q b E cv M tk q σ hX ho
  | inr q => exact absurd rfl h6
theorem c_numXi (b : Nat → Int) (E : Nat) (cv : Nat → Int) (M : Nat) (tk : Int) (q : Nat × List Int × Int) (σ : am_H) (hX : RX b E cv M tk σ (.inl q)) (lo : Int) (hi : Int)  : am_met M_X4_readNumber [am_r 27, am_i lo, am_i hi] σ (fun r σ' => ∃ v, r = some (am_i v) ∧ RX b E cv M tk σ' (nuS b E lo hi (.inl q)) ∧ frw W_ps σ σ' ∧ ((nuS b E lo hi (.inl q)).isLeft = true → v = zV b E q.1)) := by
  refine am_qq (fun Q hQ => ?_)
  refine am_enter (show plainFor yX4_readNumber = true by decide +kernel) rfl (Nat.le_of_ble_eq_true rfl) (fun _ _ _ => trivial) ?_
  have hcv := (hX.1.2.2.1 q.1 hX.2.2.1).1
  have hzp := zP_rng b E q.1
  have hE16 := hX.1.2.1.2.1.2
  refine am_aload_n (q := 1) rfl (am_tab tk_X4_readNumber 0 rfl) rfl ?_
  refine am_getI (q := 4) (a := 27) (k := 4) (n := 13) (j := 6) (x := (cv q.1)) (Ls_27 hX.1.1) (by decide) rfl hX.2.1.2.2.2.1 (by decide) (Or.inl kf_X4_104) (am_tab tk_X4_readNumber 1 rfl) rfl ?_
  refine am_istore_n (q := 5) (by decide) (ls2 := [(3, am_i ((cv q.1))), (0, am_r 27), (1, am_i lo), (2, am_i hi)]) rfl (am_tab tk_X4_readNumber 2 rfl) rfl ?_
  refine am_aload_n (q := 6) rfl (am_tab tk_X4_readNumber 3 rfl) rfl ?_
  refine am_getI (q := 9) (a := 27) (k := 4) (n := 13) (j := 4) (x := (zK b E q.1)) (Ls_27 hX.1.1) (by decide) rfl hX.2.1.2.1 (by decide) (Or.inl kf_X4_45) (am_tab tk_X4_readNumber 4 rfl) rfl ?_
  refine am_iconst (q := 10) (n := 1) (by decide) (am_tab tk_X4_readNumber 5 rfl) rfl ?_
  refine am_icmp_eq (q := 13) (t := 41) (am_tab tk_X4_readNumber 6 rfl) (by decide) rfl (fun h10 => ?_) (fun h10 => ?_)
  · have hcz := hcv h10
    refine am_aload_n (q := 42) rfl (am_tab tk_X4_readNumber 23 rfl) rfl ?_
    refine am_iload_n (q := 43) rfl (am_tab tk_X4_readNumber 24 rfl) rfl ?_
    refine am_iload_n (q := 44) rfl (am_tab tk_X4_readNumber 25 rfl) rfl ?_
    refine am_icmp_lt (q := 47) (t := 56) (am_tab tk_X4_readNumber 26 rfl) (by decide) rfl (fun h44 => ?_) (fun h44 => ?_)
    · refine am_iconst (q := 57) (n := 0) (by decide) (am_tab tk_X4_readNumber 32 rfl) rfl ?_
      refine am_iconst (q := 58) (n := 2) (by decide) (am_tab tk_X4_readNumber 33 rfl) rfl ?_
      refine am_callVr (q := 61) (me2 := M_X4_pass) (b := 27) (kb := 4) (nb := 13) (As := [am_i 0, am_i 2]) (rest := []) (c_passF hX 2 (by decide)) ⟨rfl, rfl⟩ (Ls_27 hX.1.1) (by decide) ⟨Or.inl km_X4_71, kc_X4_pass, kn_X4, kd_X4_pass, ⟨(Nat.le_of_ble_eq_true rfl), (Nat.le_of_ble_eq_true rfl)⟩, ⟨(Nat.le_of_ble_eq_true rfl), (Nat.le_of_ble_eq_true rfl)⟩, (Nat.le_of_ble_eq_true rfl)⟩ ki_X4_pass ks_X4_pass rfl (am_tab tk_X4_readNumber 34 rfl) rfl ?_
      rintro r T1 ⟨rfl, hX1, hG1⟩
      refine am_iload_n (q := 62) rfl (am_tab tk_X4_readNumber 35 rfl) rfl ?_
      refine am_iret (Or.inl rfl) (Nat.le_of_ble_eq_true rfl) (Nat.le_of_ble_eq_true rfl) (am_tab tk_X4_readNumber 36 rfl) ?_
      refine hQ _ _ ?_
      have e9 : nuS b E lo hi (.inl q) = .inr ((2, (zP b E q.1 : Int)), q.2.2) := by
        show (if zK b E q.1 = 1 ∧ lo ≤ zV b E q.1 ∧ zV b E q.1 ≤ hi then Sum.inl (q.1 + 1, q.2.1, q.2.2) else Sum.inr ((nfK b E q.1, nfP b E q.1), q.2.2)) = _
        rw [if_neg (fun h => by omega)]
        unfold nfK nfP
        rw [if_pos h10, if_neg (show ¬ zK b E q.1 = 2 by omega)]
      refine ⟨cv q.1, rfl, ?_, hG1, ?_⟩
      · rw [e9]; exact hX1
      · rw [e9]; intro h; exact absurd h (by simp)
    · refine am_iload_n (q := 48) rfl (am_tab tk_X4_readNumber 27 rfl) rfl ?_
      refine am_iload_n (q := 49) rfl (am_tab tk_X4_readNumber 28 rfl) rfl ?_
      refine am_icmp_gt (q := 52) (t := 56) (am_tab tk_X4_readNumber 29 rfl) (by decide) rfl (fun h49 => ?_) (fun h49 => ?_)
      · refine am_iconst (q := 57) (n := 0) (by decide) (am_tab tk_X4_readNumber 32 rfl) rfl ?_
        refine am_iconst (q := 58) (n := 2) (by decide) (am_tab tk_X4_readNumber 33 rfl) rfl ?_
        refine am_callVr (q := 61) (me2 := M_X4_pass) (b := 27) (kb := 4) (nb := 13) (As := [am_i 0, am_i 2]) (rest := []) (c_passF hX 2 (by decide)) ⟨rfl, rfl⟩ (Ls_27 hX.1.1) (by decide) ⟨Or.inl km_X4_71, kc_X4_pass, kn_X4, kd_X4_pass, ⟨(Nat.le_of_ble_eq_true rfl), (Nat.le_of_ble_eq_true rfl)⟩, ⟨(Nat.le_of_ble_eq_true rfl), (Nat.le_of_ble_eq_true rfl)⟩, (Nat.le_of_ble_eq_true rfl)⟩ ki_X4_pass ks_X4_pass rfl (am_tab tk_X4_readNumber 34 rfl) rfl ?_
        rintro r T1 ⟨rfl, hX1, hG1⟩
        refine am_iload_n (q := 62) rfl (am_tab tk_X4_readNumber 35 rfl) rfl ?_
        refine am_iret (Or.inl rfl) (Nat.le_of_ble_eq_true rfl) (Nat.le_of_ble_eq_true rfl) (am_tab tk_X4_readNumber 36 rfl) ?_
        refine hQ _ _ ?_
        have e9 : nuS b E lo hi (.inl q) = .inr ((2, (zP b E q.1 : Int)), q.2.2) := by
          show (if zK b E q.1 = 1 ∧ lo ≤ zV b E q.1 ∧ zV b E q.1 ≤ hi then Sum.inl (q.1 + 1, q.2.1, q.2.2) else Sum.inr ((nfK b E q.1, nfP b E q.1), q.2.2)) = _
          rw [if_neg (fun h => by omega)]
          unfold nfK nfP
          rw [if_pos h10, if_neg (show ¬ zK b E q.1 = 2 by omega)]
        refine ⟨cv q.1, rfl, ?_, hG1, ?_⟩
        · rw [e9]; exact hX1
        · rw [e9]; intro h; exact absurd h (by simp)
      · refine am_iconst (q := 53) (n := 1) (by decide) (am_tab tk_X4_readNumber 30 rfl) rfl ?_
        refine am_goto (t := 57) (am_tab tk_X4_readNumber 31 rfl) (by decide) ?_
        refine am_iconst (q := 58) (n := 2) (by decide) (am_tab tk_X4_readNumber 33 rfl) rfl ?_
        refine am_callVr (q := 61) (me2 := M_X4_pass) (b := 27) (kb := 4) (nb := 13) (As := [am_i 1, am_i 2]) (rest := []) (c_passT hX (show ¬ zK b E q.1 = 6 by omega) 2) ⟨rfl, rfl⟩ (Ls_27 hX.1.1) (by decide) ⟨Or.inl km_X4_71, kc_X4_pass, kn_X4, kd_X4_pass, ⟨(Nat.le_of_ble_eq_true rfl), (Nat.le_of_ble_eq_true rfl)⟩, ⟨(Nat.le_of_ble_eq_true rfl), (Nat.le_of_ble_eq_true rfl)⟩, (Nat.le_of_ble_eq_true rfl)⟩ ki_X4_pass ks_X4_pass rfl (am_tab tk_X4_readNumber 34 rfl) rfl ?_
        rintro r T1 ⟨rfl, hX1, hG1⟩
        refine am_iload_n (q := 62) rfl (am_tab tk_X4_readNumber 35 rfl) rfl ?_
        refine am_iret (Or.inl rfl) (Nat.le_of_ble_eq_true rfl) (Nat.le_of_ble_eq_true rfl) (am_tab tk_X4_readNumber 36 rfl) ?_
        refine hQ _ _ ?_
        have e9 : nuS b E lo hi (.inl q) = .inl (q.1 + 1, q.2.1, q.2.2) := by
          show (if zK b E q.1 = 1 ∧ lo ≤ zV b E q.1 ∧ zV b E q.1 ≤ hi then Sum.inl (q.1 + 1, q.2.1, q.2.2) else Sum.inr ((nfK b E q.1, nfP b E q.1), q.2.2)) = _
          rw [if_pos ⟨h10, by omega, by omega⟩]
        refine ⟨cv q.1, rfl, ?_, hG1, fun _ => hcv h10⟩
        rw [e9]; exact hX1
  · refine am_aload_n (q := 14) rfl (am_tab tk_X4_readNumber 7 rfl) rfl ?_
    refine am_iconst (q := 15) (n := 1) (by decide) (am_tab tk_X4_readNumber 8 rfl) rfl ?_
    refine am_aload_n (q := 16) rfl (am_tab tk_X4_readNumber 9 rfl) rfl ?_
    refine am_getI (q := 19) (a := 27) (k := 4) (n := 13) (j := 4) (x := (zK b E q.1)) (Ls_27 hX.1.1) (by decide) rfl hX.2.1.2.1 (by decide) (Or.inl kf_X4_45) (am_tab tk_X4_readNumber 10 rfl) rfl ?_
    refine am_iconst (q := 20) (n := 2) (by decide) (am_tab tk_X4_readNumber 11 rfl) rfl ?_
    refine am_icmp_ne (q := 23) (t := 32) (am_tab tk_X4_readNumber 12 rfl) (by decide) rfl (fun h20 => ?_) (fun h20 => ?_)
    · refine am_aload_n (q := 33) rfl (am_tab tk_X4_readNumber 18 rfl) rfl ?_
      refine am_getI (q := 36) (a := 27) (k := 4) (n := 13) (j := 5) (x := (zP b E q.1 : Int)) (Ls_27 hX.1.1) (by decide) rfl hX.2.1.2.2.1 (by decide) (Or.inl kf_X4_55) (am_tab tk_X4_readNumber 19 rfl) rfl ?_
      refine am_callVr (q := 39) (me2 := M_X4_fail) (b := 27) (kb := 4) (nb := 13) (As := [am_i 1, am_i ((zP b E q.1 : Int))]) (rest := []) (c_failX hX 1 (zP b E q.1 : Int) (by decide)) ⟨rfl, rfl⟩ (Ls_27 hX.1.1) (by decide) ⟨Or.inl km_X4_58, kc_X4_fail, kn_X4, kd_X4_fail, ⟨(Nat.le_of_ble_eq_true rfl), (Nat.le_of_ble_eq_true rfl)⟩, ⟨(Nat.le_of_ble_eq_true rfl), (Nat.le_of_ble_eq_true rfl)⟩, (Nat.le_of_ble_eq_true rfl)⟩ ki_X4_fail ks_X4_fail rfl (am_tab tk_X4_readNumber 20 rfl) rfl ?_
      rintro r T1 ⟨rfl, hX1, hG1⟩
      refine am_iload_n (q := 40) rfl (am_tab tk_X4_readNumber 21 rfl) rfl ?_
      refine am_iret (Or.inl rfl) (Nat.le_of_ble_eq_true rfl) (Nat.le_of_ble_eq_true rfl) (am_tab tk_X4_readNumber 22 rfl) ?_
      refine hQ _ _ ?_
      have e9 : nuS b E lo hi (.inl q) = .inr ((1, (zP b E q.1 : Int)), q.2.2) := by
        show (if zK b E q.1 = 1 ∧ lo ≤ zV b E q.1 ∧ zV b E q.1 ≤ hi then Sum.inl (q.1 + 1, q.2.1, q.2.2) else Sum.inr ((nfK b E q.1, nfP b E q.1), q.2.2)) = _
        rw [if_neg (fun h => h10 h.1)]
        unfold nfK nfP
        rw [if_neg h10, if_neg h20]
      refine ⟨lo, rfl, ?_, hG1, ?_⟩
      · rw [e9]; exact hX1
      · rw [e9]; intro h; exact absurd h (by simp)
    · refine am_aload_n (q := 24) rfl (am_tab tk_X4_readNumber 13 rfl) rfl ?_
      refine am_getI (q := 27) (a := 27) (k := 4) (n := 13) (j := 5) (x := (zP b E q.1 : Int)) (Ls_27 hX.1.1) (by decide) rfl hX.2.1.2.2.1 (by decide) (Or.inl kf_X4_55) (am_tab tk_X4_readNumber 14 rfl) rfl ?_
      refine am_iconst (q := 28) (n := 4) (by decide) (am_tab tk_X4_readNumber 15 rfl) rfl ?_
      refine am_iadd (q := 29) (by omega) (am_tab tk_X4_readNumber 16 rfl) rfl ?_
      refine am_goto (t := 36) (am_tab tk_X4_readNumber 17 rfl) (by decide) ?_
      refine am_callVr (q := 39) (me2 := M_X4_fail) (b := 27) (kb := 4) (nb := 13) (As := [am_i 1, am_i (((zP b E q.1 : Int) + 4))]) (rest := []) (c_failX hX 1 ((zP b E q.1 : Int) + 4) (by decide)) ⟨rfl, rfl⟩ (Ls_27 hX.1.1) (by decide) ⟨Or.inl km_X4_58, kc_X4_fail, kn_X4, kd_X4_fail, ⟨(Nat.le_of_ble_eq_true rfl), (Nat.le_of_ble_eq_true rfl)⟩, ⟨(Nat.le_of_ble_eq_true rfl), (Nat.le_of_ble_eq_true rfl)⟩, (Nat.le_of_ble_eq_true rfl)⟩ ki_X4_fail ks_X4_fail rfl (am_tab tk_X4_readNumber 20 rfl) rfl ?_
      rintro r T1 ⟨rfl, hX1, hG1⟩
      refine am_iload_n (q := 40) rfl (am_tab tk_X4_readNumber 21 rfl) rfl ?_
      refine am_iret (Or.inl rfl) (Nat.le_of_ble_eq_true rfl) (Nat.le_of_ble_eq_true rfl) (am_tab tk_X4_readNumber 22 rfl) ?_
      refine hQ _ _ ?_
      have e9 : nuS b E lo hi (.inl q) = .inr ((1, (zP b E q.1 : Int) + 4), q.2.2) := by
        show (if zK b E q.1 = 1 ∧ lo ≤ zV b E q.1 ∧ zV b E q.1 ≤ hi then Sum.inl (q.1 + 1, q.2.1, q.2.2) else Sum.inr ((nfK b E q.1, nfP b E q.1), q.2.2)) = _
        rw [if_neg (fun h => h10 h.1)]
        unfold nfK nfP
        rw [if_neg h10, if_pos h20]
      refine ⟨lo, rfl, ?_, hG1, ?_⟩
      · rw [e9]; exact hX1
      · rw [e9]; intro h; exact absurd h (by simp)
theorem c_numXb (b : Nat → Int) (E : Nat) (cv : Nat → Int) (M : Nat) (tk : Int) (q : (Int × Int) × Int) (σ : am_H) (hX : RX b E cv M tk σ (.inr q)) (lo : Int) (hi : Int)  : am_met M_X4_readNumber [am_r 27, am_i lo, am_i hi] σ (fun r σ' => ∃ v, r = some (am_i v) ∧ RX b E cv M tk σ' (.inr q) ∧ frw W_ps σ σ') := by
  refine am_qq (fun Q hQ => ?_)
  refine am_enter (show plainFor yX4_readNumber = true by decide +kernel) rfl (Nat.le_of_ble_eq_true rfl) (fun _ _ _ => trivial) ?_
  refine am_aload_n (q := 1) rfl (am_tab tk_X4_readNumber 0 rfl) rfl ?_
  refine am_getI (q := 4) (a := 27) (k := 4) (n := 13) (j := 6) (x := (σ.2.1 27 6)) (Ls_27 hX.1.1) (by decide) rfl rfl (by decide) (Or.inl kf_X4_104) (am_tab tk_X4_readNumber 1 rfl) rfl ?_
  refine am_istore_n (q := 5) (by decide) (ls2 := [(3, am_i ((σ.2.1 27 6))), (0, am_r 27), (1, am_i lo), (2, am_i hi)]) rfl (am_tab tk_X4_readNumber 2 rfl) rfl ?_
  refine am_aload_n (q := 6) rfl (am_tab tk_X4_readNumber 3 rfl) rfl ?_
  refine am_getI (q := 9) (a := 27) (k := 4) (n := 13) (j := 4) (x := 6) (Ls_27 hX.1.1) (by decide) rfl hX.2.1.2.2.2 (by decide) (Or.inl kf_X4_45) (am_tab tk_X4_readNumber 4 rfl) rfl ?_
  refine am_iconst (q := 10) (n := 1) (by decide) (am_tab tk_X4_readNumber 5 rfl) rfl ?_
  refine am_icmp_eq (q := 13) (t := 41) (am_tab tk_X4_readNumber 6 rfl) (by decide) rfl (fun h10 => ?_) (fun h10 => ?_)
  · exact absurd h10 (by decide)
  · refine am_aload_n (q := 14) rfl (am_tab tk_X4_readNumber 7 rfl) rfl ?_
    refine am_iconst (q := 15) (n := 1) (by decide) (am_tab tk_X4_readNumber 8 rfl) rfl ?_
    refine am_aload_n (q := 16) rfl (am_tab tk_X4_readNumber 9 rfl) rfl ?_
    refine am_getI (q := 19) (a := 27) (k := 4) (n := 13) (j := 4) (x := 6) (Ls_27 hX.1.1) (by decide) rfl hX.2.1.2.2.2 (by decide) (Or.inl kf_X4_45) (am_tab tk_X4_readNumber 10 rfl) rfl ?_
    refine am_iconst (q := 20) (n := 2) (by decide) (am_tab tk_X4_readNumber 11 rfl) rfl ?_
    refine am_icmp_ne (q := 23) (t := 32) (am_tab tk_X4_readNumber 12 rfl) (by decide) rfl (fun h20 => ?_) (fun h20 => ?_)
    · refine am_aload_n (q := 33) rfl (am_tab tk_X4_readNumber 18 rfl) rfl ?_
      refine am_getI (q := 36) (a := 27) (k := 4) (n := 13) (j := 5) (x := (σ.2.1 27 5)) (Ls_27 hX.1.1) (by decide) rfl rfl (by decide) (Or.inl kf_X4_55) (am_tab tk_X4_readNumber 19 rfl) rfl ?_
      refine am_callVr (q := 39) (me2 := M_X4_fail) (b := 27) (kb := 4) (nb := 13) (As := [am_i 1, am_i ((σ.2.1 27 5))]) (rest := []) (c_failX hX 1 (σ.2.1 27 5) (by decide)) ⟨rfl, rfl⟩ (Ls_27 hX.1.1) (by decide) ⟨Or.inl km_X4_58, kc_X4_fail, kn_X4, kd_X4_fail, ⟨(Nat.le_of_ble_eq_true rfl), (Nat.le_of_ble_eq_true rfl)⟩, ⟨(Nat.le_of_ble_eq_true rfl), (Nat.le_of_ble_eq_true rfl)⟩, (Nat.le_of_ble_eq_true rfl)⟩ ki_X4_fail ks_X4_fail rfl (am_tab tk_X4_readNumber 20 rfl) rfl ?_
      rintro r T1 ⟨rfl, hX1, hG1⟩
      refine am_iload_n (q := 40) rfl (am_tab tk_X4_readNumber 21 rfl) rfl ?_
      refine am_iret (Or.inl rfl) (Nat.le_of_ble_eq_true rfl) (Nat.le_of_ble_eq_true rfl) (am_tab tk_X4_readNumber 22 rfl) ?_
      refine hQ _ _ ?_
      exact ⟨lo, rfl, hX1, hG1⟩
    · exact absurd h20 (by decide)
theorem c_numX {b : Nat → Int} {E : Nat} {cv : Nat → Int} {M : Nat} {tk : Int} {σ : am_H} {s : SX} (hX : RX b E cv M tk σ s) (lo hi : Int) : am_met M_X4_readNumber [am_r 27, am_i lo, am_i hi] σ (fun r σ' => ∃ v, r = some (am_i v) ∧ RX b E cv M tk σ' (nuS b E lo hi s) ∧ frw W_ps σ σ' ∧ ((nuS b E lo hi s).isLeft = true → v = vS b E s)) := by
  cases s with
  | inl q => exact c_numXi b E cv M tk q σ hX lo hi
  | inr q => exact am_mono (c_numXb b E cv M tk q σ hX lo hi) (fun r τ h => by
      obtain ⟨v, h1, h2, h3⟩ := h
      exact ⟨v, h1, h2, h3, fun h4 => absurd h4 (by simp [nuS])⟩)
theorem wof_out {tk k : Int} (h : k < 130 ∨ 147 < k) : wof tk k 0 11 = -1 := by
  unfold wof
  rw [if_neg]
  rintro ⟨h1, h2, -⟩
  unfold pwI at h1 h2
  repeat' split at h1
  all_goals omega
theorem c_isSumSign (σ : am_H) (hL : lay σ) (k : Int)  : am_met M_X4_isSumSign [am_i k] σ (fun r σ' => r = some (am_i (if k = 43 ∨ k = 45 ∨ k = 42 ∨ k = 47 then 1 else 0)) ∧ σ' = σ) := by
  refine am_qq (fun Q hQ => ?_)
  refine am_enter (show plainFor yX4_isSumSign = true by decide +kernel) rfl (Nat.le_of_ble_eq_true rfl) (fun _ _ _ => trivial) ?_
  refine am_iload_n (q := 1) rfl (am_tab tk_X4_isSumSign 0 rfl) rfl ?_
  refine am_bipush (q := 3) (n := 43) (by decide) rfl (am_tab tk_X4_isSumSign 1 rfl) rfl ?_
  refine am_icmp_eq (q := 6) (t := 24) (am_tab tk_X4_isSumSign 2 rfl) (by decide) rfl (fun h3 => ?_) (fun h3 => ?_)
  · refine am_iconst (q := 25) (n := 1) (by decide) (am_tab tk_X4_isSumSign 12 rfl) rfl ?_
    refine am_goto (t := 29) (am_tab tk_X4_isSumSign 13 rfl) (by decide) ?_
    refine am_iret (Or.inr ⟨rfl, by first | exact Or.inl rfl | exact Or.inr rfl | omega⟩) (Nat.le_of_ble_eq_true rfl) (Nat.le_of_ble_eq_true rfl) (am_tab tk_X4_isSumSign 15 rfl) ?_
    refine hQ _ _ ?_
    refine ⟨congrArg (fun z => some (am_i z)) ?_, rfl⟩
    first | rw [if_pos (by omega)] | rw [if_neg (by omega)]
  · refine am_iload_n (q := 7) rfl (am_tab tk_X4_isSumSign 3 rfl) rfl ?_
    refine am_bipush (q := 9) (n := 45) (by decide) rfl (am_tab tk_X4_isSumSign 4 rfl) rfl ?_
    refine am_icmp_eq (q := 12) (t := 24) (am_tab tk_X4_isSumSign 5 rfl) (by decide) rfl (fun h9 => ?_) (fun h9 => ?_)
    · refine am_iconst (q := 25) (n := 1) (by decide) (am_tab tk_X4_isSumSign 12 rfl) rfl ?_
      refine am_goto (t := 29) (am_tab tk_X4_isSumSign 13 rfl) (by decide) ?_
      refine am_iret (Or.inr ⟨rfl, by first | exact Or.inl rfl | exact Or.inr rfl | omega⟩) (Nat.le_of_ble_eq_true rfl) (Nat.le_of_ble_eq_true rfl) (am_tab tk_X4_isSumSign 15 rfl) ?_
      refine hQ _ _ ?_
      refine ⟨congrArg (fun z => some (am_i z)) ?_, rfl⟩
      first | rw [if_pos (by omega)] | rw [if_neg (by omega)]
    · refine am_iload_n (q := 13) rfl (am_tab tk_X4_isSumSign 6 rfl) rfl ?_
      refine am_bipush (q := 15) (n := 42) (by decide) rfl (am_tab tk_X4_isSumSign 7 rfl) rfl ?_
      refine am_icmp_eq (q := 18) (t := 24) (am_tab tk_X4_isSumSign 8 rfl) (by decide) rfl (fun h15 => ?_) (fun h15 => ?_)
      · refine am_iconst (q := 25) (n := 1) (by decide) (am_tab tk_X4_isSumSign 12 rfl) rfl ?_
        refine am_goto (t := 29) (am_tab tk_X4_isSumSign 13 rfl) (by decide) ?_
        refine am_iret (Or.inr ⟨rfl, by first | exact Or.inl rfl | exact Or.inr rfl | omega⟩) (Nat.le_of_ble_eq_true rfl) (Nat.le_of_ble_eq_true rfl) (am_tab tk_X4_isSumSign 15 rfl) ?_
        refine hQ _ _ ?_
        refine ⟨congrArg (fun z => some (am_i z)) ?_, rfl⟩
        first | rw [if_pos (by omega)] | rw [if_neg (by omega)]
      · refine am_iload_n (q := 19) rfl (am_tab tk_X4_isSumSign 9 rfl) rfl ?_
        refine am_bipush (q := 21) (n := 47) (by decide) rfl (am_tab tk_X4_isSumSign 10 rfl) rfl ?_
        refine am_icmp_ne (q := 24) (t := 28) (am_tab tk_X4_isSumSign 11 rfl) (by decide) rfl (fun h21 => ?_) (fun h21 => ?_)
        · refine am_iconst (q := 29) (n := 0) (by decide) (am_tab tk_X4_isSumSign 14 rfl) rfl ?_
          refine am_iret (Or.inr ⟨rfl, by first | exact Or.inl rfl | exact Or.inr rfl | omega⟩) (Nat.le_of_ble_eq_true rfl) (Nat.le_of_ble_eq_true rfl) (am_tab tk_X4_isSumSign 15 rfl) ?_
          refine hQ _ _ ?_
          refine ⟨congrArg (fun z => some (am_i z)) ?_, rfl⟩
          first | rw [if_pos (by omega)] | rw [if_neg (by omega)]
        · refine am_iconst (q := 25) (n := 1) (by decide) (am_tab tk_X4_isSumSign 12 rfl) rfl ?_
          refine am_goto (t := 29) (am_tab tk_X4_isSumSign 13 rfl) (by decide) ?_
          refine am_iret (Or.inr ⟨rfl, by first | exact Or.inl rfl | exact Or.inr rfl | omega⟩) (Nat.le_of_ble_eq_true rfl) (Nat.le_of_ble_eq_true rfl) (am_tab tk_X4_isSumSign 15 rfl) ?_
          refine hQ _ _ ?_
          refine ⟨congrArg (fun z => some (am_i z)) ?_, rfl⟩
          first | rw [if_pos (by omega)] | rw [if_neg (by omega)]
theorem c_isPartWord (b : Nat → Int) (E : Nat) (cv : Nat → Int) (M : Nat) (tk : Int) (s : SX) (σ : am_H) (hX : RX b E cv M tk σ s) (k : Int)  : am_met M_X4_isPartWord [am_r 27, am_i k] σ (fun r σ' => r = some (am_i (if wof tk k 0 11 = -1 then 0 else 1)) ∧ σ' = σ) := by
  refine am_qq (fun Q hQ => ?_)
  refine am_enter (show plainFor yX4_isPartWord = true by decide +kernel) rfl (Nat.le_of_ble_eq_true rfl) (fun _ _ _ => trivial) ?_
  have htk := hX.1.2.2.2.1
  refine am_iload_n (q := 1) rfl (am_tab tk_X4_isPartWord 0 rfl) rfl ?_
  rcases (show k = 130 ∨ k = 131 ∨ k = 132 ∨ k = 133 ∨ k = 134 ∨ k = 135 ∨ k = 136 ∨ k = 137 ∨ k = 138 ∨ k = 139 ∨ k = 140 ∨ k = 141 ∨ k = 142 ∨ k = 143 ∨ k = 144 ∨ k = 145 ∨ k = 146 ∨ k = 147 ∨ (k < 130 ∨ 147 < k) by omega) with e1 | e1 | e1 | e1 | e1 | e1 | e1 | e1 | e1 | e1 | e1 | e1 | e1 | e1 | e1 | e1 | e1 | e1 | e1
  · refine am_tableIn (t := 88) (off := 87) (by omega) (by omega) (by rw [e1]; rfl) dsw_X4_isPartWord_1 (by decide) ?_
    refine am_iconst (q := 89) (n := 1) (by decide) (am_tab tk_X4_isPartWord 2 rfl) rfl ?_
    refine am_iret (Or.inr ⟨rfl, by first | exact Or.inl rfl | exact Or.inr rfl | omega⟩) (Nat.le_of_ble_eq_true rfl) (Nat.le_of_ble_eq_true rfl) (am_tab tk_X4_isPartWord 3 rfl) ?_
    refine hQ _ _ ?_
    refine ⟨congrArg (fun z => some (am_i z)) ?_, rfl⟩
    first | (rw [if_pos (wof_out e1)]) | (subst e1; rcases htk with h | h | h <;> subst h <;> first | decide | exact absurd h99 (by decide) | exact absurd h112 (by decide) | exact absurd ((hX.1.2.2.2.2.2 (by decide)).symm.trans h119) (by decide) | exact absurd (hX.1.2.2.2.2.2 (by decide)) h119)
  · refine am_tableIn (t := 128) (off := 127) (by omega) (by omega) (by rw [e1]; rfl) dsw_X4_isPartWord_1 (by decide) ?_
    refine am_iconst (q := 129) (n := 0) (by decide) (am_tab tk_X4_isPartWord 24 rfl) rfl ?_
    refine am_iret (Or.inr ⟨rfl, by first | exact Or.inl rfl | exact Or.inr rfl | omega⟩) (Nat.le_of_ble_eq_true rfl) (Nat.le_of_ble_eq_true rfl) (am_tab tk_X4_isPartWord 25 rfl) ?_
    refine hQ _ _ ?_
    refine ⟨congrArg (fun z => some (am_i z)) ?_, rfl⟩
    first | (rw [if_pos (wof_out e1)]) | (subst e1; rcases htk with h | h | h <;> subst h <;> first | decide | exact absurd h99 (by decide) | exact absurd h112 (by decide) | exact absurd ((hX.1.2.2.2.2.2 (by decide)).symm.trans h119) (by decide) | exact absurd (hX.1.2.2.2.2.2 (by decide)) h119)
  · refine am_tableIn (t := 88) (off := 87) (by omega) (by omega) (by rw [e1]; rfl) dsw_X4_isPartWord_1 (by decide) ?_
    refine am_iconst (q := 89) (n := 1) (by decide) (am_tab tk_X4_isPartWord 2 rfl) rfl ?_
    refine am_iret (Or.inr ⟨rfl, by first | exact Or.inl rfl | exact Or.inr rfl | omega⟩) (Nat.le_of_ble_eq_true rfl) (Nat.le_of_ble_eq_true rfl) (am_tab tk_X4_isPartWord 3 rfl) ?_
    refine hQ _ _ ?_
    refine ⟨congrArg (fun z => some (am_i z)) ?_, rfl⟩
    first | (rw [if_pos (wof_out e1)]) | (subst e1; rcases htk with h | h | h <;> subst h <;> first | decide | exact absurd h99 (by decide) | exact absurd h112 (by decide) | exact absurd ((hX.1.2.2.2.2.2 (by decide)).symm.trans h119) (by decide) | exact absurd (hX.1.2.2.2.2.2 (by decide)) h119)
  · refine am_tableIn (t := 128) (off := 127) (by omega) (by omega) (by rw [e1]; rfl) dsw_X4_isPartWord_1 (by decide) ?_
    refine am_iconst (q := 129) (n := 0) (by decide) (am_tab tk_X4_isPartWord 24 rfl) rfl ?_
    refine am_iret (Or.inr ⟨rfl, by first | exact Or.inl rfl | exact Or.inr rfl | omega⟩) (Nat.le_of_ble_eq_true rfl) (Nat.le_of_ble_eq_true rfl) (am_tab tk_X4_isPartWord 25 rfl) ?_
    refine hQ _ _ ?_
    refine ⟨congrArg (fun z => some (am_i z)) ?_, rfl⟩
    first | (rw [if_pos (wof_out e1)]) | (subst e1; rcases htk with h | h | h <;> subst h <;> first | decide | exact absurd h99 (by decide) | exact absurd h112 (by decide) | exact absurd ((hX.1.2.2.2.2.2 (by decide)).symm.trans h119) (by decide) | exact absurd (hX.1.2.2.2.2.2 (by decide)) h119)
  · refine am_tableIn (t := 128) (off := 127) (by omega) (by omega) (by rw [e1]; rfl) dsw_X4_isPartWord_1 (by decide) ?_
    refine am_iconst (q := 129) (n := 0) (by decide) (am_tab tk_X4_isPartWord 24 rfl) rfl ?_
    refine am_iret (Or.inr ⟨rfl, by first | exact Or.inl rfl | exact Or.inr rfl | omega⟩) (Nat.le_of_ble_eq_true rfl) (Nat.le_of_ble_eq_true rfl) (am_tab tk_X4_isPartWord 25 rfl) ?_
    refine hQ _ _ ?_
    refine ⟨congrArg (fun z => some (am_i z)) ?_, rfl⟩
    first | (rw [if_pos (wof_out e1)]) | (subst e1; rcases htk with h | h | h <;> subst h <;> first | decide | exact absurd h99 (by decide) | exact absurd h112 (by decide) | exact absurd ((hX.1.2.2.2.2.2 (by decide)).symm.trans h119) (by decide) | exact absurd (hX.1.2.2.2.2.2 (by decide)) h119)
  · refine am_tableIn (t := 95) (off := 94) (by omega) (by omega) (by rw [e1]; rfl) dsw_X4_isPartWord_1 (by decide) ?_
    refine am_aload_n (q := 96) rfl (am_tab tk_X4_isPartWord 7 rfl) rfl ?_
    refine am_getI (q := 99) (a := 27) (k := 4) (n := 13) (j := 11) (x := (if tk = 2 then 1 else 0)) (Ls_27 hX.1.1) (by decide) rfl hX.flag (by decide) (Or.inl kf_X4_36) (am_tab tk_X4_isPartWord 8 rfl) rfl ?_
    refine am_if_ne (q := 102) (t := 106) (am_tab tk_X4_isPartWord 9 rfl) (by decide) rfl (fun h99 => ?_) (fun h99 => ?_)
    · replace h99 := b01n h99
      refine am_iconst (q := 107) (n := 0) (by decide) (am_tab tk_X4_isPartWord 12 rfl) rfl ?_
      refine am_iret (Or.inr ⟨rfl, by first | exact Or.inl rfl | exact Or.inr rfl | omega⟩) (Nat.le_of_ble_eq_true rfl) (Nat.le_of_ble_eq_true rfl) (am_tab tk_X4_isPartWord 13 rfl) ?_
      refine hQ _ _ ?_
      refine ⟨congrArg (fun z => some (am_i z)) ?_, rfl⟩
      first | (rw [if_pos (wof_out e1)]) | (subst e1; rcases htk with h | h | h <;> subst h <;> first | decide | exact absurd h99 (by decide) | exact absurd h112 (by decide) | exact absurd ((hX.1.2.2.2.2.2 (by decide)).symm.trans h119) (by decide) | exact absurd (hX.1.2.2.2.2.2 (by decide)) h119)
    · replace h99 := b01z h99
      refine am_iconst (q := 103) (n := 1) (by decide) (am_tab tk_X4_isPartWord 10 rfl) rfl ?_
      refine am_goto (t := 107) (am_tab tk_X4_isPartWord 11 rfl) (by decide) ?_
      refine am_iret (Or.inr ⟨rfl, by first | exact Or.inl rfl | exact Or.inr rfl | omega⟩) (Nat.le_of_ble_eq_true rfl) (Nat.le_of_ble_eq_true rfl) (am_tab tk_X4_isPartWord 13 rfl) ?_
      refine hQ _ _ ?_
      refine ⟨congrArg (fun z => some (am_i z)) ?_, rfl⟩
      first | (rw [if_pos (wof_out e1)]) | (subst e1; rcases htk with h | h | h <;> subst h <;> first | decide | exact absurd h99 (by decide) | exact absurd h112 (by decide) | exact absurd ((hX.1.2.2.2.2.2 (by decide)).symm.trans h119) (by decide) | exact absurd (hX.1.2.2.2.2.2 (by decide)) h119)
  · refine am_tableIn (t := 128) (off := 127) (by omega) (by omega) (by rw [e1]; rfl) dsw_X4_isPartWord_1 (by decide) ?_
    refine am_iconst (q := 129) (n := 0) (by decide) (am_tab tk_X4_isPartWord 24 rfl) rfl ?_
    refine am_iret (Or.inr ⟨rfl, by first | exact Or.inl rfl | exact Or.inr rfl | omega⟩) (Nat.le_of_ble_eq_true rfl) (Nat.le_of_ble_eq_true rfl) (am_tab tk_X4_isPartWord 25 rfl) ?_
    refine hQ _ _ ?_
    refine ⟨congrArg (fun z => some (am_i z)) ?_, rfl⟩
    first | (rw [if_pos (wof_out e1)]) | (subst e1; rcases htk with h | h | h <;> subst h <;> first | decide | exact absurd h99 (by decide) | exact absurd h112 (by decide) | exact absurd ((hX.1.2.2.2.2.2 (by decide)).symm.trans h119) (by decide) | exact absurd (hX.1.2.2.2.2.2 (by decide)) h119)
  · refine am_tableIn (t := 90) (off := 89) (by omega) (by omega) (by rw [e1]; rfl) dsw_X4_isPartWord_1 (by decide) ?_
    refine am_aload_n (q := 91) rfl (am_tab tk_X4_isPartWord 4 rfl) rfl ?_
    refine am_getI (q := 94) (a := 27) (k := 4) (n := 13) (j := 11) (x := (if tk = 2 then 1 else 0)) (Ls_27 hX.1.1) (by decide) rfl hX.flag (by decide) (Or.inl kf_X4_36) (am_tab tk_X4_isPartWord 5 rfl) rfl ?_
    refine am_iret (Or.inr ⟨rfl, by split <;> first | exact Or.inl rfl | exact Or.inr rfl | omega⟩) (Nat.le_of_ble_eq_true rfl) (Nat.le_of_ble_eq_true rfl) (am_tab tk_X4_isPartWord 6 rfl) ?_
    refine hQ _ _ ?_
    refine ⟨congrArg (fun z => some (am_i z)) ?_, rfl⟩
    first | (rw [if_pos (wof_out e1)]) | (subst e1; rcases htk with h | h | h <;> subst h <;> first | decide | exact absurd h99 (by decide) | exact absurd h112 (by decide) | exact absurd ((hX.1.2.2.2.2.2 (by decide)).symm.trans h119) (by decide) | exact absurd (hX.1.2.2.2.2.2 (by decide)) h119)
  · refine am_tableIn (t := 128) (off := 127) (by omega) (by omega) (by rw [e1]; rfl) dsw_X4_isPartWord_1 (by decide) ?_
    refine am_iconst (q := 129) (n := 0) (by decide) (am_tab tk_X4_isPartWord 24 rfl) rfl ?_
    refine am_iret (Or.inr ⟨rfl, by first | exact Or.inl rfl | exact Or.inr rfl | omega⟩) (Nat.le_of_ble_eq_true rfl) (Nat.le_of_ble_eq_true rfl) (am_tab tk_X4_isPartWord 25 rfl) ?_
    refine hQ _ _ ?_
    refine ⟨congrArg (fun z => some (am_i z)) ?_, rfl⟩
    first | (rw [if_pos (wof_out e1)]) | (subst e1; rcases htk with h | h | h <;> subst h <;> first | decide | exact absurd h99 (by decide) | exact absurd h112 (by decide) | exact absurd ((hX.1.2.2.2.2.2 (by decide)).symm.trans h119) (by decide) | exact absurd (hX.1.2.2.2.2.2 (by decide)) h119)
  · refine am_tableIn (t := 128) (off := 127) (by omega) (by omega) (by rw [e1]; rfl) dsw_X4_isPartWord_1 (by decide) ?_
    refine am_iconst (q := 129) (n := 0) (by decide) (am_tab tk_X4_isPartWord 24 rfl) rfl ?_
    refine am_iret (Or.inr ⟨rfl, by first | exact Or.inl rfl | exact Or.inr rfl | omega⟩) (Nat.le_of_ble_eq_true rfl) (Nat.le_of_ble_eq_true rfl) (am_tab tk_X4_isPartWord 25 rfl) ?_
    refine hQ _ _ ?_
    refine ⟨congrArg (fun z => some (am_i z)) ?_, rfl⟩
    first | (rw [if_pos (wof_out e1)]) | (subst e1; rcases htk with h | h | h <;> subst h <;> first | decide | exact absurd h99 (by decide) | exact absurd h112 (by decide) | exact absurd ((hX.1.2.2.2.2.2 (by decide)).symm.trans h119) (by decide) | exact absurd (hX.1.2.2.2.2.2 (by decide)) h119)
  · refine am_tableIn (t := 128) (off := 127) (by omega) (by omega) (by rw [e1]; rfl) dsw_X4_isPartWord_1 (by decide) ?_
    refine am_iconst (q := 129) (n := 0) (by decide) (am_tab tk_X4_isPartWord 24 rfl) rfl ?_
    refine am_iret (Or.inr ⟨rfl, by first | exact Or.inl rfl | exact Or.inr rfl | omega⟩) (Nat.le_of_ble_eq_true rfl) (Nat.le_of_ble_eq_true rfl) (am_tab tk_X4_isPartWord 25 rfl) ?_
    refine hQ _ _ ?_
    refine ⟨congrArg (fun z => some (am_i z)) ?_, rfl⟩
    first | (rw [if_pos (wof_out e1)]) | (subst e1; rcases htk with h | h | h <;> subst h <;> first | decide | exact absurd h99 (by decide) | exact absurd h112 (by decide) | exact absurd ((hX.1.2.2.2.2.2 (by decide)).symm.trans h119) (by decide) | exact absurd (hX.1.2.2.2.2.2 (by decide)) h119)
  · refine am_tableIn (t := 88) (off := 87) (by omega) (by omega) (by rw [e1]; rfl) dsw_X4_isPartWord_1 (by decide) ?_
    refine am_iconst (q := 89) (n := 1) (by decide) (am_tab tk_X4_isPartWord 2 rfl) rfl ?_
    refine am_iret (Or.inr ⟨rfl, by first | exact Or.inl rfl | exact Or.inr rfl | omega⟩) (Nat.le_of_ble_eq_true rfl) (Nat.le_of_ble_eq_true rfl) (am_tab tk_X4_isPartWord 3 rfl) ?_
    refine hQ _ _ ?_
    refine ⟨congrArg (fun z => some (am_i z)) ?_, rfl⟩
    first | (rw [if_pos (wof_out e1)]) | (subst e1; rcases htk with h | h | h <;> subst h <;> first | decide | exact absurd h99 (by decide) | exact absurd h112 (by decide) | exact absurd ((hX.1.2.2.2.2.2 (by decide)).symm.trans h119) (by decide) | exact absurd (hX.1.2.2.2.2.2 (by decide)) h119)
  · refine am_tableIn (t := 95) (off := 94) (by omega) (by omega) (by rw [e1]; rfl) dsw_X4_isPartWord_1 (by decide) ?_
    refine am_aload_n (q := 96) rfl (am_tab tk_X4_isPartWord 7 rfl) rfl ?_
    refine am_getI (q := 99) (a := 27) (k := 4) (n := 13) (j := 11) (x := (if tk = 2 then 1 else 0)) (Ls_27 hX.1.1) (by decide) rfl hX.flag (by decide) (Or.inl kf_X4_36) (am_tab tk_X4_isPartWord 8 rfl) rfl ?_
    refine am_if_ne (q := 102) (t := 106) (am_tab tk_X4_isPartWord 9 rfl) (by decide) rfl (fun h99 => ?_) (fun h99 => ?_)
    · replace h99 := b01n h99
      refine am_iconst (q := 107) (n := 0) (by decide) (am_tab tk_X4_isPartWord 12 rfl) rfl ?_
      refine am_iret (Or.inr ⟨rfl, by first | exact Or.inl rfl | exact Or.inr rfl | omega⟩) (Nat.le_of_ble_eq_true rfl) (Nat.le_of_ble_eq_true rfl) (am_tab tk_X4_isPartWord 13 rfl) ?_
      refine hQ _ _ ?_
      refine ⟨congrArg (fun z => some (am_i z)) ?_, rfl⟩
      first | (rw [if_pos (wof_out e1)]) | (subst e1; rcases htk with h | h | h <;> subst h <;> first | decide | exact absurd h99 (by decide) | exact absurd h112 (by decide) | exact absurd ((hX.1.2.2.2.2.2 (by decide)).symm.trans h119) (by decide) | exact absurd (hX.1.2.2.2.2.2 (by decide)) h119)
    · replace h99 := b01z h99
      refine am_iconst (q := 103) (n := 1) (by decide) (am_tab tk_X4_isPartWord 10 rfl) rfl ?_
      refine am_goto (t := 107) (am_tab tk_X4_isPartWord 11 rfl) (by decide) ?_
      refine am_iret (Or.inr ⟨rfl, by first | exact Or.inl rfl | exact Or.inr rfl | omega⟩) (Nat.le_of_ble_eq_true rfl) (Nat.le_of_ble_eq_true rfl) (am_tab tk_X4_isPartWord 13 rfl) ?_
      refine hQ _ _ ?_
      refine ⟨congrArg (fun z => some (am_i z)) ?_, rfl⟩
      first | (rw [if_pos (wof_out e1)]) | (subst e1; rcases htk with h | h | h <;> subst h <;> first | decide | exact absurd h99 (by decide) | exact absurd h112 (by decide) | exact absurd ((hX.1.2.2.2.2.2 (by decide)).symm.trans h119) (by decide) | exact absurd (hX.1.2.2.2.2.2 (by decide)) h119)
  · refine am_tableIn (t := 88) (off := 87) (by omega) (by omega) (by rw [e1]; rfl) dsw_X4_isPartWord_1 (by decide) ?_
    refine am_iconst (q := 89) (n := 1) (by decide) (am_tab tk_X4_isPartWord 2 rfl) rfl ?_
    refine am_iret (Or.inr ⟨rfl, by first | exact Or.inl rfl | exact Or.inr rfl | omega⟩) (Nat.le_of_ble_eq_true rfl) (Nat.le_of_ble_eq_true rfl) (am_tab tk_X4_isPartWord 3 rfl) ?_
    refine hQ _ _ ?_
    refine ⟨congrArg (fun z => some (am_i z)) ?_, rfl⟩
    first | (rw [if_pos (wof_out e1)]) | (subst e1; rcases htk with h | h | h <;> subst h <;> first | decide | exact absurd h99 (by decide) | exact absurd h112 (by decide) | exact absurd ((hX.1.2.2.2.2.2 (by decide)).symm.trans h119) (by decide) | exact absurd (hX.1.2.2.2.2.2 (by decide)) h119)
  · refine am_tableIn (t := 88) (off := 87) (by omega) (by omega) (by rw [e1]; rfl) dsw_X4_isPartWord_1 (by decide) ?_
    refine am_iconst (q := 89) (n := 1) (by decide) (am_tab tk_X4_isPartWord 2 rfl) rfl ?_
    refine am_iret (Or.inr ⟨rfl, by first | exact Or.inl rfl | exact Or.inr rfl | omega⟩) (Nat.le_of_ble_eq_true rfl) (Nat.le_of_ble_eq_true rfl) (am_tab tk_X4_isPartWord 3 rfl) ?_
    refine hQ _ _ ?_
    refine ⟨congrArg (fun z => some (am_i z)) ?_, rfl⟩
    first | (rw [if_pos (wof_out e1)]) | (subst e1; rcases htk with h | h | h <;> subst h <;> first | decide | exact absurd h99 (by decide) | exact absurd h112 (by decide) | exact absurd ((hX.1.2.2.2.2.2 (by decide)).symm.trans h119) (by decide) | exact absurd (hX.1.2.2.2.2.2 (by decide)) h119)
  · refine am_tableIn (t := 108) (off := 107) (by omega) (by omega) (by rw [e1]; rfl) dsw_X4_isPartWord_1 (by decide) ?_
    refine am_aload_n (q := 109) rfl (am_tab tk_X4_isPartWord 14 rfl) rfl ?_
    refine am_getI (q := 112) (a := 27) (k := 4) (n := 13) (j := 11) (x := (if tk = 2 then 1 else 0)) (Ls_27 hX.1.1) (by decide) rfl hX.flag (by decide) (Or.inl kf_X4_36) (am_tab tk_X4_isPartWord 15 rfl) rfl ?_
    refine am_if_ne (q := 115) (t := 126) (am_tab tk_X4_isPartWord 16 rfl) (by decide) rfl (fun h112 => ?_) (fun h112 => ?_)
    · replace h112 := b01n h112
      refine am_iconst (q := 127) (n := 0) (by decide) (am_tab tk_X4_isPartWord 22 rfl) rfl ?_
      refine am_iret (Or.inr ⟨rfl, by first | exact Or.inl rfl | exact Or.inr rfl | omega⟩) (Nat.le_of_ble_eq_true rfl) (Nat.le_of_ble_eq_true rfl) (am_tab tk_X4_isPartWord 23 rfl) ?_
      refine hQ _ _ ?_
      refine ⟨congrArg (fun z => some (am_i z)) ?_, rfl⟩
      first | (rw [if_pos (wof_out e1)]) | (subst e1; rcases htk with h | h | h <;> subst h <;> first | decide | exact absurd h99 (by decide) | exact absurd h112 (by decide) | exact absurd ((hX.1.2.2.2.2.2 (by decide)).symm.trans h119) (by decide) | exact absurd (hX.1.2.2.2.2.2 (by decide)) h119)
    · replace h112 := b01z h112
      refine am_aload_n (q := 116) rfl (am_tab tk_X4_isPartWord 17 rfl) rfl ?_
      refine am_getI (q := 119) (a := 27) (k := 4) (n := 13) (j := 12) (x := (σ.2.1 27 12)) (Ls_27 hX.1.1) (by decide) rfl rfl (by decide) (Or.inl kf_X4_130) (am_tab tk_X4_isPartWord 18 rfl) rfl ?_
      refine am_if_eq (q := 122) (t := 126) (am_tab tk_X4_isPartWord 19 rfl) (by decide) rfl (fun h119 => ?_) (fun h119 => ?_)
      · refine am_iconst (q := 127) (n := 0) (by decide) (am_tab tk_X4_isPartWord 22 rfl) rfl ?_
        refine am_iret (Or.inr ⟨rfl, by first | exact Or.inl rfl | exact Or.inr rfl | omega⟩) (Nat.le_of_ble_eq_true rfl) (Nat.le_of_ble_eq_true rfl) (am_tab tk_X4_isPartWord 23 rfl) ?_
        refine hQ _ _ ?_
        refine ⟨congrArg (fun z => some (am_i z)) ?_, rfl⟩
        first | (rw [if_pos (wof_out e1)]) | (subst e1; rcases htk with h | h | h <;> subst h <;> first | decide | exact absurd h99 (by decide) | exact absurd h112 (by decide) | exact absurd ((hX.1.2.2.2.2.2 (by decide)).symm.trans h119) (by decide) | exact absurd (hX.1.2.2.2.2.2 (by decide)) h119)
      · refine am_iconst (q := 123) (n := 1) (by decide) (am_tab tk_X4_isPartWord 20 rfl) rfl ?_
        refine am_goto (t := 127) (am_tab tk_X4_isPartWord 21 rfl) (by decide) ?_
        refine am_iret (Or.inr ⟨rfl, by first | exact Or.inl rfl | exact Or.inr rfl | omega⟩) (Nat.le_of_ble_eq_true rfl) (Nat.le_of_ble_eq_true rfl) (am_tab tk_X4_isPartWord 23 rfl) ?_
        refine hQ _ _ ?_
        refine ⟨congrArg (fun z => some (am_i z)) ?_, rfl⟩
        first | (rw [if_pos (wof_out e1)]) | (subst e1; rcases htk with h | h | h <;> subst h <;> first | decide | exact absurd h99 (by decide) | exact absurd h112 (by decide) | exact absurd ((hX.1.2.2.2.2.2 (by decide)).symm.trans h119) (by decide) | exact absurd (hX.1.2.2.2.2.2 (by decide)) h119)
  · refine am_tableIn (t := 90) (off := 89) (by omega) (by omega) (by rw [e1]; rfl) dsw_X4_isPartWord_1 (by decide) ?_
    refine am_aload_n (q := 91) rfl (am_tab tk_X4_isPartWord 4 rfl) rfl ?_
    refine am_getI (q := 94) (a := 27) (k := 4) (n := 13) (j := 11) (x := (if tk = 2 then 1 else 0)) (Ls_27 hX.1.1) (by decide) rfl hX.flag (by decide) (Or.inl kf_X4_36) (am_tab tk_X4_isPartWord 5 rfl) rfl ?_
    refine am_iret (Or.inr ⟨rfl, by split <;> first | exact Or.inl rfl | exact Or.inr rfl | omega⟩) (Nat.le_of_ble_eq_true rfl) (Nat.le_of_ble_eq_true rfl) (am_tab tk_X4_isPartWord 6 rfl) ?_
    refine hQ _ _ ?_
    refine ⟨congrArg (fun z => some (am_i z)) ?_, rfl⟩
    first | (rw [if_pos (wof_out e1)]) | (subst e1; rcases htk with h | h | h <;> subst h <;> first | decide | exact absurd h99 (by decide) | exact absurd h112 (by decide) | exact absurd ((hX.1.2.2.2.2.2 (by decide)).symm.trans h119) (by decide) | exact absurd (hX.1.2.2.2.2.2 (by decide)) h119)
  · refine am_tableIn (t := 90) (off := 89) (by omega) (by omega) (by rw [e1]; rfl) dsw_X4_isPartWord_1 (by decide) ?_
    refine am_aload_n (q := 91) rfl (am_tab tk_X4_isPartWord 4 rfl) rfl ?_
    refine am_getI (q := 94) (a := 27) (k := 4) (n := 13) (j := 11) (x := (if tk = 2 then 1 else 0)) (Ls_27 hX.1.1) (by decide) rfl hX.flag (by decide) (Or.inl kf_X4_36) (am_tab tk_X4_isPartWord 5 rfl) rfl ?_
    refine am_iret (Or.inr ⟨rfl, by split <;> first | exact Or.inl rfl | exact Or.inr rfl | omega⟩) (Nat.le_of_ble_eq_true rfl) (Nat.le_of_ble_eq_true rfl) (am_tab tk_X4_isPartWord 6 rfl) ?_
    refine hQ _ _ ?_
    refine ⟨congrArg (fun z => some (am_i z)) ?_, rfl⟩
    first | (rw [if_pos (wof_out e1)]) | (subst e1; rcases htk with h | h | h <;> subst h <;> first | decide | exact absurd h99 (by decide) | exact absurd h112 (by decide) | exact absurd ((hX.1.2.2.2.2.2 (by decide)).symm.trans h119) (by decide) | exact absurd (hX.1.2.2.2.2.2 (by decide)) h119)
  · refine am_tableOut (t := 128) e1 dsw_X4_isPartWord_1 (by decide) ?_
    refine am_iconst (q := 129) (n := 0) (by decide) (am_tab tk_X4_isPartWord 24 rfl) rfl ?_
    refine am_iret (Or.inr ⟨rfl, by first | exact Or.inl rfl | exact Or.inr rfl | omega⟩) (Nat.le_of_ble_eq_true rfl) (Nat.le_of_ble_eq_true rfl) (am_tab tk_X4_isPartWord 25 rfl) ?_
    refine hQ _ _ ?_
    refine ⟨congrArg (fun z => some (am_i z)) ?_, rfl⟩
    first | (rw [if_pos (wof_out e1)]) | (subst e1; rcases htk with h | h | h <;> subst h <;> first | decide | exact absurd h99 (by decide) | exact absurd h112 (by decide) | exact absurd ((hX.1.2.2.2.2.2 (by decide)).symm.trans h119) (by decide) | exact absurd (hX.1.2.2.2.2.2 (by decide)) h119)
