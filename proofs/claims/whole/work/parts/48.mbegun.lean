theorem hgM_cn (σ : am_H) : hgM (cn σ) = hgM σ := by
  unfold hgM
  rw [thD_cn]
  have e : hgB (cn σ) = hgB σ := by
    funext p
    unfold hgB
    rw [show wtD (cn σ) p = wtD σ p from rfl, show tsD (cn σ) = tsD σ from rfl, selE_eq (bgS_cn σ), rmE_eq (bgS_cn σ)]
    rfl
  rw [e]
  rfl
theorem hgM_eq {σ τ : am_H} (h : cn τ = cn σ) : hgM τ = hgM σ := by rw [← hgM_cn τ, h, hgM_cn]
theorem c_hang (σ : am_H) (hG : GD σ) (n : Nat) (hn : (n : Int) + 1 ≤ dlM σ) (S : am_H) (hD : DS σ n S) : am_met M_X10_hangsNext [am_r 55] S (fun r τ => r = some (am_i (hgM (itS n σ))) ∧ DS σ (n + 1) τ ∧ LD σ n τ) := by
  have hc0 := itS_cc hG hn
  have hc : cc S := by
    unfold cc at *
    rw [cn_at hD.2.1 85 9 (by decide) (by decide), cn_at hD.2.1 96 0 (by decide) (by decide), cn_at hD.2.1 96 1 (by decide) (by decide)]
    exact hc0
  refine am_mono (c_X10_hangsNext S hD.2.2.1 hc) (fun r τ h => ?_)
  obtain ⟨rfl, hF, h96, h60, h61, h62, h59⟩ := h
  have hcn : cn τ = cn (dyS S) := cn_eq (fun a j h1 h2 => by
    show _ = (if a = 96 then nwD S j else S.2.1 a j)
    by_cases ha : a = 96
    · subst ha; rw [if_pos rfl]; exact h96 j
    · rw [if_neg ha]; exact hF.2.2 a j (by unfold W_hg; omega))
  refine ⟨by rw [hgM_eq hD.2.1], ⟨?_, ?_, ?_, ?_⟩, ?_, ?_, ?_⟩
  · exact hD.1.trans (hF.mono (by unfold W_hg W_ah; omega))
  · rw [hcn]; exact dyS_eq hD.2.1
  · refine GD_now (f := nwD S) hD.2.2.1 (hF.L hD.2.2.1.L) hcn (hF.2.2 55 52 (by unfold W_hg; omega)) (nwD_MN hD.2.2.1.R hc) h59 ?_
    rw [h61]; exact thD_rng hD.2.2.1 hc
  · intro k hk
    rw [hF.2.2 97 k (by unfold W_hg; omega)]; exact hD.2.2.2 k hk
  · rw [h60]; exact sfD_eq hD.2.1
  · rw [h61]; exact thD_eq hD.2.1
  · rw [h62]; exact fsD_eq hD.2.1
def hanM (σ : am_H) (n : Int) : Int := if (1 ≤ n ∧ n ≤ 120) ∧ n ≤ dlM σ then hgM (itS (n.toNat - 1) σ) else -1
def surB (σ : am_H) (k : Nat) : Int := if hgM (itS k σ) = 0 ∧ ¬ thD (itS k σ) = 0 then 1 else 0
def surM (σ : am_H) (n : Int) : Int := if (1 ≤ n ∧ n ≤ 120) ∧ n ≤ dlM σ then sumN (surB σ) n.toNat else -1
theorem surB_01 (σ : am_H) (k : Nat) : 0 ≤ surB σ k ∧ surB σ k ≤ 1 := if01
theorem c_X10_hangs (σ : am_H) (hG : GD σ) (n : Int)  : am_met M_X10_hangs [am_r 55, am_i n] σ (fun r σ' => r = some (am_i (hanM σ n)) ∧ PQ σ σ') := by
  refine am_qq (fun Q hQ => ?_)
  refine am_enter (show plainFor yX10_hangs = true by decide +kernel) rfl (Nat.le_of_ble_eq_true rfl) (fun _ _ _ => trivial) ?_
  have hL := hG.L
  have hD90 : 0 ≤ σ.2.1 96 1 ∧ σ.2.1 96 1 ≤ 90 := ⟨hG.R.day.1, by have := hG.R.day; have := hG.R.Y; omega⟩
  refine am_aload_n (q := 1) rfl (am_tab tk_X10_hangs 0 rfl) rfl ?_
  refine am_iload_n (q := 2) rfl (am_tab tk_X10_hangs 1 rfl) rfl ?_
  refine am_callV0 (q := 5) (me2 := M_X10_isAhead) (b := 55) (kb := 10) (nb := 108) (As := [am_i n]) (rest := []) (out := [am_i (if (1 ≤ n ∧ n ≤ 120) ∧ n ≤ dlM σ then 1 else 0)]) (c_X10_isAhead σ hG.L n hG.R.year hD90 hG.R.Y) ⟨rfl, rfl⟩ (Ls_55 hL) (by decide) ⟨Or.inl km_X10_509, kc_X10_isAhead, kn_X10, kd_X10_isAhead, ⟨(Nat.le_of_ble_eq_true rfl), (Nat.le_of_ble_eq_true rfl)⟩, ⟨(Nat.le_of_ble_eq_true rfl), (Nat.le_of_ble_eq_true rfl)⟩, (Nat.le_of_ble_eq_true rfl)⟩ ki_X10_isAhead ks_X10_isAhead rfl rfl (am_tab tk_X10_hangs 2 rfl) rfl ?_
  refine am_if_ne (q := 8) (t := 10) (am_tab tk_X10_hangs 3 rfl) (by decide) rfl (fun h5 => ?_) (fun h5 => ?_)
  · replace h5 := b01n h5
    refine am_aload_n (q := 11) rfl (am_tab tk_X10_hangs 6 rfl) rfl ?_
    refine am_callVr (q := 14) (me2 := M_X10_putsAside) (b := 55) (kb := 10) (nb := 108) (As := []) (rest := []) (c_aside σ hG) ⟨rfl, rfl⟩ (Ls_55 hL) (by decide) ⟨Or.inl km_X10_514, kc_X10_putsAside, kn_X10, kd_X10_putsAside, ⟨(Nat.le_of_ble_eq_true rfl), (Nat.le_of_ble_eq_true rfl)⟩, ⟨(Nat.le_of_ble_eq_true rfl), (Nat.le_of_ble_eq_true rfl)⟩, (Nat.le_of_ble_eq_true rfl)⟩ ki_X10_putsAside ks_X10_putsAside rfl (am_tab tk_X10_hangs 7 rfl) rfl ?_
    rintro r S0 ⟨rfl, hD0⟩
    refine am_st (st2 := []) rfl ?_
    refine am_aload_n (q := 15) rfl (am_tab tk_X10_hangs 8 rfl) rfl ?_
    refine am_iload_n (q := 16) rfl (am_tab tk_X10_hangs 9 rfl) rfl ?_
    refine am_iconst (q := 17) (n := 1) (by decide) (am_tab tk_X10_hangs 10 rfl) rfl ?_
    refine am_isub (q := 18) (by omega) (am_tab tk_X10_hangs 11 rfl) rfl ?_
    refine am_callVr (q := 21) (me2 := M_X10_daysGo) (b := 55) (kb := 10) (nb := 108) (As := [am_i ((n - 1))]) (rest := []) (c_X10_daysGo σ hG S0 hD0 (n - 1) (n.toNat - 1) (by omega) (by omega) (by omega)) ⟨rfl, rfl⟩ (Ls_55 hD0.2.2.1.L) (by decide) ⟨Or.inl km_X10_517, kc_X10_daysGo, kn_X10, kd_X10_daysGo, ⟨(Nat.le_of_ble_eq_true rfl), (Nat.le_of_ble_eq_true rfl)⟩, ⟨(Nat.le_of_ble_eq_true rfl), (Nat.le_of_ble_eq_true rfl)⟩, (Nat.le_of_ble_eq_true rfl)⟩ ki_X10_daysGo ks_X10_daysGo rfl (am_tab tk_X10_hangs 12 rfl) rfl ?_
    rintro r S1 ⟨rfl, hD1, hLD1⟩
    refine am_st (st2 := []) rfl ?_
    refine am_aload_n (q := 22) rfl (am_tab tk_X10_hangs 13 rfl) rfl ?_
    refine am_callVr (q := 25) (me2 := M_X10_hangsNext) (b := 55) (kb := 10) (nb := 108) (As := []) (rest := []) (c_hang σ hG (n.toNat - 1) (by omega) S1 hD1) ⟨rfl, rfl⟩ (Ls_55 hD1.2.2.1.L) (by decide) ⟨Or.inl km_X10_523, kc_X10_hangsNext, kn_X10, kd_X10_hangsNext, ⟨(Nat.le_of_ble_eq_true rfl), (Nat.le_of_ble_eq_true rfl)⟩, ⟨(Nat.le_of_ble_eq_true rfl), (Nat.le_of_ble_eq_true rfl)⟩, (Nat.le_of_ble_eq_true rfl)⟩ ki_X10_hangsNext ks_X10_hangsNext rfl (am_tab tk_X10_hangs 14 rfl) rfl ?_
    rintro r S2 ⟨rfl, hD2, hLD2⟩
    refine am_st (st2 := [am_i (hgM (itS (n.toNat - 1) σ))]) rfl ?_
    refine am_istore_n (q := 26) (by decide) (ls2 := [(2, am_i (hgM (itS (n.toNat - 1) σ))), (0, am_r 55), (1, am_i n)]) rfl (am_tab tk_X10_hangs 15 rfl) rfl ?_
    refine am_aload_n (q := 27) rfl (am_tab tk_X10_hangs 16 rfl) rfl ?_
    refine am_callVr (q := 30) (me2 := M_X10_takesBack) (b := 55) (kb := 10) (nb := 108) (As := []) (rest := []) (c_back σ hG (n.toNat - 1 + 1) (by omega) S2 hD2) ⟨rfl, rfl⟩ (Ls_55 hD2.2.2.1.L) (by decide) ⟨Or.inl km_X10_520, kc_X10_takesBack, kn_X10, kd_X10_takesBack, ⟨(Nat.le_of_ble_eq_true rfl), (Nat.le_of_ble_eq_true rfl)⟩, ⟨(Nat.le_of_ble_eq_true rfl), (Nat.le_of_ble_eq_true rfl)⟩, (Nat.le_of_ble_eq_true rfl)⟩ ki_X10_takesBack ks_X10_takesBack rfl (am_tab tk_X10_hangs 17 rfl) rfl ?_
    rintro r S9 ⟨rfl, hP9⟩
    refine am_st (st2 := []) rfl ?_
    refine am_iload_n (q := 31) rfl (am_tab tk_X10_hangs 18 rfl) rfl ?_
    refine am_iret (Or.inl rfl) (Nat.le_of_ble_eq_true rfl) (Nat.le_of_ble_eq_true rfl) (am_tab tk_X10_hangs 19 rfl) ?_
    refine hQ _ _ ?_
    refine ⟨congrArg (fun z => some (am_i z)) ?_, hP9⟩
    unfold hanM
    rw [if_pos (by omega)]
  · replace h5 := b01z h5
    refine am_iconst (q := 9) (n := (-1)) (by decide) (am_tab tk_X10_hangs 4 rfl) rfl ?_
    refine am_iret (Or.inl rfl) (Nat.le_of_ble_eq_true rfl) (Nat.le_of_ble_eq_true rfl) (am_tab tk_X10_hangs 5 rfl) ?_
    refine hQ _ _ ?_
    refine ⟨congrArg (fun z => some (am_i z)) ?_, PQ.refl hG⟩
    unfold hanM
    rw [if_neg (by omega)]
theorem c_X10_sure (σ : am_H) (hG : GD σ) (n : Int)  : am_met M_X10_sure [am_r 55, am_i n] σ (fun r σ' => r = some (am_i (surM σ n)) ∧ PQ σ σ') := by
  refine am_qq (fun Q hQ => ?_)
  refine am_enter (show plainFor yX10_sure = true by decide +kernel) rfl (Nat.le_of_ble_eq_true rfl) (fun _ _ _ => trivial) ?_
  have hL := hG.L
  have hD90 : 0 ≤ σ.2.1 96 1 ∧ σ.2.1 96 1 ≤ 90 := ⟨hG.R.day.1, by have := hG.R.day; have := hG.R.Y; omega⟩
  refine am_aload_n (q := 1) rfl (am_tab tk_X10_sure 0 rfl) rfl ?_
  refine am_iload_n (q := 2) rfl (am_tab tk_X10_sure 1 rfl) rfl ?_
  refine am_callV0 (q := 5) (me2 := M_X10_isAhead) (b := 55) (kb := 10) (nb := 108) (As := [am_i n]) (rest := []) (out := [am_i (if (1 ≤ n ∧ n ≤ 120) ∧ n ≤ dlM σ then 1 else 0)]) (c_X10_isAhead σ hG.L n hG.R.year hD90 hG.R.Y) ⟨rfl, rfl⟩ (Ls_55 hL) (by decide) ⟨Or.inl km_X10_509, kc_X10_isAhead, kn_X10, kd_X10_isAhead, ⟨(Nat.le_of_ble_eq_true rfl), (Nat.le_of_ble_eq_true rfl)⟩, ⟨(Nat.le_of_ble_eq_true rfl), (Nat.le_of_ble_eq_true rfl)⟩, (Nat.le_of_ble_eq_true rfl)⟩ ki_X10_isAhead ks_X10_isAhead rfl rfl (am_tab tk_X10_sure 2 rfl) rfl ?_
  refine am_if_ne (q := 8) (t := 10) (am_tab tk_X10_sure 3 rfl) (by decide) rfl (fun h5 => ?_) (fun h5 => ?_)
  · replace h5 := b01n h5
    refine am_iconst (q := 11) (n := 0) (by decide) (am_tab tk_X10_sure 6 rfl) rfl ?_
    refine am_istore_n (q := 12) (by decide) (ls2 := [(2, am_i 0), (0, am_r 55), (1, am_i n)]) rfl (am_tab tk_X10_sure 7 rfl) rfl ?_
    refine am_aload_n (q := 13) rfl (am_tab tk_X10_sure 8 rfl) rfl ?_
    refine am_callVr (q := 16) (me2 := M_X10_putsAside) (b := 55) (kb := 10) (nb := 108) (As := []) (rest := []) (c_aside σ hG) ⟨rfl, rfl⟩ (Ls_55 hL) (by decide) ⟨Or.inl km_X10_514, kc_X10_putsAside, kn_X10, kd_X10_putsAside, ⟨(Nat.le_of_ble_eq_true rfl), (Nat.le_of_ble_eq_true rfl)⟩, ⟨(Nat.le_of_ble_eq_true rfl), (Nat.le_of_ble_eq_true rfl)⟩, (Nat.le_of_ble_eq_true rfl)⟩ ki_X10_putsAside ks_X10_putsAside rfl (am_tab tk_X10_sure 9 rfl) rfl ?_
    rintro r S0 ⟨rfl, hD0⟩
    refine am_st (st2 := []) rfl ?_
    refine am_iconst (q := 17) (n := 0) (by decide) (am_tab tk_X10_sure 10 rfl) rfl ?_
    refine am_istore_n (q := 18) (by decide) (ls2 := [(3, am_i 0), (2, am_i 0), (0, am_r 55), (1, am_i n)]) rfl (am_tab tk_X10_sure 11 rfl) rfl ?_
    have L18 : ∀ (n18 : Nat) (i : Nat) (S : am_H), n.toNat - i < n18 → (i : Int) ≤ n → DS σ i S → am_wp M_X10_sure Q 0 0 18 [(3, am_i ((i : Int))), (2, am_i (sumN (surB σ) i)), (0, am_r 55), (1, am_i n)] [] S := by
      intro n18
      induction n18 with
      | zero => intro i S hn18; exact absurd hn18 (Nat.not_lt_zero _)
      | succ n18 ih18 =>
        intro i S hn18 hi hD
        have hsr := sumN_rng (g := surB σ) (B := 1) i (fun k _ => surB_01 σ k)
        refine am_iload_n (q := 19) rfl (am_tab tk_X10_sure 12 rfl) rfl ?_
        refine am_iload_n (q := 20) rfl (am_tab tk_X10_sure 13 rfl) rfl ?_
        refine am_icmp_ge (q := 23) (t := 46) (am_tab tk_X10_sure 14 rfl) (by decide) rfl (fun h20 => ?_) (fun h20 => ?_)
        · refine am_aload_n (q := 47) rfl (am_tab tk_X10_sure 24 rfl) rfl ?_
          refine am_callVr (q := 50) (me2 := M_X10_takesBack) (b := 55) (kb := 10) (nb := 108) (As := []) (rest := []) (c_back σ hG (i) (by omega) S hD) ⟨rfl, rfl⟩ (Ls_55 hD.2.2.1.L) (by decide) ⟨Or.inl km_X10_520, kc_X10_takesBack, kn_X10, kd_X10_takesBack, ⟨(Nat.le_of_ble_eq_true rfl), (Nat.le_of_ble_eq_true rfl)⟩, ⟨(Nat.le_of_ble_eq_true rfl), (Nat.le_of_ble_eq_true rfl)⟩, (Nat.le_of_ble_eq_true rfl)⟩ ki_X10_takesBack ks_X10_takesBack rfl (am_tab tk_X10_sure 25 rfl) rfl ?_
          rintro r S9 ⟨rfl, hP9⟩
          refine am_st (st2 := []) rfl ?_
          refine am_iload_n (q := 51) rfl (am_tab tk_X10_sure 26 rfl) rfl ?_
          refine am_iret (Or.inl rfl) (Nat.le_of_ble_eq_true rfl) (Nat.le_of_ble_eq_true rfl) (am_tab tk_X10_sure 27 rfl) ?_
          refine hQ _ _ ?_
          refine ⟨congrArg (fun z => some (am_i z)) ?_, hP9⟩
          unfold surM
          rw [if_pos (by omega)]
          rw [show i = n.toNat by omega]
        · refine am_aload_n (q := 24) rfl (am_tab tk_X10_sure 15 rfl) rfl ?_
          refine am_callVr (q := 27) (me2 := M_X10_hangsNext) (b := 55) (kb := 10) (nb := 108) (As := []) (rest := []) (c_hang σ hG (i) (by omega) S hD) ⟨rfl, rfl⟩ (Ls_55 hD.2.2.1.L) (by decide) ⟨Or.inl km_X10_523, kc_X10_hangsNext, kn_X10, kd_X10_hangsNext, ⟨(Nat.le_of_ble_eq_true rfl), (Nat.le_of_ble_eq_true rfl)⟩, ⟨(Nat.le_of_ble_eq_true rfl), (Nat.le_of_ble_eq_true rfl)⟩, (Nat.le_of_ble_eq_true rfl)⟩ ki_X10_hangsNext ks_X10_hangsNext rfl (am_tab tk_X10_sure 16 rfl) rfl ?_
          rintro r S2 ⟨rfl, hD2, hLD2⟩
          refine am_st (st2 := [am_i (hgM (itS (i) σ))]) rfl ?_
          refine am_if_ne (q := 30) (t := 40) (am_tab tk_X10_sure 17 rfl) (by decide) rfl (fun h27 => ?_) (fun h27 => ?_)
          · refine am_iinc (q := 43) rfl (by omega) (by decide) (ls2 := [(3, am_i (((i : Int) + 1))), (2, am_i (sumN (surB σ) i)), (0, am_r 55), (1, am_i n)]) rfl (am_tab tk_X10_sure 22 rfl) rfl ?_
            refine am_goto (t := 18) (am_tab tk_X10_sure 23 rfl) (by decide) ?_
            have hsb : sumN (surB σ) (i + 1) = sumN (surB σ) i := by
              show sumN (surB σ) i + surB σ i = _
              unfold surB
              first | (rw [if_pos ⟨by assumption, by assumption⟩]) | (rw [if_neg (by omega)]; omega)
            rw [← hsb]
            exact am_less (by intro q hq; simp only [List.mem_cons, List.not_mem_nil, or_false] at hq; rcases hq with rfl | rfl | rfl | rfl <;> simp) (ih18 (i + 1) S2 (by omega) (by omega) hD2)
          · refine am_aload_n (q := 31) rfl (am_tab tk_X10_sure 18 rfl) rfl ?_
            refine am_getI (q := 34) (a := 55) (k := 10) (n := 108) (j := 61) (x := (thD (itS (i) σ))) (Ls_55 hD2.2.2.1.L) (by decide) rfl hLD2.2.1 (by decide) (Or.inl kf_X10_461) (am_tab tk_X10_sure 19 rfl) rfl ?_
            refine am_if_eq (q := 37) (t := 40) (am_tab tk_X10_sure 20 rfl) (by decide) rfl (fun h34 => ?_) (fun h34 => ?_)
            · refine am_iinc (q := 43) rfl (by omega) (by decide) (ls2 := [(3, am_i (((i : Int) + 1))), (2, am_i (sumN (surB σ) i)), (0, am_r 55), (1, am_i n)]) rfl (am_tab tk_X10_sure 22 rfl) rfl ?_
              refine am_goto (t := 18) (am_tab tk_X10_sure 23 rfl) (by decide) ?_
              have hsb : sumN (surB σ) (i + 1) = sumN (surB σ) i := by
                show sumN (surB σ) i + surB σ i = _
                unfold surB
                first | (rw [if_pos ⟨by assumption, by assumption⟩]) | (rw [if_neg (by omega)]; omega)
              rw [← hsb]
              exact am_less (by intro q hq; simp only [List.mem_cons, List.not_mem_nil, or_false] at hq; rcases hq with rfl | rfl | rfl | rfl <;> simp) (ih18 (i + 1) S2 (by omega) (by omega) hD2)
            · refine am_iinc (q := 40) rfl (by omega) (by decide) (ls2 := [(2, am_i (((sumN (surB σ) i) + 1))), (3, am_i ((i : Int))), (0, am_r 55), (1, am_i n)]) rfl (am_tab tk_X10_sure 21 rfl) rfl ?_
              refine am_iinc (q := 43) rfl (by omega) (by decide) (ls2 := [(3, am_i (((i : Int) + 1))), (2, am_i (((sumN (surB σ) i) + 1))), (0, am_r 55), (1, am_i n)]) rfl (am_tab tk_X10_sure 22 rfl) rfl ?_
              refine am_goto (t := 18) (am_tab tk_X10_sure 23 rfl) (by decide) ?_
              have hsb : sumN (surB σ) (i + 1) = ((sumN (surB σ) i) + 1) := by
                show sumN (surB σ) i + surB σ i = _
                unfold surB
                first | (rw [if_pos ⟨by assumption, by assumption⟩]) | (rw [if_neg (by omega)]; omega)
              rw [← hsb]
              exact am_less (by intro q hq; simp only [List.mem_cons, List.not_mem_nil, or_false] at hq; rcases hq with rfl | rfl | rfl | rfl <;> simp) (ih18 (i + 1) S2 (by omega) (by omega) hD2)
    refine am_less (by intro q hq; simp only [List.mem_cons, List.not_mem_nil, or_false] at hq; rcases hq with rfl | rfl | rfl | rfl <;> simp [sumN]) (L18 (_ + 1) 0 S0 (by exact Nat.lt_succ_self _) (by omega) hD0)
  · replace h5 := b01z h5
    refine am_iconst (q := 9) (n := (-1)) (by decide) (am_tab tk_X10_sure 4 rfl) rfl ?_
    refine am_iret (Or.inl rfl) (Nat.le_of_ble_eq_true rfl) (Nat.le_of_ble_eq_true rfl) (am_tab tk_X10_sure 5 rfl) ?_
    refine hQ _ _ ?_
    refine ⟨congrArg (fun z => some (am_i z)) ?_, PQ.refl hG⟩
    unfold surM
    rw [if_neg (by omega)]
/-- the next day has begun, all else aside -/
def BG (σ S : am_H) : Prop := frw W_ah σ S ∧ (∀ k, k < 443 → S.2.1 97 k = σ.2.1 96 k) ∧ (∀ k, 443 ≤ k → S.2.1 96 k = σ.2.1 96 k) ∧ cn S = cn (bgS σ) ∧ GD S
def AK (σ : am_H) (ts : Int) (S : am_H) : Prop := S.2.1 55 56 = ts ∧ S.2.1 55 57 = ffM (bgS σ) ∧ S.2.1 55 58 = fzM (bgS σ)
theorem BG.G {σ S : am_H} (h : BG σ S) : GD S := h.2.2.2.2
theorem BG.c {σ S : am_H} (h : BG σ S) : cn S = cn (bgS σ) := h.2.2.2.1
theorem BG.fr {W : Nat → Nat → Prop} {σ S τ : am_H} (h : BG σ S) (hF : frw W S τ) (hW : ∀ a j, W a j → a = 129 ∨ (a = 55 ∧ ((56 ≤ j ∧ j ≤ 62) ∨ j = 103))) (ho : 0 ≤ τ.2.1 55 59 ∧ τ.2.1 55 59 ≤ 99) (ht : 0 ≤ τ.2.1 55 61 ∧ τ.2.1 55 61 < 256) : BG σ τ := by
  refine ⟨h.1.trans (hF.mono (fun a j hw => by have := hW a j hw; unfold W_ah; omega)), fun k hk => ?_, fun k hk => ?_, ?_, ?_⟩
  · rw [hF.2.2 97 k (fun hw => by have := hW _ _ hw; omega)]; exact h.2.1 k hk
  · rw [hF.2.2 96 k (fun hw => by have := hW _ _ hw; omega)]; exact h.2.2.1 k hk
  · rw [← h.c]; exact cn_eq (fun a j h1 h2 => hF.2.2 a j (fun hw => by have := hW _ _ hw; omega))
  · exact GD_fr h.G hF (fun a j h1 hw => by have := hW _ _ hw; omega) ho ht
theorem c_beg (σ : am_H) (hG : GD σ) (hc : cc σ) (S : am_H) (hD : DS σ 0 S) : am_met M_X10_begins [am_r 55] S (fun r τ => r = none ∧ BG σ τ) := by
  have hcS : cn S = cn σ := hD.2.1
  have hcc : cc S := by
    unfold cc at *
    rw [cn_at hcS 85 9 (by decide) (by decide), cn_at hcS 96 0 (by decide) (by decide), cn_at hcS 96 1 (by decide) (by decide)]
    exact hc
  refine am_mono (c_X10_begins S hD.2.2.1.L hD.2.2.1.R) (fun r τ h => ?_)
  obtain ⟨rfl, rfl⟩ := h
  rw [begH_S]
  have eb : bgN S = bgN σ := by rw [← bgN_cn S, hcS, bgN_cn]
  refine ⟨rfl, hD.1.trans ((frw.refl _ S).setA (fun j => by unfold W_ah; omega)), hD.2.2.2, fun k hk => ?_, ?_, bgS_GD hD.2.2.1 hcc⟩
  · show bgN S k = _
    rw [eb, bgN_hi σ k (by omega)]
  · refine cn_eq (fun a j h1 h2 => ?_)
    show (if a = 96 then bgN S j else S.2.1 a j) = (if a = 96 then bgN σ j else σ.2.1 a j)
    rw [eb, cn_at hcS a j h1 h2]
theorem c_ask3 (σ : am_H) (S : am_H) (hB : BG σ S) (ts : Int) : am_met M_X10_asksDay [am_r 55, am_i ts] S (fun r τ => r = none ∧ BG σ τ ∧ AK σ ts τ) := by
  refine am_mono (c_X10_asksDay S hB.G.L ts hB.G.R) (fun r τ h => ?_)
  obtain ⟨rfl, rfl⟩ := h
  refine ⟨rfl, hB.fr (W := W_sel) ?_ (by unfold W_sel; omega) hB.G.o hB.G.t, rfl, ffM_eq hB.c, fzM_eq hB.c⟩
  exact (((frw.refl _ S).setN (by unfold W_sel; omega)).setN (by unfold W_sel; omega)).setN (by unfold W_sel; omega)
theorem c_sel3 (σ : am_H) (S : am_H) (hB : BG σ S) (ts bs : Int) (hts : 0 ≤ ts ∧ ts < 256) (hbs : 0 ≤ bs ∧ bs < 256) : am_met M_X10_selves [am_r 55, am_i ts, am_i bs] S (fun r τ => r = some (am_i (selE (bgS σ) ts bs)) ∧ BG σ τ ∧ AK σ ts τ) := by
  refine am_mono (c_sel2 S hB.G ts bs hts hbs) (fun r τ h => ?_)
  obtain ⟨rfl, hF, h1, h2, h3⟩ := h
  refine ⟨by rw [selE_eq hB.c], hB.fr hF (by unfold W_sel; omega) ?_ ?_, h1, h2.trans (ffM_eq hB.c), h3.trans (fzM_eq hB.c)⟩
  · rw [hF.2.2 55 59 (by unfold W_sel; omega)]; exact hB.G.o
  · rw [hF.2.2 55 61 (by unfold W_sel; omega)]; exact hB.G.t
theorem c_rem3 (σ : am_H) (S : am_H) (hB : BG σ S) (own bs ts : Int) (hA : AK σ ts S) (hown : 0 ≤ own ∧ own < 256) (hbs : 0 ≤ bs ∧ bs < 256) (hts : 0 ≤ ts ∧ ts < 256) : am_met M_X10_reminded [am_r 55, am_i own, am_i bs] S (fun r τ => r = some (am_i (rmE (bgS σ) ts own bs)) ∧ BG σ τ ∧ AK σ ts τ) := by
  refine am_mono (c_rem2 S hB.G own bs ts hown hbs hts hA.1 (hA.2.1.trans (ffM_eq hB.c).symm) (hA.2.2.trans (fzM_eq hB.c).symm)) (fun r τ h => ?_)
  obtain ⟨rfl, hF, h1⟩ := h
  refine ⟨by rw [rmE_eq hB.c], hB.fr hF (by unfold W_rem; omega) h1 ?_, ?_, ?_, ?_⟩
  · rw [hF.2.2 55 61 (by unfold W_rem; omega)]; exact hB.G.t
  · rw [hF.2.2 55 56 (by unfold W_rem; omega)]; exact hA.1
  · rw [hF.2.2 55 57 (by unfold W_rem; omega)]; exact hA.2.1
  · rw [hF.2.2 55 58 (by unfold W_rem; omega)]; exact hA.2.2
theorem c_back3 (σ : am_H) (hG : GD σ) (S : am_H) (hB : BG σ S) : am_met M_X10_takesBack [am_r 55] S (fun r τ => r = none ∧ PQ σ τ) := by
  refine am_mono (c_X10_takesBack S hB.G.L) (fun r τ h => ?_)
  obtain ⟨rfl, rfl⟩ := h
  have hF : frw W_pub σ (am_setA S 96 (fun k => if k < 443 then S.2.1 97 k else S.2.1 96 k)) := by
    refine ⟨hB.1.1, hB.1.2.1, fun a j hw => ?_⟩
    show (if a = 96 then (if j < 443 then S.2.1 97 j else S.2.1 96 j) else S.2.1 a j) = _
    by_cases ha : a = 96
    · subst ha
      rw [if_pos rfl]
      by_cases hj : j < 443
      · rw [if_pos hj]; exact hB.2.1 j hj
      · rw [if_neg hj]; exact hB.2.2.1 j (by omega)
    · rw [if_neg ha]
      exact hB.1.2.2 a j (by unfold W_ah; unfold W_pub at hw; omega)
  exact ⟨rfl, hF, GD_fr hG hF (by unfold W_pub; omega) hB.G.o hB.G.t⟩
theorem c_liv3 (σ : am_H) (hG : GD σ) (S : am_H) (hB : BG σ S) : am_met M_X10_living [am_r 55] S (fun r τ => r = some (am_i (lvM σ)) ∧ τ = S) := by
  have e : ∀ p, S.2.1 96 (12 + p) = σ.2.1 96 (12 + p) := fun p => (cn_at hB.c 96 (12 + p) (by decide) (by decide)).trans (bgN_hi σ (12 + p) (by omega))
  have h := c_X10_living S hB.G.L (pN σ) ((hB.1.2.2 85 5 (by unfold W_ah; omega)).trans (pN_eq hG.R)) (pN_8 hG.R)
  simp only [e] at h
  exact h
