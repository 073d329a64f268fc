theorem c_X10_daysGo (σ : am_H) (hG : GD σ) (S0 : am_H) (hD0 : DS σ 0 S0) (n : Int) (N : Nat) (hN : n = (N : Int)) (h2 : n ≤ 200) (hn : n ≤ dlM σ) : am_met M_X10_daysGo [am_r 55, am_i n] S0 (fun r σ' => r = none ∧ DS σ N σ' ∧ (∀ m, N = m + 1 → LD σ m σ')) := by
  refine am_qq (fun Q hQ => ?_)
  refine am_enter (show plainFor yX10_daysGo = true by decide +kernel) rfl (Nat.le_of_ble_eq_true rfl) (fun _ _ _ => trivial) ?_
  refine am_iconst (q := 1) (n := 0) (by decide) (am_tab tk_X10_daysGo 0 rfl) rfl ?_
  refine am_istore_n (q := 2) (by decide) (ls2 := [(2, am_i 0), (0, am_r 55), (1, am_i n)]) rfl (am_tab tk_X10_daysGo 1 rfl) rfl ?_
  have L2 : ∀ (n2 : Nat) (i : Nat) (S : am_H), N - i < n2 → i ≤ N → DS σ i S → (∀ m, i = m + 1 → LD σ m S) → am_wp M_X10_daysGo Q 0 0 2 [(2, am_i ((i : Int))), (0, am_r 55), (1, am_i n)] [] S := by
    intro n2
    induction n2 with
    | zero => intro i S hn2; exact absurd hn2 (Nat.not_lt_zero _)
    | succ n2 ih2 =>
      intro i S hn2 hi hD hLD
      refine am_iload_n (q := 3) rfl (am_tab tk_X10_daysGo 2 rfl) rfl ?_
      refine am_iload_n (q := 4) rfl (am_tab tk_X10_daysGo 3 rfl) rfl ?_
      refine am_icmp_ge (q := 7) (t := 17) (am_tab tk_X10_daysGo 4 rfl) (by decide) rfl (fun h4 => ?_) (fun h4 => ?_)
      · refine am_vret rfl (Nat.le_of_ble_eq_true rfl) (Nat.le_of_ble_eq_true rfl) (am_tab tk_X10_daysGo 9 rfl) ?_
        refine hQ _ _ ?_
        rw [show i = N by omega] at hD hLD
        exact ⟨rfl, hD, hLD⟩
      · refine am_aload_n (q := 8) rfl (am_tab tk_X10_daysGo 5 rfl) rfl ?_
        refine am_callVr (q := 11) (me2 := M_X10_dayGoes) (b := 55) (kb := 10) (nb := 108) (As := []) (rest := []) (c_day σ hG (i) (by omega) S hD) ⟨rfl, rfl⟩ (Ls_55 hD.2.2.1.L) (by decide) ⟨Or.inl km_X10_476, kc_X10_dayGoes, kn_X10, kd_X10_dayGoes, ⟨(Nat.le_of_ble_eq_true rfl), (Nat.le_of_ble_eq_true rfl)⟩, ⟨(Nat.le_of_ble_eq_true rfl), (Nat.le_of_ble_eq_true rfl)⟩, (Nat.le_of_ble_eq_true rfl)⟩ ki_X10_dayGoes ks_X10_dayGoes rfl (am_tab tk_X10_daysGo 6 rfl) rfl ?_
        rintro r S2 ⟨rfl, hD2, hLD2⟩
        refine am_st (st2 := []) rfl ?_
        refine am_iinc (q := 14) rfl (by omega) (by decide) (ls2 := [(2, am_i (((i : Int) + 1))), (0, am_r 55), (1, am_i n)]) rfl (am_tab tk_X10_daysGo 7 rfl) rfl ?_
        refine am_goto (t := 2) (am_tab tk_X10_daysGo 8 rfl) (by decide) ?_
        exact am_less (by intro q hq; simp only [List.mem_cons, List.not_mem_nil, or_false] at hq; rcases hq with rfl | rfl | rfl <;> simp) (ih2 (i + 1) S2 (by omega) (by omega) hD2 (fun m hm => (show i = m by omega) ▸ hLD2))
  refine am_less (by intro q hq; simp only [List.mem_cons, List.not_mem_nil, or_false] at hq; rcases hq with rfl | rfl | rfl <;> simp) (L2 (_ + 1) 0 S0 (by exact Nat.lt_succ_self _) (by omega) hD0 (by omega))
def latM (σ : am_H) (n w : Int) : Int := if ((1 ≤ n ∧ n ≤ 120) ∧ n ≤ dlM σ) ∧ (0 ≤ w ∧ w ≤ 4) then (if w = 0 then sfD (itS (n.toNat - 1) σ) else if w = 1 then thD (itS (n.toNat - 1) σ) else if w = 4 then fsD (itS (n.toNat - 1) σ) else (itS n.toNat σ).2.1 96 (w - 2).toNat) else -1
theorem c_X10_later (σ : am_H) (hG : GD σ) (n : Int) (w : Int)  : am_met M_X10_later [am_r 55, am_i n, am_i w] σ (fun r σ' => r = some (am_i (latM σ n w)) ∧ PQ σ σ') := by
  refine am_qq (fun Q hQ => ?_)
  refine am_enter (show plainFor yX10_later = true by decide +kernel) rfl (Nat.le_of_ble_eq_true rfl) (fun _ _ _ => trivial) ?_
  have hL := hG.L
  have hD90 : 0 ≤ σ.2.1 96 1 ∧ σ.2.1 96 1 ≤ 90 := ⟨hG.R.day.1, by have := hG.R.day; have := hG.R.Y; omega⟩
  refine am_aload_n (q := 1) rfl (am_tab tk_X10_later 0 rfl) rfl ?_
  refine am_iload_n (q := 2) rfl (am_tab tk_X10_later 1 rfl) rfl ?_
  refine am_callV0 (q := 5) (me2 := M_X10_isAhead) (b := 55) (kb := 10) (nb := 108) (As := [am_i n]) (rest := []) (out := [am_i (if (1 ≤ n ∧ n ≤ 120) ∧ n ≤ dlM σ then 1 else 0)]) (c_X10_isAhead σ hG.L n hG.R.year hD90 hG.R.Y) ⟨rfl, rfl⟩ (Ls_55 hL) (by decide) ⟨Or.inl km_X10_509, kc_X10_isAhead, kn_X10, kd_X10_isAhead, ⟨(Nat.le_of_ble_eq_true rfl), (Nat.le_of_ble_eq_true rfl)⟩, ⟨(Nat.le_of_ble_eq_true rfl), (Nat.le_of_ble_eq_true rfl)⟩, (Nat.le_of_ble_eq_true rfl)⟩ ki_X10_isAhead ks_X10_isAhead rfl rfl (am_tab tk_X10_later 2 rfl) rfl ?_
  refine am_if_eq (q := 8) (t := 20) (am_tab tk_X10_later 3 rfl) (by decide) rfl (fun h5 => ?_) (fun h5 => ?_)
  · replace h5 := b01z h5
    refine am_iconst (q := 21) (n := (-1)) (by decide) (am_tab tk_X10_later 10 rfl) rfl ?_
    refine am_iret (Or.inl rfl) (Nat.le_of_ble_eq_true rfl) (Nat.le_of_ble_eq_true rfl) (am_tab tk_X10_later 11 rfl) ?_
    refine hQ _ _ ?_
    refine ⟨congrArg (fun z => some (am_i z)) ?_, PQ.refl hG⟩
    unfold latM
    rw [if_neg (by omega)]
  · replace h5 := b01n h5
    refine am_iload_n (q := 9) rfl (am_tab tk_X10_later 4 rfl) rfl ?_
    refine am_i2l (q := 10) (am_tab tk_X10_later 5 rfl) rfl ?_
    refine am_lconst0 (q := 11) (am_tab tk_X10_later 6 rfl) rfl ?_
    refine am_ldc2 (q := 14) (n := 4) (by decide) kk_X10_512 (am_tab tk_X10_later 7 rfl) rfl ?_
    refine am_callS0 (q := 17) (me2 := M_X10_isIn) (As := [am_l w, am_l 0, am_l 4]) (rest := []) (out := [am_i (if 0 ≤ w ∧ w ≤ 4 then 1 else 0)]) (c_X10_isIn σ hL w 0 4 ) ⟨rfl, rfl⟩ ⟨Or.inl km_X10_291, kc_X10_isIn, kn_X10, kd_X10_isIn, ⟨(Nat.le_of_ble_eq_true rfl), (Nat.le_of_ble_eq_true rfl)⟩, ⟨(Nat.le_of_ble_eq_true rfl), (Nat.le_of_ble_eq_true rfl)⟩, (Nat.le_of_ble_eq_true rfl)⟩ ki_X10_isIn rfl rfl (am_tab tk_X10_later 8 rfl) rfl ?_
    refine am_if_ne (q := 20) (t := 22) (am_tab tk_X10_later 9 rfl) (by decide) rfl (fun h17 => ?_) (fun h17 => ?_)
    · replace h17 := b01n h17
      refine am_aload_n (q := 23) rfl (am_tab tk_X10_later 12 rfl) rfl ?_
      refine am_callVr (q := 26) (me2 := M_X10_putsAside) (b := 55) (kb := 10) (nb := 108) (As := []) (rest := []) (c_aside σ hG) ⟨rfl, rfl⟩ (Ls_55 hL) (by decide) ⟨Or.inl km_X10_514, kc_X10_putsAside, kn_X10, kd_X10_putsAside, ⟨(Nat.le_of_ble_eq_true rfl), (Nat.le_of_ble_eq_true rfl)⟩, ⟨(Nat.le_of_ble_eq_true rfl), (Nat.le_of_ble_eq_true rfl)⟩, (Nat.le_of_ble_eq_true rfl)⟩ ki_X10_putsAside ks_X10_putsAside rfl (am_tab tk_X10_later 13 rfl) rfl ?_
      rintro r S0 ⟨rfl, hD0⟩
      refine am_st (st2 := []) rfl ?_
      refine am_aload_n (q := 27) rfl (am_tab tk_X10_later 14 rfl) rfl ?_
      refine am_iload_n (q := 28) rfl (am_tab tk_X10_later 15 rfl) rfl ?_
      refine am_callVr (q := 31) (me2 := M_X10_daysGo) (b := 55) (kb := 10) (nb := 108) (As := [am_i n]) (rest := []) (c_X10_daysGo σ hG S0 hD0 n (n.toNat) (by omega) (by omega) (by omega)) ⟨rfl, rfl⟩ (Ls_55 hD0.2.2.1.L) (by decide) ⟨Or.inl km_X10_517, kc_X10_daysGo, kn_X10, kd_X10_daysGo, ⟨(Nat.le_of_ble_eq_true rfl), (Nat.le_of_ble_eq_true rfl)⟩, ⟨(Nat.le_of_ble_eq_true rfl), (Nat.le_of_ble_eq_true rfl)⟩, (Nat.le_of_ble_eq_true rfl)⟩ ki_X10_daysGo ks_X10_daysGo rfl (am_tab tk_X10_later 16 rfl) rfl ?_
      rintro r S1 ⟨rfl, hD1, hLD1⟩
      replace hLD1 := hLD1 (n.toNat - 1) (by omega)
      refine am_st (st2 := []) rfl ?_
      refine am_iload_n (q := 32) rfl (am_tab tk_X10_later 17 rfl) rfl ?_
      refine am_if_ne (q := 35) (t := 42) (am_tab tk_X10_later 18 rfl) (by decide) rfl (fun h32 => ?_) (fun h32 => ?_)
      · refine am_iload_n (q := 43) rfl (am_tab tk_X10_later 22 rfl) rfl ?_
        refine am_iconst (q := 44) (n := 1) (by decide) (am_tab tk_X10_later 23 rfl) rfl ?_
        refine am_icmp_ne (q := 47) (t := 54) (am_tab tk_X10_later 24 rfl) (by decide) rfl (fun h44 => ?_) (fun h44 => ?_)
        · refine am_iload_n (q := 55) rfl (am_tab tk_X10_later 28 rfl) rfl ?_
          refine am_iconst (q := 56) (n := 4) (by decide) (am_tab tk_X10_later 29 rfl) rfl ?_
          refine am_icmp_ge (q := 59) (t := 70) (am_tab tk_X10_later 30 rfl) (by decide) rfl (fun h56 => ?_) (fun h56 => ?_)
          · refine am_aload_n (q := 71) rfl (am_tab tk_X10_later 38 rfl) rfl ?_
            refine am_getI (q := 74) (a := 55) (k := 10) (n := 108) (j := 62) (x := (fsD (itS (n.toNat - 1) σ))) (Ls_55 hD1.2.2.1.L) (by decide) rfl hLD1.2.2 (by decide) (Or.inl kf_X10_464) (am_tab tk_X10_later 39 rfl) rfl ?_
            refine am_if_eq (q := 77) (t := 81) (am_tab tk_X10_later 40 rfl) (by decide) rfl (fun h74 => ?_) (fun h74 => ?_)
            · refine am_iconst (q := 82) (n := 0) (by decide) (am_tab tk_X10_later 43 rfl) rfl ?_
              refine am_istore_n (q := 83) (by decide) (ls2 := [(3, am_i 0), (0, am_r 55), (1, am_i n), (2, am_i w)]) rfl (am_tab tk_X10_later 44 rfl) rfl ?_
              refine am_aload_n (q := 84) rfl (am_tab tk_X10_later 45 rfl) rfl ?_
              refine am_callVr (q := 87) (me2 := M_X10_takesBack) (b := 55) (kb := 10) (nb := 108) (As := []) (rest := []) (c_back σ hG (n.toNat) (by omega) S1 hD1) ⟨rfl, rfl⟩ (Ls_55 hD1.2.2.1.L) (by decide) ⟨Or.inl km_X10_520, kc_X10_takesBack, kn_X10, kd_X10_takesBack, ⟨(Nat.le_of_ble_eq_true rfl), (Nat.le_of_ble_eq_true rfl)⟩, ⟨(Nat.le_of_ble_eq_true rfl), (Nat.le_of_ble_eq_true rfl)⟩, (Nat.le_of_ble_eq_true rfl)⟩ ki_X10_takesBack ks_X10_takesBack rfl (am_tab tk_X10_later 46 rfl) rfl ?_
              rintro r S9 ⟨rfl, hP9⟩
              refine am_st (st2 := []) rfl ?_
              refine am_iload_n (q := 88) rfl (am_tab tk_X10_later 47 rfl) rfl ?_
              refine am_iret (Or.inl rfl) (Nat.le_of_ble_eq_true rfl) (Nat.le_of_ble_eq_true rfl) (am_tab tk_X10_later 48 rfl) ?_
              refine hQ _ _ ?_
              refine ⟨congrArg (fun z => some (am_i z)) ?_, hP9⟩
              unfold latM
              rw [if_pos (by omega)]
              repeat (first | rw [if_pos (by omega)] | rw [if_neg (by omega)])
              all_goals first | rfl | (have := fsD_01 (itS (n.toNat - 1) σ); omega)
            · refine am_iconst (q := 78) (n := 1) (by decide) (am_tab tk_X10_later 41 rfl) rfl ?_
              refine am_goto (t := 82) (am_tab tk_X10_later 42 rfl) (by decide) ?_
              refine am_istore_n (q := 83) (by decide) (ls2 := [(3, am_i 1), (0, am_r 55), (1, am_i n), (2, am_i w)]) rfl (am_tab tk_X10_later 44 rfl) rfl ?_
              refine am_aload_n (q := 84) rfl (am_tab tk_X10_later 45 rfl) rfl ?_
              refine am_callVr (q := 87) (me2 := M_X10_takesBack) (b := 55) (kb := 10) (nb := 108) (As := []) (rest := []) (c_back σ hG (n.toNat) (by omega) S1 hD1) ⟨rfl, rfl⟩ (Ls_55 hD1.2.2.1.L) (by decide) ⟨Or.inl km_X10_520, kc_X10_takesBack, kn_X10, kd_X10_takesBack, ⟨(Nat.le_of_ble_eq_true rfl), (Nat.le_of_ble_eq_true rfl)⟩, ⟨(Nat.le_of_ble_eq_true rfl), (Nat.le_of_ble_eq_true rfl)⟩, (Nat.le_of_ble_eq_true rfl)⟩ ki_X10_takesBack ks_X10_takesBack rfl (am_tab tk_X10_later 46 rfl) rfl ?_
              rintro r S9 ⟨rfl, hP9⟩
              refine am_st (st2 := []) rfl ?_
              refine am_iload_n (q := 88) rfl (am_tab tk_X10_later 47 rfl) rfl ?_
              refine am_iret (Or.inl rfl) (Nat.le_of_ble_eq_true rfl) (Nat.le_of_ble_eq_true rfl) (am_tab tk_X10_later 48 rfl) ?_
              refine hQ _ _ ?_
              refine ⟨congrArg (fun z => some (am_i z)) ?_, hP9⟩
              unfold latM
              rw [if_pos (by omega)]
              repeat (first | rw [if_pos (by omega)] | rw [if_neg (by omega)])
              all_goals first | rfl | (have := fsD_01 (itS (n.toNat - 1) σ); omega)
          · refine am_aload_n (q := 60) rfl (am_tab tk_X10_later 31 rfl) rfl ?_
            refine am_getR (q := 63) (a := 55) (k := 10) (n := 108) (j := 54) (r := some (96)) (Ls_55 hD1.2.2.1.L) (by decide) rfl (Lr_55_54 hD1.2.2.1.L) (by decide) (Or.inl kf_X10_136) (am_tab tk_X10_later 32 rfl) rfl ?_
            refine am_iload_n (q := 64) rfl (am_tab tk_X10_later 33 rfl) rfl ?_
            refine am_iconst (q := 65) (n := 2) (by decide) (am_tab tk_X10_later 34 rfl) rfl ?_
            refine am_isub (q := 66) (by omega) (am_tab tk_X10_later 35 rfl) rfl ?_
            refine am_iald (q := 67) (a := 96) (n := 443) (x := ((itS (n.toNat) σ).2.1 96 (Int.toNat (w - 2)))) (Ls_96 hD1.2.2.1.L) (by omega) (by omega) (cn_at hD1.2.1 96 (Int.toNat (w - 2)) (by decide) (by decide)) (am_tab tk_X10_later 36 rfl) rfl ?_
            refine am_goto (t := 82) (am_tab tk_X10_later 37 rfl) (by decide) ?_
            refine am_istore_n (q := 83) (by decide) (ls2 := [(3, am_i (((itS (n.toNat) σ).2.1 96 (Int.toNat (w - 2))))), (0, am_r 55), (1, am_i n), (2, am_i w)]) rfl (am_tab tk_X10_later 44 rfl) rfl ?_
            refine am_aload_n (q := 84) rfl (am_tab tk_X10_later 45 rfl) rfl ?_
            refine am_callVr (q := 87) (me2 := M_X10_takesBack) (b := 55) (kb := 10) (nb := 108) (As := []) (rest := []) (c_back σ hG (n.toNat) (by omega) S1 hD1) ⟨rfl, rfl⟩ (Ls_55 hD1.2.2.1.L) (by decide) ⟨Or.inl km_X10_520, kc_X10_takesBack, kn_X10, kd_X10_takesBack, ⟨(Nat.le_of_ble_eq_true rfl), (Nat.le_of_ble_eq_true rfl)⟩, ⟨(Nat.le_of_ble_eq_true rfl), (Nat.le_of_ble_eq_true rfl)⟩, (Nat.le_of_ble_eq_true rfl)⟩ ki_X10_takesBack ks_X10_takesBack rfl (am_tab tk_X10_later 46 rfl) rfl ?_
            rintro r S9 ⟨rfl, hP9⟩
            refine am_st (st2 := []) rfl ?_
            refine am_iload_n (q := 88) rfl (am_tab tk_X10_later 47 rfl) rfl ?_
            refine am_iret (Or.inl rfl) (Nat.le_of_ble_eq_true rfl) (Nat.le_of_ble_eq_true rfl) (am_tab tk_X10_later 48 rfl) ?_
            refine hQ _ _ ?_
            refine ⟨congrArg (fun z => some (am_i z)) ?_, hP9⟩
            unfold latM
            rw [if_pos (by omega)]
            repeat (first | rw [if_pos (by omega)] | rw [if_neg (by omega)])
            all_goals first | rfl | (have := fsD_01 (itS (n.toNat - 1) σ); omega)
        · refine am_aload_n (q := 48) rfl (am_tab tk_X10_later 25 rfl) rfl ?_
          refine am_getI (q := 51) (a := 55) (k := 10) (n := 108) (j := 61) (x := (thD (itS (n.toNat - 1) σ))) (Ls_55 hD1.2.2.1.L) (by decide) rfl hLD1.2.1 (by decide) (Or.inl kf_X10_461) (am_tab tk_X10_later 26 rfl) rfl ?_
          refine am_goto (t := 82) (am_tab tk_X10_later 27 rfl) (by decide) ?_
          refine am_istore_n (q := 83) (by decide) (ls2 := [(3, am_i ((thD (itS (n.toNat - 1) σ)))), (0, am_r 55), (1, am_i n), (2, am_i w)]) rfl (am_tab tk_X10_later 44 rfl) rfl ?_
          refine am_aload_n (q := 84) rfl (am_tab tk_X10_later 45 rfl) rfl ?_
          refine am_callVr (q := 87) (me2 := M_X10_takesBack) (b := 55) (kb := 10) (nb := 108) (As := []) (rest := []) (c_back σ hG (n.toNat) (by omega) S1 hD1) ⟨rfl, rfl⟩ (Ls_55 hD1.2.2.1.L) (by decide) ⟨Or.inl km_X10_520, kc_X10_takesBack, kn_X10, kd_X10_takesBack, ⟨(Nat.le_of_ble_eq_true rfl), (Nat.le_of_ble_eq_true rfl)⟩, ⟨(Nat.le_of_ble_eq_true rfl), (Nat.le_of_ble_eq_true rfl)⟩, (Nat.le_of_ble_eq_true rfl)⟩ ki_X10_takesBack ks_X10_takesBack rfl (am_tab tk_X10_later 46 rfl) rfl ?_
          rintro r S9 ⟨rfl, hP9⟩
          refine am_st (st2 := []) rfl ?_
          refine am_iload_n (q := 88) rfl (am_tab tk_X10_later 47 rfl) rfl ?_
          refine am_iret (Or.inl rfl) (Nat.le_of_ble_eq_true rfl) (Nat.le_of_ble_eq_true rfl) (am_tab tk_X10_later 48 rfl) ?_
          refine hQ _ _ ?_
          refine ⟨congrArg (fun z => some (am_i z)) ?_, hP9⟩
          unfold latM
          rw [if_pos (by omega)]
          repeat (first | rw [if_pos (by omega)] | rw [if_neg (by omega)])
          all_goals first | rfl | (have := fsD_01 (itS (n.toNat - 1) σ); omega)
      · refine am_aload_n (q := 36) rfl (am_tab tk_X10_later 19 rfl) rfl ?_
        refine am_getI (q := 39) (a := 55) (k := 10) (n := 108) (j := 60) (x := (sfD (itS (n.toNat - 1) σ))) (Ls_55 hD1.2.2.1.L) (by decide) rfl hLD1.1 (by decide) (Or.inl kf_X10_455) (am_tab tk_X10_later 20 rfl) rfl ?_
        refine am_goto (t := 82) (am_tab tk_X10_later 21 rfl) (by decide) ?_
        refine am_istore_n (q := 83) (by decide) (ls2 := [(3, am_i ((sfD (itS (n.toNat - 1) σ)))), (0, am_r 55), (1, am_i n), (2, am_i w)]) rfl (am_tab tk_X10_later 44 rfl) rfl ?_
        refine am_aload_n (q := 84) rfl (am_tab tk_X10_later 45 rfl) rfl ?_
        refine am_callVr (q := 87) (me2 := M_X10_takesBack) (b := 55) (kb := 10) (nb := 108) (As := []) (rest := []) (c_back σ hG (n.toNat) (by omega) S1 hD1) ⟨rfl, rfl⟩ (Ls_55 hD1.2.2.1.L) (by decide) ⟨Or.inl km_X10_520, kc_X10_takesBack, kn_X10, kd_X10_takesBack, ⟨(Nat.le_of_ble_eq_true rfl), (Nat.le_of_ble_eq_true rfl)⟩, ⟨(Nat.le_of_ble_eq_true rfl), (Nat.le_of_ble_eq_true rfl)⟩, (Nat.le_of_ble_eq_true rfl)⟩ ki_X10_takesBack ks_X10_takesBack rfl (am_tab tk_X10_later 46 rfl) rfl ?_
        rintro r S9 ⟨rfl, hP9⟩
        refine am_st (st2 := []) rfl ?_
        refine am_iload_n (q := 88) rfl (am_tab tk_X10_later 47 rfl) rfl ?_
        refine am_iret (Or.inl rfl) (Nat.le_of_ble_eq_true rfl) (Nat.le_of_ble_eq_true rfl) (am_tab tk_X10_later 48 rfl) ?_
        refine hQ _ _ ?_
        refine ⟨congrArg (fun z => some (am_i z)) ?_, hP9⟩
        unfold latM
        rw [if_pos (by omega)]
        repeat (first | rw [if_pos (by omega)] | rw [if_neg (by omega)])
        all_goals first | rfl | (have := fsD_01 (itS (n.toNat - 1) σ); omega)
    · replace h17 := b01z h17
      refine am_iconst (q := 21) (n := (-1)) (by decide) (am_tab tk_X10_later 10 rfl) rfl ?_
      refine am_iret (Or.inl rfl) (Nat.le_of_ble_eq_true rfl) (Nat.le_of_ble_eq_true rfl) (am_tab tk_X10_later 11 rfl) ?_
      refine hQ _ _ ?_
      refine ⟨congrArg (fun z => some (am_i z)) ?_, PQ.refl hG⟩
      unfold latM
      rw [if_neg (by omega)]
