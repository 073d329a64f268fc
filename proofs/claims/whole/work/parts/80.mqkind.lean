theorem c_X10_qKind (b : Nat → Int) (E i : Nat) (S : am_H) (hZ : ZS b E i S)   : am_met M_X10_qKind [am_r 55] S (fun r σ' => ((155 ≤ zK b E i ∧ zK b E i ≤ 160) ∧ r = some (am_i (zK b E i - 155)) ∧ ZS b E (i + 1) σ' ∧ frw W_sc S σ') ∨ (¬ (155 ≤ zK b E i ∧ zK b E i ≤ 160) ∧ r = some (am_i 5) ∧ ZB b E 1 (zP b E i : Int) σ' ∧ frw W_sc S σ')) := by
  refine am_qq (fun Q hQ => ?_)
  refine am_enter (show plainFor yX10_qKind = true by decide +kernel) rfl (Nat.le_of_ble_eq_true rfl) (fun _ _ _ => trivial) ?_
  have hL := hZ.1
  refine am_aload_n (q := 1) rfl (am_tab tk_X10_qKind 0 rfl) rfl ?_
  refine am_aload_n (q := 2) rfl (am_tab tk_X10_qKind 1 rfl) rfl ?_
  refine am_getR (q := 5) (a := 55) (k := 10) (n := 108) (j := 72) (r := some (103)) (Ls_55 hL) (by decide) rfl (Lr_55_72 hL) (by decide) (Or.inl kf_X10_161) (am_tab tk_X10_qKind 2 rfl) rfl ?_
  by_cases k0 : zK b E i = 155
  · refine am_callVr (q := 8) (me2 := M_X10_takes) (b := 55) (kb := 10) (nb := 108) (As := [am_r 103]) (rest := []) (c_takesY b E i S hZ 103 27 (by decide) (by omega)) ⟨rfl, rfl⟩ (Ls_55 hL) (by decide) ⟨Or.inl km_X10_275, kc_X10_takes, kn_X10, kd_X10_takes, ⟨(Nat.le_of_ble_eq_true rfl), (Nat.le_of_ble_eq_true rfl)⟩, ⟨(Nat.le_of_ble_eq_true rfl), (Nat.le_of_ble_eq_true rfl)⟩, (Nat.le_of_ble_eq_true rfl)⟩ ki_X10_takes ks_X10_takes rfl (am_tab tk_X10_qKind 3 rfl) rfl ?_
    rintro r T1 ⟨rfl, hZ1, hF0⟩
    have hF1 : frw W_sc S T1 := hF0
    refine am_st (st2 := [am_i 1]) rfl ?_
    refine am_if_eq (q := 11) (t := 15) (am_tab tk_X10_qKind 4 rfl) (by decide) rfl (fun h8 => ?_) (fun h8 => ?_)
    · exact absurd h8 (by decide)
    · refine am_iconst (q := 12) (n := 0) (by decide) (am_tab tk_X10_qKind 5 rfl) rfl ?_
      refine am_goto (t := 76) (am_tab tk_X10_qKind 6 rfl) (by decide) ?_
      refine am_istore_n (q := 77) (by decide) (ls2 := [(1, am_i 0), (0, am_r 55)]) rfl (am_tab tk_X10_qKind 36 rfl) rfl ?_
      refine am_iload_n (q := 78) rfl (am_tab tk_X10_qKind 37 rfl) rfl ?_
      refine am_iconst (q := 79) (n := 5) (by decide) (am_tab tk_X10_qKind 38 rfl) rfl ?_
      refine am_icmp_ne (q := 82) (t := 90) (am_tab tk_X10_qKind 39 rfl) (by decide) rfl (fun h79 => ?_) (fun h79 => ?_)
      · refine am_iload_n (q := 91) rfl (am_tab tk_X10_qKind 44 rfl) rfl ?_
        refine am_iret (Or.inl rfl) (Nat.le_of_ble_eq_true rfl) (Nat.le_of_ble_eq_true rfl) (am_tab tk_X10_qKind 45 rfl) ?_
        refine hQ _ _ ?_
        exact Or.inl ⟨by omega, congrArg (fun z => some (am_i z)) (by omega), hZ1, hF1⟩
      · omega
  · refine am_callVr (q := 8) (me2 := M_X10_takes) (b := 55) (kb := 10) (nb := 108) (As := [am_r 103]) (rest := []) (c_takesN b E i S hZ 103 27 (by decide) (by omega)) ⟨rfl, rfl⟩ (Ls_55 hL) (by decide) ⟨Or.inl km_X10_275, kc_X10_takes, kn_X10, kd_X10_takes, ⟨(Nat.le_of_ble_eq_true rfl), (Nat.le_of_ble_eq_true rfl)⟩, ⟨(Nat.le_of_ble_eq_true rfl), (Nat.le_of_ble_eq_true rfl)⟩, (Nat.le_of_ble_eq_true rfl)⟩ ki_X10_takes ks_X10_takes rfl (am_tab tk_X10_qKind 3 rfl) rfl ?_
    rintro r τ ⟨rfl, hτ⟩
    rw [hτ]
    refine am_st (st2 := [am_i 0]) rfl ?_
    refine am_if_eq (q := 11) (t := 15) (am_tab tk_X10_qKind 4 rfl) (by decide) rfl (fun h8 => ?_) (fun h8 => ?_)
    · refine am_aload_n (q := 16) rfl (am_tab tk_X10_qKind 7 rfl) rfl ?_
      refine am_aload_n (q := 17) rfl (am_tab tk_X10_qKind 8 rfl) rfl ?_
      refine am_getR (q := 20) (a := 55) (k := 10) (n := 108) (j := 73) (r := some (104)) (Ls_55 hL) (by decide) rfl (Lr_55_73 hL) (by decide) (Or.inl kf_X10_164) (am_tab tk_X10_qKind 9 rfl) rfl ?_
      by_cases k1 : zK b E i = 156
      · refine am_callVr (q := 23) (me2 := M_X10_takes) (b := 55) (kb := 10) (nb := 108) (As := [am_r 104]) (rest := []) (c_takesY b E i (am_setN S 55 2 (zP b E i : Int)) hZ.look 104 28 (by decide) (by omega)) ⟨rfl, rfl⟩ (Ls_55 hL) (by decide) ⟨Or.inl km_X10_275, kc_X10_takes, kn_X10, kd_X10_takes, ⟨(Nat.le_of_ble_eq_true rfl), (Nat.le_of_ble_eq_true rfl)⟩, ⟨(Nat.le_of_ble_eq_true rfl), (Nat.le_of_ble_eq_true rfl)⟩, (Nat.le_of_ble_eq_true rfl)⟩ ki_X10_takes ks_X10_takes rfl (am_tab tk_X10_qKind 10 rfl) rfl ?_
        rintro r T1 ⟨rfl, hZ1, hF0⟩
        have hF1 : frw W_sc S T1 := ((frw.refl W_sc S).setN (by unfold W_sc; omega)).trans hF0
        refine am_st (st2 := [am_i 1]) rfl ?_
        refine am_if_eq (q := 26) (t := 30) (am_tab tk_X10_qKind 11 rfl) (by decide) rfl (fun h23 => ?_) (fun h23 => ?_)
        · exact absurd h23 (by decide)
        · refine am_iconst (q := 27) (n := 1) (by decide) (am_tab tk_X10_qKind 12 rfl) rfl ?_
          refine am_goto (t := 76) (am_tab tk_X10_qKind 13 rfl) (by decide) ?_
          refine am_istore_n (q := 77) (by decide) (ls2 := [(1, am_i 1), (0, am_r 55)]) rfl (am_tab tk_X10_qKind 36 rfl) rfl ?_
          refine am_iload_n (q := 78) rfl (am_tab tk_X10_qKind 37 rfl) rfl ?_
          refine am_iconst (q := 79) (n := 5) (by decide) (am_tab tk_X10_qKind 38 rfl) rfl ?_
          refine am_icmp_ne (q := 82) (t := 90) (am_tab tk_X10_qKind 39 rfl) (by decide) rfl (fun h79 => ?_) (fun h79 => ?_)
          · refine am_iload_n (q := 91) rfl (am_tab tk_X10_qKind 44 rfl) rfl ?_
            refine am_iret (Or.inl rfl) (Nat.le_of_ble_eq_true rfl) (Nat.le_of_ble_eq_true rfl) (am_tab tk_X10_qKind 45 rfl) ?_
            refine hQ _ _ ?_
            exact Or.inl ⟨by omega, congrArg (fun z => some (am_i z)) (by omega), hZ1, hF1⟩
          · omega
      · refine am_callVr (q := 23) (me2 := M_X10_takes) (b := 55) (kb := 10) (nb := 108) (As := [am_r 104]) (rest := []) (c_takesN b E i (am_setN S 55 2 (zP b E i : Int)) hZ.look 104 28 (by decide) (by omega)) ⟨rfl, rfl⟩ (Ls_55 hL) (by decide) ⟨Or.inl km_X10_275, kc_X10_takes, kn_X10, kd_X10_takes, ⟨(Nat.le_of_ble_eq_true rfl), (Nat.le_of_ble_eq_true rfl)⟩, ⟨(Nat.le_of_ble_eq_true rfl), (Nat.le_of_ble_eq_true rfl)⟩, (Nat.le_of_ble_eq_true rfl)⟩ ki_X10_takes ks_X10_takes rfl (am_tab tk_X10_qKind 10 rfl) rfl ?_
        rintro r τ ⟨rfl, hτ⟩
        rw [hτ, am_setN_N]
        refine am_st (st2 := [am_i 0]) rfl ?_
        refine am_if_eq (q := 26) (t := 30) (am_tab tk_X10_qKind 11 rfl) (by decide) rfl (fun h23 => ?_) (fun h23 => ?_)
        · refine am_aload_n (q := 31) rfl (am_tab tk_X10_qKind 14 rfl) rfl ?_
          refine am_aload_n (q := 32) rfl (am_tab tk_X10_qKind 15 rfl) rfl ?_
          refine am_getR (q := 35) (a := 55) (k := 10) (n := 108) (j := 74) (r := some (105)) (Ls_55 hL) (by decide) rfl (Lr_55_74 hL) (by decide) (Or.inl kf_X10_167) (am_tab tk_X10_qKind 16 rfl) rfl ?_
          by_cases k2 : zK b E i = 157
          · refine am_callVr (q := 38) (me2 := M_X10_takes) (b := 55) (kb := 10) (nb := 108) (As := [am_r 105]) (rest := []) (c_takesY b E i (am_setN S 55 2 (zP b E i : Int)) hZ.look 105 29 (by decide) (by omega)) ⟨rfl, rfl⟩ (Ls_55 hL) (by decide) ⟨Or.inl km_X10_275, kc_X10_takes, kn_X10, kd_X10_takes, ⟨(Nat.le_of_ble_eq_true rfl), (Nat.le_of_ble_eq_true rfl)⟩, ⟨(Nat.le_of_ble_eq_true rfl), (Nat.le_of_ble_eq_true rfl)⟩, (Nat.le_of_ble_eq_true rfl)⟩ ki_X10_takes ks_X10_takes rfl (am_tab tk_X10_qKind 17 rfl) rfl ?_
            rintro r T1 ⟨rfl, hZ1, hF0⟩
            have hF1 : frw W_sc S T1 := ((frw.refl W_sc S).setN (by unfold W_sc; omega)).trans hF0
            refine am_st (st2 := [am_i 1]) rfl ?_
            refine am_if_eq (q := 41) (t := 45) (am_tab tk_X10_qKind 18 rfl) (by decide) rfl (fun h38 => ?_) (fun h38 => ?_)
            · exact absurd h38 (by decide)
            · refine am_iconst (q := 42) (n := 2) (by decide) (am_tab tk_X10_qKind 19 rfl) rfl ?_
              refine am_goto (t := 76) (am_tab tk_X10_qKind 20 rfl) (by decide) ?_
              refine am_istore_n (q := 77) (by decide) (ls2 := [(1, am_i 2), (0, am_r 55)]) rfl (am_tab tk_X10_qKind 36 rfl) rfl ?_
              refine am_iload_n (q := 78) rfl (am_tab tk_X10_qKind 37 rfl) rfl ?_
              refine am_iconst (q := 79) (n := 5) (by decide) (am_tab tk_X10_qKind 38 rfl) rfl ?_
              refine am_icmp_ne (q := 82) (t := 90) (am_tab tk_X10_qKind 39 rfl) (by decide) rfl (fun h79 => ?_) (fun h79 => ?_)
              · refine am_iload_n (q := 91) rfl (am_tab tk_X10_qKind 44 rfl) rfl ?_
                refine am_iret (Or.inl rfl) (Nat.le_of_ble_eq_true rfl) (Nat.le_of_ble_eq_true rfl) (am_tab tk_X10_qKind 45 rfl) ?_
                refine hQ _ _ ?_
                exact Or.inl ⟨by omega, congrArg (fun z => some (am_i z)) (by omega), hZ1, hF1⟩
              · omega
          · refine am_callVr (q := 38) (me2 := M_X10_takes) (b := 55) (kb := 10) (nb := 108) (As := [am_r 105]) (rest := []) (c_takesN b E i (am_setN S 55 2 (zP b E i : Int)) hZ.look 105 29 (by decide) (by omega)) ⟨rfl, rfl⟩ (Ls_55 hL) (by decide) ⟨Or.inl km_X10_275, kc_X10_takes, kn_X10, kd_X10_takes, ⟨(Nat.le_of_ble_eq_true rfl), (Nat.le_of_ble_eq_true rfl)⟩, ⟨(Nat.le_of_ble_eq_true rfl), (Nat.le_of_ble_eq_true rfl)⟩, (Nat.le_of_ble_eq_true rfl)⟩ ki_X10_takes ks_X10_takes rfl (am_tab tk_X10_qKind 17 rfl) rfl ?_
            rintro r τ ⟨rfl, hτ⟩
            rw [hτ, am_setN_N]
            refine am_st (st2 := [am_i 0]) rfl ?_
            refine am_if_eq (q := 41) (t := 45) (am_tab tk_X10_qKind 18 rfl) (by decide) rfl (fun h38 => ?_) (fun h38 => ?_)
            · refine am_aload_n (q := 46) rfl (am_tab tk_X10_qKind 21 rfl) rfl ?_
              refine am_aload_n (q := 47) rfl (am_tab tk_X10_qKind 22 rfl) rfl ?_
              refine am_getR (q := 50) (a := 55) (k := 10) (n := 108) (j := 75) (r := some (106)) (Ls_55 hL) (by decide) rfl (Lr_55_75 hL) (by decide) (Or.inl kf_X10_170) (am_tab tk_X10_qKind 23 rfl) rfl ?_
              by_cases k3 : zK b E i = 158
              · refine am_callVr (q := 53) (me2 := M_X10_takes) (b := 55) (kb := 10) (nb := 108) (As := [am_r 106]) (rest := []) (c_takesY b E i (am_setN S 55 2 (zP b E i : Int)) hZ.look 106 30 (by decide) (by omega)) ⟨rfl, rfl⟩ (Ls_55 hL) (by decide) ⟨Or.inl km_X10_275, kc_X10_takes, kn_X10, kd_X10_takes, ⟨(Nat.le_of_ble_eq_true rfl), (Nat.le_of_ble_eq_true rfl)⟩, ⟨(Nat.le_of_ble_eq_true rfl), (Nat.le_of_ble_eq_true rfl)⟩, (Nat.le_of_ble_eq_true rfl)⟩ ki_X10_takes ks_X10_takes rfl (am_tab tk_X10_qKind 24 rfl) rfl ?_
                rintro r T1 ⟨rfl, hZ1, hF0⟩
                have hF1 : frw W_sc S T1 := ((frw.refl W_sc S).setN (by unfold W_sc; omega)).trans hF0
                refine am_st (st2 := [am_i 1]) rfl ?_
                refine am_if_eq (q := 56) (t := 60) (am_tab tk_X10_qKind 25 rfl) (by decide) rfl (fun h53 => ?_) (fun h53 => ?_)
                · exact absurd h53 (by decide)
                · refine am_iconst (q := 57) (n := 3) (by decide) (am_tab tk_X10_qKind 26 rfl) rfl ?_
                  refine am_goto (t := 76) (am_tab tk_X10_qKind 27 rfl) (by decide) ?_
                  refine am_istore_n (q := 77) (by decide) (ls2 := [(1, am_i 3), (0, am_r 55)]) rfl (am_tab tk_X10_qKind 36 rfl) rfl ?_
                  refine am_iload_n (q := 78) rfl (am_tab tk_X10_qKind 37 rfl) rfl ?_
                  refine am_iconst (q := 79) (n := 5) (by decide) (am_tab tk_X10_qKind 38 rfl) rfl ?_
                  refine am_icmp_ne (q := 82) (t := 90) (am_tab tk_X10_qKind 39 rfl) (by decide) rfl (fun h79 => ?_) (fun h79 => ?_)
                  · refine am_iload_n (q := 91) rfl (am_tab tk_X10_qKind 44 rfl) rfl ?_
                    refine am_iret (Or.inl rfl) (Nat.le_of_ble_eq_true rfl) (Nat.le_of_ble_eq_true rfl) (am_tab tk_X10_qKind 45 rfl) ?_
                    refine hQ _ _ ?_
                    exact Or.inl ⟨by omega, congrArg (fun z => some (am_i z)) (by omega), hZ1, hF1⟩
                  · omega
              · refine am_callVr (q := 53) (me2 := M_X10_takes) (b := 55) (kb := 10) (nb := 108) (As := [am_r 106]) (rest := []) (c_takesN b E i (am_setN S 55 2 (zP b E i : Int)) hZ.look 106 30 (by decide) (by omega)) ⟨rfl, rfl⟩ (Ls_55 hL) (by decide) ⟨Or.inl km_X10_275, kc_X10_takes, kn_X10, kd_X10_takes, ⟨(Nat.le_of_ble_eq_true rfl), (Nat.le_of_ble_eq_true rfl)⟩, ⟨(Nat.le_of_ble_eq_true rfl), (Nat.le_of_ble_eq_true rfl)⟩, (Nat.le_of_ble_eq_true rfl)⟩ ki_X10_takes ks_X10_takes rfl (am_tab tk_X10_qKind 24 rfl) rfl ?_
                rintro r τ ⟨rfl, hτ⟩
                rw [hτ, am_setN_N]
                refine am_st (st2 := [am_i 0]) rfl ?_
                refine am_if_eq (q := 56) (t := 60) (am_tab tk_X10_qKind 25 rfl) (by decide) rfl (fun h53 => ?_) (fun h53 => ?_)
                · refine am_aload_n (q := 61) rfl (am_tab tk_X10_qKind 28 rfl) rfl ?_
                  refine am_aload_n (q := 62) rfl (am_tab tk_X10_qKind 29 rfl) rfl ?_
                  refine am_getR (q := 65) (a := 55) (k := 10) (n := 108) (j := 76) (r := some (107)) (Ls_55 hL) (by decide) rfl (Lr_55_76 hL) (by decide) (Or.inl kf_X10_173) (am_tab tk_X10_qKind 30 rfl) rfl ?_
                  by_cases k4 : zK b E i = 159
                  · refine am_callVr (q := 68) (me2 := M_X10_takes) (b := 55) (kb := 10) (nb := 108) (As := [am_r 107]) (rest := []) (c_takesY b E i (am_setN S 55 2 (zP b E i : Int)) hZ.look 107 31 (by decide) (by omega)) ⟨rfl, rfl⟩ (Ls_55 hL) (by decide) ⟨Or.inl km_X10_275, kc_X10_takes, kn_X10, kd_X10_takes, ⟨(Nat.le_of_ble_eq_true rfl), (Nat.le_of_ble_eq_true rfl)⟩, ⟨(Nat.le_of_ble_eq_true rfl), (Nat.le_of_ble_eq_true rfl)⟩, (Nat.le_of_ble_eq_true rfl)⟩ ki_X10_takes ks_X10_takes rfl (am_tab tk_X10_qKind 31 rfl) rfl ?_
                    rintro r T1 ⟨rfl, hZ1, hF0⟩
                    have hF1 : frw W_sc S T1 := ((frw.refl W_sc S).setN (by unfold W_sc; omega)).trans hF0
                    refine am_st (st2 := [am_i 1]) rfl ?_
                    refine am_if_eq (q := 71) (t := 75) (am_tab tk_X10_qKind 32 rfl) (by decide) rfl (fun h68 => ?_) (fun h68 => ?_)
                    · exact absurd h68 (by decide)
                    · refine am_iconst (q := 72) (n := 4) (by decide) (am_tab tk_X10_qKind 33 rfl) rfl ?_
                      refine am_goto (t := 76) (am_tab tk_X10_qKind 34 rfl) (by decide) ?_
                      refine am_istore_n (q := 77) (by decide) (ls2 := [(1, am_i 4), (0, am_r 55)]) rfl (am_tab tk_X10_qKind 36 rfl) rfl ?_
                      refine am_iload_n (q := 78) rfl (am_tab tk_X10_qKind 37 rfl) rfl ?_
                      refine am_iconst (q := 79) (n := 5) (by decide) (am_tab tk_X10_qKind 38 rfl) rfl ?_
                      refine am_icmp_ne (q := 82) (t := 90) (am_tab tk_X10_qKind 39 rfl) (by decide) rfl (fun h79 => ?_) (fun h79 => ?_)
                      · refine am_iload_n (q := 91) rfl (am_tab tk_X10_qKind 44 rfl) rfl ?_
                        refine am_iret (Or.inl rfl) (Nat.le_of_ble_eq_true rfl) (Nat.le_of_ble_eq_true rfl) (am_tab tk_X10_qKind 45 rfl) ?_
                        refine hQ _ _ ?_
                        exact Or.inl ⟨by omega, congrArg (fun z => some (am_i z)) (by omega), hZ1, hF1⟩
                      · omega
                  · refine am_callVr (q := 68) (me2 := M_X10_takes) (b := 55) (kb := 10) (nb := 108) (As := [am_r 107]) (rest := []) (c_takesN b E i (am_setN S 55 2 (zP b E i : Int)) hZ.look 107 31 (by decide) (by omega)) ⟨rfl, rfl⟩ (Ls_55 hL) (by decide) ⟨Or.inl km_X10_275, kc_X10_takes, kn_X10, kd_X10_takes, ⟨(Nat.le_of_ble_eq_true rfl), (Nat.le_of_ble_eq_true rfl)⟩, ⟨(Nat.le_of_ble_eq_true rfl), (Nat.le_of_ble_eq_true rfl)⟩, (Nat.le_of_ble_eq_true rfl)⟩ ki_X10_takes ks_X10_takes rfl (am_tab tk_X10_qKind 31 rfl) rfl ?_
                    rintro r τ ⟨rfl, hτ⟩
                    rw [hτ, am_setN_N]
                    refine am_st (st2 := [am_i 0]) rfl ?_
                    refine am_if_eq (q := 71) (t := 75) (am_tab tk_X10_qKind 32 rfl) (by decide) rfl (fun h68 => ?_) (fun h68 => ?_)
                    · refine am_iconst (q := 76) (n := 5) (by decide) (am_tab tk_X10_qKind 35 rfl) rfl ?_
                      refine am_istore_n (q := 77) (by decide) (ls2 := [(1, am_i 5), (0, am_r 55)]) rfl (am_tab tk_X10_qKind 36 rfl) rfl ?_
                      refine am_iload_n (q := 78) rfl (am_tab tk_X10_qKind 37 rfl) rfl ?_
                      refine am_iconst (q := 79) (n := 5) (by decide) (am_tab tk_X10_qKind 38 rfl) rfl ?_
                      refine am_icmp_ne (q := 82) (t := 90) (am_tab tk_X10_qKind 39 rfl) (by decide) rfl (fun h79 => ?_) (fun h79 => ?_)
                      · omega
                      · refine am_aload_n (q := 83) rfl (am_tab tk_X10_qKind 40 rfl) rfl ?_
                        refine am_aload_n (q := 84) rfl (am_tab tk_X10_qKind 41 rfl) rfl ?_
                        refine am_getR (q := 87) (a := 55) (k := 10) (n := 108) (j := 77) (r := some (108)) (Ls_55 hL) (by decide) rfl (Lr_55_77 hL) (by decide) (Or.inl kf_X10_176) (am_tab tk_X10_qKind 42 rfl) rfl ?_
                        by_cases k5 : zK b E i = 160
                        · refine am_callVr (q := 90) (me2 := M_X10_asks) (b := 55) (kb := 10) (nb := 108) (As := [am_r 108]) (rest := []) (c_asksY b E i (am_setN S 55 2 (zP b E i : Int)) hZ.look 108 32 (by decide) (by omega)) ⟨rfl, rfl⟩ (Ls_55 hL) (by decide) ⟨Or.inl km_X10_317, kc_X10_asks, kn_X10, kd_X10_asks, ⟨(Nat.le_of_ble_eq_true rfl), (Nat.le_of_ble_eq_true rfl)⟩, ⟨(Nat.le_of_ble_eq_true rfl), (Nat.le_of_ble_eq_true rfl)⟩, (Nat.le_of_ble_eq_true rfl)⟩ ki_X10_asks ks_X10_asks rfl (am_tab tk_X10_qKind 43 rfl) rfl ?_
                          rintro r T1 ⟨rfl, hZ1, hF0⟩
                          have hF1 : frw W_sc S T1 := ((frw.refl W_sc S).setN (by unfold W_sc; omega)).trans hF0
                          refine am_st (st2 := []) rfl ?_
                          refine am_iload_n (q := 91) rfl (am_tab tk_X10_qKind 44 rfl) rfl ?_
                          refine am_iret (Or.inl rfl) (Nat.le_of_ble_eq_true rfl) (Nat.le_of_ble_eq_true rfl) (am_tab tk_X10_qKind 45 rfl) ?_
                          refine hQ _ _ ?_
                          exact Or.inl ⟨by omega, congrArg (fun z => some (am_i z)) (by omega), hZ1, hF1⟩
                        · refine am_callVr (q := 90) (me2 := M_X10_asks) (b := 55) (kb := 10) (nb := 108) (As := [am_r 108]) (rest := []) (c_asksN b E i (am_setN S 55 2 (zP b E i : Int)) hZ.look 108 32 (by decide) (by omega)) ⟨rfl, rfl⟩ (Ls_55 hL) (by decide) ⟨Or.inl km_X10_317, kc_X10_asks, kn_X10, kd_X10_asks, ⟨(Nat.le_of_ble_eq_true rfl), (Nat.le_of_ble_eq_true rfl)⟩, ⟨(Nat.le_of_ble_eq_true rfl), (Nat.le_of_ble_eq_true rfl)⟩, (Nat.le_of_ble_eq_true rfl)⟩ ki_X10_asks ks_X10_asks rfl (am_tab tk_X10_qKind 43 rfl) rfl ?_
                          rintro r T1 ⟨rfl, hZ1, hF0⟩
                          have hF1 : frw W_sc S T1 := ((frw.refl W_sc S).setN (by unfold W_sc; omega)).trans hF0
                          refine am_st (st2 := []) rfl ?_
                          refine am_iload_n (q := 91) rfl (am_tab tk_X10_qKind 44 rfl) rfl ?_
                          refine am_iret (Or.inl rfl) (Nat.le_of_ble_eq_true rfl) (Nat.le_of_ble_eq_true rfl) (am_tab tk_X10_qKind 45 rfl) ?_
                          refine hQ _ _ ?_
                          exact Or.inr ⟨by omega, rfl, hZ1, hF1⟩
                    · exact absurd h68 (by decide)
                · exact absurd h53 (by decide)
            · exact absurd h38 (by decide)
        · exact absurd h23 (by decide)
    · exact absurd h8 (by decide)
