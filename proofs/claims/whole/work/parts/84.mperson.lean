/-- a person's name, one that nobody has -/
def pnF (b : Nat → Int) (E : Nat) (S : am_H) (i : Nat) : Nat ⊕ (Int × Int) := if zK b E i = 3 ∨ 155 ≤ zK b E i then (if pOf S (zN b E i) = -1 then .inl (i + 1) else .inr (3, (zP b E i : Int))) else .inr (1, mfP b E i)
/-- a person: where this reading ends, what it leaves -/
def peF (b : Nat → Int) (E : Nat) (S : am_H) (pl : Int) (i : Nat) : Nat ⊕ (Int × Int) := if S.2.1 85 0 = 8 then .inr (5, pl) else nuF b E 0 99 (akF b E 3 (nuF b E 1 99 (akF b E 2 (pnF b E S i))))
def peH (b : Nat → Int) (E : Nat) (S : am_H) (i : Nat) : am_H := am_setN (am_setN (am_setN (am_setN (am_setN S 86 (S.2.1 85 0).toNat (zN b E i)) 87 (S.2.1 85 0).toNat (vZ b E (akF b E 2 (pnF b E S i)))) 88 (S.2.1 85 0).toNat (vZ b E (akF b E 3 (nuF b E 1 99 (akF b E 2 (pnF b E S i)))))) 89 (S.2.1 85 0).toNat 0) 85 0 (S.2.1 85 0 + 1)
theorem c_X10_personTold (b : Nat → Int) (E i : Nat) (S : am_H) (hZ : ZS b E i S) (pl : Int) (hN : 0 ≤ S.2.1 85 0 ∧ S.2.1 85 0 ≤ 8) : am_met M_X10_personTold [am_r 55, am_i pl] S (fun r σ' => r = none ∧ ZZ b E σ' (peF b E S pl i) ∧ frw W_sc (if (peF b E S pl i).isLeft = true then peH b E S i else S) σ') := by
  refine am_qq (fun Q hQ => ?_)
  refine am_enter (show plainFor yX10_personTold = true by decide +kernel) rfl (Nat.le_of_ble_eq_true rfl) (fun _ _ _ => trivial) ?_
  have hL := hZ.1
  refine am_aload_n (q := 1) rfl (am_tab tk_X10_personTold 0 rfl) rfl ?_
  refine am_iconst (q := 2) (n := 0) (by decide) (am_tab tk_X10_personTold 1 rfl) rfl ?_
  refine am_bipush (q := 4) (n := 8) (by decide) rfl (am_tab tk_X10_personTold 2 rfl) rfl ?_
  refine am_iload_n (q := 5) rfl (am_tab tk_X10_personTold 3 rfl) rfl ?_
  by_cases full : S.2.1 85 0 = 8
  · refine am_callV0 (q := 8) (me2 := M_X10_isFull) (b := 55) (kb := 10) (nb := 108) (As := [am_i 0, am_i 8, am_i pl]) (rest := []) (out := [am_i 1]) (c_isFullY S hL 0 8 pl (by decide) hZ.2.2.2.1 full) ⟨rfl, rfl⟩ (Ls_55 hL) (by decide) ⟨Or.inl km_X10_329, kc_X10_isFull, kn_X10, kd_X10_isFull, ⟨(Nat.le_of_ble_eq_true rfl), (Nat.le_of_ble_eq_true rfl)⟩, ⟨(Nat.le_of_ble_eq_true rfl), (Nat.le_of_ble_eq_true rfl)⟩, (Nat.le_of_ble_eq_true rfl)⟩ ki_X10_isFull ks_X10_isFull rfl rfl (am_tab tk_X10_personTold 4 rfl) rfl ?_
    refine am_if_eq (q := 11) (t := 12) (am_tab tk_X10_personTold 5 rfl) (by decide) rfl (fun h8 => ?_) (fun h8 => ?_)
    · exact absurd h8 (by decide)
    · refine am_vret rfl (Nat.le_of_ble_eq_true rfl) (Nat.le_of_ble_eq_true rfl) (am_tab tk_X10_personTold 6 rfl) ?_
      refine hQ _ _ ?_
      have hd : peF b E S pl i = .inr (5, pl) := by unfold peF; rw [if_pos full]
      have hF : frw W_sc S (am_setN (am_setN S 55 5 5) 55 6 pl) := ((frw.refl W_sc S).setN (by unfold W_sc; omega)).setN (by unfold W_sc; omega)
      rw [hd, if_neg (by simp)]
      exact ⟨rfl, ZB_of hZ.1 hZ.2.1 hF hZ.2.2.1 rfl (show ¬ (5 : Int) = 0 by decide) rfl (by have := hZ.2.2.2.2.2.1; show 0 ≤ S.2.1 55 2 ∧ S.2.1 55 2 ≤ _; omega), hF⟩
  · refine am_callV0 (q := 8) (me2 := M_X10_isFull) (b := 55) (kb := 10) (nb := 108) (As := [am_i 0, am_i 8, am_i pl]) (rest := []) (out := [am_i 0]) (c_isFullN S hL 0 8 pl (by decide) hZ.2.2.2.1 full) ⟨rfl, rfl⟩ (Ls_55 hL) (by decide) ⟨Or.inl km_X10_329, kc_X10_isFull, kn_X10, kd_X10_isFull, ⟨(Nat.le_of_ble_eq_true rfl), (Nat.le_of_ble_eq_true rfl)⟩, ⟨(Nat.le_of_ble_eq_true rfl), (Nat.le_of_ble_eq_true rfl)⟩, (Nat.le_of_ble_eq_true rfl)⟩ ki_X10_isFull ks_X10_isFull rfl rfl (am_tab tk_X10_personTold 4 rfl) rfl ?_
    refine am_if_eq (q := 11) (t := 12) (am_tab tk_X10_personTold 5 rfl) (by decide) rfl (fun h8 => ?_) (fun h8 => ?_)
    · refine am_aload_n (q := 13) rfl (am_tab tk_X10_personTold 7 rfl) rfl ?_
      by_cases n1 : zK b E i = 3 ∨ 155 ≤ zK b E i
      · refine am_callVr (q := 16) (me2 := M_X10_name) (b := 55) (kb := 10) (nb := 108) (As := []) (rest := []) (c_nameY hZ n1) ⟨rfl, rfl⟩ (Ls_55 hL) (by decide) ⟨Or.inl km_X10_309, kc_X10_name, kn_X10, kd_X10_name, ⟨(Nat.le_of_ble_eq_true rfl), (Nat.le_of_ble_eq_true rfl)⟩, ⟨(Nat.le_of_ble_eq_true rfl), (Nat.le_of_ble_eq_true rfl)⟩, (Nat.le_of_ble_eq_true rfl)⟩ ki_X10_name ks_X10_name rfl (am_tab tk_X10_personTold 8 rfl) rfl ?_
        rintro r T1 ⟨rfl, hZ1, hF1, e38⟩
        refine am_st (st2 := [am_l (zN b E i)]) rfl ?_
        refine am_lstore_n (q := 17) (by decide) (ls2 := [(2, am_l (zN b E i)), (0, am_r 55), (1, am_i pl)]) rfl (am_tab tk_X10_personTold 9 rfl) rfl ?_
        refine am_aload_n (q := 18) rfl (am_tab tk_X10_personTold 10 rfl) rfl ?_
        refine am_getI (q := 21) (a := 55) (k := 10) (n := 108) (j := 5) (x := 0) (Ls_55 hZ1.1) (by decide) rfl hZ1.2.2.2.1 (by decide) (Or.inl kf_X10_248) (am_tab tk_X10_personTold 11 rfl) rfl ?_
        refine am_if_ne (q := 24) (t := 42) (am_tab tk_X10_personTold 12 rfl) (by decide) rfl (fun h21 => ?_) (fun h21 => ?_)
        · exact absurd h21 (by decide)
        · refine am_aload_n (q := 25) rfl (am_tab tk_X10_personTold 13 rfl) rfl ?_
          refine am_lload_n (q := 26) rfl (am_tab tk_X10_personTold 14 rfl) rfl ?_
          by_cases n2 : pOf S (zN b E i) = -1
          · refine am_callVr (q := 29) (me2 := M_X10_personOf) (b := 55) (kb := 10) (nb := 108) (As := [am_l (zN b E i)]) (rest := []) (c_X10_personOf T1 hZ1.1 (zN b E i) (by rw [hF1.2.2 85 0 (by unfold W_sc; omega)]; exact hN)) ⟨rfl, rfl⟩ (Ls_55 hZ1.1) (by decide) ⟨Or.inl km_X10_313, kc_X10_personOf, kn_X10, kd_X10_personOf, ⟨(Nat.le_of_ble_eq_true rfl), (Nat.le_of_ble_eq_true rfl)⟩, ⟨(Nat.le_of_ble_eq_true rfl), (Nat.le_of_ble_eq_true rfl)⟩, (Nat.le_of_ble_eq_true rfl)⟩ ki_X10_personOf ks_X10_personOf rfl (am_tab tk_X10_personTold 15 rfl) rfl ?_
            rintro r τ ⟨rfl, hτ⟩
            rw [hτ, pOf_fr hF1]
            refine am_st (st2 := [am_i (pOf S (zN b E i))]) rfl ?_
            refine am_iconst (q := 30) (n := (-1)) (by decide) (am_tab tk_X10_personTold 16 rfl) rfl ?_
            refine am_icmp_eq (q := 33) (t := 42) (am_tab tk_X10_personTold 17 rfl) (by decide) rfl (fun h30 => ?_) (fun h30 => ?_)
            · have hp : pnF b E S i = .inl (i + 1) := by unfold pnF; rw [if_pos n1, if_pos n2]
              have hZ2 : ZZ b E T1 (pnF b E S i) := by rw [hp]; exact hZ1
              have hF2 : frw W_sc S T1 := hF1
              refine am_aload_n (q := 43) rfl (am_tab tk_X10_personTold 23 rfl) rfl ?_
              refine am_aload_n (q := 44) rfl (am_tab tk_X10_personTold 24 rfl) rfl ?_
              refine am_getR (q := 47) (a := 55) (k := 10) (n := 108) (j := 13) (r := some (60)) (Ls_55 hZ1.1) (by decide) rfl (Lr_55_13 hZ1.1) (by decide) (Or.inl kf_X10_27) (am_tab tk_X10_personTold 25 rfl) rfl ?_
              refine am_callVr (q := 50) (me2 := M_X10_asks) (b := 55) (kb := 10) (nb := 108) (As := [am_r 60]) (rest := []) (c_asksZ hZ2 60 2 (by decide)) ⟨rfl, rfl⟩ (Ls_55 hZ1.1) (by decide) ⟨Or.inl km_X10_317, kc_X10_asks, kn_X10, kd_X10_asks, ⟨(Nat.le_of_ble_eq_true rfl), (Nat.le_of_ble_eq_true rfl)⟩, ⟨(Nat.le_of_ble_eq_true rfl), (Nat.le_of_ble_eq_true rfl)⟩, (Nat.le_of_ble_eq_true rfl)⟩ ki_X10_asks ks_X10_asks rfl (am_tab tk_X10_personTold 26 rfl) rfl ?_
              rintro r T4 ⟨rfl, hZ4, hF4⟩
              refine am_st (st2 := []) rfl ?_
              refine am_aload_n (q := 51) rfl (am_tab tk_X10_personTold 27 rfl) rfl ?_
              refine am_iconst (q := 52) (n := 1) (by decide) (am_tab tk_X10_personTold 28 rfl) rfl ?_
              refine am_bipush (q := 54) (n := 99) (by decide) rfl (am_tab tk_X10_personTold 29 rfl) rfl ?_
              refine am_callVr (q := 57) (me2 := M_X10_number) (b := 55) (kb := 10) (nb := 108) (As := [am_i 1, am_i 99]) (rest := []) (c_numberZ hZ4 1 99 (by decide) (by decide)) ⟨rfl, rfl⟩ (Ls_55 hZ4.L) (by decide) ⟨Or.inl km_X10_321, kc_X10_number, kn_X10, kd_X10_number, ⟨(Nat.le_of_ble_eq_true rfl), (Nat.le_of_ble_eq_true rfl)⟩, ⟨(Nat.le_of_ble_eq_true rfl), (Nat.le_of_ble_eq_true rfl)⟩, (Nat.le_of_ble_eq_true rfl)⟩ ki_X10_number ks_X10_number rfl (am_tab tk_X10_personTold 30 rfl) rfl ?_
              rintro r T5 ⟨mi, rfl, hmr, hZ5, hF5, hm⟩
              refine am_st (st2 := [am_i mi]) rfl ?_
              refine am_istore (q := 59) (by decide) (ls2 := [(4, am_i mi), (2, am_l (zN b E i)), (0, am_r 55), (1, am_i pl)]) rfl (am_tab tk_X10_personTold 31 rfl) rfl ?_
              refine am_aload_n (q := 60) rfl (am_tab tk_X10_personTold 32 rfl) rfl ?_
              refine am_aload_n (q := 61) rfl (am_tab tk_X10_personTold 33 rfl) rfl ?_
              refine am_getR (q := 64) (a := 55) (k := 10) (n := 108) (j := 14) (r := some (61)) (Ls_55 hZ5.L) (by decide) rfl (Lr_55_14 hZ5.L) (by decide) (Or.inl kf_X10_30) (am_tab tk_X10_personTold 34 rfl) rfl ?_
              refine am_callVr (q := 67) (me2 := M_X10_asks) (b := 55) (kb := 10) (nb := 108) (As := [am_r 61]) (rest := []) (c_asksZ hZ5 61 3 (by decide)) ⟨rfl, rfl⟩ (Ls_55 hZ5.L) (by decide) ⟨Or.inl km_X10_317, kc_X10_asks, kn_X10, kd_X10_asks, ⟨(Nat.le_of_ble_eq_true rfl), (Nat.le_of_ble_eq_true rfl)⟩, ⟨(Nat.le_of_ble_eq_true rfl), (Nat.le_of_ble_eq_true rfl)⟩, (Nat.le_of_ble_eq_true rfl)⟩ ki_X10_asks ks_X10_asks rfl (am_tab tk_X10_personTold 35 rfl) rfl ?_
              rintro r T6 ⟨rfl, hZ6, hF6⟩
              refine am_st (st2 := []) rfl ?_
              refine am_aload_n (q := 68) rfl (am_tab tk_X10_personTold 36 rfl) rfl ?_
              refine am_iconst (q := 69) (n := 0) (by decide) (am_tab tk_X10_personTold 37 rfl) rfl ?_
              refine am_bipush (q := 71) (n := 99) (by decide) rfl (am_tab tk_X10_personTold 38 rfl) rfl ?_
              refine am_callVr (q := 74) (me2 := M_X10_number) (b := 55) (kb := 10) (nb := 108) (As := [am_i 0, am_i 99]) (rest := []) (c_numberZ hZ6 0 99 (by decide) (by decide)) ⟨rfl, rfl⟩ (Ls_55 hZ6.L) (by decide) ⟨Or.inl km_X10_321, kc_X10_number, kn_X10, kd_X10_number, ⟨(Nat.le_of_ble_eq_true rfl), (Nat.le_of_ble_eq_true rfl)⟩, ⟨(Nat.le_of_ble_eq_true rfl), (Nat.le_of_ble_eq_true rfl)⟩, (Nat.le_of_ble_eq_true rfl)⟩ ki_X10_number ks_X10_number rfl (am_tab tk_X10_personTold 39 rfl) rfl ?_
              rintro r T7 ⟨ak, rfl, har, hZ7, hF7, ha⟩
              refine am_st (st2 := [am_i ak]) rfl ?_
              refine am_istore (q := 76) (by decide) (ls2 := [(5, am_i ak), (4, am_i mi), (2, am_l (zN b E i)), (0, am_r 55), (1, am_i pl)]) rfl (am_tab tk_X10_personTold 40 rfl) rfl ?_
              have hF : frw W_sc S T7 := (((hF2.trans hF4).trans hF5).trans hF6).trans hF7
              refine am_aload_n (q := 77) rfl (am_tab tk_X10_personTold 41 rfl) rfl ?_
              refine am_getI (q := 80) (a := 55) (k := 10) (n := 108) (j := 5) (x := (T7.2.1 55 5)) (Ls_55 hZ7.L) (by decide) rfl rfl (by decide) (Or.inl kf_X10_248) (am_tab tk_X10_personTold 42 rfl) rfl ?_
              refine am_if_eq (q := 83) (t := 84) (am_tab tk_X10_personTold 43 rfl) (by decide) rfl (fun h80 => ?_) (fun h80 => ?_)
              · refine am_aload_n (q := 85) rfl (am_tab tk_X10_personTold 45 rfl) rfl ?_
                refine am_getR (q := 88) (a := 55) (k := 10) (n := 108) (j := 39) (r := some (85)) (Ls_55 hZ7.L) (by decide) rfl (Lr_55_39 hZ7.L) (by decide) (Or.inl kf_X10_102) (am_tab tk_X10_personTold 46 rfl) rfl ?_
                refine am_iconst (q := 89) (n := 0) (by decide) (am_tab tk_X10_personTold 47 rfl) rfl ?_
                refine am_iald (q := 90) (a := 85) (n := 10) (x := (S.2.1 85 0)) (Ls_85 hZ7.L) (by omega) (by omega) (hF.2.2 85 0 (by unfold W_sc; omega)) (am_tab tk_X10_personTold 48 rfl) rfl ?_
                refine am_istore (q := 92) (by decide) (ls2 := [(6, am_i ((S.2.1 85 0))), (5, am_i ak), (4, am_i mi), (2, am_l (zN b E i)), (0, am_r 55), (1, am_i pl)]) rfl (am_tab tk_X10_personTold 49 rfl) rfl ?_
                refine am_aload_n (q := 93) rfl (am_tab tk_X10_personTold 50 rfl) rfl ?_
                refine am_getR (q := 96) (a := 55) (k := 10) (n := 108) (j := 40) (r := some (86)) (Ls_55 hZ7.L) (by decide) rfl (Lr_55_40 hZ7.L) (by decide) (Or.inl kf_X10_105) (am_tab tk_X10_personTold 51 rfl) rfl ?_
                refine am_iload (q := 98) rfl (am_tab tk_X10_personTold 52 rfl) rfl ?_
                refine am_lload_n (q := 99) rfl (am_tab tk_X10_personTold 53 rfl) rfl ?_
                refine am_last (q := 100) (a := 86) (n := 16) (Ls_86 hZ7.L) (by omega) (by omega) (am_tab tk_X10_personTold 54 rfl) rfl ?_
                refine am_aload_n (q := 101) rfl (am_tab tk_X10_personTold 55 rfl) rfl ?_
                refine am_getR (q := 104) (a := 55) (k := 10) (n := 108) (j := 41) (r := some (87)) (Ls_55 hZ7.L) (by decide) rfl (Lr_55_41 hZ7.L) (by decide) (Or.inl kf_X10_109) (am_tab tk_X10_personTold 56 rfl) rfl ?_
                refine am_iload (q := 106) rfl (am_tab tk_X10_personTold 57 rfl) rfl ?_
                refine am_iload (q := 108) rfl (am_tab tk_X10_personTold 58 rfl) rfl ?_
                refine am_iast (q := 109) (a := 87) (n := 16) (Ls_87 hZ7.L) (by omega) (by omega) (am_tab tk_X10_personTold 59 rfl) rfl ?_
                refine am_aload_n (q := 110) rfl (am_tab tk_X10_personTold 60 rfl) rfl ?_
                refine am_getR (q := 113) (a := 55) (k := 10) (n := 108) (j := 42) (r := some (88)) (Ls_55 hZ7.L) (by decide) rfl (Lr_55_42 hZ7.L) (by decide) (Or.inl kf_X10_112) (am_tab tk_X10_personTold 61 rfl) rfl ?_
                refine am_iload (q := 115) rfl (am_tab tk_X10_personTold 62 rfl) rfl ?_
                refine am_iload (q := 117) rfl (am_tab tk_X10_personTold 63 rfl) rfl ?_
                refine am_iast (q := 118) (a := 88) (n := 16) (Ls_88 hZ7.L) (by omega) (by omega) (am_tab tk_X10_personTold 64 rfl) rfl ?_
                refine am_aload_n (q := 119) rfl (am_tab tk_X10_personTold 65 rfl) rfl ?_
                refine am_getR (q := 122) (a := 55) (k := 10) (n := 108) (j := 43) (r := some (89)) (Ls_55 hZ7.L) (by decide) rfl (Lr_55_43 hZ7.L) (by decide) (Or.inl kf_X10_115) (am_tab tk_X10_personTold 66 rfl) rfl ?_
                refine am_iload (q := 124) rfl (am_tab tk_X10_personTold 67 rfl) rfl ?_
                refine am_iconst (q := 125) (n := 0) (by decide) (am_tab tk_X10_personTold 68 rfl) rfl ?_
                refine am_iast (q := 126) (a := 89) (n := 16) (Ls_89 hZ7.L) (by omega) (by omega) (am_tab tk_X10_personTold 69 rfl) rfl ?_
                refine am_aload_n (q := 127) rfl (am_tab tk_X10_personTold 70 rfl) rfl ?_
                refine am_getR (q := 130) (a := 55) (k := 10) (n := 108) (j := 39) (r := some (85)) (Ls_55 hZ7.L) (by decide) rfl (Lr_55_39 hZ7.L) (by decide) (Or.inl kf_X10_102) (am_tab tk_X10_personTold 71 rfl) rfl ?_
                refine am_iconst (q := 131) (n := 0) (by decide) (am_tab tk_X10_personTold 72 rfl) rfl ?_
                refine am_dup2 (q := 132) rfl rfl (am_tab tk_X10_personTold 73 rfl) rfl ?_
                refine am_iald (q := 133) (a := 85) (n := 10) (x := (S.2.1 85 0)) (Ls_85 hZ7.L) (by omega) (by omega) (hF.2.2 85 0 (by unfold W_sc; omega)) (am_tab tk_X10_personTold 74 rfl) rfl ?_
                refine am_iconst (q := 134) (n := 1) (by decide) (am_tab tk_X10_personTold 75 rfl) rfl ?_
                refine am_iadd (q := 135) (by omega) (am_tab tk_X10_personTold 76 rfl) rfl ?_
                refine am_iast (q := 136) (a := 85) (n := 10) (Ls_85 hZ7.L) (by omega) (by omega) (am_tab tk_X10_personTold 77 rfl) rfl ?_
                refine am_vret rfl (Nat.le_of_ble_eq_true rfl) (Nat.le_of_ble_eq_true rfl) (am_tab tk_X10_personTold 78 rfl) ?_
                refine hQ _ _ ?_
                have hd : peF b E S pl i = nuF b E 0 99 (akF b E 3 (nuF b E 1 99 (akF b E 2 (pnF b E S i)))) := by unfold peF; rw [if_neg full]
                have hl := hZ7.bad0.mp h80
                rw [hd, if_pos hl]
                refine ⟨rfl, hZ7.st ((((((frw.refl W_st T7).setN (by unfold W_st; omega)).setN (by unfold W_st; omega)).setN (by unfold W_st; omega)).setN (by unfold W_st; omega)).setN (by unfold W_st; omega)), ?_⟩
                have e1 := (hm (akF_l (nuF_l hl))).1
                have e2 := (ha hl).1
                unfold peH
                rw [← e1, ← e2]
                exact ((((hF.both 86 _ _).both 87 _ mi).both 88 _ ak).both 89 _ 0).both 85 0 _
              · refine am_vret rfl (Nat.le_of_ble_eq_true rfl) (Nat.le_of_ble_eq_true rfl) (am_tab tk_X10_personTold 44 rfl) ?_
                refine hQ _ _ ?_
                have hd : peF b E S pl i = nuF b E 0 99 (akF b E 3 (nuF b E 1 99 (akF b E 2 (pnF b E S i)))) := by unfold peF; rw [if_neg full]
                have hl : ¬ (nuF b E 0 99 (akF b E 3 (nuF b E 1 99 (akF b E 2 (pnF b E S i))))).isLeft = true := fun h => h80 (hZ7.bad0.mpr h)
                rw [hd, if_neg hl]
                exact ⟨rfl, hZ7, hF⟩
            · exact absurd n2 h30
          · refine am_callVr (q := 29) (me2 := M_X10_personOf) (b := 55) (kb := 10) (nb := 108) (As := [am_l (zN b E i)]) (rest := []) (c_X10_personOf T1 hZ1.1 (zN b E i) (by rw [hF1.2.2 85 0 (by unfold W_sc; omega)]; exact hN)) ⟨rfl, rfl⟩ (Ls_55 hZ1.1) (by decide) ⟨Or.inl km_X10_313, kc_X10_personOf, kn_X10, kd_X10_personOf, ⟨(Nat.le_of_ble_eq_true rfl), (Nat.le_of_ble_eq_true rfl)⟩, ⟨(Nat.le_of_ble_eq_true rfl), (Nat.le_of_ble_eq_true rfl)⟩, (Nat.le_of_ble_eq_true rfl)⟩ ki_X10_personOf ks_X10_personOf rfl (am_tab tk_X10_personTold 15 rfl) rfl ?_
            rintro r τ ⟨rfl, hτ⟩
            rw [hτ, pOf_fr hF1]
            refine am_st (st2 := [am_i (pOf S (zN b E i))]) rfl ?_
            refine am_iconst (q := 30) (n := (-1)) (by decide) (am_tab tk_X10_personTold 16 rfl) rfl ?_
            refine am_icmp_eq (q := 33) (t := 42) (am_tab tk_X10_personTold 17 rfl) (by decide) rfl (fun h30 => ?_) (fun h30 => ?_)
            · exact absurd h30 n2
            · refine am_aload_n (q := 34) rfl (am_tab tk_X10_personTold 18 rfl) rfl ?_
              refine am_iconst (q := 35) (n := 3) (by decide) (am_tab tk_X10_personTold 19 rfl) rfl ?_
              refine am_aload_n (q := 36) rfl (am_tab tk_X10_personTold 20 rfl) rfl ?_
              refine am_getI (q := 39) (a := 55) (k := 10) (n := 108) (j := 38) (x := (zP b E i : Int)) (Ls_55 hZ1.1) (by decide) rfl e38 (by decide) (Or.inl kf_X10_299) (am_tab tk_X10_personTold 21 rfl) rfl ?_
              refine am_callV0 (q := 42) (me2 := M_X10_fail) (b := 55) (kb := 10) (nb := 108) (As := [am_i 3, am_i ((zP b E i : Int))]) (rest := []) (out := []) (c_fail0 T1 hZ1.1 3 (zP b E i : Int) hZ1.2.2.2.1) ⟨rfl, rfl⟩ (Ls_55 hZ1.1) (by decide) ⟨Or.inl km_X10_278, kc_X10_fail, kn_X10, kd_X10_fail, ⟨(Nat.le_of_ble_eq_true rfl), (Nat.le_of_ble_eq_true rfl)⟩, ⟨(Nat.le_of_ble_eq_true rfl), (Nat.le_of_ble_eq_true rfl)⟩, (Nat.le_of_ble_eq_true rfl)⟩ ki_X10_fail ks_X10_fail rfl rfl (am_tab tk_X10_personTold 22 rfl) rfl ?_
              have hp : pnF b E S i = .inr (3, (zP b E i : Int)) := by unfold pnF; rw [if_pos n1, if_neg n2]
              have hF2 : frw W_sc S (am_setN (am_setN T1 55 5 3) 55 6 (zP b E i : Int)) := (hF1.setN (by unfold W_sc; omega)).setN (by unfold W_sc; omega)
              have hB : ZB b E 3 (zP b E i : Int) (am_setN (am_setN T1 55 5 3) 55 6 (zP b E i : Int)) := ZB_of hZ.1 hZ.2.1 hF2 hZ.2.2.1 rfl (by decide) rfl (by have := hZ1.2.2.2.2.2.1; show 0 ≤ T1.2.1 55 2 ∧ T1.2.1 55 2 ≤ _; omega)
              have hZ2 : ZZ b E (am_setN (am_setN T1 55 5 3) 55 6 (zP b E i : Int)) (pnF b E S i) := by rw [hp]; exact hB
              refine am_aload_n (q := 43) rfl (am_tab tk_X10_personTold 23 rfl) rfl ?_
              refine am_aload_n (q := 44) rfl (am_tab tk_X10_personTold 24 rfl) rfl ?_
              refine am_getR (q := 47) (a := 55) (k := 10) (n := 108) (j := 13) (r := some (60)) (Ls_55 hZ1.1) (by decide) rfl (Lr_55_13 hZ1.1) (by decide) (Or.inl kf_X10_27) (am_tab tk_X10_personTold 25 rfl) rfl ?_
              refine am_callVr (q := 50) (me2 := M_X10_asks) (b := 55) (kb := 10) (nb := 108) (As := [am_r 60]) (rest := []) (c_asksZ hZ2 60 2 (by decide)) ⟨rfl, rfl⟩ (Ls_55 hZ1.1) (by decide) ⟨Or.inl km_X10_317, kc_X10_asks, kn_X10, kd_X10_asks, ⟨(Nat.le_of_ble_eq_true rfl), (Nat.le_of_ble_eq_true rfl)⟩, ⟨(Nat.le_of_ble_eq_true rfl), (Nat.le_of_ble_eq_true rfl)⟩, (Nat.le_of_ble_eq_true rfl)⟩ ki_X10_asks ks_X10_asks rfl (am_tab tk_X10_personTold 26 rfl) rfl ?_
              rintro r T4 ⟨rfl, hZ4, hF4⟩
              refine am_st (st2 := []) rfl ?_
              refine am_aload_n (q := 51) rfl (am_tab tk_X10_personTold 27 rfl) rfl ?_
              refine am_iconst (q := 52) (n := 1) (by decide) (am_tab tk_X10_personTold 28 rfl) rfl ?_
              refine am_bipush (q := 54) (n := 99) (by decide) rfl (am_tab tk_X10_personTold 29 rfl) rfl ?_
              refine am_callVr (q := 57) (me2 := M_X10_number) (b := 55) (kb := 10) (nb := 108) (As := [am_i 1, am_i 99]) (rest := []) (c_numberZ hZ4 1 99 (by decide) (by decide)) ⟨rfl, rfl⟩ (Ls_55 hZ4.L) (by decide) ⟨Or.inl km_X10_321, kc_X10_number, kn_X10, kd_X10_number, ⟨(Nat.le_of_ble_eq_true rfl), (Nat.le_of_ble_eq_true rfl)⟩, ⟨(Nat.le_of_ble_eq_true rfl), (Nat.le_of_ble_eq_true rfl)⟩, (Nat.le_of_ble_eq_true rfl)⟩ ki_X10_number ks_X10_number rfl (am_tab tk_X10_personTold 30 rfl) rfl ?_
              rintro r T5 ⟨mi, rfl, hmr, hZ5, hF5, hm⟩
              refine am_st (st2 := [am_i mi]) rfl ?_
              refine am_istore (q := 59) (by decide) (ls2 := [(4, am_i mi), (2, am_l (zN b E i)), (0, am_r 55), (1, am_i pl)]) rfl (am_tab tk_X10_personTold 31 rfl) rfl ?_
              refine am_aload_n (q := 60) rfl (am_tab tk_X10_personTold 32 rfl) rfl ?_
              refine am_aload_n (q := 61) rfl (am_tab tk_X10_personTold 33 rfl) rfl ?_
              refine am_getR (q := 64) (a := 55) (k := 10) (n := 108) (j := 14) (r := some (61)) (Ls_55 hZ5.L) (by decide) rfl (Lr_55_14 hZ5.L) (by decide) (Or.inl kf_X10_30) (am_tab tk_X10_personTold 34 rfl) rfl ?_
              refine am_callVr (q := 67) (me2 := M_X10_asks) (b := 55) (kb := 10) (nb := 108) (As := [am_r 61]) (rest := []) (c_asksZ hZ5 61 3 (by decide)) ⟨rfl, rfl⟩ (Ls_55 hZ5.L) (by decide) ⟨Or.inl km_X10_317, kc_X10_asks, kn_X10, kd_X10_asks, ⟨(Nat.le_of_ble_eq_true rfl), (Nat.le_of_ble_eq_true rfl)⟩, ⟨(Nat.le_of_ble_eq_true rfl), (Nat.le_of_ble_eq_true rfl)⟩, (Nat.le_of_ble_eq_true rfl)⟩ ki_X10_asks ks_X10_asks rfl (am_tab tk_X10_personTold 35 rfl) rfl ?_
              rintro r T6 ⟨rfl, hZ6, hF6⟩
              refine am_st (st2 := []) rfl ?_
              refine am_aload_n (q := 68) rfl (am_tab tk_X10_personTold 36 rfl) rfl ?_
              refine am_iconst (q := 69) (n := 0) (by decide) (am_tab tk_X10_personTold 37 rfl) rfl ?_
              refine am_bipush (q := 71) (n := 99) (by decide) rfl (am_tab tk_X10_personTold 38 rfl) rfl ?_
              refine am_callVr (q := 74) (me2 := M_X10_number) (b := 55) (kb := 10) (nb := 108) (As := [am_i 0, am_i 99]) (rest := []) (c_numberZ hZ6 0 99 (by decide) (by decide)) ⟨rfl, rfl⟩ (Ls_55 hZ6.L) (by decide) ⟨Or.inl km_X10_321, kc_X10_number, kn_X10, kd_X10_number, ⟨(Nat.le_of_ble_eq_true rfl), (Nat.le_of_ble_eq_true rfl)⟩, ⟨(Nat.le_of_ble_eq_true rfl), (Nat.le_of_ble_eq_true rfl)⟩, (Nat.le_of_ble_eq_true rfl)⟩ ki_X10_number ks_X10_number rfl (am_tab tk_X10_personTold 39 rfl) rfl ?_
              rintro r T7 ⟨ak, rfl, har, hZ7, hF7, ha⟩
              refine am_st (st2 := [am_i ak]) rfl ?_
              refine am_istore (q := 76) (by decide) (ls2 := [(5, am_i ak), (4, am_i mi), (2, am_l (zN b E i)), (0, am_r 55), (1, am_i pl)]) rfl (am_tab tk_X10_personTold 40 rfl) rfl ?_
              have hF : frw W_sc S T7 := (((hF2.trans hF4).trans hF5).trans hF6).trans hF7
              refine am_aload_n (q := 77) rfl (am_tab tk_X10_personTold 41 rfl) rfl ?_
              refine am_getI (q := 80) (a := 55) (k := 10) (n := 108) (j := 5) (x := (T7.2.1 55 5)) (Ls_55 hZ7.L) (by decide) rfl rfl (by decide) (Or.inl kf_X10_248) (am_tab tk_X10_personTold 42 rfl) rfl ?_
              refine am_if_eq (q := 83) (t := 84) (am_tab tk_X10_personTold 43 rfl) (by decide) rfl (fun h80 => ?_) (fun h80 => ?_)
              · exact absurd (hZ7.bad0.mp h80) (by rw [hp]; exact fun h => absurd (show false = true from h) (by decide))
              · refine am_vret rfl (Nat.le_of_ble_eq_true rfl) (Nat.le_of_ble_eq_true rfl) (am_tab tk_X10_personTold 44 rfl) ?_
                refine hQ _ _ ?_
                have hd : peF b E S pl i = nuF b E 0 99 (akF b E 3 (nuF b E 1 99 (akF b E 2 (pnF b E S i)))) := by unfold peF; rw [if_neg full]
                have hl : ¬ (nuF b E 0 99 (akF b E 3 (nuF b E 1 99 (akF b E 2 (pnF b E S i))))).isLeft = true := fun h => h80 (hZ7.bad0.mpr h)
                rw [hd, if_neg hl]
                exact ⟨rfl, hZ7, hF⟩
      · refine am_callVr (q := 16) (me2 := M_X10_name) (b := 55) (kb := 10) (nb := 108) (As := []) (rest := []) (c_nameN hZ n1) ⟨rfl, rfl⟩ (Ls_55 hL) (by decide) ⟨Or.inl km_X10_309, kc_X10_name, kn_X10, kd_X10_name, ⟨(Nat.le_of_ble_eq_true rfl), (Nat.le_of_ble_eq_true rfl)⟩, ⟨(Nat.le_of_ble_eq_true rfl), (Nat.le_of_ble_eq_true rfl)⟩, (Nat.le_of_ble_eq_true rfl)⟩ ki_X10_name ks_X10_name rfl (am_tab tk_X10_personTold 8 rfl) rfl ?_
        rintro r T1 ⟨rfl, hZ1, hF1⟩
        refine am_st (st2 := [am_l 0]) rfl ?_
        refine am_lstore_n (q := 17) (by decide) (ls2 := [(2, am_l 0), (0, am_r 55), (1, am_i pl)]) rfl (am_tab tk_X10_personTold 9 rfl) rfl ?_
        refine am_aload_n (q := 18) rfl (am_tab tk_X10_personTold 10 rfl) rfl ?_
        refine am_getI (q := 21) (a := 55) (k := 10) (n := 108) (j := 5) (x := 1) (Ls_55 hZ1.1) (by decide) rfl hZ1.2.2.2.1 (by decide) (Or.inl kf_X10_248) (am_tab tk_X10_personTold 11 rfl) rfl ?_
        refine am_if_ne (q := 24) (t := 42) (am_tab tk_X10_personTold 12 rfl) (by decide) rfl (fun h21 => ?_) (fun h21 => ?_)
        · have hp : pnF b E S i = .inr (1, mfP b E i) := by unfold pnF; rw [if_neg n1]
          have hZ2 : ZZ b E T1 (pnF b E S i) := by rw [hp]; exact hZ1
          have hF2 : frw W_sc S T1 := hF1
          refine am_aload_n (q := 43) rfl (am_tab tk_X10_personTold 23 rfl) rfl ?_
          refine am_aload_n (q := 44) rfl (am_tab tk_X10_personTold 24 rfl) rfl ?_
          refine am_getR (q := 47) (a := 55) (k := 10) (n := 108) (j := 13) (r := some (60)) (Ls_55 hZ1.1) (by decide) rfl (Lr_55_13 hZ1.1) (by decide) (Or.inl kf_X10_27) (am_tab tk_X10_personTold 25 rfl) rfl ?_
          refine am_callVr (q := 50) (me2 := M_X10_asks) (b := 55) (kb := 10) (nb := 108) (As := [am_r 60]) (rest := []) (c_asksZ hZ2 60 2 (by decide)) ⟨rfl, rfl⟩ (Ls_55 hZ1.1) (by decide) ⟨Or.inl km_X10_317, kc_X10_asks, kn_X10, kd_X10_asks, ⟨(Nat.le_of_ble_eq_true rfl), (Nat.le_of_ble_eq_true rfl)⟩, ⟨(Nat.le_of_ble_eq_true rfl), (Nat.le_of_ble_eq_true rfl)⟩, (Nat.le_of_ble_eq_true rfl)⟩ ki_X10_asks ks_X10_asks rfl (am_tab tk_X10_personTold 26 rfl) rfl ?_
          rintro r T4 ⟨rfl, hZ4, hF4⟩
          refine am_st (st2 := []) rfl ?_
          refine am_aload_n (q := 51) rfl (am_tab tk_X10_personTold 27 rfl) rfl ?_
          refine am_iconst (q := 52) (n := 1) (by decide) (am_tab tk_X10_personTold 28 rfl) rfl ?_
          refine am_bipush (q := 54) (n := 99) (by decide) rfl (am_tab tk_X10_personTold 29 rfl) rfl ?_
          refine am_callVr (q := 57) (me2 := M_X10_number) (b := 55) (kb := 10) (nb := 108) (As := [am_i 1, am_i 99]) (rest := []) (c_numberZ hZ4 1 99 (by decide) (by decide)) ⟨rfl, rfl⟩ (Ls_55 hZ4.L) (by decide) ⟨Or.inl km_X10_321, kc_X10_number, kn_X10, kd_X10_number, ⟨(Nat.le_of_ble_eq_true rfl), (Nat.le_of_ble_eq_true rfl)⟩, ⟨(Nat.le_of_ble_eq_true rfl), (Nat.le_of_ble_eq_true rfl)⟩, (Nat.le_of_ble_eq_true rfl)⟩ ki_X10_number ks_X10_number rfl (am_tab tk_X10_personTold 30 rfl) rfl ?_
          rintro r T5 ⟨mi, rfl, hmr, hZ5, hF5, hm⟩
          refine am_st (st2 := [am_i mi]) rfl ?_
          refine am_istore (q := 59) (by decide) (ls2 := [(4, am_i mi), (2, am_l 0), (0, am_r 55), (1, am_i pl)]) rfl (am_tab tk_X10_personTold 31 rfl) rfl ?_
          refine am_aload_n (q := 60) rfl (am_tab tk_X10_personTold 32 rfl) rfl ?_
          refine am_aload_n (q := 61) rfl (am_tab tk_X10_personTold 33 rfl) rfl ?_
          refine am_getR (q := 64) (a := 55) (k := 10) (n := 108) (j := 14) (r := some (61)) (Ls_55 hZ5.L) (by decide) rfl (Lr_55_14 hZ5.L) (by decide) (Or.inl kf_X10_30) (am_tab tk_X10_personTold 34 rfl) rfl ?_
          refine am_callVr (q := 67) (me2 := M_X10_asks) (b := 55) (kb := 10) (nb := 108) (As := [am_r 61]) (rest := []) (c_asksZ hZ5 61 3 (by decide)) ⟨rfl, rfl⟩ (Ls_55 hZ5.L) (by decide) ⟨Or.inl km_X10_317, kc_X10_asks, kn_X10, kd_X10_asks, ⟨(Nat.le_of_ble_eq_true rfl), (Nat.le_of_ble_eq_true rfl)⟩, ⟨(Nat.le_of_ble_eq_true rfl), (Nat.le_of_ble_eq_true rfl)⟩, (Nat.le_of_ble_eq_true rfl)⟩ ki_X10_asks ks_X10_asks rfl (am_tab tk_X10_personTold 35 rfl) rfl ?_
          rintro r T6 ⟨rfl, hZ6, hF6⟩
          refine am_st (st2 := []) rfl ?_
          refine am_aload_n (q := 68) rfl (am_tab tk_X10_personTold 36 rfl) rfl ?_
          refine am_iconst (q := 69) (n := 0) (by decide) (am_tab tk_X10_personTold 37 rfl) rfl ?_
          refine am_bipush (q := 71) (n := 99) (by decide) rfl (am_tab tk_X10_personTold 38 rfl) rfl ?_
          refine am_callVr (q := 74) (me2 := M_X10_number) (b := 55) (kb := 10) (nb := 108) (As := [am_i 0, am_i 99]) (rest := []) (c_numberZ hZ6 0 99 (by decide) (by decide)) ⟨rfl, rfl⟩ (Ls_55 hZ6.L) (by decide) ⟨Or.inl km_X10_321, kc_X10_number, kn_X10, kd_X10_number, ⟨(Nat.le_of_ble_eq_true rfl), (Nat.le_of_ble_eq_true rfl)⟩, ⟨(Nat.le_of_ble_eq_true rfl), (Nat.le_of_ble_eq_true rfl)⟩, (Nat.le_of_ble_eq_true rfl)⟩ ki_X10_number ks_X10_number rfl (am_tab tk_X10_personTold 39 rfl) rfl ?_
          rintro r T7 ⟨ak, rfl, har, hZ7, hF7, ha⟩
          refine am_st (st2 := [am_i ak]) rfl ?_
          refine am_istore (q := 76) (by decide) (ls2 := [(5, am_i ak), (4, am_i mi), (2, am_l 0), (0, am_r 55), (1, am_i pl)]) rfl (am_tab tk_X10_personTold 40 rfl) rfl ?_
          have hF : frw W_sc S T7 := (((hF2.trans hF4).trans hF5).trans hF6).trans hF7
          refine am_aload_n (q := 77) rfl (am_tab tk_X10_personTold 41 rfl) rfl ?_
          refine am_getI (q := 80) (a := 55) (k := 10) (n := 108) (j := 5) (x := (T7.2.1 55 5)) (Ls_55 hZ7.L) (by decide) rfl rfl (by decide) (Or.inl kf_X10_248) (am_tab tk_X10_personTold 42 rfl) rfl ?_
          refine am_if_eq (q := 83) (t := 84) (am_tab tk_X10_personTold 43 rfl) (by decide) rfl (fun h80 => ?_) (fun h80 => ?_)
          · exact absurd (hZ7.bad0.mp h80) (by rw [hp]; exact fun h => absurd (show false = true from h) (by decide))
          · refine am_vret rfl (Nat.le_of_ble_eq_true rfl) (Nat.le_of_ble_eq_true rfl) (am_tab tk_X10_personTold 44 rfl) ?_
            refine hQ _ _ ?_
            have hd : peF b E S pl i = nuF b E 0 99 (akF b E 3 (nuF b E 1 99 (akF b E 2 (pnF b E S i)))) := by unfold peF; rw [if_neg full]
            have hl : ¬ (nuF b E 0 99 (akF b E 3 (nuF b E 1 99 (akF b E 2 (pnF b E S i))))).isLeft = true := fun h => h80 (hZ7.bad0.mpr h)
            rw [hd, if_neg hl]
            exact ⟨rfl, hZ7, hF⟩
        · exact absurd h21 (by decide)
    · exact absurd h8 (by decide)
