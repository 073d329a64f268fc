/-- a frost: where this reading ends, what it leaves -/
def frF (b : Nat → Int) (E : Nat) (S : am_H) (pl : Int) (i : Nat) : Nat ⊕ (Int × Int) := if S.2.1 85 3 = 4 then .inr (5, pl) else nuF b E 1 30 (akF b E 8 (nuF b E 1 (S.2.1 85 4) (.inl i)))
def frH (b : Nat → Int) (E : Nat) (S : am_H) (i : Nat) : am_H := am_setN (am_setN (am_setN S 91 (2 * S.2.1 85 3).toNat (zV b E i)) 91 (2 * S.2.1 85 3 + 1).toNat (vZ b E (akF b E 8 (nuF b E 1 (S.2.1 85 4) (.inl i))))) 85 3 (S.2.1 85 3 + 1)
theorem c_X10_frostTold (b : Nat → Int) (E i : Nat) (S : am_H) (hZ : ZS b E i S) (pl : Int) (hk : 0 ≤ S.2.1 85 3 ∧ S.2.1 85 3 ≤ 4) (hY : S.2.1 85 4 ≤ 90) : am_met M_X10_frostTold [am_r 55, am_i pl] S (fun r σ' => r = none ∧ ZZ b E σ' (frF b E S pl i) ∧ frw W_sc (if (frF b E S pl i).isLeft = true then frH b E S i else S) σ') := by
  refine am_qq (fun Q hQ => ?_)
  refine am_enter (show plainFor yX10_frostTold = true by decide +kernel) rfl (Nat.le_of_ble_eq_true rfl) (fun _ _ _ => trivial) ?_
  have hL := hZ.1
  refine am_aload_n (q := 1) rfl (am_tab tk_X10_frostTold 0 rfl) rfl ?_
  refine am_iconst (q := 2) (n := 3) (by decide) (am_tab tk_X10_frostTold 1 rfl) rfl ?_
  refine am_iconst (q := 3) (n := 4) (by decide) (am_tab tk_X10_frostTold 2 rfl) rfl ?_
  refine am_iload_n (q := 4) rfl (am_tab tk_X10_frostTold 3 rfl) rfl ?_
  by_cases full : S.2.1 85 3 = 4
  · refine am_callV0 (q := 7) (me2 := M_X10_isFull) (b := 55) (kb := 10) (nb := 108) (As := [am_i 3, am_i 4, am_i pl]) (rest := []) (out := [am_i 1]) (c_isFullY S hL 3 4 pl (by decide) hZ.2.2.2.1 full) ⟨rfl, rfl⟩ (Ls_55 hL) (by decide) ⟨Or.inl km_X10_329, kc_X10_isFull, kn_X10, kd_X10_isFull, ⟨(Nat.le_of_ble_eq_true rfl), (Nat.le_of_ble_eq_true rfl)⟩, ⟨(Nat.le_of_ble_eq_true rfl), (Nat.le_of_ble_eq_true rfl)⟩, (Nat.le_of_ble_eq_true rfl)⟩ ki_X10_isFull ks_X10_isFull rfl rfl (am_tab tk_X10_frostTold 4 rfl) rfl ?_
    refine am_if_eq (q := 10) (t := 11) (am_tab tk_X10_frostTold 5 rfl) (by decide) rfl (fun h7 => ?_) (fun h7 => ?_)
    · exact absurd h7 (by decide)
    · refine am_vret rfl (Nat.le_of_ble_eq_true rfl) (Nat.le_of_ble_eq_true rfl) (am_tab tk_X10_frostTold 6 rfl) ?_
      refine hQ _ _ ?_
      have hd : frF b E S pl i = .inr (5, pl) := by unfold frF; rw [if_pos full]
      have hF : frw W_sc S (am_setN (am_setN S 55 5 5) 55 6 pl) := ((frw.refl W_sc S).setN (by unfold W_sc; omega)).setN (by unfold W_sc; omega)
      rw [hd, if_neg (by simp)]
      exact ⟨rfl, ZB_of hZ.1 hZ.2.1 hF hZ.2.2.1 rfl (show ¬ (5 : Int) = 0 by decide) rfl (by have := hZ.2.2.2.2.2.1; show 0 ≤ S.2.1 55 2 ∧ S.2.1 55 2 ≤ _; omega), hF⟩
  · refine am_callV0 (q := 7) (me2 := M_X10_isFull) (b := 55) (kb := 10) (nb := 108) (As := [am_i 3, am_i 4, am_i pl]) (rest := []) (out := [am_i 0]) (c_isFullN S hL 3 4 pl (by decide) hZ.2.2.2.1 full) ⟨rfl, rfl⟩ (Ls_55 hL) (by decide) ⟨Or.inl km_X10_329, kc_X10_isFull, kn_X10, kd_X10_isFull, ⟨(Nat.le_of_ble_eq_true rfl), (Nat.le_of_ble_eq_true rfl)⟩, ⟨(Nat.le_of_ble_eq_true rfl), (Nat.le_of_ble_eq_true rfl)⟩, (Nat.le_of_ble_eq_true rfl)⟩ ki_X10_isFull ks_X10_isFull rfl rfl (am_tab tk_X10_frostTold 4 rfl) rfl ?_
    refine am_if_eq (q := 10) (t := 11) (am_tab tk_X10_frostTold 5 rfl) (by decide) rfl (fun h7 => ?_) (fun h7 => ?_)
    · refine am_aload_n (q := 12) rfl (am_tab tk_X10_frostTold 7 rfl) rfl ?_
      refine am_iconst (q := 13) (n := 1) (by decide) (am_tab tk_X10_frostTold 8 rfl) rfl ?_
      refine am_aload_n (q := 14) rfl (am_tab tk_X10_frostTold 9 rfl) rfl ?_
      refine am_getR (q := 17) (a := 55) (k := 10) (n := 108) (j := 39) (r := some (85)) (Ls_55 hL) (by decide) rfl (Lr_55_39 hL) (by decide) (Or.inl kf_X10_102) (am_tab tk_X10_frostTold 10 rfl) rfl ?_
      refine am_iconst (q := 18) (n := 4) (by decide) (am_tab tk_X10_frostTold 11 rfl) rfl ?_
      refine am_iald (q := 19) (a := 85) (n := 10) (x := (S.2.1 85 4)) (Ls_85 hL) (by omega) (by omega) rfl (am_tab tk_X10_frostTold 12 rfl) rfl ?_
      refine am_callVr (q := 22) (me2 := M_X10_number) (b := 55) (kb := 10) (nb := 108) (As := [am_i 1, am_i ((S.2.1 85 4))]) (rest := []) (c_numberZ (show ZZ b E S (.inl i) from hZ) 1 (S.2.1 85 4) (by decide) (by omega)) ⟨rfl, rfl⟩ (Ls_55 hL) (by decide) ⟨Or.inl km_X10_321, kc_X10_number, kn_X10, kd_X10_number, ⟨(Nat.le_of_ble_eq_true rfl), (Nat.le_of_ble_eq_true rfl)⟩, ⟨(Nat.le_of_ble_eq_true rfl), (Nat.le_of_ble_eq_true rfl)⟩, (Nat.le_of_ble_eq_true rfl)⟩ ki_X10_number ks_X10_number rfl (am_tab tk_X10_frostTold 13 rfl) rfl ?_
      rintro r T1 ⟨v, rfl, hvr, hZ1, hF1, hv⟩
      refine am_st (st2 := [am_i v]) rfl ?_
      refine am_istore_n (q := 23) (by decide) (ls2 := [(2, am_i v), (0, am_r 55), (1, am_i pl)]) rfl (am_tab tk_X10_frostTold 14 rfl) rfl ?_
      refine am_aload_n (q := 24) rfl (am_tab tk_X10_frostTold 15 rfl) rfl ?_
      refine am_aload_n (q := 25) rfl (am_tab tk_X10_frostTold 16 rfl) rfl ?_
      refine am_getR (q := 28) (a := 55) (k := 10) (n := 108) (j := 19) (r := some (66)) (Ls_55 hZ1.L) (by decide) rfl (Lr_55_19 hZ1.L) (by decide) (Or.inl kf_X10_45) (am_tab tk_X10_frostTold 17 rfl) rfl ?_
      refine am_callVr (q := 31) (me2 := M_X10_asks) (b := 55) (kb := 10) (nb := 108) (As := [am_r 66]) (rest := []) (c_asksZ hZ1 66 8 (by decide)) ⟨rfl, rfl⟩ (Ls_55 hZ1.L) (by decide) ⟨Or.inl km_X10_317, kc_X10_asks, kn_X10, kd_X10_asks, ⟨(Nat.le_of_ble_eq_true rfl), (Nat.le_of_ble_eq_true rfl)⟩, ⟨(Nat.le_of_ble_eq_true rfl), (Nat.le_of_ble_eq_true rfl)⟩, (Nat.le_of_ble_eq_true rfl)⟩ ki_X10_asks ks_X10_asks rfl (am_tab tk_X10_frostTold 18 rfl) rfl ?_
      rintro r T2 ⟨rfl, hZ2, hF2⟩
      refine am_st (st2 := []) rfl ?_
      refine am_aload_n (q := 32) rfl (am_tab tk_X10_frostTold 19 rfl) rfl ?_
      refine am_iconst (q := 33) (n := 1) (by decide) (am_tab tk_X10_frostTold 20 rfl) rfl ?_
      refine am_bipush (q := 35) (n := 30) (by decide) rfl (am_tab tk_X10_frostTold 21 rfl) rfl ?_
      refine am_callVr (q := 38) (me2 := M_X10_number) (b := 55) (kb := 10) (nb := 108) (As := [am_i 1, am_i 30]) (rest := []) (c_numberZ hZ2 1 30 (by decide) (by decide)) ⟨rfl, rfl⟩ (Ls_55 hZ2.L) (by decide) ⟨Or.inl km_X10_321, kc_X10_number, kn_X10, kd_X10_number, ⟨(Nat.le_of_ble_eq_true rfl), (Nat.le_of_ble_eq_true rfl)⟩, ⟨(Nat.le_of_ble_eq_true rfl), (Nat.le_of_ble_eq_true rfl)⟩, (Nat.le_of_ble_eq_true rfl)⟩ ki_X10_number ks_X10_number rfl (am_tab tk_X10_frostTold 22 rfl) rfl ?_
      rintro r T3 ⟨n, rfl, hnr, hZ3, hF3, hn⟩
      refine am_st (st2 := [am_i n]) rfl ?_
      refine am_istore_n (q := 39) (by decide) (ls2 := [(3, am_i n), (2, am_i v), (0, am_r 55), (1, am_i pl)]) rfl (am_tab tk_X10_frostTold 23 rfl) rfl ?_
      have hF : frw W_sc S T3 := (hF1.trans hF2).trans hF3
      refine am_aload_n (q := 40) rfl (am_tab tk_X10_frostTold 24 rfl) rfl ?_
      refine am_getI (q := 43) (a := 55) (k := 10) (n := 108) (j := 5) (x := (T3.2.1 55 5)) (Ls_55 hZ3.L) (by decide) rfl rfl (by decide) (Or.inl kf_X10_248) (am_tab tk_X10_frostTold 25 rfl) rfl ?_
      refine am_if_eq (q := 46) (t := 47) (am_tab tk_X10_frostTold 26 rfl) (by decide) rfl (fun h43 => ?_) (fun h43 => ?_)
      · refine am_aload_n (q := 48) rfl (am_tab tk_X10_frostTold 28 rfl) rfl ?_
        refine am_getR (q := 51) (a := 55) (k := 10) (n := 108) (j := 45) (r := some (91)) (Ls_55 hZ3.L) (by decide) rfl (Lr_55_45 hZ3.L) (by decide) (Or.inl kf_X10_121) (am_tab tk_X10_frostTold 29 rfl) rfl ?_
        refine am_iconst (q := 52) (n := 2) (by decide) (am_tab tk_X10_frostTold 30 rfl) rfl ?_
        refine am_aload_n (q := 53) rfl (am_tab tk_X10_frostTold 31 rfl) rfl ?_
        refine am_getR (q := 56) (a := 55) (k := 10) (n := 108) (j := 39) (r := some (85)) (Ls_55 hZ3.L) (by decide) rfl (Lr_55_39 hZ3.L) (by decide) (Or.inl kf_X10_102) (am_tab tk_X10_frostTold 32 rfl) rfl ?_
        refine am_iconst (q := 57) (n := 3) (by decide) (am_tab tk_X10_frostTold 33 rfl) rfl ?_
        refine am_iald (q := 58) (a := 85) (n := 10) (x := (S.2.1 85 3)) (Ls_85 hZ3.L) (by omega) (by omega) (hF.2.2 85 3 (by unfold W_sc; omega)) (am_tab tk_X10_frostTold 34 rfl) rfl ?_
        refine am_imul (q := 59) (by omega) (am_tab tk_X10_frostTold 35 rfl) rfl ?_
        refine am_iload_n (q := 60) rfl (am_tab tk_X10_frostTold 36 rfl) rfl ?_
        refine am_iast (q := 61) (a := 91) (n := 16) (Ls_91 hZ3.L) (by omega) (by omega) (am_tab tk_X10_frostTold 37 rfl) rfl ?_
        refine am_aload_n (q := 62) rfl (am_tab tk_X10_frostTold 38 rfl) rfl ?_
        refine am_getR (q := 65) (a := 55) (k := 10) (n := 108) (j := 45) (r := some (91)) (Ls_55 hZ3.L) (by decide) rfl (Lr_55_45 hZ3.L) (by decide) (Or.inl kf_X10_121) (am_tab tk_X10_frostTold 39 rfl) rfl ?_
        refine am_iconst (q := 66) (n := 2) (by decide) (am_tab tk_X10_frostTold 40 rfl) rfl ?_
        refine am_aload_n (q := 67) rfl (am_tab tk_X10_frostTold 41 rfl) rfl ?_
        refine am_getR (q := 70) (a := 55) (k := 10) (n := 108) (j := 39) (r := some (85)) (Ls_55 hZ3.L) (by decide) rfl (Lr_55_39 hZ3.L) (by decide) (Or.inl kf_X10_102) (am_tab tk_X10_frostTold 42 rfl) rfl ?_
        refine am_iconst (q := 71) (n := 3) (by decide) (am_tab tk_X10_frostTold 43 rfl) rfl ?_
        refine am_iald (q := 72) (a := 85) (n := 10) (x := (S.2.1 85 3)) (Ls_85 hZ3.L) (by omega) (by omega) (hF.2.2 85 3 (by unfold W_sc; omega)) (am_tab tk_X10_frostTold 44 rfl) rfl ?_
        refine am_imul (q := 73) (by omega) (am_tab tk_X10_frostTold 45 rfl) rfl ?_
        refine am_iconst (q := 74) (n := 1) (by decide) (am_tab tk_X10_frostTold 46 rfl) rfl ?_
        refine am_iadd (q := 75) (by omega) (am_tab tk_X10_frostTold 47 rfl) rfl ?_
        refine am_iload_n (q := 76) rfl (am_tab tk_X10_frostTold 48 rfl) rfl ?_
        refine am_iast (q := 77) (a := 91) (n := 16) (Ls_91 hZ3.L) (by omega) (by omega) (am_tab tk_X10_frostTold 49 rfl) rfl ?_
        refine am_aload_n (q := 78) rfl (am_tab tk_X10_frostTold 50 rfl) rfl ?_
        refine am_getR (q := 81) (a := 55) (k := 10) (n := 108) (j := 39) (r := some (85)) (Ls_55 hZ3.L) (by decide) rfl (Lr_55_39 hZ3.L) (by decide) (Or.inl kf_X10_102) (am_tab tk_X10_frostTold 51 rfl) rfl ?_
        refine am_iconst (q := 82) (n := 3) (by decide) (am_tab tk_X10_frostTold 52 rfl) rfl ?_
        refine am_dup2 (q := 83) rfl rfl (am_tab tk_X10_frostTold 53 rfl) rfl ?_
        refine am_iald (q := 84) (a := 85) (n := 10) (x := (S.2.1 85 3)) (Ls_85 hZ3.L) (by omega) (by omega) (hF.2.2 85 3 (by unfold W_sc; omega)) (am_tab tk_X10_frostTold 54 rfl) rfl ?_
        refine am_iconst (q := 85) (n := 1) (by decide) (am_tab tk_X10_frostTold 55 rfl) rfl ?_
        refine am_iadd (q := 86) (by omega) (am_tab tk_X10_frostTold 56 rfl) rfl ?_
        refine am_iast (q := 87) (a := 85) (n := 10) (Ls_85 hZ3.L) (by omega) (by omega) (am_tab tk_X10_frostTold 57 rfl) rfl ?_
        refine am_vret rfl (Nat.le_of_ble_eq_true rfl) (Nat.le_of_ble_eq_true rfl) (am_tab tk_X10_frostTold 58 rfl) ?_
        refine hQ _ _ ?_
        have hd : frF b E S pl i = nuF b E 1 30 (akF b E 8 (nuF b E 1 (S.2.1 85 4) (.inl i))) := by unfold frF; rw [if_neg full]
        have hl := hZ3.bad0.mp h43
        rw [hd, if_pos hl]
        refine ⟨rfl, hZ3.st ((((frw.refl W_st T3).setN (by unfold W_st; omega)).setN (by unfold W_st; omega)).setN (by unfold W_st; omega)), ?_⟩
        have e1 : v = zV b E i := (hv (akF_l (nuF_l hl))).1
        have e2 := (hn hl).1
        unfold frH
        rw [← e2, ← e1]
        exact ((hF.both 91 _ v).both 91 _ n).both 85 3 _
      · refine am_vret rfl (Nat.le_of_ble_eq_true rfl) (Nat.le_of_ble_eq_true rfl) (am_tab tk_X10_frostTold 27 rfl) ?_
        refine hQ _ _ ?_
        have hd : frF b E S pl i = nuF b E 1 30 (akF b E 8 (nuF b E 1 (S.2.1 85 4) (.inl i))) := by unfold frF; rw [if_neg full]
        have hl : ¬ (nuF b E 1 30 (akF b E 8 (nuF b E 1 (S.2.1 85 4) (.inl i)))).isLeft = true := fun h => h43 (hZ3.bad0.mpr h)
        rw [hd, if_neg hl]
        exact ⟨rfl, hZ3, hF⟩
    · exact absurd h7 (by decide)
