theorem ZB_of {b : Nat → Int} {E : Nat} {k pl : Int} {S T : am_H} (hL : lay S) (hW : WD S) (hF : frw W_sc S T) (hX : TX b E S) (h3 : T.2.1 55 5 = k) (hk : ¬ k = 0) (h6 : T.2.1 55 6 = pl) (h2 : 0 ≤ T.2.1 55 2 ∧ T.2.1 55 2 ≤ E + 10) : ZB b E k pl T := by
  refine ⟨hF.L hL, hW.fr hF W_sc_w, ⟨fun j => ?_, ?_, hX.2.2⟩, h3, hk, h6, h2⟩
  · rw [hF.2.2 56 j (by unfold W_sc; omega)]; exact hX.1 j
  · rw [hF.2.2 55 3 (by unfold W_sc; omega)]; exact hX.2.1
theorem ZS_of {b : Nat → Int} {E i : Nat} {S T : am_H} (hL : lay S) (hW : WD S) (hF : frw W_sc S T) (h : TS b E i T) : ZS b E i T := ⟨hF.L hL, hW.fr hF W_sc_w, h⟩
theorem TX.fr {b : Nat → Int} {E : Nat} {S T : am_H} (h : TX b E S) (hF : frw W_sc S T) : TX b E T := ⟨fun j => by rw [hF.2.2 56 j (by unfold W_sc; omega)]; exact h.1 j, by rw [hF.2.2 55 3 (by unfold W_sc; omega)]; exact h.2.1, h.2.2⟩
theorem c_isHere0 (b : Nat → Int) (E : Nat) (k pl : Int) (S : am_H) (hZ : ZB b E k pl S) (a : Nat)   : am_met M_X10_isHere [am_r 55, am_r a] S (fun r σ' => r = some (am_i 0) ∧ σ' = S) := by
  refine am_qq (fun Q hQ => ?_)
  refine am_enter (show plainFor yX10_isHere = true by decide +kernel) rfl (Nat.le_of_ble_eq_true rfl) (fun _ _ _ => trivial) ?_
  have hL := hZ.1
  have hS5 : ¬ S.2.1 55 5 = 0 := by rw [hZ.2.2.2.1]; exact hZ.2.2.2.2.1
  refine am_aload_n (q := 1) rfl (am_tab tk_X10_isHere 0 rfl) rfl ?_
  refine am_getI (q := 4) (a := 55) (k := 10) (n := 108) (j := 5) (x := (S.2.1 55 5)) (Ls_55 hL) (by decide) rfl rfl (by decide) (Or.inl kf_X10_248) (am_tab tk_X10_isHere 1 rfl) rfl ?_
  refine am_if_ne (q := 7) (t := 28) (am_tab tk_X10_isHere 2 rfl) (by decide) rfl (fun h4 => ?_) (fun h4 => ?_)
  · refine am_iconst (q := 29) (n := 0) (by decide) (am_tab tk_X10_isHere 12 rfl) rfl ?_
    refine am_iret (Or.inr ⟨rfl, by first | exact Or.inl rfl | exact Or.inr rfl | omega⟩) (Nat.le_of_ble_eq_true rfl) (Nat.le_of_ble_eq_true rfl) (am_tab tk_X10_isHere 13 rfl) ?_
    refine hQ _ _ ?_
    exact ⟨rfl, rfl⟩
  · exact absurd h4 hS5
theorem c_takes0 (b : Nat → Int) (E : Nat) (k pl : Int) (S : am_H) (hZ : ZB b E k pl S) (a : Nat)   : am_met M_X10_takes [am_r 55, am_r a] S (fun r σ' => r = some (am_i 0) ∧ σ' = S) := by
  refine am_qq (fun Q hQ => ?_)
  refine am_enter (show plainFor yX10_takes = true by decide +kernel) rfl (Nat.le_of_ble_eq_true rfl) (fun _ _ _ => trivial) ?_
  have hL := hZ.1
  have hS5 : ¬ S.2.1 55 5 = 0 := by rw [hZ.2.2.2.1]; exact hZ.2.2.2.2.1
  refine am_aload_n (q := 1) rfl (am_tab tk_X10_takes 0 rfl) rfl ?_
  refine am_aload_n (q := 2) rfl (am_tab tk_X10_takes 1 rfl) rfl ?_
  refine am_callV0 (q := 5) (me2 := M_X10_isHere) (b := 55) (kb := 10) (nb := 108) (As := [am_r a]) (rest := []) (out := [am_i 0]) (c_isHere0 b E k pl S hZ a) ⟨rfl, rfl⟩ (Ls_55 hL) (by decide) ⟨Or.inl km_X10_271, kc_X10_isHere, kn_X10, kd_X10_isHere, ⟨(Nat.le_of_ble_eq_true rfl), (Nat.le_of_ble_eq_true rfl)⟩, ⟨(Nat.le_of_ble_eq_true rfl), (Nat.le_of_ble_eq_true rfl)⟩, (Nat.le_of_ble_eq_true rfl)⟩ ki_X10_isHere ks_X10_isHere rfl rfl (am_tab tk_X10_takes 2 rfl) rfl ?_
  refine am_if_ne (q := 8) (t := 10) (am_tab tk_X10_takes 3 rfl) (by decide) rfl (fun h5 => ?_) (fun h5 => ?_)
  · exact absurd h5 (by decide)
  · refine am_iconst (q := 9) (n := 0) (by decide) (am_tab tk_X10_takes 4 rfl) rfl ?_
    refine am_iret (Or.inr ⟨rfl, by first | exact Or.inl rfl | exact Or.inr rfl | omega⟩) (Nat.le_of_ble_eq_true rfl) (Nat.le_of_ble_eq_true rfl) (am_tab tk_X10_takes 5 rfl) ?_
    refine hQ _ _ ?_
    exact ⟨rfl, rfl⟩
theorem c_asks0 (b : Nat → Int) (E : Nat) (k pl : Int) (S : am_H) (hZ : ZB b E k pl S) (a : Nat)   : am_met M_X10_asks [am_r 55, am_r a] S (fun r σ' => r = none ∧ σ' = S) := by
  refine am_qq (fun Q hQ => ?_)
  refine am_enter (show plainFor yX10_asks = true by decide +kernel) rfl (Nat.le_of_ble_eq_true rfl) (fun _ _ _ => trivial) ?_
  have hL := hZ.1
  have hS5 : ¬ S.2.1 55 5 = 0 := by rw [hZ.2.2.2.1]; exact hZ.2.2.2.2.1
  refine am_aload_n (q := 1) rfl (am_tab tk_X10_asks 0 rfl) rfl ?_
  refine am_getI (q := 4) (a := 55) (k := 10) (n := 108) (j := 5) (x := (S.2.1 55 5)) (Ls_55 hL) (by decide) rfl rfl (by decide) (Or.inl kf_X10_248) (am_tab tk_X10_asks 1 rfl) rfl ?_
  refine am_if_ne (q := 7) (t := 24) (am_tab tk_X10_asks 2 rfl) (by decide) rfl (fun h4 => ?_) (fun h4 => ?_)
  · refine am_vret rfl (Nat.le_of_ble_eq_true rfl) (Nat.le_of_ble_eq_true rfl) (am_tab tk_X10_asks 12 rfl) ?_
    refine hQ _ _ ?_
    exact ⟨rfl, rfl⟩
  · exact absurd h4 hS5
theorem c_takesSign0 (b : Nat → Int) (E : Nat) (k pl : Int) (S : am_H) (hZ : ZB b E k pl S) (c : Int)  : am_met M_X10_takesSign [am_r 55, am_i c] S (fun r σ' => r = some (am_i 0) ∧ σ' = S) := by
  refine am_qq (fun Q hQ => ?_)
  refine am_enter (show plainFor yX10_takesSign = true by decide +kernel) rfl (Nat.le_of_ble_eq_true rfl) (fun _ _ _ => trivial) ?_
  have hL := hZ.1
  have hS5 : ¬ S.2.1 55 5 = 0 := by rw [hZ.2.2.2.1]; exact hZ.2.2.2.2.1
  refine am_aload_n (q := 1) rfl (am_tab tk_X10_takesSign 0 rfl) rfl ?_
  refine am_getI (q := 4) (a := 55) (k := 10) (n := 108) (j := 5) (x := (S.2.1 55 5)) (Ls_55 hL) (by decide) rfl rfl (by decide) (Or.inl kf_X10_248) (am_tab tk_X10_takesSign 1 rfl) rfl ?_
  refine am_if_ne (q := 7) (t := 15) (am_tab tk_X10_takesSign 2 rfl) (by decide) rfl (fun h4 => ?_) (fun h4 => ?_)
  · refine am_iconst (q := 16) (n := 0) (by decide) (am_tab tk_X10_takesSign 7 rfl) rfl ?_
    refine am_iret (Or.inr ⟨rfl, by first | exact Or.inl rfl | exact Or.inr rfl | omega⟩) (Nat.le_of_ble_eq_true rfl) (Nat.le_of_ble_eq_true rfl) (am_tab tk_X10_takesSign 8 rfl) ?_
    refine hQ _ _ ?_
    exact ⟨rfl, rfl⟩
  · exact absurd h4 hS5
theorem c_asksSign0 (b : Nat → Int) (E : Nat) (k pl : Int) (S : am_H) (hZ : ZB b E k pl S) (c : Int)  : am_met M_X10_asksSign [am_r 55, am_i c] S (fun r σ' => r = none ∧ σ' = S) := by
  refine am_qq (fun Q hQ => ?_)
  refine am_enter (show plainFor yX10_asksSign = true by decide +kernel) rfl (Nat.le_of_ble_eq_true rfl) (fun _ _ _ => trivial) ?_
  have hL := hZ.1
  have hS5 : ¬ S.2.1 55 5 = 0 := by rw [hZ.2.2.2.1]; exact hZ.2.2.2.2.1
  refine am_aload_n (q := 1) rfl (am_tab tk_X10_asksSign 0 rfl) rfl ?_
  refine am_getI (q := 4) (a := 55) (k := 10) (n := 108) (j := 5) (x := (S.2.1 55 5)) (Ls_55 hL) (by decide) rfl rfl (by decide) (Or.inl kf_X10_248) (am_tab tk_X10_asksSign 1 rfl) rfl ?_
  refine am_if_ne (q := 7) (t := 24) (am_tab tk_X10_asksSign 2 rfl) (by decide) rfl (fun h4 => ?_) (fun h4 => ?_)
  · refine am_vret rfl (Nat.le_of_ble_eq_true rfl) (Nat.le_of_ble_eq_true rfl) (am_tab tk_X10_asksSign 12 rfl) ?_
    refine hQ _ _ ?_
    exact ⟨rfl, rfl⟩
  · exact absurd h4 hS5
theorem c_number0 (b : Nat → Int) (E : Nat) (k pl : Int) (S : am_H) (hZ : ZB b E k pl S) (lo : Int) (hi : Int)  : am_met M_X10_number [am_r 55, am_i lo, am_i hi] S (fun r σ' => r = some (am_i 0) ∧ σ' = S) := by
  refine am_qq (fun Q hQ => ?_)
  refine am_enter (show plainFor yX10_number = true by decide +kernel) rfl (Nat.le_of_ble_eq_true rfl) (fun _ _ _ => trivial) ?_
  have hL := hZ.1
  have hS5 : ¬ S.2.1 55 5 = 0 := by rw [hZ.2.2.2.1]; exact hZ.2.2.2.2.1
  refine am_aload_n (q := 1) rfl (am_tab tk_X10_number 0 rfl) rfl ?_
  refine am_getI (q := 4) (a := 55) (k := 10) (n := 108) (j := 5) (x := (S.2.1 55 5)) (Ls_55 hL) (by decide) rfl rfl (by decide) (Or.inl kf_X10_248) (am_tab tk_X10_number 1 rfl) rfl ?_
  refine am_if_eq (q := 7) (t := 9) (am_tab tk_X10_number 2 rfl) (by decide) rfl (fun h4 => ?_) (fun h4 => ?_)
  · exact absurd h4 hS5
  · refine am_iconst (q := 8) (n := 0) (by decide) (am_tab tk_X10_number 3 rfl) rfl ?_
    refine am_iret (Or.inl rfl) (Nat.le_of_ble_eq_true rfl) (Nat.le_of_ble_eq_true rfl) (am_tab tk_X10_number 4 rfl) ?_
    refine hQ _ _ ?_
    exact ⟨rfl, rfl⟩
theorem c_name0 (b : Nat → Int) (E : Nat) (k pl : Int) (S : am_H) (hZ : ZB b E k pl S)   : am_met M_X10_name [am_r 55] S (fun r σ' => r = some (am_l 0) ∧ σ' = S) := by
  refine am_qq (fun Q hQ => ?_)
  refine am_enter (show plainFor yX10_name = true by decide +kernel) rfl (Nat.le_of_ble_eq_true rfl) (fun _ _ _ => trivial) ?_
  have hL := hZ.1
  have hS5 : ¬ S.2.1 55 5 = 0 := by rw [hZ.2.2.2.1]; exact hZ.2.2.2.2.1
  refine am_aload_n (q := 1) rfl (am_tab tk_X10_name 0 rfl) rfl ?_
  refine am_getI (q := 4) (a := 55) (k := 10) (n := 108) (j := 5) (x := (S.2.1 55 5)) (Ls_55 hL) (by decide) rfl rfl (by decide) (Or.inl kf_X10_248) (am_tab tk_X10_name 1 rfl) rfl ?_
  refine am_if_eq (q := 7) (t := 9) (am_tab tk_X10_name 2 rfl) (by decide) rfl (fun h4 => ?_) (fun h4 => ?_)
  · exact absurd h4 hS5
  · refine am_lconst0 (q := 8) (am_tab tk_X10_name 3 rfl) rfl ?_
    refine am_lret rfl (Nat.le_of_ble_eq_true rfl) (Nat.le_of_ble_eq_true rfl) (am_tab tk_X10_name 4 rfl) ?_
    refine hQ _ _ ?_
    exact ⟨rfl, rfl⟩
theorem c_takesY (b : Nat → Int) (E i : Nat) (S : am_H) (hZ : ZS b E i S) (a w : Nat) (hq : (a, w) ∈ WT)  (hk : zK b E i = 128 + (w : Int)) : am_met M_X10_takes [am_r 55, am_r a] S (fun r σ' => r = some (am_i 1) ∧ ZS b E (i + 1) σ' ∧ frw W_sc S σ') := by
  refine am_qq (fun Q hQ => ?_)
  refine am_enter (show plainFor yX10_takes = true by decide +kernel) rfl (Nat.le_of_ble_eq_true rfl) (fun _ _ _ => trivial) ?_
  have hL := hZ.1
  have hS := hZ.2.2
  have hX := hS.1
  have hS5 := hS.2.1
  have hX2 := hX.2.1
  have hX3 := hX.2.2.1
  have hAt := hS.2.2.2.1
  have hEd := hS.2.2.2.2.1
  have hzp := zP_rng b E i
  have hzs := zP_s hS
  have hby := hX.2.2.2
  have hwt := WT_sh _ hq
  have hsh : S.1[a]? = some (13, (WL.getD w []).length) := by rw [hL.1 a hwt.2.1]; exact hwt.1
  have hlen : (WL.getD w []).length ≤ 10 := hwt.2.2.2.2.1
  refine am_aload_n (q := 1) rfl (am_tab tk_X10_takes 0 rfl) rfl ?_
  refine am_aload_n (q := 2) rfl (am_tab tk_X10_takes 1 rfl) rfl ?_
  refine am_callVr (q := 5) (me2 := M_X10_isHere) (b := 55) (kb := 10) (nb := 108) (As := [am_r a]) (rest := []) (c_hereX b E i S hZ a w hq) ⟨rfl, rfl⟩ (Ls_55 hL) (by decide) ⟨Or.inl km_X10_271, kc_X10_isHere, kn_X10, kd_X10_isHere, ⟨(Nat.le_of_ble_eq_true rfl), (Nat.le_of_ble_eq_true rfl)⟩, ⟨(Nat.le_of_ble_eq_true rfl), (Nat.le_of_ble_eq_true rfl)⟩, (Nat.le_of_ble_eq_true rfl)⟩ ki_X10_isHere ks_X10_isHere rfl (am_tab tk_X10_takes 2 rfl) rfl ?_
  rintro r τ ⟨hr, hτ⟩
  rw [decide_eq_true hk] at hr
  subst hτ
  subst hr
  refine am_st (st2 := [am_i 1]) rfl ?_
  refine am_if_ne (q := 8) (t := 10) (am_tab tk_X10_takes 3 rfl) (by decide) rfl (fun h5 => ?_) (fun h5 => ?_)
  · refine am_aload_n (q := 11) rfl (am_tab tk_X10_takes 6 rfl) rfl ?_
    refine am_dup (q := 12) rfl (am_tab tk_X10_takes 7 rfl) rfl ?_
    refine am_getI (q := 15) (a := 55) (k := 10) (n := 108) (j := 2) (x := (zP b E i : Int)) (Ls_55 hL) (by decide) rfl rfl (by decide) (Or.inl kf_X10_254) (am_tab tk_X10_takes 8 rfl) rfl ?_
    refine am_aload_n (q := 16) rfl (am_tab tk_X10_takes 9 rfl) rfl ?_
    refine am_alen (q := 17) (a := a) (k := 13) (n := (WL.getD w []).length) hsh (by decide) (by omega) (am_tab tk_X10_takes 10 rfl) rfl ?_
    refine am_iadd (q := 18) (by omega) (am_tab tk_X10_takes 11 rfl) rfl ?_
    refine am_putI (q := 21) (k := 10) (n := 108) (j := 2) (Ls_55 hL) (by decide) rfl (by decide) (Or.inl ⟨kf_X10_254, rfl⟩) (am_tab tk_X10_takes 12 rfl) rfl ?_
    refine am_aload_n (q := 22) rfl (am_tab tk_X10_takes 13 rfl) rfl ?_
    refine am_aload_n (q := 23) rfl (am_tab tk_X10_takes 14 rfl) rfl ?_
    refine am_getI (q := 26) (a := 55) (k := 10) (n := 108) (j := 2) (x := ((zP b E i : Int) + ((WL.getD w []).length : Int))) (Ls_55 hL) (by decide) rfl rfl (by decide) (Or.inl kf_X10_254) (am_tab tk_X10_takes 15 rfl) rfl ?_
    refine am_putI (q := 29) (k := 10) (n := 108) (j := 4) (Ls_55 hL) (by decide) rfl (by decide) (Or.inl ⟨kf_X10_268, rfl⟩) (am_tab tk_X10_takes 16 rfl) rfl ?_
    refine am_iconst (q := 30) (n := 1) (by decide) (am_tab tk_X10_takes 17 rfl) rfl ?_
    refine am_iret (Or.inr ⟨rfl, by first | exact Or.inl rfl | exact Or.inr rfl | omega⟩) (Nat.le_of_ble_eq_true rfl) (Nat.le_of_ble_eq_true rfl) (am_tab tk_X10_takes 18 rfl) ?_
    refine hQ _ _ ?_
    have hF : frw W_sc S (am_setN (am_setN (am_setN S 55 2 (zP b E i : Int)) 55 2 ((zP b E i : Int) + ((WL.getD w []).length : Int))) 55 4 ((zP b E i : Int) + ((WL.getD w []).length : Int))) := by repeat (first | exact frw.refl _ S | refine frw.setN ?_ (by unfold W_sc; omega))
    refine ⟨rfl, ZS_of hL hZ.2.1 hF (TS_word hS (WT_sh _ hq).2.2.1 hk (hX.fr hF) hS5 hS.2.2.1 rfl rfl), hF⟩
  · exact absurd h5 (by decide)
theorem c_takesN (b : Nat → Int) (E i : Nat) (S : am_H) (hZ : ZS b E i S) (a w : Nat) (hq : (a, w) ∈ WT)  (hk : ¬ zK b E i = 128 + (w : Int)) : am_met M_X10_takes [am_r 55, am_r a] S (fun r σ' => r = some (am_i 0) ∧ σ' = am_setN S 55 2 (zP b E i : Int)) := by
  refine am_qq (fun Q hQ => ?_)
  refine am_enter (show plainFor yX10_takes = true by decide +kernel) rfl (Nat.le_of_ble_eq_true rfl) (fun _ _ _ => trivial) ?_
  have hL := hZ.1
  have hS := hZ.2.2
  have hX := hS.1
  have hS5 := hS.2.1
  have hX2 := hX.2.1
  have hX3 := hX.2.2.1
  have hAt := hS.2.2.2.1
  have hEd := hS.2.2.2.2.1
  have hzp := zP_rng b E i
  have hzs := zP_s hS
  have hby := hX.2.2.2
  have hwt := WT_sh _ hq
  have hsh : S.1[a]? = some (13, (WL.getD w []).length) := by rw [hL.1 a hwt.2.1]; exact hwt.1
  have hlen : (WL.getD w []).length ≤ 10 := hwt.2.2.2.2.1
  refine am_aload_n (q := 1) rfl (am_tab tk_X10_takes 0 rfl) rfl ?_
  refine am_aload_n (q := 2) rfl (am_tab tk_X10_takes 1 rfl) rfl ?_
  refine am_callVr (q := 5) (me2 := M_X10_isHere) (b := 55) (kb := 10) (nb := 108) (As := [am_r a]) (rest := []) (c_hereX b E i S hZ a w hq) ⟨rfl, rfl⟩ (Ls_55 hL) (by decide) ⟨Or.inl km_X10_271, kc_X10_isHere, kn_X10, kd_X10_isHere, ⟨(Nat.le_of_ble_eq_true rfl), (Nat.le_of_ble_eq_true rfl)⟩, ⟨(Nat.le_of_ble_eq_true rfl), (Nat.le_of_ble_eq_true rfl)⟩, (Nat.le_of_ble_eq_true rfl)⟩ ki_X10_isHere ks_X10_isHere rfl (am_tab tk_X10_takes 2 rfl) rfl ?_
  rintro r τ ⟨hr, hτ⟩
  rw [decide_eq_false hk] at hr
  subst hτ
  subst hr
  refine am_st (st2 := [am_i 0]) rfl ?_
  refine am_if_ne (q := 8) (t := 10) (am_tab tk_X10_takes 3 rfl) (by decide) rfl (fun h5 => ?_) (fun h5 => ?_)
  · exact absurd h5 (by decide)
  · refine am_iconst (q := 9) (n := 0) (by decide) (am_tab tk_X10_takes 4 rfl) rfl ?_
    refine am_iret (Or.inr ⟨rfl, by first | exact Or.inl rfl | exact Or.inr rfl | omega⟩) (Nat.le_of_ble_eq_true rfl) (Nat.le_of_ble_eq_true rfl) (am_tab tk_X10_takes 5 rfl) ?_
    refine hQ _ _ ?_
    exact ⟨rfl, rfl⟩
theorem c_asksY (b : Nat → Int) (E i : Nat) (S : am_H) (hZ : ZS b E i S) (a w : Nat) (hq : (a, w) ∈ WT)  (hk : zK b E i = 128 + (w : Int)) : am_met M_X10_asks [am_r 55, am_r a] S (fun r σ' => r = none ∧ ZS b E (i + 1) σ' ∧ frw W_sc S σ') := by
  refine am_qq (fun Q hQ => ?_)
  refine am_enter (show plainFor yX10_asks = true by decide +kernel) rfl (Nat.le_of_ble_eq_true rfl) (fun _ _ _ => trivial) ?_
  have hL := hZ.1
  have hS := hZ.2.2
  have hX := hS.1
  have hS5 := hS.2.1
  have hX2 := hX.2.1
  have hX3 := hX.2.2.1
  have hAt := hS.2.2.2.1
  have hEd := hS.2.2.2.2.1
  have hzp := zP_rng b E i
  have hzs := zP_s hS
  have hby := hX.2.2.2
  refine am_aload_n (q := 1) rfl (am_tab tk_X10_asks 0 rfl) rfl ?_
  refine am_getI (q := 4) (a := 55) (k := 10) (n := 108) (j := 5) (x := 0) (Ls_55 hL) (by decide) rfl hS5 (by decide) (Or.inl kf_X10_248) (am_tab tk_X10_asks 1 rfl) rfl ?_
  refine am_if_ne (q := 7) (t := 24) (am_tab tk_X10_asks 2 rfl) (by decide) rfl (fun h4 => ?_) (fun h4 => ?_)
  · exact absurd rfl h4
  · refine am_aload_n (q := 8) rfl (am_tab tk_X10_asks 3 rfl) rfl ?_
    refine am_aload_n (q := 9) rfl (am_tab tk_X10_asks 4 rfl) rfl ?_
    refine am_callVr (q := 12) (me2 := M_X10_takes) (b := 55) (kb := 10) (nb := 108) (As := [am_r a]) (rest := []) (c_takesY b E i S hZ a w hq hk) ⟨rfl, rfl⟩ (Ls_55 hL) (by decide) ⟨Or.inl km_X10_275, kc_X10_takes, kn_X10, kd_X10_takes, ⟨(Nat.le_of_ble_eq_true rfl), (Nat.le_of_ble_eq_true rfl)⟩, ⟨(Nat.le_of_ble_eq_true rfl), (Nat.le_of_ble_eq_true rfl)⟩, (Nat.le_of_ble_eq_true rfl)⟩ ki_X10_takes ks_X10_takes rfl (am_tab tk_X10_asks 5 rfl) rfl ?_
    rintro r T1 ⟨rfl, hZ1, hF1⟩
    refine am_st (st2 := [am_i 1]) rfl ?_
    refine am_if_ne (q := 15) (t := 24) (am_tab tk_X10_asks 6 rfl) (by decide) rfl (fun h12 => ?_) (fun h12 => ?_)
    · refine am_vret rfl (Nat.le_of_ble_eq_true rfl) (Nat.le_of_ble_eq_true rfl) (am_tab tk_X10_asks 12 rfl) ?_
      refine hQ _ _ ?_
      exact ⟨rfl, hZ1, hF1⟩
    · exact absurd h12 (by decide)
theorem c_asksN (b : Nat → Int) (E i : Nat) (S : am_H) (hZ : ZS b E i S) (a w : Nat) (hq : (a, w) ∈ WT)  (hk : ¬ zK b E i = 128 + (w : Int)) : am_met M_X10_asks [am_r 55, am_r a] S (fun r σ' => r = none ∧ ZB b E 1 (zP b E i : Int) σ' ∧ frw W_sc S σ') := by
  refine am_qq (fun Q hQ => ?_)
  refine am_enter (show plainFor yX10_asks = true by decide +kernel) rfl (Nat.le_of_ble_eq_true rfl) (fun _ _ _ => trivial) ?_
  have hL := hZ.1
  have hS := hZ.2.2
  have hX := hS.1
  have hS5 := hS.2.1
  have hX2 := hX.2.1
  have hX3 := hX.2.2.1
  have hAt := hS.2.2.2.1
  have hEd := hS.2.2.2.2.1
  have hzp := zP_rng b E i
  have hzs := zP_s hS
  have hby := hX.2.2.2
  refine am_aload_n (q := 1) rfl (am_tab tk_X10_asks 0 rfl) rfl ?_
  refine am_getI (q := 4) (a := 55) (k := 10) (n := 108) (j := 5) (x := 0) (Ls_55 hL) (by decide) rfl hS5 (by decide) (Or.inl kf_X10_248) (am_tab tk_X10_asks 1 rfl) rfl ?_
  refine am_if_ne (q := 7) (t := 24) (am_tab tk_X10_asks 2 rfl) (by decide) rfl (fun h4 => ?_) (fun h4 => ?_)
  · exact absurd rfl h4
  · refine am_aload_n (q := 8) rfl (am_tab tk_X10_asks 3 rfl) rfl ?_
    refine am_aload_n (q := 9) rfl (am_tab tk_X10_asks 4 rfl) rfl ?_
    refine am_callVr (q := 12) (me2 := M_X10_takes) (b := 55) (kb := 10) (nb := 108) (As := [am_r a]) (rest := []) (c_takesN b E i S hZ a w hq hk) ⟨rfl, rfl⟩ (Ls_55 hL) (by decide) ⟨Or.inl km_X10_275, kc_X10_takes, kn_X10, kd_X10_takes, ⟨(Nat.le_of_ble_eq_true rfl), (Nat.le_of_ble_eq_true rfl)⟩, ⟨(Nat.le_of_ble_eq_true rfl), (Nat.le_of_ble_eq_true rfl)⟩, (Nat.le_of_ble_eq_true rfl)⟩ ki_X10_takes ks_X10_takes rfl (am_tab tk_X10_asks 5 rfl) rfl ?_
    rintro r τ ⟨rfl, rfl⟩
    refine am_st (st2 := [am_i 0]) rfl ?_
    refine am_if_ne (q := 15) (t := 24) (am_tab tk_X10_asks 6 rfl) (by decide) rfl (fun h12 => ?_) (fun h12 => ?_)
    · exact absurd h12 (by decide)
    · refine am_aload_n (q := 16) rfl (am_tab tk_X10_asks 7 rfl) rfl ?_
      refine am_iconst (q := 17) (n := 1) (by decide) (am_tab tk_X10_asks 8 rfl) rfl ?_
      refine am_aload_n (q := 18) rfl (am_tab tk_X10_asks 9 rfl) rfl ?_
      refine am_getI (q := 21) (a := 55) (k := 10) (n := 108) (j := 2) (x := (zP b E i : Int)) (Ls_55 hL) (by decide) rfl rfl (by decide) (Or.inl kf_X10_254) (am_tab tk_X10_asks 10 rfl) rfl ?_
      refine am_callV0 (q := 24) (me2 := M_X10_fail) (b := 55) (kb := 10) (nb := 108) (As := [am_i 1, am_i ((zP b E i : Int))]) (rest := []) (out := []) (c_fail0 (am_setN S 55 2 (zP b E i : Int)) hL 1 (zP b E i : Int) hS5) ⟨rfl, rfl⟩ (Ls_55 hL) (by decide) ⟨Or.inl km_X10_278, kc_X10_fail, kn_X10, kd_X10_fail, ⟨(Nat.le_of_ble_eq_true rfl), (Nat.le_of_ble_eq_true rfl)⟩, ⟨(Nat.le_of_ble_eq_true rfl), (Nat.le_of_ble_eq_true rfl)⟩, (Nat.le_of_ble_eq_true rfl)⟩ ki_X10_fail ks_X10_fail rfl rfl (am_tab tk_X10_asks 11 rfl) rfl ?_
      refine am_vret rfl (Nat.le_of_ble_eq_true rfl) (Nat.le_of_ble_eq_true rfl) (am_tab tk_X10_asks 12 rfl) ?_
      refine hQ _ _ ?_
      have hF : frw W_sc S (am_setN (am_setN (am_setN S 55 2 (zP b E i : Int)) 55 5 1) 55 6 (zP b E i : Int)) := by repeat (first | exact frw.refl _ S | refine frw.setN ?_ (by unfold W_sc; omega))
      exact ⟨rfl, ZB_of hL hZ.2.1 hF hX rfl (by decide) rfl (by show 0 ≤ (zP b E i : Int) ∧ (zP b E i : Int) ≤ _; omega), hF⟩
theorem c_takesSignY (b : Nat → Int) (E i : Nat) (S : am_H) (hZ : ZS b E i S) (c : Int) (hc : sgn c = true) (hk : zK b E i = c) : am_met M_X10_takesSign [am_r 55, am_i c] S (fun r σ' => r = some (am_i 1) ∧ ZS b E (i + 1) σ' ∧ frw W_sc S σ' ∧ σ'.2.1 55 2 = (zP b E i : Int) + 1) := by
  refine am_qq (fun Q hQ => ?_)
  refine am_enter (show plainFor yX10_takesSign = true by decide +kernel) rfl (Nat.le_of_ble_eq_true rfl) (fun _ _ _ => trivial) ?_
  have hL := hZ.1
  have hS := hZ.2.2
  have hX := hS.1
  have hS5 := hS.2.1
  have hX2 := hX.2.1
  have hX3 := hX.2.2.1
  have hAt := hS.2.2.2.1
  have hEd := hS.2.2.2.2.1
  have hzp := zP_rng b E i
  have hzs := zP_s hS
  have hby := hX.2.2.2
  have hbc := sg_iff (b := b) (E := E) (i := i) hc
  refine am_aload_n (q := 1) rfl (am_tab tk_X10_takesSign 0 rfl) rfl ?_
  refine am_getI (q := 4) (a := 55) (k := 10) (n := 108) (j := 5) (x := 0) (Ls_55 hL) (by decide) rfl hS5 (by decide) (Or.inl kf_X10_248) (am_tab tk_X10_takesSign 1 rfl) rfl ?_
  refine am_if_ne (q := 7) (t := 15) (am_tab tk_X10_takesSign 2 rfl) (by decide) rfl (fun h4 => ?_) (fun h4 => ?_)
  · exact absurd rfl h4
  · refine am_aload_n (q := 8) rfl (am_tab tk_X10_takesSign 3 rfl) rfl ?_
    refine am_callV0 (q := 11) (me2 := M_X10_look) (b := 55) (kb := 10) (nb := 108) (As := []) (rest := []) (out := [am_i (byt b E i)]) (c_X10_look b E i S hL hS) ⟨rfl, rfl⟩ (Ls_55 hL) (by decide) ⟨Or.inl km_X10_260, kc_X10_look, kn_X10, kd_X10_look, ⟨(Nat.le_of_ble_eq_true rfl), (Nat.le_of_ble_eq_true rfl)⟩, ⟨(Nat.le_of_ble_eq_true rfl), (Nat.le_of_ble_eq_true rfl)⟩, (Nat.le_of_ble_eq_true rfl)⟩ ki_X10_look ks_X10_look rfl rfl (am_tab tk_X10_takesSign 4 rfl) rfl ?_
    refine am_iload_n (q := 12) rfl (am_tab tk_X10_takesSign 5 rfl) rfl ?_
    refine am_icmp_eq (q := 15) (t := 17) (am_tab tk_X10_takesSign 6 rfl) (by decide) rfl (fun h12 => ?_) (fun h12 => ?_)
    · refine am_aload_n (q := 18) rfl (am_tab tk_X10_takesSign 9 rfl) rfl ?_
      refine am_dup (q := 19) rfl (am_tab tk_X10_takesSign 10 rfl) rfl ?_
      refine am_getI (q := 22) (a := 55) (k := 10) (n := 108) (j := 2) (x := (zP b E i : Int)) (Ls_55 hL) (by decide) rfl rfl (by decide) (Or.inl kf_X10_254) (am_tab tk_X10_takesSign 11 rfl) rfl ?_
      refine am_iconst (q := 23) (n := 1) (by decide) (am_tab tk_X10_takesSign 12 rfl) rfl ?_
      refine am_iadd (q := 24) (by omega) (am_tab tk_X10_takesSign 13 rfl) rfl ?_
      refine am_putI (q := 27) (k := 10) (n := 108) (j := 2) (Ls_55 hL) (by decide) rfl (by decide) (Or.inl ⟨kf_X10_254, rfl⟩) (am_tab tk_X10_takesSign 14 rfl) rfl ?_
      refine am_iconst (q := 28) (n := 1) (by decide) (am_tab tk_X10_takesSign 15 rfl) rfl ?_
      refine am_iret (Or.inr ⟨rfl, by first | exact Or.inl rfl | exact Or.inr rfl | omega⟩) (Nat.le_of_ble_eq_true rfl) (Nat.le_of_ble_eq_true rfl) (am_tab tk_X10_takesSign 16 rfl) ?_
      refine hQ _ _ ?_
      have hF : frw W_sc S (am_setN (am_setN S 55 2 (zP b E i : Int)) 55 2 ((zP b E i : Int) + 1)) := by repeat (first | exact frw.refl _ S | refine frw.setN ?_ (by unfold W_sc; omega))
      exact ⟨rfl, ZS_of hL hZ.2.1 hF (TS_sign hS hc hk (hX.fr hF) hS5 hS.2.2.1 rfl rfl), hF, rfl⟩
    · exact absurd (hbc.mpr hk) h12
theorem c_takesSignN (b : Nat → Int) (E i : Nat) (S : am_H) (hZ : ZS b E i S) (c : Int) (hc : sgn c = true) (hk : ¬ zK b E i = c) : am_met M_X10_takesSign [am_r 55, am_i c] S (fun r σ' => r = some (am_i 0) ∧ σ' = am_setN S 55 2 (zP b E i : Int)) := by
  refine am_qq (fun Q hQ => ?_)
  refine am_enter (show plainFor yX10_takesSign = true by decide +kernel) rfl (Nat.le_of_ble_eq_true rfl) (fun _ _ _ => trivial) ?_
  have hL := hZ.1
  have hS := hZ.2.2
  have hX := hS.1
  have hS5 := hS.2.1
  have hX2 := hX.2.1
  have hX3 := hX.2.2.1
  have hAt := hS.2.2.2.1
  have hEd := hS.2.2.2.2.1
  have hzp := zP_rng b E i
  have hzs := zP_s hS
  have hby := hX.2.2.2
  have hbc := sg_iff (b := b) (E := E) (i := i) hc
  refine am_aload_n (q := 1) rfl (am_tab tk_X10_takesSign 0 rfl) rfl ?_
  refine am_getI (q := 4) (a := 55) (k := 10) (n := 108) (j := 5) (x := 0) (Ls_55 hL) (by decide) rfl hS5 (by decide) (Or.inl kf_X10_248) (am_tab tk_X10_takesSign 1 rfl) rfl ?_
  refine am_if_ne (q := 7) (t := 15) (am_tab tk_X10_takesSign 2 rfl) (by decide) rfl (fun h4 => ?_) (fun h4 => ?_)
  · exact absurd rfl h4
  · refine am_aload_n (q := 8) rfl (am_tab tk_X10_takesSign 3 rfl) rfl ?_
    refine am_callV0 (q := 11) (me2 := M_X10_look) (b := 55) (kb := 10) (nb := 108) (As := []) (rest := []) (out := [am_i (byt b E i)]) (c_X10_look b E i S hL hS) ⟨rfl, rfl⟩ (Ls_55 hL) (by decide) ⟨Or.inl km_X10_260, kc_X10_look, kn_X10, kd_X10_look, ⟨(Nat.le_of_ble_eq_true rfl), (Nat.le_of_ble_eq_true rfl)⟩, ⟨(Nat.le_of_ble_eq_true rfl), (Nat.le_of_ble_eq_true rfl)⟩, (Nat.le_of_ble_eq_true rfl)⟩ ki_X10_look ks_X10_look rfl rfl (am_tab tk_X10_takesSign 4 rfl) rfl ?_
    refine am_iload_n (q := 12) rfl (am_tab tk_X10_takesSign 5 rfl) rfl ?_
    refine am_icmp_eq (q := 15) (t := 17) (am_tab tk_X10_takesSign 6 rfl) (by decide) rfl (fun h12 => ?_) (fun h12 => ?_)
    · exact absurd (hbc.mp h12) hk
    · refine am_iconst (q := 16) (n := 0) (by decide) (am_tab tk_X10_takesSign 7 rfl) rfl ?_
      refine am_iret (Or.inr ⟨rfl, by first | exact Or.inl rfl | exact Or.inr rfl | omega⟩) (Nat.le_of_ble_eq_true rfl) (Nat.le_of_ble_eq_true rfl) (am_tab tk_X10_takesSign 8 rfl) ?_
      refine hQ _ _ ?_
      exact ⟨rfl, rfl⟩
theorem c_asksSignY (b : Nat → Int) (E i : Nat) (S : am_H) (hZ : ZS b E i S) (c : Int) (hc : sgn c = true) (hk : zK b E i = c) : am_met M_X10_asksSign [am_r 55, am_i c] S (fun r σ' => r = none ∧ ZS b E (i + 1) σ' ∧ frw W_sc S σ') := by
  refine am_qq (fun Q hQ => ?_)
  refine am_enter (show plainFor yX10_asksSign = true by decide +kernel) rfl (Nat.le_of_ble_eq_true rfl) (fun _ _ _ => trivial) ?_
  have hL := hZ.1
  have hS := hZ.2.2
  have hX := hS.1
  have hS5 := hS.2.1
  have hX2 := hX.2.1
  have hX3 := hX.2.2.1
  have hAt := hS.2.2.2.1
  have hEd := hS.2.2.2.2.1
  have hzp := zP_rng b E i
  have hzs := zP_s hS
  have hby := hX.2.2.2
  refine am_aload_n (q := 1) rfl (am_tab tk_X10_asksSign 0 rfl) rfl ?_
  refine am_getI (q := 4) (a := 55) (k := 10) (n := 108) (j := 5) (x := 0) (Ls_55 hL) (by decide) rfl hS5 (by decide) (Or.inl kf_X10_248) (am_tab tk_X10_asksSign 1 rfl) rfl ?_
  refine am_if_ne (q := 7) (t := 24) (am_tab tk_X10_asksSign 2 rfl) (by decide) rfl (fun h4 => ?_) (fun h4 => ?_)
  · exact absurd rfl h4
  · refine am_aload_n (q := 8) rfl (am_tab tk_X10_asksSign 3 rfl) rfl ?_
    refine am_iload_n (q := 9) rfl (am_tab tk_X10_asksSign 4 rfl) rfl ?_
    refine am_callVr (q := 12) (me2 := M_X10_takesSign) (b := 55) (kb := 10) (nb := 108) (As := [am_i c]) (rest := []) (c_takesSignY b E i S hZ c hc hk) ⟨rfl, rfl⟩ (Ls_55 hL) (by decide) ⟨Or.inl km_X10_282, kc_X10_takesSign, kn_X10, kd_X10_takesSign, ⟨(Nat.le_of_ble_eq_true rfl), (Nat.le_of_ble_eq_true rfl)⟩, ⟨(Nat.le_of_ble_eq_true rfl), (Nat.le_of_ble_eq_true rfl)⟩, (Nat.le_of_ble_eq_true rfl)⟩ ki_X10_takesSign ks_X10_takesSign rfl (am_tab tk_X10_asksSign 5 rfl) rfl ?_
    rintro r T1 ⟨rfl, hZ1, hF1, e1⟩
    refine am_st (st2 := [am_i 1]) rfl ?_
    refine am_if_ne (q := 15) (t := 24) (am_tab tk_X10_asksSign 6 rfl) (by decide) rfl (fun h12 => ?_) (fun h12 => ?_)
    · refine am_vret rfl (Nat.le_of_ble_eq_true rfl) (Nat.le_of_ble_eq_true rfl) (am_tab tk_X10_asksSign 12 rfl) ?_
      refine hQ _ _ ?_
      exact ⟨rfl, hZ1, hF1⟩
    · exact absurd h12 (by decide)
theorem c_asksSignN (b : Nat → Int) (E i : Nat) (S : am_H) (hZ : ZS b E i S) (c : Int) (hc : sgn c = true) (hk : ¬ zK b E i = c) : am_met M_X10_asksSign [am_r 55, am_i c] S (fun r σ' => r = none ∧ ZB b E 1 (zP b E i : Int) σ' ∧ frw W_sc S σ') := by
  refine am_qq (fun Q hQ => ?_)
  refine am_enter (show plainFor yX10_asksSign = true by decide +kernel) rfl (Nat.le_of_ble_eq_true rfl) (fun _ _ _ => trivial) ?_
  have hL := hZ.1
  have hS := hZ.2.2
  have hX := hS.1
  have hS5 := hS.2.1
  have hX2 := hX.2.1
  have hX3 := hX.2.2.1
  have hAt := hS.2.2.2.1
  have hEd := hS.2.2.2.2.1
  have hzp := zP_rng b E i
  have hzs := zP_s hS
  have hby := hX.2.2.2
  refine am_aload_n (q := 1) rfl (am_tab tk_X10_asksSign 0 rfl) rfl ?_
  refine am_getI (q := 4) (a := 55) (k := 10) (n := 108) (j := 5) (x := 0) (Ls_55 hL) (by decide) rfl hS5 (by decide) (Or.inl kf_X10_248) (am_tab tk_X10_asksSign 1 rfl) rfl ?_
  refine am_if_ne (q := 7) (t := 24) (am_tab tk_X10_asksSign 2 rfl) (by decide) rfl (fun h4 => ?_) (fun h4 => ?_)
  · exact absurd rfl h4
  · refine am_aload_n (q := 8) rfl (am_tab tk_X10_asksSign 3 rfl) rfl ?_
    refine am_iload_n (q := 9) rfl (am_tab tk_X10_asksSign 4 rfl) rfl ?_
    refine am_callVr (q := 12) (me2 := M_X10_takesSign) (b := 55) (kb := 10) (nb := 108) (As := [am_i c]) (rest := []) (c_takesSignN b E i S hZ c hc hk) ⟨rfl, rfl⟩ (Ls_55 hL) (by decide) ⟨Or.inl km_X10_282, kc_X10_takesSign, kn_X10, kd_X10_takesSign, ⟨(Nat.le_of_ble_eq_true rfl), (Nat.le_of_ble_eq_true rfl)⟩, ⟨(Nat.le_of_ble_eq_true rfl), (Nat.le_of_ble_eq_true rfl)⟩, (Nat.le_of_ble_eq_true rfl)⟩ ki_X10_takesSign ks_X10_takesSign rfl (am_tab tk_X10_asksSign 5 rfl) rfl ?_
    rintro r τ ⟨rfl, rfl⟩
    refine am_st (st2 := [am_i 0]) rfl ?_
    refine am_if_ne (q := 15) (t := 24) (am_tab tk_X10_asksSign 6 rfl) (by decide) rfl (fun h12 => ?_) (fun h12 => ?_)
    · exact absurd h12 (by decide)
    · refine am_aload_n (q := 16) rfl (am_tab tk_X10_asksSign 7 rfl) rfl ?_
      refine am_iconst (q := 17) (n := 1) (by decide) (am_tab tk_X10_asksSign 8 rfl) rfl ?_
      refine am_aload_n (q := 18) rfl (am_tab tk_X10_asksSign 9 rfl) rfl ?_
      refine am_getI (q := 21) (a := 55) (k := 10) (n := 108) (j := 2) (x := (zP b E i : Int)) (Ls_55 hL) (by decide) rfl rfl (by decide) (Or.inl kf_X10_254) (am_tab tk_X10_asksSign 10 rfl) rfl ?_
      refine am_callV0 (q := 24) (me2 := M_X10_fail) (b := 55) (kb := 10) (nb := 108) (As := [am_i 1, am_i ((zP b E i : Int))]) (rest := []) (out := []) (c_fail0 (am_setN S 55 2 (zP b E i : Int)) hL 1 (zP b E i : Int) hS5) ⟨rfl, rfl⟩ (Ls_55 hL) (by decide) ⟨Or.inl km_X10_278, kc_X10_fail, kn_X10, kd_X10_fail, ⟨(Nat.le_of_ble_eq_true rfl), (Nat.le_of_ble_eq_true rfl)⟩, ⟨(Nat.le_of_ble_eq_true rfl), (Nat.le_of_ble_eq_true rfl)⟩, (Nat.le_of_ble_eq_true rfl)⟩ ki_X10_fail ks_X10_fail rfl rfl (am_tab tk_X10_asksSign 11 rfl) rfl ?_
      refine am_vret rfl (Nat.le_of_ble_eq_true rfl) (Nat.le_of_ble_eq_true rfl) (am_tab tk_X10_asksSign 12 rfl) ?_
      refine hQ _ _ ?_
      have hF : frw W_sc S (am_setN (am_setN (am_setN S 55 2 (zP b E i : Int)) 55 5 1) 55 6 (zP b E i : Int)) := by repeat (first | exact frw.refl _ S | refine frw.setN ?_ (by unfold W_sc; omega))
      exact ⟨rfl, ZB_of hL hZ.2.1 hF hX rfl (by decide) rfl (by show 0 ≤ (zP b E i : Int) ∧ (zP b E i : Int) ≤ _; omega), hF⟩
