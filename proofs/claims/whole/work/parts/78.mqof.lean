/-- whether person n reminds person i -/
def ofQ (S : am_H) (n i : Int) : Int := if 0 ≤ n ∧ n ≤ S.2.1 85 5 - 1 then ao_and (ao_shr (S.2.1 89 (8 + n).toNat) i) 1 else 0
theorem c_X10_qOf (S : am_H) (hL : lay S) (w : Int) (n : Int) (i : Int) (hN : 0 ≤ S.2.1 85 5 ∧ S.2.1 85 5 ≤ 8) : am_met M_X10_qOf [am_r 55, am_i w, am_l n, am_i i] S (fun r σ' => r = some (am_l (ofQ S n i)) ∧ σ' = S) := by
  refine am_qq (fun Q hQ => ?_)
  refine am_enter (show plainFor yX10_qOf = true by decide +kernel) rfl (Nat.le_of_ble_eq_true rfl) (fun _ _ _ => trivial) ?_
  refine am_iload_n (q := 1) rfl (am_tab tk_X10_qOf 0 rfl) rfl ?_
  refine am_lookup (t := 12) (off := 11) (by decide) rfl dsw_X10_qOf_1 (by decide) ?_
  refine am_lload_n (q := 13) rfl (am_tab tk_X10_qOf 2 rfl) rfl ?_
  refine am_lconst0 (q := 14) (am_tab tk_X10_qOf 3 rfl) rfl ?_
  refine am_aload_n (q := 15) rfl (am_tab tk_X10_qOf 4 rfl) rfl ?_
  refine am_callV0 (q := 18) (me2 := M_X10_peopleMany) (b := 55) (kb := 10) (nb := 108) (As := []) (rest := [am_l 0, am_l n]) (out := [am_i (S.2.1 85 5), am_l 0, am_l n]) (c_X10_peopleMany S hL) ⟨rfl, rfl⟩ (Ls_55 hL) (by decide) ⟨Or.inl km_X10_394, kc_X10_peopleMany, kn_X10, kd_X10_peopleMany, ⟨(Nat.le_of_ble_eq_true rfl), (Nat.le_of_ble_eq_true rfl)⟩, ⟨(Nat.le_of_ble_eq_true rfl), (Nat.le_of_ble_eq_true rfl)⟩, (Nat.le_of_ble_eq_true rfl)⟩ ki_X10_peopleMany ks_X10_peopleMany rfl rfl (am_tab tk_X10_qOf 5 rfl) rfl ?_
  refine am_iconst (q := 19) (n := 1) (by decide) (am_tab tk_X10_qOf 6 rfl) rfl ?_
  refine am_isub (q := 20) (by omega) (am_tab tk_X10_qOf 7 rfl) rfl ?_
  refine am_i2l (q := 21) (am_tab tk_X10_qOf 8 rfl) rfl ?_
  refine am_callS0 (q := 24) (me2 := M_X10_isIn) (As := [am_l n, am_l 0, am_l (((S.2.1 85 5) - 1))]) (rest := []) (out := [am_i (if 0 ≤ n ∧ n ≤ ((S.2.1 85 5) - 1) then 1 else 0)]) (c_X10_isIn S hL n 0 ((S.2.1 85 5) - 1)) ⟨rfl, rfl⟩ ⟨Or.inl km_X10_291, kc_X10_isIn, kn_X10, kd_X10_isIn, ⟨(Nat.le_of_ble_eq_true rfl), (Nat.le_of_ble_eq_true rfl)⟩, ⟨(Nat.le_of_ble_eq_true rfl), (Nat.le_of_ble_eq_true rfl)⟩, (Nat.le_of_ble_eq_true rfl)⟩ ki_X10_isIn rfl rfl (am_tab tk_X10_qOf 9 rfl) rfl ?_
  refine am_if_eq (q := 27) (t := 46) (am_tab tk_X10_qOf 10 rfl) (by decide) rfl (fun h24 => ?_) (fun h24 => ?_)
  · replace h24 := b01z h24
    refine am_lconst0 (q := 47) (am_tab tk_X10_qOf 24 rfl) rfl ?_
    refine am_lret rfl (Nat.le_of_ble_eq_true rfl) (Nat.le_of_ble_eq_true rfl) (am_tab tk_X10_qOf 25 rfl) ?_
    refine hQ _ _ ?_
    refine ⟨congrArg (fun z => some (am_l z)) ?_, rfl⟩
    unfold ofQ
    rw [if_neg (by omega)]
  · replace h24 := b01n h24
    refine am_aload_n (q := 28) rfl (am_tab tk_X10_qOf 11 rfl) rfl ?_
    refine am_getR (q := 31) (a := 55) (k := 10) (n := 108) (j := 43) (r := some (89)) (Ls_55 hL) (by decide) rfl (Lr_55_43 hL) (by decide) (Or.inl kf_X10_115) (am_tab tk_X10_qOf 12 rfl) rfl ?_
    refine am_bipush (q := 33) (n := 8) (by decide) rfl (am_tab tk_X10_qOf 13 rfl) rfl ?_
    refine am_lload_n (q := 34) rfl (am_tab tk_X10_qOf 14 rfl) rfl ?_
    refine am_l2i (q := 35) (y := n) (l2i_eq (x := n) (by omega)).symm (am_tab tk_X10_qOf 15 rfl) rfl ?_
    refine am_iadd (q := 36) (by omega) (am_tab tk_X10_qOf 16 rfl) rfl ?_
    refine am_iald (q := 37) (a := 89) (n := 16) (x := (S.2.1 89 (Int.toNat (8 + n)))) (Ls_89 hL) (by omega) (by omega) rfl (am_tab tk_X10_qOf 17 rfl) rfl ?_
    refine am_iload (q := 39) rfl (am_tab tk_X10_qOf 18 rfl) rfl ?_
    refine am_ishr (q := 40) (am_tab tk_X10_qOf 19 rfl) rfl ?_
    refine am_iconst (q := 41) (n := 1) (by decide) (am_tab tk_X10_qOf 20 rfl) rfl ?_
    refine am_iand (q := 42) (am_tab tk_X10_qOf 21 rfl) rfl ?_
    refine am_i2l (q := 43) (am_tab tk_X10_qOf 22 rfl) rfl ?_
    refine am_goto (t := 47) (am_tab tk_X10_qOf 23 rfl) (by decide) ?_
    refine am_lret rfl (Nat.le_of_ble_eq_true rfl) (Nat.le_of_ble_eq_true rfl) (am_tab tk_X10_qOf 25 rfl) ?_
    refine hQ _ _ ?_
    refine ⟨congrArg (fun z => some (am_l z)) ?_, rfl⟩
    unfold ofQ
    rw [if_pos (by omega)]
