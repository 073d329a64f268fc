theorem phF_fr {b : Nat → Int} {E : Nat} {S T : am_H} (hF : frw W_sc S T) (p : Nat ⊕ (Int × Int)) : phF b E T p = phF b E S p := by
  cases p with
  | inl i =>
    show (if zK b E i = 3 ∨ 155 ≤ zK b E i then (if pOf T (zN b E i) = -1 then Sum.inr (3, (zP b E i : Int)) else Sum.inl (i + 1)) else Sum.inr (1, mfP b E i)) = (if zK b E i = 3 ∨ 155 ≤ zK b E i then (if pOf S (zN b E i) = -1 then Sum.inr (3, (zP b E i : Int)) else Sum.inl (i + 1)) else Sum.inr (1, mfP b E i))
    rw [pOf_fr hF]
  | inr e => rfl
theorem ZZ.two {b : Nat → Int} {E : Nat} {S : am_H} {p : Nat ⊕ (Int × Int)} (h : ZZ b E S p) : 0 ≤ S.2.1 55 2 ∧ S.2.1 55 2 ≤ E + 10 := by
  cases p with
  | inl i =>
    have h2 := (show ZS b E i S from h).2.2.2.2.2.1
    omega
  | inr e => exact (show ZB b E e.1 e.2 S from h).2.2.2.2.2.2
/-- who reminds whom: where this reading ends, what it leaves -/
def rmA (b : Nat → Int) (E : Nat) (S : am_H) (i : Nat) : Int := pOf S (nZ b E (.inl i))
def rmB (b : Nat → Int) (E : Nat) (S : am_H) (i : Nat) : Int := pOf S (nZ b E (phF b E S (.inl i)))
def rmF (b : Nat → Int) (E : Nat) (S : am_H) (pl : Int) (i : Nat) : Nat ⊕ (Int × Int) := if S.2.1 85 2 = 20 then .inr (5, pl) else if (phF b E S (phF b E S (.inl i))).isLeft = true ∧ (rmA b E S i = rmB b E S i ∨ ao_and (ao_shr (S.2.1 89 (rmA b E S i).toNat) (rmB b E S i)) 1 = 1) then .inr (3, pZ b E (phF b E S (.inl i))) else phF b E S (phF b E S (.inl i))
def rmH (b : Nat → Int) (E : Nat) (S : am_H) (i : Nat) : am_H := am_setN (am_setN S 89 (rmA b E S i).toNat (ao_or (S.2.1 89 (rmA b E S i).toNat) (ao_shl 1 (rmB b E S i)))) 85 2 (S.2.1 85 2 + 1)
theorem c_X10_remindsTold (b : Nat → Int) (E i : Nat) (S : am_H) (hZ : ZS b E i S) (pl : Int) (hN : 0 ≤ S.2.1 85 0 ∧ S.2.1 85 0 ≤ 8) (hM : 0 ≤ S.2.1 85 2 ∧ S.2.1 85 2 ≤ 20) : am_met M_X10_remindsTold [am_r 55, am_i pl] S (fun r σ' => r = none ∧ ZZ b E σ' (rmF b E S pl i) ∧ frw W_sc (if (rmF b E S pl i).isLeft = true then rmH b E S i else S) σ') := by
  refine am_qq (fun Q hQ => ?_)
  refine am_enter (show plainFor yX10_remindsTold = true by decide +kernel) rfl (Nat.le_of_ble_eq_true rfl) (fun _ _ _ => trivial) ?_
  have hL := hZ.1
  refine am_aload_n (q := 1) rfl (am_tab tk_X10_remindsTold 0 rfl) rfl ?_
  refine am_iconst (q := 2) (n := 2) (by decide) (am_tab tk_X10_remindsTold 1 rfl) rfl ?_
  refine am_bipush (q := 4) (n := 20) (by decide) rfl (am_tab tk_X10_remindsTold 2 rfl) rfl ?_
  refine am_iload_n (q := 5) rfl (am_tab tk_X10_remindsTold 3 rfl) rfl ?_
  by_cases full : S.2.1 85 2 = 20
  · refine am_callV0 (q := 8) (me2 := M_X10_isFull) (b := 55) (kb := 10) (nb := 108) (As := [am_i 2, am_i 20, am_i pl]) (rest := []) (out := [am_i 1]) (c_isFullY S hL 2 20 pl (by decide) hZ.2.2.2.1 full) ⟨rfl, rfl⟩ (Ls_55 hL) (by decide) ⟨Or.inl km_X10_329, kc_X10_isFull, kn_X10, kd_X10_isFull, ⟨(Nat.le_of_ble_eq_true rfl), (Nat.le_of_ble_eq_true rfl)⟩, ⟨(Nat.le_of_ble_eq_true rfl), (Nat.le_of_ble_eq_true rfl)⟩, (Nat.le_of_ble_eq_true rfl)⟩ ki_X10_isFull ks_X10_isFull rfl rfl (am_tab tk_X10_remindsTold 4 rfl) rfl ?_
    refine am_if_eq (q := 11) (t := 12) (am_tab tk_X10_remindsTold 5 rfl) (by decide) rfl (fun h8 => ?_) (fun h8 => ?_)
    · exact absurd h8 (by decide)
    · refine am_vret rfl (Nat.le_of_ble_eq_true rfl) (Nat.le_of_ble_eq_true rfl) (am_tab tk_X10_remindsTold 6 rfl) ?_
      refine hQ _ _ ?_
      have hd : rmF b E S pl i = .inr (5, pl) := by unfold rmF; rw [if_pos full]
      have hF : frw W_sc S (am_setN (am_setN S 55 5 5) 55 6 pl) := ((frw.refl W_sc S).setN (by unfold W_sc; omega)).setN (by unfold W_sc; omega)
      rw [hd, if_neg (by simp)]
      exact ⟨rfl, ZB_of hZ.1 hZ.2.1 hF hZ.2.2.1 rfl (show ¬ (5 : Int) = 0 by decide) rfl (by have := hZ.2.2.2.2.2.1; show 0 ≤ S.2.1 55 2 ∧ S.2.1 55 2 ≤ _; omega), hF⟩
  · refine am_callV0 (q := 8) (me2 := M_X10_isFull) (b := 55) (kb := 10) (nb := 108) (As := [am_i 2, am_i 20, am_i pl]) (rest := []) (out := [am_i 0]) (c_isFullN S hL 2 20 pl (by decide) hZ.2.2.2.1 full) ⟨rfl, rfl⟩ (Ls_55 hL) (by decide) ⟨Or.inl km_X10_329, kc_X10_isFull, kn_X10, kd_X10_isFull, ⟨(Nat.le_of_ble_eq_true rfl), (Nat.le_of_ble_eq_true rfl)⟩, ⟨(Nat.le_of_ble_eq_true rfl), (Nat.le_of_ble_eq_true rfl)⟩, (Nat.le_of_ble_eq_true rfl)⟩ ki_X10_isFull ks_X10_isFull rfl rfl (am_tab tk_X10_remindsTold 4 rfl) rfl ?_
    refine am_if_eq (q := 11) (t := 12) (am_tab tk_X10_remindsTold 5 rfl) (by decide) rfl (fun h8 => ?_) (fun h8 => ?_)
    · refine am_aload_n (q := 13) rfl (am_tab tk_X10_remindsTold 7 rfl) rfl ?_
      refine am_callVr (q := 16) (me2 := M_X10_personHere) (b := 55) (kb := 10) (nb := 108) (As := []) (rest := []) (c_personHereZ (show ZZ b E S (.inl i) from hZ) hN) ⟨rfl, rfl⟩ (Ls_55 hL) (by decide) ⟨Or.inl km_X10_333, kc_X10_personHere, kn_X10, kd_X10_personHere, ⟨(Nat.le_of_ble_eq_true rfl), (Nat.le_of_ble_eq_true rfl)⟩, ⟨(Nat.le_of_ble_eq_true rfl), (Nat.le_of_ble_eq_true rfl)⟩, (Nat.le_of_ble_eq_true rfl)⟩ ki_X10_personHere ks_X10_personHere rfl (am_tab tk_X10_remindsTold 8 rfl) rfl ?_
      rintro r T1 ⟨va, rfl, hvar, hZ1, hF1, hva⟩
      refine am_st (st2 := [am_i va]) rfl ?_
      refine am_istore_n (q := 17) (by decide) (ls2 := [(2, am_i va), (0, am_r 55), (1, am_i pl)]) rfl (am_tab tk_X10_remindsTold 9 rfl) rfl ?_
      refine am_aload_n (q := 18) rfl (am_tab tk_X10_remindsTold 10 rfl) rfl ?_
      refine am_callVr (q := 21) (me2 := M_X10_personHere) (b := 55) (kb := 10) (nb := 108) (As := []) (rest := []) (c_personHereZ hZ1 (by rw [hF1.2.2 85 0 (by unfold W_sc; omega)]; exact hN)) ⟨rfl, rfl⟩ (Ls_55 hZ1.L) (by decide) ⟨Or.inl km_X10_333, kc_X10_personHere, kn_X10, kd_X10_personHere, ⟨(Nat.le_of_ble_eq_true rfl), (Nat.le_of_ble_eq_true rfl)⟩, ⟨(Nat.le_of_ble_eq_true rfl), (Nat.le_of_ble_eq_true rfl)⟩, (Nat.le_of_ble_eq_true rfl)⟩ ki_X10_personHere ks_X10_personHere rfl (am_tab tk_X10_remindsTold 11 rfl) rfl ?_
      rintro r T2 ⟨vb, rfl, hvbr, hZ2, hF2, hvb⟩
      rw [phF_fr hF1] at hZ2 hvb
      rw [pOf_fr hF1] at hvb
      have hF : frw W_sc S T2 := hF1.trans hF2
      refine am_st (st2 := [am_i vb]) rfl ?_
      refine am_istore_n (q := 22) (by decide) (ls2 := [(3, am_i vb), (2, am_i va), (0, am_r 55), (1, am_i pl)]) rfl (am_tab tk_X10_remindsTold 12 rfl) rfl ?_
      refine am_aload_n (q := 23) rfl (am_tab tk_X10_remindsTold 13 rfl) rfl ?_
      refine am_getI (q := 26) (a := 55) (k := 10) (n := 108) (j := 5) (x := (T2.2.1 55 5)) (Ls_55 hZ2.L) (by decide) rfl rfl (by decide) (Or.inl kf_X10_248) (am_tab tk_X10_remindsTold 14 rfl) rfl ?_
      refine am_if_ne (q := 29) (t := 57) (am_tab tk_X10_remindsTold 15 rfl) (by decide) rfl (fun h26 => ?_) (fun h26 => ?_)
      · refine am_aload_n (q := 58) rfl (am_tab tk_X10_remindsTold 34 rfl) rfl ?_
        refine am_getI (q := 61) (a := 55) (k := 10) (n := 108) (j := 5) (x := (T2.2.1 55 5)) (Ls_55 hZ2.L) (by decide) rfl rfl (by decide) (Or.inl kf_X10_248) (am_tab tk_X10_remindsTold 35 rfl) rfl ?_
        refine am_if_eq (q := 64) (t := 65) (am_tab tk_X10_remindsTold 36 rfl) (by decide) rfl (fun h61 => ?_) (fun h61 => ?_)
        · exact absurd h61 h26
        · refine am_vret rfl (Nat.le_of_ble_eq_true rfl) (Nat.le_of_ble_eq_true rfl) (am_tab tk_X10_remindsTold 37 rfl) ?_
          refine hQ _ _ ?_
          have hl : ¬ (phF b E S (phF b E S (.inl i))).isLeft = true := fun h => h26 (hZ2.bad0.mpr h)
          have hd : rmF b E S pl i = phF b E S (phF b E S (.inl i)) := by unfold rmF; rw [if_neg full, if_neg (fun h => hl h.1)]
          rw [hd, if_neg hl]
          exact ⟨rfl, hZ2, hF⟩
      · have hl := hZ2.bad0.mp h26
        have eA : va = rmA b E S i := (hva (phF_l hl)).1
        have eB : vb = rmB b E S i := (hvb hl).1
        refine am_iload_n (q := 30) rfl (am_tab tk_X10_remindsTold 16 rfl) rfl ?_
        refine am_iload_n (q := 31) rfl (am_tab tk_X10_remindsTold 17 rfl) rfl ?_
        refine am_icmp_eq (q := 34) (t := 48) (am_tab tk_X10_remindsTold 18 rfl) (by decide) rfl (fun h31 => ?_) (fun h31 => ?_)
        · refine am_aload_n (q := 49) rfl (am_tab tk_X10_remindsTold 29 rfl) rfl ?_
          refine am_iconst (q := 50) (n := 3) (by decide) (am_tab tk_X10_remindsTold 30 rfl) rfl ?_
          refine am_aload_n (q := 51) rfl (am_tab tk_X10_remindsTold 31 rfl) rfl ?_
          refine am_getI (q := 54) (a := 55) (k := 10) (n := 108) (j := 38) (x := (T2.2.1 55 38)) (Ls_55 hZ2.L) (by decide) rfl rfl (by decide) (Or.inl kf_X10_299) (am_tab tk_X10_remindsTold 32 rfl) rfl ?_
          refine am_callV0 (q := 57) (me2 := M_X10_fail) (b := 55) (kb := 10) (nb := 108) (As := [am_i 3, am_i ((T2.2.1 55 38))]) (rest := []) (out := []) (c_fail0 T2 hZ2.L 3 (T2.2.1 55 38) h26) ⟨rfl, rfl⟩ (Ls_55 hZ2.L) (by decide) ⟨Or.inl km_X10_278, kc_X10_fail, kn_X10, kd_X10_fail, ⟨(Nat.le_of_ble_eq_true rfl), (Nat.le_of_ble_eq_true rfl)⟩, ⟨(Nat.le_of_ble_eq_true rfl), (Nat.le_of_ble_eq_true rfl)⟩, (Nat.le_of_ble_eq_true rfl)⟩ ki_X10_fail ks_X10_fail rfl rfl (am_tab tk_X10_remindsTold 33 rfl) rfl ?_
          refine am_aload_n (q := 58) rfl (am_tab tk_X10_remindsTold 34 rfl) rfl ?_
          refine am_getI (q := 61) (a := 55) (k := 10) (n := 108) (j := 5) (x := 3) (Ls_55 hZ2.L) (by decide) rfl rfl (by decide) (Or.inl kf_X10_248) (am_tab tk_X10_remindsTold 35 rfl) rfl ?_
          refine am_if_eq (q := 64) (t := 65) (am_tab tk_X10_remindsTold 36 rfl) (by decide) rfl (fun h61 => ?_) (fun h61 => ?_)
          · exact absurd h61 (by decide)
          · refine am_vret rfl (Nat.le_of_ble_eq_true rfl) (Nat.le_of_ble_eq_true rfl) (am_tab tk_X10_remindsTold 37 rfl) ?_
            refine hQ _ _ ?_
            have hd : rmF b E S pl i = .inr (3, pZ b E (phF b E S (.inl i))) := by unfold rmF; rw [if_neg full, if_pos ⟨hl, Or.inl (by rw [← eA, ← eB]; exact h31)⟩]
            have hF9 : frw W_sc S (am_setN (am_setN T2 55 5 3) 55 6 (T2.2.1 55 38)) := (hF.setN (by unfold W_sc; omega)).setN (by unfold W_sc; omega)
            rw [hd, if_neg (by simp)]
            exact ⟨rfl, ZB_of hZ.1 hZ.2.1 hF9 hZ.2.2.1 rfl (show ¬ (3 : Int) = 0 by decide) (hvb hl).2.2 hZ2.two, hF9⟩
        · refine am_aload_n (q := 35) rfl (am_tab tk_X10_remindsTold 19 rfl) rfl ?_
          refine am_getR (q := 38) (a := 55) (k := 10) (n := 108) (j := 43) (r := some (89)) (Ls_55 hZ2.L) (by decide) rfl (Lr_55_43 hZ2.L) (by decide) (Or.inl kf_X10_115) (am_tab tk_X10_remindsTold 20 rfl) rfl ?_
          refine am_iload_n (q := 39) rfl (am_tab tk_X10_remindsTold 21 rfl) rfl ?_
          refine am_iald (q := 40) (a := 89) (n := 16) (x := (S.2.1 89 va.toNat)) (Ls_89 hZ2.L) (by omega) (by omega) (hF.2.2 89 va.toNat (by unfold W_sc; omega)) (am_tab tk_X10_remindsTold 22 rfl) rfl ?_
          refine am_iload_n (q := 41) rfl (am_tab tk_X10_remindsTold 23 rfl) rfl ?_
          refine am_ishr (q := 42) (am_tab tk_X10_remindsTold 24 rfl) rfl ?_
          refine am_iconst (q := 43) (n := 1) (by decide) (am_tab tk_X10_remindsTold 25 rfl) rfl ?_
          refine am_iand (q := 44) (am_tab tk_X10_remindsTold 26 rfl) rfl ?_
          refine am_iconst (q := 45) (n := 1) (by decide) (am_tab tk_X10_remindsTold 27 rfl) rfl ?_
          refine am_icmp_ne (q := 48) (t := 57) (am_tab tk_X10_remindsTold 28 rfl) (by decide) rfl (fun h45 => ?_) (fun h45 => ?_)
          · refine am_aload_n (q := 58) rfl (am_tab tk_X10_remindsTold 34 rfl) rfl ?_
            refine am_getI (q := 61) (a := 55) (k := 10) (n := 108) (j := 5) (x := (T2.2.1 55 5)) (Ls_55 hZ2.L) (by decide) rfl rfl (by decide) (Or.inl kf_X10_248) (am_tab tk_X10_remindsTold 35 rfl) rfl ?_
            refine am_if_eq (q := 64) (t := 65) (am_tab tk_X10_remindsTold 36 rfl) (by decide) rfl (fun h61 => ?_) (fun h61 => ?_)
            · refine am_aload_n (q := 66) rfl (am_tab tk_X10_remindsTold 38 rfl) rfl ?_
              refine am_getR (q := 69) (a := 55) (k := 10) (n := 108) (j := 43) (r := some (89)) (Ls_55 hZ2.L) (by decide) rfl (Lr_55_43 hZ2.L) (by decide) (Or.inl kf_X10_115) (am_tab tk_X10_remindsTold 39 rfl) rfl ?_
              refine am_iload_n (q := 70) rfl (am_tab tk_X10_remindsTold 40 rfl) rfl ?_
              refine am_dup2 (q := 71) rfl rfl (am_tab tk_X10_remindsTold 41 rfl) rfl ?_
              refine am_iald (q := 72) (a := 89) (n := 16) (x := (S.2.1 89 va.toNat)) (Ls_89 hZ2.L) (by omega) (by omega) (hF.2.2 89 va.toNat (by unfold W_sc; omega)) (am_tab tk_X10_remindsTold 42 rfl) rfl ?_
              refine am_iconst (q := 73) (n := 1) (by decide) (am_tab tk_X10_remindsTold 43 rfl) rfl ?_
              refine am_iload_n (q := 74) rfl (am_tab tk_X10_remindsTold 44 rfl) rfl ?_
              refine am_ishl (q := 75) (am_tab tk_X10_remindsTold 45 rfl) rfl ?_
              refine am_ior (q := 76) (am_tab tk_X10_remindsTold 46 rfl) rfl ?_
              refine am_iast (q := 77) (a := 89) (n := 16) (Ls_89 hZ2.L) (by omega) (by omega) (am_tab tk_X10_remindsTold 47 rfl) rfl ?_
              refine am_aload_n (q := 78) rfl (am_tab tk_X10_remindsTold 48 rfl) rfl ?_
              refine am_getR (q := 81) (a := 55) (k := 10) (n := 108) (j := 39) (r := some (85)) (Ls_55 hZ2.L) (by decide) rfl (Lr_55_39 hZ2.L) (by decide) (Or.inl kf_X10_102) (am_tab tk_X10_remindsTold 49 rfl) rfl ?_
              refine am_iconst (q := 82) (n := 2) (by decide) (am_tab tk_X10_remindsTold 50 rfl) rfl ?_
              refine am_dup2 (q := 83) rfl rfl (am_tab tk_X10_remindsTold 51 rfl) rfl ?_
              refine am_iald (q := 84) (a := 85) (n := 10) (x := (S.2.1 85 2)) (Ls_85 hZ2.L) (by omega) (by omega) (hF.2.2 85 2 (by unfold W_sc; omega)) (am_tab tk_X10_remindsTold 52 rfl) rfl ?_
              refine am_iconst (q := 85) (n := 1) (by decide) (am_tab tk_X10_remindsTold 53 rfl) rfl ?_
              refine am_iadd (q := 86) (by omega) (am_tab tk_X10_remindsTold 54 rfl) rfl ?_
              refine am_iast (q := 87) (a := 85) (n := 10) (Ls_85 hZ2.L) (by omega) (by omega) (am_tab tk_X10_remindsTold 55 rfl) rfl ?_
              refine am_vret rfl (Nat.le_of_ble_eq_true rfl) (Nat.le_of_ble_eq_true rfl) (am_tab tk_X10_remindsTold 56 rfl) ?_
              refine hQ _ _ ?_
              have hd : rmF b E S pl i = phF b E S (phF b E S (.inl i)) := by
                unfold rmF
                rw [if_neg full, if_neg]
                rintro ⟨_, h | h⟩
                · exact h31 (by rw [eA, eB]; exact h)
                · exact h45 (by rw [eA, eB]; exact h)
              rw [hd, if_pos hl]
              refine ⟨rfl, hZ2.st (((frw.refl W_st T2).setN (by unfold W_st; omega)).setN (by unfold W_st; omega)), ?_⟩
              unfold rmH
              rw [← eA, ← eB]
              exact (hF.both 89 _ _).both 85 2 _
            · exact absurd h26 h61
          · refine am_aload_n (q := 49) rfl (am_tab tk_X10_remindsTold 29 rfl) rfl ?_
            refine am_iconst (q := 50) (n := 3) (by decide) (am_tab tk_X10_remindsTold 30 rfl) rfl ?_
            refine am_aload_n (q := 51) rfl (am_tab tk_X10_remindsTold 31 rfl) rfl ?_
            refine am_getI (q := 54) (a := 55) (k := 10) (n := 108) (j := 38) (x := (T2.2.1 55 38)) (Ls_55 hZ2.L) (by decide) rfl rfl (by decide) (Or.inl kf_X10_299) (am_tab tk_X10_remindsTold 32 rfl) rfl ?_
            refine am_callV0 (q := 57) (me2 := M_X10_fail) (b := 55) (kb := 10) (nb := 108) (As := [am_i 3, am_i ((T2.2.1 55 38))]) (rest := []) (out := []) (c_fail0 T2 hZ2.L 3 (T2.2.1 55 38) h26) ⟨rfl, rfl⟩ (Ls_55 hZ2.L) (by decide) ⟨Or.inl km_X10_278, kc_X10_fail, kn_X10, kd_X10_fail, ⟨(Nat.le_of_ble_eq_true rfl), (Nat.le_of_ble_eq_true rfl)⟩, ⟨(Nat.le_of_ble_eq_true rfl), (Nat.le_of_ble_eq_true rfl)⟩, (Nat.le_of_ble_eq_true rfl)⟩ ki_X10_fail ks_X10_fail rfl rfl (am_tab tk_X10_remindsTold 33 rfl) rfl ?_
            refine am_aload_n (q := 58) rfl (am_tab tk_X10_remindsTold 34 rfl) rfl ?_
            refine am_getI (q := 61) (a := 55) (k := 10) (n := 108) (j := 5) (x := 3) (Ls_55 hZ2.L) (by decide) rfl rfl (by decide) (Or.inl kf_X10_248) (am_tab tk_X10_remindsTold 35 rfl) rfl ?_
            refine am_if_eq (q := 64) (t := 65) (am_tab tk_X10_remindsTold 36 rfl) (by decide) rfl (fun h61 => ?_) (fun h61 => ?_)
            · exact absurd h61 (by decide)
            · refine am_vret rfl (Nat.le_of_ble_eq_true rfl) (Nat.le_of_ble_eq_true rfl) (am_tab tk_X10_remindsTold 37 rfl) ?_
              refine hQ _ _ ?_
              have hd : rmF b E S pl i = .inr (3, pZ b E (phF b E S (.inl i))) := by unfold rmF; rw [if_neg full, if_pos ⟨hl, Or.inr (by rw [← eA, ← eB]; exact h45)⟩]
              have hF9 : frw W_sc S (am_setN (am_setN T2 55 5 3) 55 6 (T2.2.1 55 38)) := (hF.setN (by unfold W_sc; omega)).setN (by unfold W_sc; omega)
              rw [hd, if_neg (by simp)]
              exact ⟨rfl, ZB_of hZ.1 hZ.2.1 hF9 hZ.2.2.1 rfl (show ¬ (3 : Int) = 0 by decide) (hvb hl).2.2 hZ2.two, hF9⟩
    · exact absurd h8 (by decide)
