/-- who is told on which day: where this reading ends, what it leaves -/
def toD (b : Nat → Int) (E : Nat) (S : am_H) (i : Nat) : Int := vZ b E (akF b E 5 (phF b E S (.inl i)))
def toR (b : Nat → Int) (E : Nat) (S : am_H) (i : Nat) : Nat ⊕ (Int × Int) := nuF b E 1 (S.2.1 85 4) (akF b E 5 (phF b E S (.inl i)))
def toF (b : Nat → Int) (E : Nat) (S : am_H) (pl : Int) (i : Nat) : Nat ⊕ (Int × Int) := if S.2.1 85 1 = 30 then .inr (5, pl) else if (toR b E S i).isLeft = true ∧ ao_and (ao_shr (S.2.1 90 (toD b E S i).toNat) (rmA b E S i)) 1 = 1 then .inr (2, pZ b E (akF b E 5 (phF b E S (.inl i)))) else toR b E S i
def toH (b : Nat → Int) (E : Nat) (S : am_H) (i : Nat) : am_H := am_setN (am_setN S 90 (toD b E S i).toNat (ao_or (S.2.1 90 (toD b E S i).toNat) (ao_shl 1 (rmA b E S i)))) 85 1 (S.2.1 85 1 + 1)
theorem c_X10_isToldOff (b : Nat → Int) (E i : Nat) (S : am_H) (hZ : ZS b E i S) (pl : Int) (hN : 0 ≤ S.2.1 85 0 ∧ S.2.1 85 0 ≤ 8) (hM : 0 ≤ S.2.1 85 1 ∧ S.2.1 85 1 ≤ 30) (hY : S.2.1 85 4 ≤ 90) : am_met M_X10_isToldOff [am_r 55, am_i pl] S (fun r σ' => r = none ∧ ZZ b E σ' (toF b E S pl i) ∧ frw W_sc (if (toF b E S pl i).isLeft = true then toH b E S i else S) σ') := by
  refine am_qq (fun Q hQ => ?_)
  refine am_enter (show plainFor yX10_isToldOff = true by decide +kernel) rfl (Nat.le_of_ble_eq_true rfl) (fun _ _ _ => trivial) ?_
  have hL := hZ.1
  refine am_aload_n (q := 1) rfl (am_tab tk_X10_isToldOff 0 rfl) rfl ?_
  refine am_iconst (q := 2) (n := 1) (by decide) (am_tab tk_X10_isToldOff 1 rfl) rfl ?_
  refine am_bipush (q := 4) (n := 30) (by decide) rfl (am_tab tk_X10_isToldOff 2 rfl) rfl ?_
  refine am_iload_n (q := 5) rfl (am_tab tk_X10_isToldOff 3 rfl) rfl ?_
  by_cases full : S.2.1 85 1 = 30
  · refine am_callV0 (q := 8) (me2 := M_X10_isFull) (b := 55) (kb := 10) (nb := 108) (As := [am_i 1, am_i 30, am_i pl]) (rest := []) (out := [am_i 1]) (c_isFullY S hL 1 30 pl (by decide) hZ.2.2.2.1 full) ⟨rfl, rfl⟩ (Ls_55 hL) (by decide) ⟨Or.inl km_X10_329, kc_X10_isFull, kn_X10, kd_X10_isFull, ⟨(Nat.le_of_ble_eq_true rfl), (Nat.le_of_ble_eq_true rfl)⟩, ⟨(Nat.le_of_ble_eq_true rfl), (Nat.le_of_ble_eq_true rfl)⟩, (Nat.le_of_ble_eq_true rfl)⟩ ki_X10_isFull ks_X10_isFull rfl rfl (am_tab tk_X10_isToldOff 4 rfl) rfl ?_
    refine am_if_eq (q := 11) (t := 12) (am_tab tk_X10_isToldOff 5 rfl) (by decide) rfl (fun h8 => ?_) (fun h8 => ?_)
    · exact absurd h8 (by decide)
    · refine am_vret rfl (Nat.le_of_ble_eq_true rfl) (Nat.le_of_ble_eq_true rfl) (am_tab tk_X10_isToldOff 6 rfl) ?_
      refine hQ _ _ ?_
      have hd : toF b E S pl i = .inr (5, pl) := by unfold toF; rw [if_pos full]
      have hF : frw W_sc S (am_setN (am_setN S 55 5 5) 55 6 pl) := ((frw.refl W_sc S).setN (by unfold W_sc; omega)).setN (by unfold W_sc; omega)
      rw [hd, if_neg (by simp)]
      exact ⟨rfl, ZB_of hZ.1 hZ.2.1 hF hZ.2.2.1 rfl (show ¬ (5 : Int) = 0 by decide) rfl (by have := hZ.2.2.2.2.2.1; show 0 ≤ S.2.1 55 2 ∧ S.2.1 55 2 ≤ _; omega), hF⟩
  · refine am_callV0 (q := 8) (me2 := M_X10_isFull) (b := 55) (kb := 10) (nb := 108) (As := [am_i 1, am_i 30, am_i pl]) (rest := []) (out := [am_i 0]) (c_isFullN S hL 1 30 pl (by decide) hZ.2.2.2.1 full) ⟨rfl, rfl⟩ (Ls_55 hL) (by decide) ⟨Or.inl km_X10_329, kc_X10_isFull, kn_X10, kd_X10_isFull, ⟨(Nat.le_of_ble_eq_true rfl), (Nat.le_of_ble_eq_true rfl)⟩, ⟨(Nat.le_of_ble_eq_true rfl), (Nat.le_of_ble_eq_true rfl)⟩, (Nat.le_of_ble_eq_true rfl)⟩ ki_X10_isFull ks_X10_isFull rfl rfl (am_tab tk_X10_isToldOff 4 rfl) rfl ?_
    refine am_if_eq (q := 11) (t := 12) (am_tab tk_X10_isToldOff 5 rfl) (by decide) rfl (fun h8 => ?_) (fun h8 => ?_)
    · refine am_aload_n (q := 13) rfl (am_tab tk_X10_isToldOff 7 rfl) rfl ?_
      refine am_callVr (q := 16) (me2 := M_X10_personHere) (b := 55) (kb := 10) (nb := 108) (As := []) (rest := []) (c_personHereZ (show ZZ b E S (.inl i) from hZ) hN) ⟨rfl, rfl⟩ (Ls_55 hL) (by decide) ⟨Or.inl km_X10_333, kc_X10_personHere, kn_X10, kd_X10_personHere, ⟨(Nat.le_of_ble_eq_true rfl), (Nat.le_of_ble_eq_true rfl)⟩, ⟨(Nat.le_of_ble_eq_true rfl), (Nat.le_of_ble_eq_true rfl)⟩, (Nat.le_of_ble_eq_true rfl)⟩ ki_X10_personHere ks_X10_personHere rfl (am_tab tk_X10_isToldOff 8 rfl) rfl ?_
      rintro r T1 ⟨va, rfl, hvar, hZ1, hF1, hva⟩
      refine am_st (st2 := [am_i va]) rfl ?_
      refine am_istore_n (q := 17) (by decide) (ls2 := [(2, am_i va), (0, am_r 55), (1, am_i pl)]) rfl (am_tab tk_X10_isToldOff 9 rfl) rfl ?_
      refine am_aload_n (q := 18) rfl (am_tab tk_X10_isToldOff 10 rfl) rfl ?_
      refine am_aload_n (q := 19) rfl (am_tab tk_X10_isToldOff 11 rfl) rfl ?_
      refine am_getR (q := 22) (a := 55) (k := 10) (n := 108) (j := 16) (r := some (63)) (Ls_55 hZ1.L) (by decide) rfl (Lr_55_16 hZ1.L) (by decide) (Or.inl kf_X10_36) (am_tab tk_X10_isToldOff 12 rfl) rfl ?_
      refine am_callVr (q := 25) (me2 := M_X10_asks) (b := 55) (kb := 10) (nb := 108) (As := [am_r 63]) (rest := []) (c_asksZ hZ1 63 5 (by decide)) ⟨rfl, rfl⟩ (Ls_55 hZ1.L) (by decide) ⟨Or.inl km_X10_317, kc_X10_asks, kn_X10, kd_X10_asks, ⟨(Nat.le_of_ble_eq_true rfl), (Nat.le_of_ble_eq_true rfl)⟩, ⟨(Nat.le_of_ble_eq_true rfl), (Nat.le_of_ble_eq_true rfl)⟩, (Nat.le_of_ble_eq_true rfl)⟩ ki_X10_asks ks_X10_asks rfl (am_tab tk_X10_isToldOff 13 rfl) rfl ?_
      rintro r T2 ⟨rfl, hZ2, hF2⟩
      refine am_st (st2 := []) rfl ?_
      refine am_aload_n (q := 26) rfl (am_tab tk_X10_isToldOff 14 rfl) rfl ?_
      refine am_iconst (q := 27) (n := 1) (by decide) (am_tab tk_X10_isToldOff 15 rfl) rfl ?_
      refine am_aload_n (q := 28) rfl (am_tab tk_X10_isToldOff 16 rfl) rfl ?_
      refine am_getR (q := 31) (a := 55) (k := 10) (n := 108) (j := 39) (r := some (85)) (Ls_55 hZ2.L) (by decide) rfl (Lr_55_39 hZ2.L) (by decide) (Or.inl kf_X10_102) (am_tab tk_X10_isToldOff 17 rfl) rfl ?_
      refine am_iconst (q := 32) (n := 4) (by decide) (am_tab tk_X10_isToldOff 18 rfl) rfl ?_
      refine am_iald (q := 33) (a := 85) (n := 10) (x := (S.2.1 85 4)) (Ls_85 hZ2.L) (by omega) (by omega) ((hF1.trans hF2).2.2 85 4 (by unfold W_sc; omega)) (am_tab tk_X10_isToldOff 19 rfl) rfl ?_
      refine am_callVr (q := 36) (me2 := M_X10_number) (b := 55) (kb := 10) (nb := 108) (As := [am_i 1, am_i ((S.2.1 85 4))]) (rest := []) (c_numberZ hZ2 1 (S.2.1 85 4) (by decide) (by omega)) ⟨rfl, rfl⟩ (Ls_55 hZ2.L) (by decide) ⟨Or.inl km_X10_321, kc_X10_number, kn_X10, kd_X10_number, ⟨(Nat.le_of_ble_eq_true rfl), (Nat.le_of_ble_eq_true rfl)⟩, ⟨(Nat.le_of_ble_eq_true rfl), (Nat.le_of_ble_eq_true rfl)⟩, (Nat.le_of_ble_eq_true rfl)⟩ ki_X10_number ks_X10_number rfl (am_tab tk_X10_isToldOff 20 rfl) rfl ?_
      rintro r T3 ⟨vd, rfl, hvdr, hZ3, hF3, hvd⟩
      refine am_st (st2 := [am_i vd]) rfl ?_
      refine am_istore_n (q := 37) (by decide) (ls2 := [(3, am_i vd), (2, am_i va), (0, am_r 55), (1, am_i pl)]) rfl (am_tab tk_X10_isToldOff 21 rfl) rfl ?_
      have hF : frw W_sc S T3 := (hF1.trans hF2).trans hF3
      refine am_aload_n (q := 38) rfl (am_tab tk_X10_isToldOff 22 rfl) rfl ?_
      refine am_getI (q := 41) (a := 55) (k := 10) (n := 108) (j := 5) (x := (T3.2.1 55 5)) (Ls_55 hZ3.L) (by decide) rfl rfl (by decide) (Or.inl kf_X10_248) (am_tab tk_X10_isToldOff 23 rfl) rfl ?_
      refine am_if_ne (q := 44) (t := 67) (am_tab tk_X10_isToldOff 24 rfl) (by decide) rfl (fun h41 => ?_) (fun h41 => ?_)
      · refine am_aload_n (q := 68) rfl (am_tab tk_X10_isToldOff 40 rfl) rfl ?_
        refine am_getI (q := 71) (a := 55) (k := 10) (n := 108) (j := 5) (x := (T3.2.1 55 5)) (Ls_55 hZ3.L) (by decide) rfl rfl (by decide) (Or.inl kf_X10_248) (am_tab tk_X10_isToldOff 41 rfl) rfl ?_
        refine am_if_eq (q := 74) (t := 75) (am_tab tk_X10_isToldOff 42 rfl) (by decide) rfl (fun h71 => ?_) (fun h71 => ?_)
        · exact absurd h71 h41
        · refine am_vret rfl (Nat.le_of_ble_eq_true rfl) (Nat.le_of_ble_eq_true rfl) (am_tab tk_X10_isToldOff 43 rfl) ?_
          refine hQ _ _ ?_
          have hl : ¬ (toR b E S i).isLeft = true := fun h => h41 (hZ3.bad0.mpr h)
          have hd : toF b E S pl i = toR b E S i := by unfold toF; rw [if_neg full, if_neg (fun h => hl h.1)]
          rw [hd, if_neg hl]
          exact ⟨rfl, hZ3, hF⟩
      · have hl : (toR b E S i).isLeft = true := hZ3.bad0.mp h41
        have eA : va = rmA b E S i := (hva (akF_l (nuF_l hl))).1
        have eD : vd = toD b E S i := (hvd hl).1
        have hdr := (hvd hl).2.1
        refine am_aload_n (q := 45) rfl (am_tab tk_X10_isToldOff 25 rfl) rfl ?_
        refine am_getR (q := 48) (a := 55) (k := 10) (n := 108) (j := 44) (r := some (90)) (Ls_55 hZ3.L) (by decide) rfl (Lr_55_44 hZ3.L) (by decide) (Or.inl kf_X10_118) (am_tab tk_X10_isToldOff 26 rfl) rfl ?_
        refine am_iload_n (q := 49) rfl (am_tab tk_X10_isToldOff 27 rfl) rfl ?_
        refine am_iald (q := 50) (a := 90) (n := 91) (x := (S.2.1 90 vd.toNat)) (Ls_90 hZ3.L) (by omega) (by omega) (hF.2.2 90 vd.toNat (by unfold W_sc; omega)) (am_tab tk_X10_isToldOff 28 rfl) rfl ?_
        refine am_iload_n (q := 51) rfl (am_tab tk_X10_isToldOff 29 rfl) rfl ?_
        refine am_ishr (q := 52) (am_tab tk_X10_isToldOff 30 rfl) rfl ?_
        refine am_iconst (q := 53) (n := 1) (by decide) (am_tab tk_X10_isToldOff 31 rfl) rfl ?_
        refine am_iand (q := 54) (am_tab tk_X10_isToldOff 32 rfl) rfl ?_
        refine am_iconst (q := 55) (n := 1) (by decide) (am_tab tk_X10_isToldOff 33 rfl) rfl ?_
        refine am_icmp_ne (q := 58) (t := 67) (am_tab tk_X10_isToldOff 34 rfl) (by decide) rfl (fun h55 => ?_) (fun h55 => ?_)
        · refine am_aload_n (q := 68) rfl (am_tab tk_X10_isToldOff 40 rfl) rfl ?_
          refine am_getI (q := 71) (a := 55) (k := 10) (n := 108) (j := 5) (x := (T3.2.1 55 5)) (Ls_55 hZ3.L) (by decide) rfl rfl (by decide) (Or.inl kf_X10_248) (am_tab tk_X10_isToldOff 41 rfl) rfl ?_
          refine am_if_eq (q := 74) (t := 75) (am_tab tk_X10_isToldOff 42 rfl) (by decide) rfl (fun h71 => ?_) (fun h71 => ?_)
          · refine am_aload_n (q := 76) rfl (am_tab tk_X10_isToldOff 44 rfl) rfl ?_
            refine am_getR (q := 79) (a := 55) (k := 10) (n := 108) (j := 44) (r := some (90)) (Ls_55 hZ3.L) (by decide) rfl (Lr_55_44 hZ3.L) (by decide) (Or.inl kf_X10_118) (am_tab tk_X10_isToldOff 45 rfl) rfl ?_
            refine am_iload_n (q := 80) rfl (am_tab tk_X10_isToldOff 46 rfl) rfl ?_
            refine am_dup2 (q := 81) rfl rfl (am_tab tk_X10_isToldOff 47 rfl) rfl ?_
            refine am_iald (q := 82) (a := 90) (n := 91) (x := (S.2.1 90 vd.toNat)) (Ls_90 hZ3.L) (by omega) (by omega) (hF.2.2 90 vd.toNat (by unfold W_sc; omega)) (am_tab tk_X10_isToldOff 48 rfl) rfl ?_
            refine am_iconst (q := 83) (n := 1) (by decide) (am_tab tk_X10_isToldOff 49 rfl) rfl ?_
            refine am_iload_n (q := 84) rfl (am_tab tk_X10_isToldOff 50 rfl) rfl ?_
            refine am_ishl (q := 85) (am_tab tk_X10_isToldOff 51 rfl) rfl ?_
            refine am_ior (q := 86) (am_tab tk_X10_isToldOff 52 rfl) rfl ?_
            refine am_iast (q := 87) (a := 90) (n := 91) (Ls_90 hZ3.L) (by omega) (by omega) (am_tab tk_X10_isToldOff 53 rfl) rfl ?_
            refine am_aload_n (q := 88) rfl (am_tab tk_X10_isToldOff 54 rfl) rfl ?_
            refine am_getR (q := 91) (a := 55) (k := 10) (n := 108) (j := 39) (r := some (85)) (Ls_55 hZ3.L) (by decide) rfl (Lr_55_39 hZ3.L) (by decide) (Or.inl kf_X10_102) (am_tab tk_X10_isToldOff 55 rfl) rfl ?_
            refine am_iconst (q := 92) (n := 1) (by decide) (am_tab tk_X10_isToldOff 56 rfl) rfl ?_
            refine am_dup2 (q := 93) rfl rfl (am_tab tk_X10_isToldOff 57 rfl) rfl ?_
            refine am_iald (q := 94) (a := 85) (n := 10) (x := (S.2.1 85 1)) (Ls_85 hZ3.L) (by omega) (by omega) (hF.2.2 85 1 (by unfold W_sc; omega)) (am_tab tk_X10_isToldOff 58 rfl) rfl ?_
            refine am_iconst (q := 95) (n := 1) (by decide) (am_tab tk_X10_isToldOff 59 rfl) rfl ?_
            refine am_iadd (q := 96) (by omega) (am_tab tk_X10_isToldOff 60 rfl) rfl ?_
            refine am_iast (q := 97) (a := 85) (n := 10) (Ls_85 hZ3.L) (by omega) (by omega) (am_tab tk_X10_isToldOff 61 rfl) rfl ?_
            refine am_vret rfl (Nat.le_of_ble_eq_true rfl) (Nat.le_of_ble_eq_true rfl) (am_tab tk_X10_isToldOff 62 rfl) ?_
            refine hQ _ _ ?_
            have hd : toF b E S pl i = toR b E S i := by
              unfold toF
              rw [if_neg full, if_neg]
              rintro ⟨_, h⟩
              exact h55 (by rw [eA, eD]; exact h)
            rw [hd, if_pos hl]
            refine ⟨rfl, ZZ.st hZ3 (((frw.refl W_st T3).setN (by unfold W_st; omega)).setN (by unfold W_st; omega)), ?_⟩
            unfold toH
            rw [← eA, ← eD]
            exact (hF.both 90 _ _).both 85 1 _
          · exact absurd h41 h71
        · refine am_aload_n (q := 59) rfl (am_tab tk_X10_isToldOff 35 rfl) rfl ?_
          refine am_iconst (q := 60) (n := 2) (by decide) (am_tab tk_X10_isToldOff 36 rfl) rfl ?_
          refine am_aload_n (q := 61) rfl (am_tab tk_X10_isToldOff 37 rfl) rfl ?_
          refine am_getI (q := 64) (a := 55) (k := 10) (n := 108) (j := 10) (x := (T3.2.1 55 10)) (Ls_55 hZ3.L) (by decide) rfl rfl (by decide) (Or.inl kf_X10_288) (am_tab tk_X10_isToldOff 38 rfl) rfl ?_
          refine am_callV0 (q := 67) (me2 := M_X10_fail) (b := 55) (kb := 10) (nb := 108) (As := [am_i 2, am_i ((T3.2.1 55 10))]) (rest := []) (out := []) (c_fail0 T3 hZ3.L 2 (T3.2.1 55 10) h41) ⟨rfl, rfl⟩ (Ls_55 hZ3.L) (by decide) ⟨Or.inl km_X10_278, kc_X10_fail, kn_X10, kd_X10_fail, ⟨(Nat.le_of_ble_eq_true rfl), (Nat.le_of_ble_eq_true rfl)⟩, ⟨(Nat.le_of_ble_eq_true rfl), (Nat.le_of_ble_eq_true rfl)⟩, (Nat.le_of_ble_eq_true rfl)⟩ ki_X10_fail ks_X10_fail rfl rfl (am_tab tk_X10_isToldOff 39 rfl) rfl ?_
          refine am_aload_n (q := 68) rfl (am_tab tk_X10_isToldOff 40 rfl) rfl ?_
          refine am_getI (q := 71) (a := 55) (k := 10) (n := 108) (j := 5) (x := 2) (Ls_55 hZ3.L) (by decide) rfl rfl (by decide) (Or.inl kf_X10_248) (am_tab tk_X10_isToldOff 41 rfl) rfl ?_
          refine am_if_eq (q := 74) (t := 75) (am_tab tk_X10_isToldOff 42 rfl) (by decide) rfl (fun h71 => ?_) (fun h71 => ?_)
          · exact absurd h71 (by decide)
          · refine am_vret rfl (Nat.le_of_ble_eq_true rfl) (Nat.le_of_ble_eq_true rfl) (am_tab tk_X10_isToldOff 43 rfl) ?_
            refine hQ _ _ ?_
            have hd : toF b E S pl i = .inr (2, pZ b E (akF b E 5 (phF b E S (.inl i)))) := by unfold toF; rw [if_neg full, if_pos ⟨hl, (by rw [← eA, ← eD]; exact h55)⟩]
            have hF9 : frw W_sc S (am_setN (am_setN T3 55 5 2) 55 6 (T3.2.1 55 10)) := (hF.setN (by unfold W_sc; omega)).setN (by unfold W_sc; omega)
            rw [hd, if_neg (by simp)]
            exact ⟨rfl, ZB_of hZ.1 hZ.2.1 hF9 hZ.2.2.1 rfl (show ¬ (2 : Int) = 0 by decide) (hvd hl).2.2 hZ3.two, hF9⟩
    · exact absurd h8 (by decide)
