def isP (σ : am_H) (p : Int) : Prop := 0 ≤ p ∧ p ≤ σ.2.1 85 5 - 1
def dieC (σ : am_H) (p : Int) : Prop := (0 ≤ p ∧ p ≤ σ.2.1 85 5 - 1) ∧ ¬ σ.2.1 96 (12 + p).toNat = 1
theorem c_X10_dies (σ : am_H) (hL : lay σ) (p : Int) (hR : MR σ) (hn : 0 ≤ σ.2.1 55 70 ∧ σ.2.1 55 70 ≤ 19) (hu : 0 ≤ σ.2.1 55 69 ∧ σ.2.1 55 69 ≤ 20) (hr : 0 ≤ σ.2.1 57 3 ∧ σ.2.1 57 3 ≤ 100000) : am_met M_X10_dies [am_r 55, am_i p] σ (fun r σ' => (dieC σ p ∧ r = some (am_i 1) ∧ σ' = am_setN (keH σ) 96 (12 + p).toNat 1) ∨ (¬ dieC σ p ∧ r = some (am_i 0) ∧ σ' = am_setN σ 57 3 (σ.2.1 57 3 + 1))) := by
  refine am_enter (show plainFor yX10_dies = true by decide +kernel) rfl (Nat.le_of_ble_eq_true rfl) (fun _ _ _ => trivial) ?_
  have hP := hR.P
  refine am_aload_n (q := 1) rfl (am_tab tk_X10_dies 0 rfl) rfl ?_
  refine am_iload_n (q := 2) rfl (am_tab tk_X10_dies 1 rfl) rfl ?_
  refine am_callV0 (q := 5) (me2 := M_X10_isPerson) (b := 55) (kb := 10) (nb := 108) (As := [am_i p]) (rest := []) (out := [am_i (if 0 ≤ p ∧ p ≤ σ.2.1 85 5 - 1 then 1 else 0)]) (c_X10_isPerson σ hL p hR.P) ⟨rfl, rfl⟩ (Ls_55 hL) (by decide) ⟨Or.inl km_X10_490, kc_X10_isPerson, kn_X10, kd_X10_isPerson, ⟨(Nat.le_of_ble_eq_true rfl), (Nat.le_of_ble_eq_true rfl)⟩, ⟨(Nat.le_of_ble_eq_true rfl), (Nat.le_of_ble_eq_true rfl)⟩, (Nat.le_of_ble_eq_true rfl)⟩ ki_X10_isPerson ks_X10_isPerson rfl rfl (am_tab tk_X10_dies 2 rfl) rfl ?_
  refine am_if_eq (q := 8) (t := 16) (am_tab tk_X10_dies 3 rfl) (by decide) rfl (fun h5 => ?_) (fun h5 => ?_)
  · replace h5 := b01z h5
    refine am_aload_n (q := 17) rfl (am_tab tk_X10_dies 8 rfl) rfl ?_
    refine am_getR (q := 20) (a := 55) (k := 10) (n := 108) (j := 9) (r := some (57)) (Ls_55 hL) (by decide) rfl (Lr_55_9 hL) (by decide) (Or.inl kf_X10_17) (am_tab tk_X10_dies 9 rfl) rfl ?_
    refine am_iconst (q := 21) (n := 3) (by decide) (am_tab tk_X10_dies 10 rfl) rfl ?_
    refine am_dup2 (q := 22) rfl rfl (am_tab tk_X10_dies 11 rfl) rfl ?_
    refine am_iald (q := 23) (a := 57) (n := 6) (x := (σ.2.1 57 3)) (Ls_57 hL) (by omega) (by omega) rfl (am_tab tk_X10_dies 12 rfl) rfl ?_
    refine am_iconst (q := 24) (n := 1) (by decide) (am_tab tk_X10_dies 13 rfl) rfl ?_
    refine am_iadd (q := 25) (by omega) (am_tab tk_X10_dies 14 rfl) rfl ?_
    refine am_iast (q := 26) (a := 57) (n := 6) (Ls_57 hL) (by omega) (by omega) (am_tab tk_X10_dies 15 rfl) rfl ?_
    refine am_iconst (q := 27) (n := 0) (by decide) (am_tab tk_X10_dies 16 rfl) rfl ?_
    refine am_iret (Or.inr ⟨rfl, by first | exact Or.inl rfl | exact Or.inr rfl | omega⟩) (Nat.le_of_ble_eq_true rfl) (Nat.le_of_ble_eq_true rfl) (am_tab tk_X10_dies 17 rfl) ?_
    first
      | exact Or.inl ⟨⟨by omega, by assumption⟩, rfl, rfl⟩
      | exact Or.inr ⟨fun hc => absurd hc.1 (by assumption), rfl, rfl⟩
      | exact Or.inr ⟨fun hc => absurd (by assumption) hc.2, rfl, rfl⟩
  · replace h5 := b01n h5
    refine am_aload_n (q := 9) rfl (am_tab tk_X10_dies 4 rfl) rfl ?_
    refine am_iload_n (q := 10) rfl (am_tab tk_X10_dies 5 rfl) rfl ?_
    refine am_callV0 (q := 13) (me2 := M_X10_isDead) (b := 55) (kb := 10) (nb := 108) (As := [am_i p]) (rest := []) (out := [am_i (if σ.2.1 96 (12 + p).toNat = 1 then 1 else 0)]) (c_X10_isDead σ hL p (by omega)) ⟨rfl, rfl⟩ (Ls_55 hL) (by decide) ⟨Or.inl km_X10_400, kc_X10_isDead, kn_X10, kd_X10_isDead, ⟨(Nat.le_of_ble_eq_true rfl), (Nat.le_of_ble_eq_true rfl)⟩, ⟨(Nat.le_of_ble_eq_true rfl), (Nat.le_of_ble_eq_true rfl)⟩, (Nat.le_of_ble_eq_true rfl)⟩ ki_X10_isDead ks_X10_isDead rfl rfl (am_tab tk_X10_dies 6 rfl) rfl ?_
    refine am_if_eq (q := 16) (t := 28) (am_tab tk_X10_dies 7 rfl) (by decide) rfl (fun h13 => ?_) (fun h13 => ?_)
    · replace h13 := b01z h13
      refine am_aload_n (q := 29) rfl (am_tab tk_X10_dies 18 rfl) rfl ?_
      refine am_callV0 (q := 32) (me2 := M_X10_keeps) (b := 55) (kb := 10) (nb := 108) (As := []) (rest := []) (out := []) (c_X10_keeps σ hL hn hu) ⟨rfl, rfl⟩ (Ls_55 hL) (by decide) ⟨Or.inl km_X10_570, kc_X10_keeps, kn_X10, kd_X10_keeps, ⟨(Nat.le_of_ble_eq_true rfl), (Nat.le_of_ble_eq_true rfl)⟩, ⟨(Nat.le_of_ble_eq_true rfl), (Nat.le_of_ble_eq_true rfl)⟩, (Nat.le_of_ble_eq_true rfl)⟩ ki_X10_keeps ks_X10_keeps rfl rfl (am_tab tk_X10_dies 19 rfl) rfl ?_
      refine am_aload_n (q := 33) rfl (am_tab tk_X10_dies 20 rfl) rfl ?_
      refine am_getR (q := 36) (a := 55) (k := 10) (n := 108) (j := 54) (r := some (96)) (Ls_55 hL) (by decide) rfl (Lr_55_54 hL) (by decide) (Or.inl kf_X10_136) (am_tab tk_X10_dies 21 rfl) rfl ?_
      refine am_bipush (q := 38) (n := 12) (by decide) rfl (am_tab tk_X10_dies 22 rfl) rfl ?_
      refine am_iload_n (q := 39) rfl (am_tab tk_X10_dies 23 rfl) rfl ?_
      refine am_iadd (q := 40) (by omega) (am_tab tk_X10_dies 24 rfl) rfl ?_
      refine am_iconst (q := 41) (n := 1) (by decide) (am_tab tk_X10_dies 25 rfl) rfl ?_
      refine am_iast (q := 42) (a := 96) (n := 443) (Ls_96 hL) (by omega) (by omega) (am_tab tk_X10_dies 26 rfl) rfl ?_
      refine am_iconst (q := 43) (n := 1) (by decide) (am_tab tk_X10_dies 27 rfl) rfl ?_
      refine am_iret (Or.inr ⟨rfl, by first | exact Or.inl rfl | exact Or.inr rfl | omega⟩) (Nat.le_of_ble_eq_true rfl) (Nat.le_of_ble_eq_true rfl) (am_tab tk_X10_dies 28 rfl) ?_
      first
        | exact Or.inl ⟨⟨by omega, by assumption⟩, rfl, rfl⟩
        | exact Or.inr ⟨fun hc => absurd hc.1 (by assumption), rfl, rfl⟩
        | exact Or.inr ⟨fun hc => absurd (by assumption) hc.2, rfl, rfl⟩
    · replace h13 := b01n h13
      refine am_aload_n (q := 17) rfl (am_tab tk_X10_dies 8 rfl) rfl ?_
      refine am_getR (q := 20) (a := 55) (k := 10) (n := 108) (j := 9) (r := some (57)) (Ls_55 hL) (by decide) rfl (Lr_55_9 hL) (by decide) (Or.inl kf_X10_17) (am_tab tk_X10_dies 9 rfl) rfl ?_
      refine am_iconst (q := 21) (n := 3) (by decide) (am_tab tk_X10_dies 10 rfl) rfl ?_
      refine am_dup2 (q := 22) rfl rfl (am_tab tk_X10_dies 11 rfl) rfl ?_
      refine am_iald (q := 23) (a := 57) (n := 6) (x := (σ.2.1 57 3)) (Ls_57 hL) (by omega) (by omega) rfl (am_tab tk_X10_dies 12 rfl) rfl ?_
      refine am_iconst (q := 24) (n := 1) (by decide) (am_tab tk_X10_dies 13 rfl) rfl ?_
      refine am_iadd (q := 25) (by omega) (am_tab tk_X10_dies 14 rfl) rfl ?_
      refine am_iast (q := 26) (a := 57) (n := 6) (Ls_57 hL) (by omega) (by omega) (am_tab tk_X10_dies 15 rfl) rfl ?_
      refine am_iconst (q := 27) (n := 0) (by decide) (am_tab tk_X10_dies 16 rfl) rfl ?_
      refine am_iret (Or.inr ⟨rfl, by first | exact Or.inl rfl | exact Or.inr rfl | omega⟩) (Nat.le_of_ble_eq_true rfl) (Nat.le_of_ble_eq_true rfl) (am_tab tk_X10_dies 17 rfl) ?_
      first
        | exact Or.inl ⟨⟨by omega, by assumption⟩, rfl, rfl⟩
        | exact Or.inr ⟨fun hc => absurd hc.1 (by assumption), rfl, rfl⟩
        | exact Or.inr ⟨fun hc => absurd (by assumption) hc.2, rfl, rfl⟩
