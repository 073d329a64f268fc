def isP (σ : am_H) (p : Int) : Prop := 0 ≤ p ∧ p ≤ σ.2.1 85 5 - 1
def dieC (σ : am_H) (p : Int) : Prop := (0 ≤ p ∧ p ≤ σ.2.1 85 5 - 1) ∧ ¬ σ.2.1 96 (12 + p).toNat = 1
theorem c_X10_dies (σ : am_H) (hL : lay σ) (p : Int) (hR : MR σ) (hn : 0 ≤ σ.2.1 55 70 ∧ σ.2.1 55 70 ≤ 19) (hu : 0 ≤ σ.2.1 55 69 ∧ σ.2.1 55 69 ≤ 20) (hr : 0 ≤ σ.2.1 57 3 ∧ σ.2.1 57 3 ≤ 100000) : am_met M_X10_dies [am_r 55, am_i p] σ (fun r σ' => (dieC σ p ∧ r = some (am_i 1) ∧ σ' = am_setN (keH σ) 96 (12 + p).toNat 1) ∨ (¬ dieC σ p ∧ r = some (am_i 0) ∧ σ' = am_setN σ 57 3 (σ.2.1 57 3 + 1))) := by
  refine am_enter (show plainFor yX10_dies = true by decide +kernel) rfl (Nat.le_of_ble_eq_true rfl) (fun _ _ _ => trivial) ?_
  have hP := hR.P
  refine am_aload_n (q := 1) rfl (am_tab tk_X10_dies 0 rfl) rfl ?_
  refine am_iload_n (q := 2) rfl (am_tab tk_X10_dies 1 rfl) rfl ?_
  refine am_callV0 (q := 5) (me2 := M_X10_isPerson) (b := 55) (kb := 10) (nb := 108) (As := [am_i p]) (rest := []) (out := [am_i (if 0 ≤ p ∧ p ≤ σ.2.1 85 5 - 1 then 1 else 0)]) (c_X10_isPerson σ hL p hR.P) ⟨rfl, rfl⟩ (Ls_55 hL) (by decide) ⟨Or.inl km_X10_490, kc_X10_isPerson, kn_X10, kd_X10_isPerson, ⟨(Nat.le_of_ble_eq_true rfl), (Nat.le_of_ble_eq_true rfl)⟩, ⟨(Nat.le_of_ble_eq_true rfl), (Nat.le_of_ble_eq_true rfl)⟩, (Nat.le_of_ble_eq_true rfl)⟩ ki_X10_isPerson ks_X10_isPerson rfl rfl (am_tab tk_X10_dies 2 rfl) rfl ?_
  refine am_if_eq (q := 8) (t := 16) (am_tab tk_X10_dies 3 rfl) (by decide) rfl (fun h5 => ?_) (fun h5 => ?_)
  · replace h5 := b01z h5
    refine am_aload_n (q := 17) rfl (am_tab tk_X10_dies 8 rfl) rfl ?_
    refine am_getR (q := 20) (a := 55) (k := 10) (n := 108) (j := 9) (r := some (57)) (Ls_55 hL) (by decide) rfl (Lr_55_9 hL) (by decide) (Or.inl kf_X10_17) (am_tab tk_X10_dies 9 rfl) rfl ?_
    refine am_iconst (q := 21) (n := 3) (by decide) (am_tab tk_X10_dies 10 rfl) rfl ?_
    refine am_dup2 (q := 22) rfl rfl (am_tab tk_X10_dies 11 rfl) rfl ?_
    refine am_iald (q := 23) (a := 57) (n := 6) (x := (σ.2.1 57 3)) (Ls_57 hL) (by omega) (by omega) rfl (am_tab tk_X10_dies 12 rfl) rfl ?_
    refine am_iconst (q := 24) (n := 1) (by decide) (am_tab tk_X10_dies 13 rfl) rfl ?_
    refine am_iadd (q := 25) (by omega) (am_tab tk_X10_dies 14 rfl) rfl ?_
    refine am_iast (q := 26) (a := 57) (n := 6) (Ls_57 hL) (by omega) (by omega) (am_tab tk_X10_dies 15 rfl) rfl ?_
    refine am_iconst (q := 27) (n := 0) (by decide) (am_tab tk_X10_dies 16 rfl) rfl ?_
    refine am_iret (Or.inr ⟨rfl, by first | exact Or.inl rfl | exact Or.inr rfl | omega⟩) (Nat.le_of_ble_eq_true rfl) (Nat.le_of_ble_eq_true rfl) (am_tab tk_X10_dies 17 rfl) ?_
    first
      | exact Or.inl ⟨⟨by omega, by assumption⟩, rfl, rfl⟩
      | exact Or.inr ⟨fun hc => absurd hc.1 (by assumption), rfl, rfl⟩
      | exact Or.inr ⟨fun hc => absurd (by assumption) hc.2, rfl, rfl⟩
  · replace h5 := b01n h5
    refine am_aload_n (q := 9) rfl (am_tab tk_X10_dies 4 rfl) rfl ?_
    refine am_iload_n (q := 10) rfl (am_tab tk_X10_dies 5 rfl) rfl ?_
    refine am_callV0 (q := 13) (me2 := M_X10_isDead) (b := 55) (kb := 10) (nb := 108) (As := [am_i p]) (rest := []) (out := [am_i (if σ.2.1 96 (12 + p).toNat = 1 then 1 else 0)]) (c_X10_isDead σ hL p (by omega)) ⟨rfl, rfl⟩ (Ls_55 hL) (by decide) ⟨Or.inl km_X10_400, kc_X10_isDead, kn_X10, kd_X10_isDead, ⟨(Nat.le_of_ble_eq_true rfl), (Nat.le_of_ble_eq_true rfl)⟩, ⟨(Nat.le_of_ble_eq_true rfl), (Nat.le_of_ble_eq_true rfl)⟩, (Nat.le_of_ble_eq_true rfl)⟩ ki_X10_isDead ks_X10_isDead rfl rfl (am_tab tk_X10_dies 6 rfl) rfl ?_
    refine am_if_eq (q := 16) (t := 28) (am_tab tk_X10_dies 7 rfl) (by decide) rfl (fun h13 => ?_) (fun h13 => ?_)
    · replace h13 := b01z h13
      refine am_aload_n (q := 29) rfl (am_tab tk_X10_dies 18 rfl) rfl ?_
      refine am_callV0 (q := 32) (me2 := M_X10_keeps) (b := 55) (kb := 10) (nb := 108) (As := []) (rest := []) (out := []) (c_X10_keeps σ hL hn hu) ⟨rfl, rfl⟩ (Ls_55 hL) (by decide) ⟨Or.inl km_X10_570, kc_X10_keeps, kn_X10, kd_X10_keeps, ⟨(Nat.le_of_ble_eq_true rfl), (Nat.le_of_ble_eq_true rfl)⟩, ⟨(Nat.le_of_ble_eq_true rfl), (Nat.le_of_ble_eq_true rfl)⟩, (Nat.le_of_ble_eq_true rfl)⟩ ki_X10_keeps ks_X10_keeps rfl rfl (am_tab tk_X10_dies 19 rfl) rfl ?_
      refine am_aload_n (q := 33) rfl (am_tab tk_X10_dies 20 rfl) rfl ?_
      refine am_getR (q := 36) (a := 55) (k := 10) (n := 108) (j := 54) (r := some (96)) (Ls_55 hL) (by decide) rfl (Lr_55_54 hL) (by decide) (Or.inl kf_X10_136) (am_tab tk_X10_dies 21 rfl) rfl ?_
      refine am_bipush (q := 38) (n := 12) (by decide) rfl (am_tab tk_X10_dies 22 rfl) rfl ?_
      refine am_iload_n (q := 39) rfl (am_tab tk_X10_dies 23 rfl) rfl ?_
      refine am_iadd (q := 40) (by omega) (am_tab tk_X10_dies 24 rfl) rfl ?_
      refine am_iconst (q := 41) (n := 1) (by decide) (am_tab tk_X10_dies 25 rfl) rfl ?_
      refine am_iast (q := 42) (a := 96) (n := 443) (Ls_96 hL) (by omega) (by omega) (am_tab tk_X10_dies 26 rfl) rfl ?_
      refine am_iconst (q := 43) (n := 1) (by decide) (am_tab tk_X10_dies 27 rfl) rfl ?_
      refine am_iret (Or.inr ⟨rfl, by first | exact Or.inl rfl | exact Or.inr rfl | omega⟩) (Nat.le_of_ble_eq_true rfl) (Nat.le_of_ble_eq_true rfl) (am_tab tk_X10_dies 28 rfl) ?_
      first
        | exact Or.inl ⟨⟨by omega, by assumption⟩, rfl, rfl⟩
        | exact Or.inr ⟨fun hc => absurd hc.1 (by assumption), rfl, rfl⟩
        | exact Or.inr ⟨fun hc => absurd (by assumption) hc.2, rfl, rfl⟩
    · replace h13 := b01n h13
      refine am_aload_n (q := 17) rfl (am_tab tk_X10_dies 8 rfl) rfl ?_
      refine am_getR (q := 20) (a := 55) (k := 10) (n := 108) (j := 9) (r := some (57)) (Ls_55 hL) (by decide) rfl (Lr_55_9 hL) (by decide) (Or.inl kf_X10_17) (am_tab tk_X10_dies 9 rfl) rfl ?_
      refine am_iconst (q := 21) (n := 3) (by decide) (am_tab tk_X10_dies 10 rfl) rfl ?_
      refine am_dup2 (q := 22) rfl rfl (am_tab tk_X10_dies 11 rfl) rfl ?_
      refine am_iald (q := 23) (a := 57) (n := 6) (x := (σ.2.1 57 3)) (Ls_57 hL) (by omega) (by omega) rfl (am_tab tk_X10_dies 12 rfl) rfl ?_
      refine am_iconst (q := 24) (n := 1) (by decide) (am_tab tk_X10_dies 13 rfl) rfl ?_
      refine am_iadd (q := 25) (by omega) (am_tab tk_X10_dies 14 rfl) rfl ?_
      refine am_iast (q := 26) (a := 57) (n := 6) (Ls_57 hL) (by omega) (by omega) (am_tab tk_X10_dies 15 rfl) rfl ?_
      refine am_iconst (q := 27) (n := 0) (by decide) (am_tab tk_X10_dies 16 rfl) rfl ?_
      refine am_iret (Or.inr ⟨rfl, by first | exact Or.inl rfl | exact Or.inr rfl | omega⟩) (Nat.le_of_ble_eq_true rfl) (Nat.le_of_ble_eq_true rfl) (am_tab tk_X10_dies 17 rfl) ?_
      first
        | exact Or.inl ⟨⟨by omega, by assumption⟩, rfl, rfl⟩
        | exact Or.inr ⟨fun hc => absurd hc.1 (by assumption), rfl, rfl⟩
        | exact Or.inr ⟨fun hc => absurd (by assumption) hc.2, rfl, rfl⟩
def telC (σ : am_H) (p d : Int) : Prop := (0 ≤ p ∧ p ≤ σ.2.1 85 5 - 1) ∧ (1 ≤ d ∧ d ≤ σ.2.1 85 9) ∧ (tb (σ.2.1 96 (20 + d).toNat) p = 1 ∨ ¬ stM σ 20 = 30)
theorem c_X10_tell (σ : am_H) (hL : lay σ) (p : Int) (d : Int) (hR : MR σ) (hn : 0 ≤ σ.2.1 55 70 ∧ σ.2.1 55 70 ≤ 19) (hu : 0 ≤ σ.2.1 55 69 ∧ σ.2.1 55 69 ≤ 20) (hr : 0 ≤ σ.2.1 57 3 ∧ σ.2.1 57 3 ≤ 100000) : am_met M_X10_tell [am_r 55, am_i p, am_i d] σ (fun r σ' => (telC σ p d ∧ r = some (am_i (if tb (σ.2.1 96 (20 + d).toNat) p = 1 then 0 else 1)) ∧ σ' = am_setN (keH σ) 96 (20 + d).toNat (ao_xor (σ.2.1 96 (20 + d).toNat) (ao_shl 1 p))) ∨ (¬ telC σ p d ∧ r = some (am_i (-1)) ∧ σ' = am_setN σ 57 3 (σ.2.1 57 3 + 1))) := by
  refine am_enter (show plainFor yX10_tell = true by decide +kernel) rfl (Nat.le_of_ble_eq_true rfl) (fun _ _ _ => trivial) ?_
  have hP := hR.P
  have hY := hR.Y
  refine am_aload_n (q := 1) rfl (am_tab tk_X10_tell 0 rfl) rfl ?_
  refine am_iload_n (q := 2) rfl (am_tab tk_X10_tell 1 rfl) rfl ?_
  refine am_callV0 (q := 5) (me2 := M_X10_isPerson) (b := 55) (kb := 10) (nb := 108) (As := [am_i p]) (rest := []) (out := [am_i (if 0 ≤ p ∧ p ≤ σ.2.1 85 5 - 1 then 1 else 0)]) (c_X10_isPerson σ hL p hR.P) ⟨rfl, rfl⟩ (Ls_55 hL) (by decide) ⟨Or.inl km_X10_490, kc_X10_isPerson, kn_X10, kd_X10_isPerson, ⟨(Nat.le_of_ble_eq_true rfl), (Nat.le_of_ble_eq_true rfl)⟩, ⟨(Nat.le_of_ble_eq_true rfl), (Nat.le_of_ble_eq_true rfl)⟩, (Nat.le_of_ble_eq_true rfl)⟩ ki_X10_isPerson ks_X10_isPerson rfl rfl (am_tab tk_X10_tell 2 rfl) rfl ?_
  refine am_if_eq (q := 8) (t := 16) (am_tab tk_X10_tell 3 rfl) (by decide) rfl (fun h5 => ?_) (fun h5 => ?_)
  · replace h5 := b01z h5
    refine am_aload_n (q := 17) rfl (am_tab tk_X10_tell 8 rfl) rfl ?_
    refine am_iconst (q := 18) (n := 3) (by decide) (am_tab tk_X10_tell 9 rfl) rfl ?_
    refine am_callV0 (q := 21) (me2 := M_X10_refuses) (b := 55) (kb := 10) (nb := 108) (As := [am_i 3]) (rest := []) (out := [am_i ((-1))]) (c_X10_refuses σ hL 3 (by omega) hr) ⟨rfl, rfl⟩ (Ls_55 hL) (by decide) ⟨Or.inl km_X10_567, kc_X10_refuses, kn_X10, kd_X10_refuses, ⟨(Nat.le_of_ble_eq_true rfl), (Nat.le_of_ble_eq_true rfl)⟩, ⟨(Nat.le_of_ble_eq_true rfl), (Nat.le_of_ble_eq_true rfl)⟩, (Nat.le_of_ble_eq_true rfl)⟩ ki_X10_refuses ks_X10_refuses rfl rfl (am_tab tk_X10_tell 10 rfl) rfl ?_
    refine am_iret (Or.inl rfl) (Nat.le_of_ble_eq_true rfl) (Nat.le_of_ble_eq_true rfl) (am_tab tk_X10_tell 11 rfl) ?_
    have hb : 1 ≤ d ∧ d ≤ σ.2.1 85 9 → (0 ≤ p ∧ p ≤ σ.2.1 85 5 - 1) → ao_and (ao_shr (σ.2.1 96 (20 + d).toNat) p) 1 = tb (σ.2.1 96 (20 + d).toNat) p := fun h9 h8 => by
      have h7 := hR.told d.toNat (by omega)
      rw [show 20 + d.toNat = (20 + d).toNat by omega] at h7
      exact tb_eq h7 ⟨by omega, by omega⟩
    first
      | exact Or.inr ⟨fun hc => absurd hc.1 (by assumption), rfl, rfl⟩
      | exact Or.inr ⟨fun hc => absurd hc.2.1 (by assumption), rfl, rfl⟩
      | (rw [hb (by assumption) (by assumption)] at h36; first
          | exact Or.inl ⟨⟨by assumption, by assumption, Or.inl h36⟩, by rw [if_pos h36], rfl⟩
          | exact Or.inl ⟨⟨by assumption, by assumption, Or.inr h57⟩, by rw [if_neg h36], rfl⟩
          | exact Or.inr ⟨fun hc => hc.2.2.elim (fun h => absurd h h36) (fun h => absurd h57 h), rfl, rfl⟩)
  · replace h5 := b01n h5
    refine am_aload_n (q := 9) rfl (am_tab tk_X10_tell 4 rfl) rfl ?_
    refine am_iload_n (q := 10) rfl (am_tab tk_X10_tell 5 rfl) rfl ?_
    refine am_callV0 (q := 13) (me2 := M_X10_isDay) (b := 55) (kb := 10) (nb := 108) (As := [am_i d]) (rest := []) (out := [am_i (if 1 ≤ d ∧ d ≤ σ.2.1 85 9 then 1 else 0)]) (c_X10_isDay σ hL d ) ⟨rfl, rfl⟩ (Ls_55 hL) (by decide) ⟨Or.inl km_X10_504, kc_X10_isDay, kn_X10, kd_X10_isDay, ⟨(Nat.le_of_ble_eq_true rfl), (Nat.le_of_ble_eq_true rfl)⟩, ⟨(Nat.le_of_ble_eq_true rfl), (Nat.le_of_ble_eq_true rfl)⟩, (Nat.le_of_ble_eq_true rfl)⟩ ki_X10_isDay ks_X10_isDay rfl rfl (am_tab tk_X10_tell 6 rfl) rfl ?_
    refine am_if_ne (q := 16) (t := 22) (am_tab tk_X10_tell 7 rfl) (by decide) rfl (fun h13 => ?_) (fun h13 => ?_)
    · replace h13 := b01n h13
      refine am_aload_n (q := 23) rfl (am_tab tk_X10_tell 12 rfl) rfl ?_
      refine am_getR (q := 26) (a := 55) (k := 10) (n := 108) (j := 54) (r := some (96)) (Ls_55 hL) (by decide) rfl (Lr_55_54 hL) (by decide) (Or.inl kf_X10_136) (am_tab tk_X10_tell 13 rfl) rfl ?_
      refine am_bipush (q := 28) (n := 20) (by decide) rfl (am_tab tk_X10_tell 14 rfl) rfl ?_
      refine am_iload_n (q := 29) rfl (am_tab tk_X10_tell 15 rfl) rfl ?_
      refine am_iadd (q := 30) (by omega) (am_tab tk_X10_tell 16 rfl) rfl ?_
      refine am_iald (q := 31) (a := 96) (n := 443) (x := (σ.2.1 96 (Int.toNat (20 + d)))) (Ls_96 hL) (by omega) (by omega) rfl (am_tab tk_X10_tell 17 rfl) rfl ?_
      refine am_iload_n (q := 32) rfl (am_tab tk_X10_tell 18 rfl) rfl ?_
      refine am_ishr (q := 33) (am_tab tk_X10_tell 19 rfl) rfl ?_
      refine am_iconst (q := 34) (n := 1) (by decide) (am_tab tk_X10_tell 20 rfl) rfl ?_
      refine am_iand (q := 35) (am_tab tk_X10_tell 21 rfl) rfl ?_
      refine am_iconst (q := 36) (n := 1) (by decide) (am_tab tk_X10_tell 22 rfl) rfl ?_
      refine am_icmp_ne (q := 39) (t := 43) (am_tab tk_X10_tell 23 rfl) (by decide) rfl (fun h36 => ?_) (fun h36 => ?_)
      · refine am_iconst (q := 44) (n := 0) (by decide) (am_tab tk_X10_tell 26 rfl) rfl ?_
        refine am_istore_n (q := 45) (by decide) (ls2 := [(3, am_i 0), (0, am_r 55), (1, am_i p), (2, am_i d)]) rfl (am_tab tk_X10_tell 27 rfl) rfl ?_
        refine am_iload_n (q := 46) rfl (am_tab tk_X10_tell 28 rfl) rfl ?_
        refine am_if_ne (q := 49) (t := 66) (am_tab tk_X10_tell 29 rfl) (by decide) rfl (fun h46 => ?_) (fun h46 => ?_)
        · exact absurd h46 (by decide)
        · refine am_aload_n (q := 50) rfl (am_tab tk_X10_tell 30 rfl) rfl ?_
          refine am_bipush (q := 52) (n := 20) (by decide) rfl (am_tab tk_X10_tell 31 rfl) rfl ?_
          refine am_callV0 (q := 55) (me2 := M_X10_setsOf) (b := 55) (kb := 10) (nb := 108) (As := [am_i 20]) (rest := []) (out := [am_i (stM σ 20)]) (c_X10_setsOf σ hL 20 (by omega) (told_b hR)) ⟨rfl, rfl⟩ (Ls_55 hL) (by decide) ⟨Or.inl km_X10_487, kc_X10_setsOf, kn_X10, kd_X10_setsOf, ⟨(Nat.le_of_ble_eq_true rfl), (Nat.le_of_ble_eq_true rfl)⟩, ⟨(Nat.le_of_ble_eq_true rfl), (Nat.le_of_ble_eq_true rfl)⟩, (Nat.le_of_ble_eq_true rfl)⟩ ki_X10_setsOf ks_X10_setsOf rfl rfl (am_tab tk_X10_tell 32 rfl) rfl ?_
          refine am_bipush (q := 57) (n := 30) (by decide) rfl (am_tab tk_X10_tell 33 rfl) rfl ?_
          refine am_icmp_ne (q := 60) (t := 66) (am_tab tk_X10_tell 34 rfl) (by decide) rfl (fun h57 => ?_) (fun h57 => ?_)
          · refine am_aload_n (q := 67) rfl (am_tab tk_X10_tell 39 rfl) rfl ?_
            refine am_callV0 (q := 70) (me2 := M_X10_keeps) (b := 55) (kb := 10) (nb := 108) (As := []) (rest := []) (out := []) (c_X10_keeps σ hL hn hu) ⟨rfl, rfl⟩ (Ls_55 hL) (by decide) ⟨Or.inl km_X10_570, kc_X10_keeps, kn_X10, kd_X10_keeps, ⟨(Nat.le_of_ble_eq_true rfl), (Nat.le_of_ble_eq_true rfl)⟩, ⟨(Nat.le_of_ble_eq_true rfl), (Nat.le_of_ble_eq_true rfl)⟩, (Nat.le_of_ble_eq_true rfl)⟩ ki_X10_keeps ks_X10_keeps rfl rfl (am_tab tk_X10_tell 40 rfl) rfl ?_
            refine am_aload_n (q := 71) rfl (am_tab tk_X10_tell 41 rfl) rfl ?_
            refine am_getR (q := 74) (a := 55) (k := 10) (n := 108) (j := 54) (r := some (96)) (Ls_55 hL) (by decide) rfl (Lr_55_54 hL) (by decide) (Or.inl kf_X10_136) (am_tab tk_X10_tell 42 rfl) rfl ?_
            refine am_bipush (q := 76) (n := 20) (by decide) rfl (am_tab tk_X10_tell 43 rfl) rfl ?_
            refine am_iload_n (q := 77) rfl (am_tab tk_X10_tell 44 rfl) rfl ?_
            refine am_iadd (q := 78) (by omega) (am_tab tk_X10_tell 45 rfl) rfl ?_
            refine am_dup2 (q := 79) rfl rfl (am_tab tk_X10_tell 46 rfl) rfl ?_
            refine am_iald (q := 80) (a := 96) (n := 443) (x := (σ.2.1 96 (Int.toNat (20 + d)))) (Ls_96 hL) (by omega) (by omega) rfl (am_tab tk_X10_tell 47 rfl) rfl ?_
            refine am_iconst (q := 81) (n := 1) (by decide) (am_tab tk_X10_tell 48 rfl) rfl ?_
            refine am_iload_n (q := 82) rfl (am_tab tk_X10_tell 49 rfl) rfl ?_
            refine am_ishl (q := 83) (am_tab tk_X10_tell 50 rfl) rfl ?_
            refine am_ixor (q := 84) (am_tab tk_X10_tell 51 rfl) rfl ?_
            refine am_iast (q := 85) (a := 96) (n := 443) (Ls_96 hL) (by omega) (by omega) (am_tab tk_X10_tell 52 rfl) rfl ?_
            refine am_iload_n (q := 86) rfl (am_tab tk_X10_tell 53 rfl) rfl ?_
            refine am_if_eq (q := 89) (t := 93) (am_tab tk_X10_tell 54 rfl) (by decide) rfl (fun h86 => ?_) (fun h86 => ?_)
            · refine am_iconst (q := 94) (n := 1) (by decide) (am_tab tk_X10_tell 57 rfl) rfl ?_
              refine am_iret (Or.inl rfl) (Nat.le_of_ble_eq_true rfl) (Nat.le_of_ble_eq_true rfl) (am_tab tk_X10_tell 58 rfl) ?_
              have hb : 1 ≤ d ∧ d ≤ σ.2.1 85 9 → (0 ≤ p ∧ p ≤ σ.2.1 85 5 - 1) → ao_and (ao_shr (σ.2.1 96 (20 + d).toNat) p) 1 = tb (σ.2.1 96 (20 + d).toNat) p := fun h9 h8 => by
                have h7 := hR.told d.toNat (by omega)
                rw [show 20 + d.toNat = (20 + d).toNat by omega] at h7
                exact tb_eq h7 ⟨by omega, by omega⟩
              first
                | exact Or.inr ⟨fun hc => absurd hc.1 (by assumption), rfl, rfl⟩
                | exact Or.inr ⟨fun hc => absurd hc.2.1 (by assumption), rfl, rfl⟩
                | (rw [hb (by assumption) (by assumption)] at h36; first
                    | exact Or.inl ⟨⟨by assumption, by assumption, Or.inl h36⟩, by rw [if_pos h36], rfl⟩
                    | exact Or.inl ⟨⟨by assumption, by assumption, Or.inr h57⟩, by rw [if_neg h36], rfl⟩
                    | exact Or.inr ⟨fun hc => hc.2.2.elim (fun h => absurd h h36) (fun h => absurd h57 h), rfl, rfl⟩)
            · exact absurd h86 (by decide)
          · refine am_aload_n (q := 61) rfl (am_tab tk_X10_tell 35 rfl) rfl ?_
            refine am_iconst (q := 62) (n := 3) (by decide) (am_tab tk_X10_tell 36 rfl) rfl ?_
            refine am_callV0 (q := 65) (me2 := M_X10_refuses) (b := 55) (kb := 10) (nb := 108) (As := [am_i 3]) (rest := []) (out := [am_i ((-1))]) (c_X10_refuses σ hL 3 (by omega) hr) ⟨rfl, rfl⟩ (Ls_55 hL) (by decide) ⟨Or.inl km_X10_567, kc_X10_refuses, kn_X10, kd_X10_refuses, ⟨(Nat.le_of_ble_eq_true rfl), (Nat.le_of_ble_eq_true rfl)⟩, ⟨(Nat.le_of_ble_eq_true rfl), (Nat.le_of_ble_eq_true rfl)⟩, (Nat.le_of_ble_eq_true rfl)⟩ ki_X10_refuses ks_X10_refuses rfl rfl (am_tab tk_X10_tell 37 rfl) rfl ?_
            refine am_iret (Or.inl rfl) (Nat.le_of_ble_eq_true rfl) (Nat.le_of_ble_eq_true rfl) (am_tab tk_X10_tell 38 rfl) ?_
            have hb : 1 ≤ d ∧ d ≤ σ.2.1 85 9 → (0 ≤ p ∧ p ≤ σ.2.1 85 5 - 1) → ao_and (ao_shr (σ.2.1 96 (20 + d).toNat) p) 1 = tb (σ.2.1 96 (20 + d).toNat) p := fun h9 h8 => by
              have h7 := hR.told d.toNat (by omega)
              rw [show 20 + d.toNat = (20 + d).toNat by omega] at h7
              exact tb_eq h7 ⟨by omega, by omega⟩
            first
              | exact Or.inr ⟨fun hc => absurd hc.1 (by assumption), rfl, rfl⟩
              | exact Or.inr ⟨fun hc => absurd hc.2.1 (by assumption), rfl, rfl⟩
              | (rw [hb (by assumption) (by assumption)] at h36; first
                  | exact Or.inl ⟨⟨by assumption, by assumption, Or.inl h36⟩, by rw [if_pos h36], rfl⟩
                  | exact Or.inl ⟨⟨by assumption, by assumption, Or.inr h57⟩, by rw [if_neg h36], rfl⟩
                  | exact Or.inr ⟨fun hc => hc.2.2.elim (fun h => absurd h h36) (fun h => absurd h57 h), rfl, rfl⟩)
      · refine am_iconst (q := 40) (n := 1) (by decide) (am_tab tk_X10_tell 24 rfl) rfl ?_
        refine am_goto (t := 44) (am_tab tk_X10_tell 25 rfl) (by decide) ?_
        refine am_istore_n (q := 45) (by decide) (ls2 := [(3, am_i 1), (0, am_r 55), (1, am_i p), (2, am_i d)]) rfl (am_tab tk_X10_tell 27 rfl) rfl ?_
        refine am_iload_n (q := 46) rfl (am_tab tk_X10_tell 28 rfl) rfl ?_
        refine am_if_ne (q := 49) (t := 66) (am_tab tk_X10_tell 29 rfl) (by decide) rfl (fun h46 => ?_) (fun h46 => ?_)
        · refine am_aload_n (q := 67) rfl (am_tab tk_X10_tell 39 rfl) rfl ?_
          refine am_callV0 (q := 70) (me2 := M_X10_keeps) (b := 55) (kb := 10) (nb := 108) (As := []) (rest := []) (out := []) (c_X10_keeps σ hL hn hu) ⟨rfl, rfl⟩ (Ls_55 hL) (by decide) ⟨Or.inl km_X10_570, kc_X10_keeps, kn_X10, kd_X10_keeps, ⟨(Nat.le_of_ble_eq_true rfl), (Nat.le_of_ble_eq_true rfl)⟩, ⟨(Nat.le_of_ble_eq_true rfl), (Nat.le_of_ble_eq_true rfl)⟩, (Nat.le_of_ble_eq_true rfl)⟩ ki_X10_keeps ks_X10_keeps rfl rfl (am_tab tk_X10_tell 40 rfl) rfl ?_
          refine am_aload_n (q := 71) rfl (am_tab tk_X10_tell 41 rfl) rfl ?_
          refine am_getR (q := 74) (a := 55) (k := 10) (n := 108) (j := 54) (r := some (96)) (Ls_55 hL) (by decide) rfl (Lr_55_54 hL) (by decide) (Or.inl kf_X10_136) (am_tab tk_X10_tell 42 rfl) rfl ?_
          refine am_bipush (q := 76) (n := 20) (by decide) rfl (am_tab tk_X10_tell 43 rfl) rfl ?_
          refine am_iload_n (q := 77) rfl (am_tab tk_X10_tell 44 rfl) rfl ?_
          refine am_iadd (q := 78) (by omega) (am_tab tk_X10_tell 45 rfl) rfl ?_
          refine am_dup2 (q := 79) rfl rfl (am_tab tk_X10_tell 46 rfl) rfl ?_
          refine am_iald (q := 80) (a := 96) (n := 443) (x := (σ.2.1 96 (Int.toNat (20 + d)))) (Ls_96 hL) (by omega) (by omega) rfl (am_tab tk_X10_tell 47 rfl) rfl ?_
          refine am_iconst (q := 81) (n := 1) (by decide) (am_tab tk_X10_tell 48 rfl) rfl ?_
          refine am_iload_n (q := 82) rfl (am_tab tk_X10_tell 49 rfl) rfl ?_
          refine am_ishl (q := 83) (am_tab tk_X10_tell 50 rfl) rfl ?_
          refine am_ixor (q := 84) (am_tab tk_X10_tell 51 rfl) rfl ?_
          refine am_iast (q := 85) (a := 96) (n := 443) (Ls_96 hL) (by omega) (by omega) (am_tab tk_X10_tell 52 rfl) rfl ?_
          refine am_iload_n (q := 86) rfl (am_tab tk_X10_tell 53 rfl) rfl ?_
          refine am_if_eq (q := 89) (t := 93) (am_tab tk_X10_tell 54 rfl) (by decide) rfl (fun h86 => ?_) (fun h86 => ?_)
          · exact absurd h86 (by decide)
          · refine am_iconst (q := 90) (n := 0) (by decide) (am_tab tk_X10_tell 55 rfl) rfl ?_
            refine am_goto (t := 94) (am_tab tk_X10_tell 56 rfl) (by decide) ?_
            refine am_iret (Or.inl rfl) (Nat.le_of_ble_eq_true rfl) (Nat.le_of_ble_eq_true rfl) (am_tab tk_X10_tell 58 rfl) ?_
            have hb : 1 ≤ d ∧ d ≤ σ.2.1 85 9 → (0 ≤ p ∧ p ≤ σ.2.1 85 5 - 1) → ao_and (ao_shr (σ.2.1 96 (20 + d).toNat) p) 1 = tb (σ.2.1 96 (20 + d).toNat) p := fun h9 h8 => by
              have h7 := hR.told d.toNat (by omega)
              rw [show 20 + d.toNat = (20 + d).toNat by omega] at h7
              exact tb_eq h7 ⟨by omega, by omega⟩
            first
              | exact Or.inr ⟨fun hc => absurd hc.1 (by assumption), rfl, rfl⟩
              | exact Or.inr ⟨fun hc => absurd hc.2.1 (by assumption), rfl, rfl⟩
              | (rw [hb (by assumption) (by assumption)] at h36; first
                  | exact Or.inl ⟨⟨by assumption, by assumption, Or.inl h36⟩, by rw [if_pos h36], rfl⟩
                  | exact Or.inl ⟨⟨by assumption, by assumption, Or.inr h57⟩, by rw [if_neg h36], rfl⟩
                  | exact Or.inr ⟨fun hc => hc.2.2.elim (fun h => absurd h h36) (fun h => absurd h57 h), rfl, rfl⟩)
        · exact absurd h46 (by decide)
    · replace h13 := b01z h13
      refine am_aload_n (q := 17) rfl (am_tab tk_X10_tell 8 rfl) rfl ?_
      refine am_iconst (q := 18) (n := 3) (by decide) (am_tab tk_X10_tell 9 rfl) rfl ?_
      refine am_callV0 (q := 21) (me2 := M_X10_refuses) (b := 55) (kb := 10) (nb := 108) (As := [am_i 3]) (rest := []) (out := [am_i ((-1))]) (c_X10_refuses σ hL 3 (by omega) hr) ⟨rfl, rfl⟩ (Ls_55 hL) (by decide) ⟨Or.inl km_X10_567, kc_X10_refuses, kn_X10, kd_X10_refuses, ⟨(Nat.le_of_ble_eq_true rfl), (Nat.le_of_ble_eq_true rfl)⟩, ⟨(Nat.le_of_ble_eq_true rfl), (Nat.le_of_ble_eq_true rfl)⟩, (Nat.le_of_ble_eq_true rfl)⟩ ki_X10_refuses ks_X10_refuses rfl rfl (am_tab tk_X10_tell 10 rfl) rfl ?_
      refine am_iret (Or.inl rfl) (Nat.le_of_ble_eq_true rfl) (Nat.le_of_ble_eq_true rfl) (am_tab tk_X10_tell 11 rfl) ?_
      have hb : 1 ≤ d ∧ d ≤ σ.2.1 85 9 → (0 ≤ p ∧ p ≤ σ.2.1 85 5 - 1) → ao_and (ao_shr (σ.2.1 96 (20 + d).toNat) p) 1 = tb (σ.2.1 96 (20 + d).toNat) p := fun h9 h8 => by
        have h7 := hR.told d.toNat (by omega)
        rw [show 20 + d.toNat = (20 + d).toNat by omega] at h7
        exact tb_eq h7 ⟨by omega, by omega⟩
      first
        | exact Or.inr ⟨fun hc => absurd hc.1 (by assumption), rfl, rfl⟩
        | exact Or.inr ⟨fun hc => absurd hc.2.1 (by assumption), rfl, rfl⟩
        | (rw [hb (by assumption) (by assumption)] at h36; first
            | exact Or.inl ⟨⟨by assumption, by assumption, Or.inl h36⟩, by rw [if_pos h36], rfl⟩
            | exact Or.inl ⟨⟨by assumption, by assumption, Or.inr h57⟩, by rw [if_neg h36], rfl⟩
            | exact Or.inr ⟨fun hc => hc.2.2.elim (fun h => absurd h h36) (fun h => absurd h57 h), rfl, rfl⟩)
def briC (σ : am_H) (p d : Int) : Prop := (0 ≤ p ∧ p ≤ σ.2.1 85 5 - 1) ∧ (1 ≤ d ∧ d ≤ σ.2.1 85 9) ∧ σ.2.1 96 1 < d ∧ ¬ σ.2.1 96 (12 + p).toNat = 1 ∧ ¬ tb (σ.2.1 96 (111 + d).toNat) p = 1 ∧ ¬ stM σ 111 = 30
theorem c_X10_bribe (σ : am_H) (hL : lay σ) (p : Int) (d : Int) (hR : MR σ) (hn : 0 ≤ σ.2.1 55 70 ∧ σ.2.1 55 70 ≤ 19) (hu : 0 ≤ σ.2.1 55 69 ∧ σ.2.1 55 69 ≤ 20) (hr : 0 ≤ σ.2.1 57 3 ∧ σ.2.1 57 3 ≤ 100000) : am_met M_X10_bribe [am_r 55, am_i p, am_i d] σ (fun r σ' => (briC σ p d ∧ r = some (am_i (σ.2.1 88 (8 + p).toNat)) ∧ σ' = am_setN (am_setN (keH σ) 96 (111 + d).toNat (ao_or (σ.2.1 96 (111 + d).toNat) (ao_shl 1 p))) 96 3 (if 999999 < σ.2.1 96 3 + σ.2.1 88 (8 + p).toNat then 999999 else σ.2.1 96 3 + σ.2.1 88 (8 + p).toNat)) ∨ (¬ briC σ p d ∧ r = some (am_i (-1)) ∧ σ' = am_setN σ 57 3 (σ.2.1 57 3 + 1))) := by
  refine am_enter (show plainFor yX10_bribe = true by decide +kernel) rfl (Nat.le_of_ble_eq_true rfl) (fun _ _ _ => trivial) ?_
  have hP := hR.P
  have hY := hR.Y
  have hC := hR.coins
  have hA : (0 ≤ p ∧ p ≤ σ.2.1 85 5 - 1) → 0 ≤ σ.2.1 88 (8 + p).toNat ∧ σ.2.1 88 (8 + p).toNat ≤ 99 := fun h9 => by
    have h8 := hR.ask p.toNat (by omega)
    rw [show 8 + p.toNat = (8 + p).toNat by omega] at h8
    exact h8
  refine am_aload_n (q := 1) rfl (am_tab tk_X10_bribe 0 rfl) rfl ?_
  refine am_iload_n (q := 2) rfl (am_tab tk_X10_bribe 1 rfl) rfl ?_
  refine am_callV0 (q := 5) (me2 := M_X10_isPerson) (b := 55) (kb := 10) (nb := 108) (As := [am_i p]) (rest := []) (out := [am_i (if 0 ≤ p ∧ p ≤ σ.2.1 85 5 - 1 then 1 else 0)]) (c_X10_isPerson σ hL p hR.P) ⟨rfl, rfl⟩ (Ls_55 hL) (by decide) ⟨Or.inl km_X10_490, kc_X10_isPerson, kn_X10, kd_X10_isPerson, ⟨(Nat.le_of_ble_eq_true rfl), (Nat.le_of_ble_eq_true rfl)⟩, ⟨(Nat.le_of_ble_eq_true rfl), (Nat.le_of_ble_eq_true rfl)⟩, (Nat.le_of_ble_eq_true rfl)⟩ ki_X10_isPerson ks_X10_isPerson rfl rfl (am_tab tk_X10_bribe 2 rfl) rfl ?_
  refine am_if_eq (q := 8) (t := 62) (am_tab tk_X10_bribe 3 rfl) (by decide) rfl (fun h5 => ?_) (fun h5 => ?_)
  · replace h5 := b01z h5
    refine am_aload_n (q := 63) rfl (am_tab tk_X10_bribe 35 rfl) rfl ?_
    refine am_iconst (q := 64) (n := 3) (by decide) (am_tab tk_X10_bribe 36 rfl) rfl ?_
    refine am_callV0 (q := 67) (me2 := M_X10_refuses) (b := 55) (kb := 10) (nb := 108) (As := [am_i 3]) (rest := []) (out := [am_i ((-1))]) (c_X10_refuses σ hL 3 (by omega) hr) ⟨rfl, rfl⟩ (Ls_55 hL) (by decide) ⟨Or.inl km_X10_567, kc_X10_refuses, kn_X10, kd_X10_refuses, ⟨(Nat.le_of_ble_eq_true rfl), (Nat.le_of_ble_eq_true rfl)⟩, ⟨(Nat.le_of_ble_eq_true rfl), (Nat.le_of_ble_eq_true rfl)⟩, (Nat.le_of_ble_eq_true rfl)⟩ ki_X10_refuses ks_X10_refuses rfl rfl (am_tab tk_X10_bribe 37 rfl) rfl ?_
    refine am_iret (Or.inl rfl) (Nat.le_of_ble_eq_true rfl) (Nat.le_of_ble_eq_true rfl) (am_tab tk_X10_bribe 38 rfl) ?_
    have hb : 1 ≤ d ∧ d ≤ σ.2.1 85 9 → (0 ≤ p ∧ p ≤ σ.2.1 85 5 - 1) → ao_and (ao_shr (σ.2.1 96 (111 + d).toNat) p) 1 = tb (σ.2.1 96 (111 + d).toNat) p := fun h9 h8 => by
      have h7 := hR.brib d.toNat (by omega)
      rw [show 111 + d.toNat = (111 + d).toNat by omega] at h7
      exact tb_eq h7 ⟨by omega, by omega⟩
    refine Or.inr ⟨fun hc => ?_, rfl, rfl⟩
    first
      | exact h5 hc.1
      | exact h13 hc.2.1
      | exact absurd hc.2.2.1 (by omega)
      | exact hc.2.2.2.1 h31
      | (rw [hb hc.2.1 hc.1] at h48; first | exact hc.2.2.2.2.1 h48 | exact hc.2.2.2.2.2 h59)
  · replace h5 := b01n h5
    refine am_aload_n (q := 9) rfl (am_tab tk_X10_bribe 4 rfl) rfl ?_
    refine am_iload_n (q := 10) rfl (am_tab tk_X10_bribe 5 rfl) rfl ?_
    refine am_callV0 (q := 13) (me2 := M_X10_isDay) (b := 55) (kb := 10) (nb := 108) (As := [am_i d]) (rest := []) (out := [am_i (if 1 ≤ d ∧ d ≤ σ.2.1 85 9 then 1 else 0)]) (c_X10_isDay σ hL d ) ⟨rfl, rfl⟩ (Ls_55 hL) (by decide) ⟨Or.inl km_X10_504, kc_X10_isDay, kn_X10, kd_X10_isDay, ⟨(Nat.le_of_ble_eq_true rfl), (Nat.le_of_ble_eq_true rfl)⟩, ⟨(Nat.le_of_ble_eq_true rfl), (Nat.le_of_ble_eq_true rfl)⟩, (Nat.le_of_ble_eq_true rfl)⟩ ki_X10_isDay ks_X10_isDay rfl rfl (am_tab tk_X10_bribe 6 rfl) rfl ?_
    refine am_if_eq (q := 16) (t := 62) (am_tab tk_X10_bribe 7 rfl) (by decide) rfl (fun h13 => ?_) (fun h13 => ?_)
    · replace h13 := b01z h13
      refine am_aload_n (q := 63) rfl (am_tab tk_X10_bribe 35 rfl) rfl ?_
      refine am_iconst (q := 64) (n := 3) (by decide) (am_tab tk_X10_bribe 36 rfl) rfl ?_
      refine am_callV0 (q := 67) (me2 := M_X10_refuses) (b := 55) (kb := 10) (nb := 108) (As := [am_i 3]) (rest := []) (out := [am_i ((-1))]) (c_X10_refuses σ hL 3 (by omega) hr) ⟨rfl, rfl⟩ (Ls_55 hL) (by decide) ⟨Or.inl km_X10_567, kc_X10_refuses, kn_X10, kd_X10_refuses, ⟨(Nat.le_of_ble_eq_true rfl), (Nat.le_of_ble_eq_true rfl)⟩, ⟨(Nat.le_of_ble_eq_true rfl), (Nat.le_of_ble_eq_true rfl)⟩, (Nat.le_of_ble_eq_true rfl)⟩ ki_X10_refuses ks_X10_refuses rfl rfl (am_tab tk_X10_bribe 37 rfl) rfl ?_
      refine am_iret (Or.inl rfl) (Nat.le_of_ble_eq_true rfl) (Nat.le_of_ble_eq_true rfl) (am_tab tk_X10_bribe 38 rfl) ?_
      have hb : 1 ≤ d ∧ d ≤ σ.2.1 85 9 → (0 ≤ p ∧ p ≤ σ.2.1 85 5 - 1) → ao_and (ao_shr (σ.2.1 96 (111 + d).toNat) p) 1 = tb (σ.2.1 96 (111 + d).toNat) p := fun h9 h8 => by
        have h7 := hR.brib d.toNat (by omega)
        rw [show 111 + d.toNat = (111 + d).toNat by omega] at h7
        exact tb_eq h7 ⟨by omega, by omega⟩
      refine Or.inr ⟨fun hc => ?_, rfl, rfl⟩
      first
        | exact h5 hc.1
        | exact h13 hc.2.1
        | exact absurd hc.2.2.1 (by omega)
        | exact hc.2.2.2.1 h31
        | (rw [hb hc.2.1 hc.1] at h48; first | exact hc.2.2.2.2.1 h48 | exact hc.2.2.2.2.2 h59)
    · replace h13 := b01n h13
      refine am_iload_n (q := 17) rfl (am_tab tk_X10_bribe 8 rfl) rfl ?_
      refine am_aload_n (q := 18) rfl (am_tab tk_X10_bribe 9 rfl) rfl ?_
      refine am_getR (q := 21) (a := 55) (k := 10) (n := 108) (j := 54) (r := some (96)) (Ls_55 hL) (by decide) rfl (Lr_55_54 hL) (by decide) (Or.inl kf_X10_136) (am_tab tk_X10_bribe 10 rfl) rfl ?_
      refine am_iconst (q := 22) (n := 1) (by decide) (am_tab tk_X10_bribe 11 rfl) rfl ?_
      refine am_iald (q := 23) (a := 96) (n := 443) (x := (σ.2.1 96 1)) (Ls_96 hL) (by omega) (by omega) rfl (am_tab tk_X10_bribe 12 rfl) rfl ?_
      refine am_icmp_le (q := 26) (t := 62) (am_tab tk_X10_bribe 13 rfl) (by decide) rfl (fun h23 => ?_) (fun h23 => ?_)
      · refine am_aload_n (q := 63) rfl (am_tab tk_X10_bribe 35 rfl) rfl ?_
        refine am_iconst (q := 64) (n := 3) (by decide) (am_tab tk_X10_bribe 36 rfl) rfl ?_
        refine am_callV0 (q := 67) (me2 := M_X10_refuses) (b := 55) (kb := 10) (nb := 108) (As := [am_i 3]) (rest := []) (out := [am_i ((-1))]) (c_X10_refuses σ hL 3 (by omega) hr) ⟨rfl, rfl⟩ (Ls_55 hL) (by decide) ⟨Or.inl km_X10_567, kc_X10_refuses, kn_X10, kd_X10_refuses, ⟨(Nat.le_of_ble_eq_true rfl), (Nat.le_of_ble_eq_true rfl)⟩, ⟨(Nat.le_of_ble_eq_true rfl), (Nat.le_of_ble_eq_true rfl)⟩, (Nat.le_of_ble_eq_true rfl)⟩ ki_X10_refuses ks_X10_refuses rfl rfl (am_tab tk_X10_bribe 37 rfl) rfl ?_
        refine am_iret (Or.inl rfl) (Nat.le_of_ble_eq_true rfl) (Nat.le_of_ble_eq_true rfl) (am_tab tk_X10_bribe 38 rfl) ?_
        have hb : 1 ≤ d ∧ d ≤ σ.2.1 85 9 → (0 ≤ p ∧ p ≤ σ.2.1 85 5 - 1) → ao_and (ao_shr (σ.2.1 96 (111 + d).toNat) p) 1 = tb (σ.2.1 96 (111 + d).toNat) p := fun h9 h8 => by
          have h7 := hR.brib d.toNat (by omega)
          rw [show 111 + d.toNat = (111 + d).toNat by omega] at h7
          exact tb_eq h7 ⟨by omega, by omega⟩
        refine Or.inr ⟨fun hc => ?_, rfl, rfl⟩
        first
          | exact h5 hc.1
          | exact h13 hc.2.1
          | exact absurd hc.2.2.1 (by omega)
          | exact hc.2.2.2.1 h31
          | (rw [hb hc.2.1 hc.1] at h48; first | exact hc.2.2.2.2.1 h48 | exact hc.2.2.2.2.2 h59)
      · refine am_aload_n (q := 27) rfl (am_tab tk_X10_bribe 14 rfl) rfl ?_
        refine am_iload_n (q := 28) rfl (am_tab tk_X10_bribe 15 rfl) rfl ?_
        refine am_callV0 (q := 31) (me2 := M_X10_isDead) (b := 55) (kb := 10) (nb := 108) (As := [am_i p]) (rest := []) (out := [am_i (if σ.2.1 96 (12 + p).toNat = 1 then 1 else 0)]) (c_X10_isDead σ hL p (by omega)) ⟨rfl, rfl⟩ (Ls_55 hL) (by decide) ⟨Or.inl km_X10_400, kc_X10_isDead, kn_X10, kd_X10_isDead, ⟨(Nat.le_of_ble_eq_true rfl), (Nat.le_of_ble_eq_true rfl)⟩, ⟨(Nat.le_of_ble_eq_true rfl), (Nat.le_of_ble_eq_true rfl)⟩, (Nat.le_of_ble_eq_true rfl)⟩ ki_X10_isDead ks_X10_isDead rfl rfl (am_tab tk_X10_bribe 16 rfl) rfl ?_
        refine am_if_ne (q := 34) (t := 62) (am_tab tk_X10_bribe 17 rfl) (by decide) rfl (fun h31 => ?_) (fun h31 => ?_)
        · replace h31 := b01n h31
          refine am_aload_n (q := 63) rfl (am_tab tk_X10_bribe 35 rfl) rfl ?_
          refine am_iconst (q := 64) (n := 3) (by decide) (am_tab tk_X10_bribe 36 rfl) rfl ?_
          refine am_callV0 (q := 67) (me2 := M_X10_refuses) (b := 55) (kb := 10) (nb := 108) (As := [am_i 3]) (rest := []) (out := [am_i ((-1))]) (c_X10_refuses σ hL 3 (by omega) hr) ⟨rfl, rfl⟩ (Ls_55 hL) (by decide) ⟨Or.inl km_X10_567, kc_X10_refuses, kn_X10, kd_X10_refuses, ⟨(Nat.le_of_ble_eq_true rfl), (Nat.le_of_ble_eq_true rfl)⟩, ⟨(Nat.le_of_ble_eq_true rfl), (Nat.le_of_ble_eq_true rfl)⟩, (Nat.le_of_ble_eq_true rfl)⟩ ki_X10_refuses ks_X10_refuses rfl rfl (am_tab tk_X10_bribe 37 rfl) rfl ?_
          refine am_iret (Or.inl rfl) (Nat.le_of_ble_eq_true rfl) (Nat.le_of_ble_eq_true rfl) (am_tab tk_X10_bribe 38 rfl) ?_
          have hb : 1 ≤ d ∧ d ≤ σ.2.1 85 9 → (0 ≤ p ∧ p ≤ σ.2.1 85 5 - 1) → ao_and (ao_shr (σ.2.1 96 (111 + d).toNat) p) 1 = tb (σ.2.1 96 (111 + d).toNat) p := fun h9 h8 => by
            have h7 := hR.brib d.toNat (by omega)
            rw [show 111 + d.toNat = (111 + d).toNat by omega] at h7
            exact tb_eq h7 ⟨by omega, by omega⟩
          refine Or.inr ⟨fun hc => ?_, rfl, rfl⟩
          first
            | exact h5 hc.1
            | exact h13 hc.2.1
            | exact absurd hc.2.2.1 (by omega)
            | exact hc.2.2.2.1 h31
            | (rw [hb hc.2.1 hc.1] at h48; first | exact hc.2.2.2.2.1 h48 | exact hc.2.2.2.2.2 h59)
        · replace h31 := b01z h31
          refine am_aload_n (q := 35) rfl (am_tab tk_X10_bribe 18 rfl) rfl ?_
          refine am_getR (q := 38) (a := 55) (k := 10) (n := 108) (j := 54) (r := some (96)) (Ls_55 hL) (by decide) rfl (Lr_55_54 hL) (by decide) (Or.inl kf_X10_136) (am_tab tk_X10_bribe 19 rfl) rfl ?_
          refine am_bipush (q := 40) (n := 111) (by decide) rfl (am_tab tk_X10_bribe 20 rfl) rfl ?_
          refine am_iload_n (q := 41) rfl (am_tab tk_X10_bribe 21 rfl) rfl ?_
          refine am_iadd (q := 42) (by omega) (am_tab tk_X10_bribe 22 rfl) rfl ?_
          refine am_iald (q := 43) (a := 96) (n := 443) (x := (σ.2.1 96 (Int.toNat (111 + d)))) (Ls_96 hL) (by omega) (by omega) rfl (am_tab tk_X10_bribe 23 rfl) rfl ?_
          refine am_iload_n (q := 44) rfl (am_tab tk_X10_bribe 24 rfl) rfl ?_
          refine am_ishr (q := 45) (am_tab tk_X10_bribe 25 rfl) rfl ?_
          refine am_iconst (q := 46) (n := 1) (by decide) (am_tab tk_X10_bribe 26 rfl) rfl ?_
          refine am_iand (q := 47) (am_tab tk_X10_bribe 27 rfl) rfl ?_
          refine am_iconst (q := 48) (n := 1) (by decide) (am_tab tk_X10_bribe 28 rfl) rfl ?_
          refine am_icmp_eq (q := 51) (t := 62) (am_tab tk_X10_bribe 29 rfl) (by decide) rfl (fun h48 => ?_) (fun h48 => ?_)
          · refine am_aload_n (q := 63) rfl (am_tab tk_X10_bribe 35 rfl) rfl ?_
            refine am_iconst (q := 64) (n := 3) (by decide) (am_tab tk_X10_bribe 36 rfl) rfl ?_
            refine am_callV0 (q := 67) (me2 := M_X10_refuses) (b := 55) (kb := 10) (nb := 108) (As := [am_i 3]) (rest := []) (out := [am_i ((-1))]) (c_X10_refuses σ hL 3 (by omega) hr) ⟨rfl, rfl⟩ (Ls_55 hL) (by decide) ⟨Or.inl km_X10_567, kc_X10_refuses, kn_X10, kd_X10_refuses, ⟨(Nat.le_of_ble_eq_true rfl), (Nat.le_of_ble_eq_true rfl)⟩, ⟨(Nat.le_of_ble_eq_true rfl), (Nat.le_of_ble_eq_true rfl)⟩, (Nat.le_of_ble_eq_true rfl)⟩ ki_X10_refuses ks_X10_refuses rfl rfl (am_tab tk_X10_bribe 37 rfl) rfl ?_
            refine am_iret (Or.inl rfl) (Nat.le_of_ble_eq_true rfl) (Nat.le_of_ble_eq_true rfl) (am_tab tk_X10_bribe 38 rfl) ?_
            have hb : 1 ≤ d ∧ d ≤ σ.2.1 85 9 → (0 ≤ p ∧ p ≤ σ.2.1 85 5 - 1) → ao_and (ao_shr (σ.2.1 96 (111 + d).toNat) p) 1 = tb (σ.2.1 96 (111 + d).toNat) p := fun h9 h8 => by
              have h7 := hR.brib d.toNat (by omega)
              rw [show 111 + d.toNat = (111 + d).toNat by omega] at h7
              exact tb_eq h7 ⟨by omega, by omega⟩
            refine Or.inr ⟨fun hc => ?_, rfl, rfl⟩
            first
              | exact h5 hc.1
              | exact h13 hc.2.1
              | exact absurd hc.2.2.1 (by omega)
              | exact hc.2.2.2.1 h31
              | (rw [hb hc.2.1 hc.1] at h48; first | exact hc.2.2.2.2.1 h48 | exact hc.2.2.2.2.2 h59)
          · refine am_aload_n (q := 52) rfl (am_tab tk_X10_bribe 30 rfl) rfl ?_
            refine am_bipush (q := 54) (n := 111) (by decide) rfl (am_tab tk_X10_bribe 31 rfl) rfl ?_
            refine am_callV0 (q := 57) (me2 := M_X10_setsOf) (b := 55) (kb := 10) (nb := 108) (As := [am_i 111]) (rest := []) (out := [am_i (stM σ 111)]) (c_X10_setsOf σ hL 111 (by omega) (brib_b hR)) ⟨rfl, rfl⟩ (Ls_55 hL) (by decide) ⟨Or.inl km_X10_487, kc_X10_setsOf, kn_X10, kd_X10_setsOf, ⟨(Nat.le_of_ble_eq_true rfl), (Nat.le_of_ble_eq_true rfl)⟩, ⟨(Nat.le_of_ble_eq_true rfl), (Nat.le_of_ble_eq_true rfl)⟩, (Nat.le_of_ble_eq_true rfl)⟩ ki_X10_setsOf ks_X10_setsOf rfl rfl (am_tab tk_X10_bribe 32 rfl) rfl ?_
            refine am_bipush (q := 59) (n := 30) (by decide) rfl (am_tab tk_X10_bribe 33 rfl) rfl ?_
            refine am_icmp_ne (q := 62) (t := 68) (am_tab tk_X10_bribe 34 rfl) (by decide) rfl (fun h59 => ?_) (fun h59 => ?_)
            · refine am_aload_n (q := 69) rfl (am_tab tk_X10_bribe 39 rfl) rfl ?_
              refine am_callV0 (q := 72) (me2 := M_X10_keeps) (b := 55) (kb := 10) (nb := 108) (As := []) (rest := []) (out := []) (c_X10_keeps σ hL hn hu) ⟨rfl, rfl⟩ (Ls_55 hL) (by decide) ⟨Or.inl km_X10_570, kc_X10_keeps, kn_X10, kd_X10_keeps, ⟨(Nat.le_of_ble_eq_true rfl), (Nat.le_of_ble_eq_true rfl)⟩, ⟨(Nat.le_of_ble_eq_true rfl), (Nat.le_of_ble_eq_true rfl)⟩, (Nat.le_of_ble_eq_true rfl)⟩ ki_X10_keeps ks_X10_keeps rfl rfl (am_tab tk_X10_bribe 40 rfl) rfl ?_
              refine am_aload_n (q := 73) rfl (am_tab tk_X10_bribe 41 rfl) rfl ?_
              refine am_getR (q := 76) (a := 55) (k := 10) (n := 108) (j := 54) (r := some (96)) (Ls_55 hL) (by decide) rfl (Lr_55_54 hL) (by decide) (Or.inl kf_X10_136) (am_tab tk_X10_bribe 42 rfl) rfl ?_
              refine am_bipush (q := 78) (n := 111) (by decide) rfl (am_tab tk_X10_bribe 43 rfl) rfl ?_
              refine am_iload_n (q := 79) rfl (am_tab tk_X10_bribe 44 rfl) rfl ?_
              refine am_iadd (q := 80) (by omega) (am_tab tk_X10_bribe 45 rfl) rfl ?_
              refine am_dup2 (q := 81) rfl rfl (am_tab tk_X10_bribe 46 rfl) rfl ?_
              refine am_iald (q := 82) (a := 96) (n := 443) (x := (σ.2.1 96 (Int.toNat (111 + d)))) (Ls_96 hL) (by omega) (by omega) rfl (am_tab tk_X10_bribe 47 rfl) rfl ?_
              refine am_iconst (q := 83) (n := 1) (by decide) (am_tab tk_X10_bribe 48 rfl) rfl ?_
              refine am_iload_n (q := 84) rfl (am_tab tk_X10_bribe 49 rfl) rfl ?_
              refine am_ishl (q := 85) (am_tab tk_X10_bribe 50 rfl) rfl ?_
              refine am_ior (q := 86) (am_tab tk_X10_bribe 51 rfl) rfl ?_
              refine am_iast (q := 87) (a := 96) (n := 443) (Ls_96 hL) (by omega) (by omega) (am_tab tk_X10_bribe 52 rfl) rfl ?_
              refine am_aload_n (q := 88) rfl (am_tab tk_X10_bribe 53 rfl) rfl ?_
              refine am_getR (q := 91) (a := 55) (k := 10) (n := 108) (j := 54) (r := some (96)) (Ls_55 hL) (by decide) rfl (Lr_55_54 hL) (by decide) (Or.inl kf_X10_136) (am_tab tk_X10_bribe 54 rfl) rfl ?_
              refine am_iconst (q := 92) (n := 3) (by decide) (am_tab tk_X10_bribe 55 rfl) rfl ?_
              refine am_iald (q := 93) (a := 96) (n := 443) (x := (σ.2.1 96 3)) (Ls_96 hL) (by omega) (by omega) (by show (if _ then _ else _) = _; rw [if_neg (by omega)]; rfl) (am_tab tk_X10_bribe 56 rfl) rfl ?_
              refine am_aload_n (q := 94) rfl (am_tab tk_X10_bribe 57 rfl) rfl ?_
              refine am_iload_n (q := 95) rfl (am_tab tk_X10_bribe 58 rfl) rfl ?_
              refine am_callV0 (q := 98) (me2 := M_X10_askedBy) (b := 55) (kb := 10) (nb := 108) (As := [am_i p]) (rest := [am_i ((σ.2.1 96 3))]) (out := [am_i (σ.2.1 88 (8 + p).toNat), am_i ((σ.2.1 96 3))]) (c_X10_askedBy ((am_setN (keH σ) 96 (Int.toNat (111 + d)) ((ao_or ((σ.2.1 96 (Int.toNat (111 + d)))) (ao_shl 1 p))))) hL p (by omega)) ⟨rfl, rfl⟩ (Ls_55 hL) (by decide) ⟨Or.inl km_X10_495, kc_X10_askedBy, kn_X10, kd_X10_askedBy, ⟨(Nat.le_of_ble_eq_true rfl), (Nat.le_of_ble_eq_true rfl)⟩, ⟨(Nat.le_of_ble_eq_true rfl), (Nat.le_of_ble_eq_true rfl)⟩, (Nat.le_of_ble_eq_true rfl)⟩ ki_X10_askedBy ks_X10_askedBy rfl rfl (am_tab tk_X10_bribe 59 rfl) rfl ?_
              refine am_iadd (q := 99) (by have h9 := hA h5; omega) (am_tab tk_X10_bribe 60 rfl) rfl ?_
              refine am_istore_n (q := 100) (by decide) (ls2 := [(3, am_i (((σ.2.1 96 3) + (σ.2.1 88 (8 + p).toNat)))), (0, am_r 55), (1, am_i p), (2, am_i d)]) rfl (am_tab tk_X10_bribe 61 rfl) rfl ?_
              refine am_aload_n (q := 101) rfl (am_tab tk_X10_bribe 62 rfl) rfl ?_
              refine am_getR (q := 104) (a := 55) (k := 10) (n := 108) (j := 54) (r := some (96)) (Ls_55 hL) (by decide) rfl (Lr_55_54 hL) (by decide) (Or.inl kf_X10_136) (am_tab tk_X10_bribe 63 rfl) rfl ?_
              refine am_iconst (q := 105) (n := 3) (by decide) (am_tab tk_X10_bribe 64 rfl) rfl ?_
              refine am_iload_n (q := 106) rfl (am_tab tk_X10_bribe 65 rfl) rfl ?_
              refine am_ldcw (q := 109) (n := 999999) (by decide) kk_X10_573 (am_tab tk_X10_bribe 66 rfl) rfl ?_
              refine am_icmp_le (q := 112) (t := 118) (am_tab tk_X10_bribe 67 rfl) (by decide) rfl (fun h109 => ?_) (fun h109 => ?_)
              · refine am_iload_n (q := 119) rfl (am_tab tk_X10_bribe 70 rfl) rfl ?_
                refine am_iast (q := 120) (a := 96) (n := 443) (Ls_96 hL) (by omega) (by omega) (am_tab tk_X10_bribe 71 rfl) rfl ?_
                refine am_aload_n (q := 121) rfl (am_tab tk_X10_bribe 72 rfl) rfl ?_
                refine am_iload_n (q := 122) rfl (am_tab tk_X10_bribe 73 rfl) rfl ?_
                refine am_callV0 (q := 125) (me2 := M_X10_askedBy) (b := 55) (kb := 10) (nb := 108) (As := [am_i p]) (rest := []) (out := [am_i (σ.2.1 88 (8 + p).toNat)]) (c_X10_askedBy ((am_setN (am_setN (keH σ) 96 (Int.toNat (111 + d)) ((ao_or ((σ.2.1 96 (Int.toNat (111 + d)))) (ao_shl 1 p)))) 96 3 (((σ.2.1 96 3) + (σ.2.1 88 (8 + p).toNat))))) hL p (by omega)) ⟨rfl, rfl⟩ (Ls_55 hL) (by decide) ⟨Or.inl km_X10_495, kc_X10_askedBy, kn_X10, kd_X10_askedBy, ⟨(Nat.le_of_ble_eq_true rfl), (Nat.le_of_ble_eq_true rfl)⟩, ⟨(Nat.le_of_ble_eq_true rfl), (Nat.le_of_ble_eq_true rfl)⟩, (Nat.le_of_ble_eq_true rfl)⟩ ki_X10_askedBy ks_X10_askedBy rfl rfl (am_tab tk_X10_bribe 74 rfl) rfl ?_
                refine am_iret (Or.inl rfl) (Nat.le_of_ble_eq_true rfl) (Nat.le_of_ble_eq_true rfl) (am_tab tk_X10_bribe 75 rfl) ?_
                have hb : 1 ≤ d ∧ d ≤ σ.2.1 85 9 → (0 ≤ p ∧ p ≤ σ.2.1 85 5 - 1) → ao_and (ao_shr (σ.2.1 96 (111 + d).toNat) p) 1 = tb (σ.2.1 96 (111 + d).toNat) p := fun h9 h8 => by
                  have h7 := hR.brib d.toNat (by omega)
                  rw [show 111 + d.toNat = (111 + d).toNat by omega] at h7
                  exact tb_eq h7 ⟨by omega, by omega⟩
                rw [hb h13 h5] at h48
                refine Or.inl ⟨⟨h5, h13, by omega, h31, h48, h59⟩, rfl, ?_⟩
                first | rw [if_pos (by omega)] | rw [if_neg (by omega)]
              · refine am_ldcw (q := 115) (n := 999999) (by decide) kk_X10_573 (am_tab tk_X10_bribe 68 rfl) rfl ?_
                refine am_goto (t := 119) (am_tab tk_X10_bribe 69 rfl) (by decide) ?_
                refine am_iast (q := 120) (a := 96) (n := 443) (Ls_96 hL) (by omega) (by omega) (am_tab tk_X10_bribe 71 rfl) rfl ?_
                refine am_aload_n (q := 121) rfl (am_tab tk_X10_bribe 72 rfl) rfl ?_
                refine am_iload_n (q := 122) rfl (am_tab tk_X10_bribe 73 rfl) rfl ?_
                refine am_callV0 (q := 125) (me2 := M_X10_askedBy) (b := 55) (kb := 10) (nb := 108) (As := [am_i p]) (rest := []) (out := [am_i (σ.2.1 88 (8 + p).toNat)]) (c_X10_askedBy ((am_setN (am_setN (keH σ) 96 (Int.toNat (111 + d)) ((ao_or ((σ.2.1 96 (Int.toNat (111 + d)))) (ao_shl 1 p)))) 96 3 999999)) hL p (by omega)) ⟨rfl, rfl⟩ (Ls_55 hL) (by decide) ⟨Or.inl km_X10_495, kc_X10_askedBy, kn_X10, kd_X10_askedBy, ⟨(Nat.le_of_ble_eq_true rfl), (Nat.le_of_ble_eq_true rfl)⟩, ⟨(Nat.le_of_ble_eq_true rfl), (Nat.le_of_ble_eq_true rfl)⟩, (Nat.le_of_ble_eq_true rfl)⟩ ki_X10_askedBy ks_X10_askedBy rfl rfl (am_tab tk_X10_bribe 74 rfl) rfl ?_
                refine am_iret (Or.inl rfl) (Nat.le_of_ble_eq_true rfl) (Nat.le_of_ble_eq_true rfl) (am_tab tk_X10_bribe 75 rfl) ?_
                have hb : 1 ≤ d ∧ d ≤ σ.2.1 85 9 → (0 ≤ p ∧ p ≤ σ.2.1 85 5 - 1) → ao_and (ao_shr (σ.2.1 96 (111 + d).toNat) p) 1 = tb (σ.2.1 96 (111 + d).toNat) p := fun h9 h8 => by
                  have h7 := hR.brib d.toNat (by omega)
                  rw [show 111 + d.toNat = (111 + d).toNat by omega] at h7
                  exact tb_eq h7 ⟨by omega, by omega⟩
                rw [hb h13 h5] at h48
                refine Or.inl ⟨⟨h5, h13, by omega, h31, h48, h59⟩, rfl, ?_⟩
                first | rw [if_pos (by omega)] | rw [if_neg (by omega)]
            · refine am_aload_n (q := 63) rfl (am_tab tk_X10_bribe 35 rfl) rfl ?_
              refine am_iconst (q := 64) (n := 3) (by decide) (am_tab tk_X10_bribe 36 rfl) rfl ?_
              refine am_callV0 (q := 67) (me2 := M_X10_refuses) (b := 55) (kb := 10) (nb := 108) (As := [am_i 3]) (rest := []) (out := [am_i ((-1))]) (c_X10_refuses σ hL 3 (by omega) hr) ⟨rfl, rfl⟩ (Ls_55 hL) (by decide) ⟨Or.inl km_X10_567, kc_X10_refuses, kn_X10, kd_X10_refuses, ⟨(Nat.le_of_ble_eq_true rfl), (Nat.le_of_ble_eq_true rfl)⟩, ⟨(Nat.le_of_ble_eq_true rfl), (Nat.le_of_ble_eq_true rfl)⟩, (Nat.le_of_ble_eq_true rfl)⟩ ki_X10_refuses ks_X10_refuses rfl rfl (am_tab tk_X10_bribe 37 rfl) rfl ?_
              refine am_iret (Or.inl rfl) (Nat.le_of_ble_eq_true rfl) (Nat.le_of_ble_eq_true rfl) (am_tab tk_X10_bribe 38 rfl) ?_
              have hb : 1 ≤ d ∧ d ≤ σ.2.1 85 9 → (0 ≤ p ∧ p ≤ σ.2.1 85 5 - 1) → ao_and (ao_shr (σ.2.1 96 (111 + d).toNat) p) 1 = tb (σ.2.1 96 (111 + d).toNat) p := fun h9 h8 => by
                have h7 := hR.brib d.toNat (by omega)
                rw [show 111 + d.toNat = (111 + d).toNat by omega] at h7
                exact tb_eq h7 ⟨by omega, by omega⟩
              refine Or.inr ⟨fun hc => ?_, rfl, rfl⟩
              first
                | exact h5 hc.1
                | exact h13 hc.2.1
                | exact absurd hc.2.2.1 (by omega)
                | exact hc.2.2.2.1 h31
                | (rw [hb hc.2.1 hc.1] at h48; first | exact hc.2.2.2.2.1 h48 | exact hc.2.2.2.2.2 h59)
