def trnM (σ : am_H) (n : Int) : Int := if cM σ ∧ (0 ≤ n ∧ n ≤ 2) then b2i (if n = 0 then atM σ 0 0 else if n = 1 then tlM σ 0 0 else tfM σ) else -1
theorem b2i_0 {b : Bool} (h : b2i b = 0) : 0 = b2i b := h.symm
theorem b2i_1 {b : Bool} (h : ¬ b2i b = 0) : 1 = b2i b := by cases b <;> simp [b2i] at *
theorem c_X10_turnsOf (σ : am_H) (hG : GD σ) (n : Int)  : am_met M_X10_turnsOf [am_r 55, am_i n] σ (fun r σ' => r = some (am_i (trnM σ n)) ∧ PQ σ σ') := by
  refine am_qq (fun Q hQ => ?_)
  refine am_enter (show plainFor yX10_turnsOf = true by decide +kernel) rfl (Nat.le_of_ble_eq_true rfl) (fun _ _ _ => trivial) ?_
  have hL := hG.L
  have hD90 : 0 ≤ σ.2.1 96 1 ∧ σ.2.1 96 1 ≤ 90 := ⟨hG.R.day.1, by have := hG.R.day; have := hG.R.Y; omega⟩
  have hz : (0 : Int) ≤ 0 ∧ (0 : Int) < 256 := by omega
  refine am_aload_n (q := 1) rfl (am_tab tk_X10_turnsOf 0 rfl) rfl ?_
  refine am_callV0 (q := 4) (me2 := M_X10_canCome) (b := 55) (kb := 10) (nb := 108) (As := []) (rest := []) (out := [am_i (if ¬ σ.2.1 55 52 = 0 ∧ (σ.2.1 96 0 < 999 ∨ σ.2.1 96 1 < σ.2.1 85 9) then 1 else 0)]) (c_X10_canCome σ hG.L) ⟨rfl, rfl⟩ (Ls_55 hL) (by decide) ⟨Or.inl km_X10_531, kc_X10_canCome, kn_X10, kd_X10_canCome, ⟨(Nat.le_of_ble_eq_true rfl), (Nat.le_of_ble_eq_true rfl)⟩, ⟨(Nat.le_of_ble_eq_true rfl), (Nat.le_of_ble_eq_true rfl)⟩, (Nat.le_of_ble_eq_true rfl)⟩ ki_X10_canCome ks_X10_canCome rfl rfl (am_tab tk_X10_turnsOf 1 rfl) rfl ?_
  refine am_if_eq (q := 7) (t := 19) (am_tab tk_X10_turnsOf 2 rfl) (by decide) rfl (fun h4 => ?_) (fun h4 => ?_)
  · replace h4 := b01z h4
    refine am_iconst (q := 20) (n := (-1)) (by decide) (am_tab tk_X10_turnsOf 9 rfl) rfl ?_
    refine am_iret (Or.inl rfl) (Nat.le_of_ble_eq_true rfl) (Nat.le_of_ble_eq_true rfl) (am_tab tk_X10_turnsOf 10 rfl) ?_
    refine hQ _ _ ?_
    refine ⟨congrArg (fun z => some (am_i z)) ?_, PQ.refl hG⟩
    unfold trnM
    rw [if_neg (by intro hx; first | exact absurd hx.1 (by assumption) | exact absurd hx.2 (by assumption))]
  · replace h4 := b01n h4
    refine am_iload_n (q := 8) rfl (am_tab tk_X10_turnsOf 3 rfl) rfl ?_
    refine am_i2l (q := 9) (am_tab tk_X10_turnsOf 4 rfl) rfl ?_
    refine am_lconst0 (q := 10) (am_tab tk_X10_turnsOf 5 rfl) rfl ?_
    refine am_ldc2 (q := 13) (n := 2) (by decide) kk_X10_546 (am_tab tk_X10_turnsOf 6 rfl) rfl ?_
    refine am_callS0 (q := 16) (me2 := M_X10_isIn) (As := [am_l n, am_l 0, am_l 2]) (rest := []) (out := [am_i (if 0 ≤ n ∧ n ≤ 2 then 1 else 0)]) (c_X10_isIn σ hL n 0 2 ) ⟨rfl, rfl⟩ ⟨Or.inl km_X10_291, kc_X10_isIn, kn_X10, kd_X10_isIn, ⟨(Nat.le_of_ble_eq_true rfl), (Nat.le_of_ble_eq_true rfl)⟩, ⟨(Nat.le_of_ble_eq_true rfl), (Nat.le_of_ble_eq_true rfl)⟩, (Nat.le_of_ble_eq_true rfl)⟩ ki_X10_isIn rfl rfl (am_tab tk_X10_turnsOf 7 rfl) rfl ?_
    refine am_if_ne (q := 19) (t := 21) (am_tab tk_X10_turnsOf 8 rfl) (by decide) rfl (fun h16 => ?_) (fun h16 => ?_)
    · replace h16 := b01n h16
      have hcc : cc σ := cM_cc hG.R h4
      refine am_aload_n (q := 22) rfl (am_tab tk_X10_turnsOf 11 rfl) rfl ?_
      refine am_callVr (q := 25) (me2 := M_X10_putsAside) (b := 55) (kb := 10) (nb := 108) (As := []) (rest := []) (c_aside σ hG) ⟨rfl, rfl⟩ (Ls_55 hL) (by decide) ⟨Or.inl km_X10_514, kc_X10_putsAside, kn_X10, kd_X10_putsAside, ⟨(Nat.le_of_ble_eq_true rfl), (Nat.le_of_ble_eq_true rfl)⟩, ⟨(Nat.le_of_ble_eq_true rfl), (Nat.le_of_ble_eq_true rfl)⟩, (Nat.le_of_ble_eq_true rfl)⟩ ki_X10_putsAside ks_X10_putsAside rfl (am_tab tk_X10_turnsOf 12 rfl) rfl ?_
      rintro r S0 ⟨rfl, hD0⟩
      refine am_st (st2 := []) rfl ?_
      refine am_aload_n (q := 26) rfl (am_tab tk_X10_turnsOf 13 rfl) rfl ?_
      refine am_callVr (q := 29) (me2 := M_X10_begins) (b := 55) (kb := 10) (nb := 108) (As := []) (rest := []) (c_beg σ hG hcc S0 hD0) ⟨rfl, rfl⟩ (Ls_55 hD0.2.2.1.L) (by decide) ⟨Or.inl km_X10_449, kc_X10_begins, kn_X10, kd_X10_begins, ⟨(Nat.le_of_ble_eq_true rfl), (Nat.le_of_ble_eq_true rfl)⟩, ⟨(Nat.le_of_ble_eq_true rfl), (Nat.le_of_ble_eq_true rfl)⟩, (Nat.le_of_ble_eq_true rfl)⟩ ki_X10_begins ks_X10_begins rfl (am_tab tk_X10_turnsOf 14 rfl) rfl ?_
      rintro r S1 ⟨rfl, hB1⟩
      refine am_st (st2 := []) rfl ?_
      refine am_iload_n (q := 30) rfl (am_tab tk_X10_turnsOf 15 rfl) rfl ?_
      refine am_if_ne (q := 33) (t := 42) (am_tab tk_X10_turnsOf 16 rfl) (by decide) rfl (fun h30 => ?_) (fun h30 => ?_)
      · refine am_iload_n (q := 43) rfl (am_tab tk_X10_turnsOf 22 rfl) rfl ?_
        refine am_iconst (q := 44) (n := 1) (by decide) (am_tab tk_X10_turnsOf 23 rfl) rfl ?_
        refine am_icmp_ne (q := 47) (t := 56) (am_tab tk_X10_turnsOf 24 rfl) (by decide) rfl (fun h44 => ?_) (fun h44 => ?_)
        · refine am_aload_n (q := 57) rfl (am_tab tk_X10_turnsOf 30 rfl) rfl ?_
          refine am_callVr (q := 60) (me2 := M_X10_tellsFirst) (b := 55) (kb := 10) (nb := 108) (As := []) (rest := []) (c_X10_tellsFirst σ hG S1 hB1  ) ⟨rfl, rfl⟩ (Ls_55 hB1.G.L) (by decide) ⟨Or.inl km_X10_548, kc_X10_tellsFirst, kn_X10, kd_X10_tellsFirst, ⟨(Nat.le_of_ble_eq_true rfl), (Nat.le_of_ble_eq_true rfl)⟩, ⟨(Nat.le_of_ble_eq_true rfl), (Nat.le_of_ble_eq_true rfl)⟩, (Nat.le_of_ble_eq_true rfl)⟩ ki_X10_tellsFirst ks_X10_tellsFirst rfl (am_tab tk_X10_turnsOf 31 rfl) rfl ?_
          rintro r S2 ⟨rfl, hB2⟩
          refine am_st (st2 := [am_i (b2i (tfM σ))]) rfl ?_
          refine am_istore_n (q := 61) (by decide) (ls2 := [(2, am_i (b2i (tfM σ))), (0, am_r 55), (1, am_i n)]) rfl (am_tab tk_X10_turnsOf 32 rfl) rfl ?_
          refine am_aload_n (q := 62) rfl (am_tab tk_X10_turnsOf 33 rfl) rfl ?_
          refine am_callVr (q := 65) (me2 := M_X10_takesBack) (b := 55) (kb := 10) (nb := 108) (As := []) (rest := []) (c_back3 σ hG S2 hB2) ⟨rfl, rfl⟩ (Ls_55 hB2.G.L) (by decide) ⟨Or.inl km_X10_520, kc_X10_takesBack, kn_X10, kd_X10_takesBack, ⟨(Nat.le_of_ble_eq_true rfl), (Nat.le_of_ble_eq_true rfl)⟩, ⟨(Nat.le_of_ble_eq_true rfl), (Nat.le_of_ble_eq_true rfl)⟩, (Nat.le_of_ble_eq_true rfl)⟩ ki_X10_takesBack ks_X10_takesBack rfl (am_tab tk_X10_turnsOf 34 rfl) rfl ?_
          rintro r S9 ⟨rfl, hP9⟩
          refine am_st (st2 := []) rfl ?_
          refine am_iload_n (q := 66) rfl (am_tab tk_X10_turnsOf 35 rfl) rfl ?_
          refine am_if_eq (q := 69) (t := 73) (am_tab tk_X10_turnsOf 36 rfl) (by decide) rfl (fun h66 => ?_) (fun h66 => ?_)
          · refine am_iconst (q := 74) (n := 0) (by decide) (am_tab tk_X10_turnsOf 39 rfl) rfl ?_
            refine am_iret (Or.inl rfl) (Nat.le_of_ble_eq_true rfl) (Nat.le_of_ble_eq_true rfl) (am_tab tk_X10_turnsOf 40 rfl) ?_
            refine hQ _ _ ?_
            refine ⟨congrArg (fun z => some (am_i z)) ?_, hP9⟩
            unfold trnM
            rw [if_pos ⟨h4, h16⟩]
            first | rw [if_pos (by assumption)] | (rw [if_neg (by assumption)]; first | rw [if_pos (by assumption)] | rw [if_neg (by assumption)])
            first | exact b2i_0 h66 | exact b2i_1 h66
          · refine am_iconst (q := 70) (n := 1) (by decide) (am_tab tk_X10_turnsOf 37 rfl) rfl ?_
            refine am_goto (t := 74) (am_tab tk_X10_turnsOf 38 rfl) (by decide) ?_
            refine am_iret (Or.inl rfl) (Nat.le_of_ble_eq_true rfl) (Nat.le_of_ble_eq_true rfl) (am_tab tk_X10_turnsOf 40 rfl) ?_
            refine hQ _ _ ?_
            refine ⟨congrArg (fun z => some (am_i z)) ?_, hP9⟩
            unfold trnM
            rw [if_pos ⟨h4, h16⟩]
            first | rw [if_pos (by assumption)] | (rw [if_neg (by assumption)]; first | rw [if_pos (by assumption)] | rw [if_neg (by assumption)])
            first | exact b2i_0 h66 | exact b2i_1 h66
        · refine am_aload_n (q := 48) rfl (am_tab tk_X10_turnsOf 25 rfl) rfl ?_
          refine am_iconst (q := 49) (n := 0) (by decide) (am_tab tk_X10_turnsOf 26 rfl) rfl ?_
          refine am_iconst (q := 50) (n := 0) (by decide) (am_tab tk_X10_turnsOf 27 rfl) rfl ?_
          refine am_callVr (q := 53) (me2 := M_X10_tellsLast) (b := 55) (kb := 10) (nb := 108) (As := [am_i 0, am_i 0]) (rest := []) (c_X10_tellsLast σ hG S1 hB1 0 0 hz hz) ⟨rfl, rfl⟩ (Ls_55 hB1.G.L) (by decide) ⟨Or.inl km_X10_540, kc_X10_tellsLast, kn_X10, kd_X10_tellsLast, ⟨(Nat.le_of_ble_eq_true rfl), (Nat.le_of_ble_eq_true rfl)⟩, ⟨(Nat.le_of_ble_eq_true rfl), (Nat.le_of_ble_eq_true rfl)⟩, (Nat.le_of_ble_eq_true rfl)⟩ ki_X10_tellsLast ks_X10_tellsLast rfl (am_tab tk_X10_turnsOf 28 rfl) rfl ?_
          rintro r S2 ⟨rfl, hB2⟩
          refine am_st (st2 := [am_i (b2i (tlM σ 0 0))]) rfl ?_
          refine am_goto (t := 60) (am_tab tk_X10_turnsOf 29 rfl) (by decide) ?_
          refine am_istore_n (q := 61) (by decide) (ls2 := [(2, am_i (b2i (tlM σ 0 0))), (0, am_r 55), (1, am_i n)]) rfl (am_tab tk_X10_turnsOf 32 rfl) rfl ?_
          refine am_aload_n (q := 62) rfl (am_tab tk_X10_turnsOf 33 rfl) rfl ?_
          refine am_callVr (q := 65) (me2 := M_X10_takesBack) (b := 55) (kb := 10) (nb := 108) (As := []) (rest := []) (c_back3 σ hG S2 hB2) ⟨rfl, rfl⟩ (Ls_55 hB2.G.L) (by decide) ⟨Or.inl km_X10_520, kc_X10_takesBack, kn_X10, kd_X10_takesBack, ⟨(Nat.le_of_ble_eq_true rfl), (Nat.le_of_ble_eq_true rfl)⟩, ⟨(Nat.le_of_ble_eq_true rfl), (Nat.le_of_ble_eq_true rfl)⟩, (Nat.le_of_ble_eq_true rfl)⟩ ki_X10_takesBack ks_X10_takesBack rfl (am_tab tk_X10_turnsOf 34 rfl) rfl ?_
          rintro r S9 ⟨rfl, hP9⟩
          refine am_st (st2 := []) rfl ?_
          refine am_iload_n (q := 66) rfl (am_tab tk_X10_turnsOf 35 rfl) rfl ?_
          refine am_if_eq (q := 69) (t := 73) (am_tab tk_X10_turnsOf 36 rfl) (by decide) rfl (fun h66 => ?_) (fun h66 => ?_)
          · refine am_iconst (q := 74) (n := 0) (by decide) (am_tab tk_X10_turnsOf 39 rfl) rfl ?_
            refine am_iret (Or.inl rfl) (Nat.le_of_ble_eq_true rfl) (Nat.le_of_ble_eq_true rfl) (am_tab tk_X10_turnsOf 40 rfl) ?_
            refine hQ _ _ ?_
            refine ⟨congrArg (fun z => some (am_i z)) ?_, hP9⟩
            unfold trnM
            rw [if_pos ⟨h4, h16⟩]
            first | rw [if_pos (by assumption)] | (rw [if_neg (by assumption)]; first | rw [if_pos (by assumption)] | rw [if_neg (by assumption)])
            first | exact b2i_0 h66 | exact b2i_1 h66
          · refine am_iconst (q := 70) (n := 1) (by decide) (am_tab tk_X10_turnsOf 37 rfl) rfl ?_
            refine am_goto (t := 74) (am_tab tk_X10_turnsOf 38 rfl) (by decide) ?_
            refine am_iret (Or.inl rfl) (Nat.le_of_ble_eq_true rfl) (Nat.le_of_ble_eq_true rfl) (am_tab tk_X10_turnsOf 40 rfl) ?_
            refine hQ _ _ ?_
            refine ⟨congrArg (fun z => some (am_i z)) ?_, hP9⟩
            unfold trnM
            rw [if_pos ⟨h4, h16⟩]
            first | rw [if_pos (by assumption)] | (rw [if_neg (by assumption)]; first | rw [if_pos (by assumption)] | rw [if_neg (by assumption)])
            first | exact b2i_0 h66 | exact b2i_1 h66
      · refine am_aload_n (q := 34) rfl (am_tab tk_X10_turnsOf 17 rfl) rfl ?_
        refine am_iconst (q := 35) (n := 0) (by decide) (am_tab tk_X10_turnsOf 18 rfl) rfl ?_
        refine am_iconst (q := 36) (n := 0) (by decide) (am_tab tk_X10_turnsOf 19 rfl) rfl ?_
        refine am_callVr (q := 39) (me2 := M_X10_anyThinks) (b := 55) (kb := 10) (nb := 108) (As := [am_i 0, am_i 0]) (rest := []) (c_X10_anyThinks σ hG S1 hB1 0 0 hz hz) ⟨rfl, rfl⟩ (Ls_55 hB1.G.L) (by decide) ⟨Or.inl km_X10_534, kc_X10_anyThinks, kn_X10, kd_X10_anyThinks, ⟨(Nat.le_of_ble_eq_true rfl), (Nat.le_of_ble_eq_true rfl)⟩, ⟨(Nat.le_of_ble_eq_true rfl), (Nat.le_of_ble_eq_true rfl)⟩, (Nat.le_of_ble_eq_true rfl)⟩ ki_X10_anyThinks ks_X10_anyThinks rfl (am_tab tk_X10_turnsOf 20 rfl) rfl ?_
        rintro r S2 ⟨rfl, hB2⟩
        refine am_st (st2 := [am_i (b2i (atM σ 0 0))]) rfl ?_
        refine am_goto (t := 60) (am_tab tk_X10_turnsOf 21 rfl) (by decide) ?_
        refine am_istore_n (q := 61) (by decide) (ls2 := [(2, am_i (b2i (atM σ 0 0))), (0, am_r 55), (1, am_i n)]) rfl (am_tab tk_X10_turnsOf 32 rfl) rfl ?_
        refine am_aload_n (q := 62) rfl (am_tab tk_X10_turnsOf 33 rfl) rfl ?_
        refine am_callVr (q := 65) (me2 := M_X10_takesBack) (b := 55) (kb := 10) (nb := 108) (As := []) (rest := []) (c_back3 σ hG S2 hB2) ⟨rfl, rfl⟩ (Ls_55 hB2.G.L) (by decide) ⟨Or.inl km_X10_520, kc_X10_takesBack, kn_X10, kd_X10_takesBack, ⟨(Nat.le_of_ble_eq_true rfl), (Nat.le_of_ble_eq_true rfl)⟩, ⟨(Nat.le_of_ble_eq_true rfl), (Nat.le_of_ble_eq_true rfl)⟩, (Nat.le_of_ble_eq_true rfl)⟩ ki_X10_takesBack ks_X10_takesBack rfl (am_tab tk_X10_turnsOf 34 rfl) rfl ?_
        rintro r S9 ⟨rfl, hP9⟩
        refine am_st (st2 := []) rfl ?_
        refine am_iload_n (q := 66) rfl (am_tab tk_X10_turnsOf 35 rfl) rfl ?_
        refine am_if_eq (q := 69) (t := 73) (am_tab tk_X10_turnsOf 36 rfl) (by decide) rfl (fun h66 => ?_) (fun h66 => ?_)
        · refine am_iconst (q := 74) (n := 0) (by decide) (am_tab tk_X10_turnsOf 39 rfl) rfl ?_
          refine am_iret (Or.inl rfl) (Nat.le_of_ble_eq_true rfl) (Nat.le_of_ble_eq_true rfl) (am_tab tk_X10_turnsOf 40 rfl) ?_
          refine hQ _ _ ?_
          refine ⟨congrArg (fun z => some (am_i z)) ?_, hP9⟩
          unfold trnM
          rw [if_pos ⟨h4, h16⟩]
          first | rw [if_pos (by assumption)] | (rw [if_neg (by assumption)]; first | rw [if_pos (by assumption)] | rw [if_neg (by assumption)])
          first | exact b2i_0 h66 | exact b2i_1 h66
        · refine am_iconst (q := 70) (n := 1) (by decide) (am_tab tk_X10_turnsOf 37 rfl) rfl ?_
          refine am_goto (t := 74) (am_tab tk_X10_turnsOf 38 rfl) (by decide) ?_
          refine am_iret (Or.inl rfl) (Nat.le_of_ble_eq_true rfl) (Nat.le_of_ble_eq_true rfl) (am_tab tk_X10_turnsOf 40 rfl) ?_
          refine hQ _ _ ?_
          refine ⟨congrArg (fun z => some (am_i z)) ?_, hP9⟩
          unfold trnM
          rw [if_pos ⟨h4, h16⟩]
          first | rw [if_pos (by assumption)] | (rw [if_neg (by assumption)]; first | rw [if_pos (by assumption)] | rw [if_neg (by assumption)])
          first | exact b2i_0 h66 | exact b2i_1 h66
    · replace h16 := b01z h16
      refine am_iconst (q := 20) (n := (-1)) (by decide) (am_tab tk_X10_turnsOf 9 rfl) rfl ?_
      refine am_iret (Or.inl rfl) (Nat.le_of_ble_eq_true rfl) (Nat.le_of_ble_eq_true rfl) (am_tab tk_X10_turnsOf 10 rfl) ?_
      refine hQ _ _ ?_
      refine ⟨congrArg (fun z => some (am_i z)) ?_, PQ.refl hG⟩
      unfold trnM
      rw [if_neg (by intro hx; first | exact absurd hx.1 (by assumption) | exact absurd hx.2 (by assumption))]
def SNR (σ : am_H) : Prop := (0 ≤ σ.2.1 55 65 ∧ σ.2.1 55 65 ≤ 8) ∧ (∀ k : Nat, k < 8 → 0 ≤ σ.2.1 100 (2 * k) ∧ σ.2.1 100 (2 * k) < 8)
/-- all is as seen -/
def skB (σ : am_H) (set : Int) : Bool := !(anyB (fun k => decide (¬ tb set (σ.2.1 100 (2 * k)) = σ.2.1 100 (2 * k + 1))) (σ.2.1 55 65).toNat)
def mayM (σ : am_H) : Int := ao_and (lvM σ) (ao_xor (bsD σ) (-1))
def thF (σ : am_H) : Nat → Int × Int × Int
  | 0 => (0, mayM σ, 0)
  | m + 1 => if ao_and (m : Int) (ao_xor (mayM σ) (-1)) = 0 ∧ skB σ (rmE (bgS σ) (tsD σ) (m : Int) (bsD σ)) = true then ((thF σ m).1 + 1, ao_and (thF σ m).2.1 (m : Int), ao_or (thF σ m).2.2 (m : Int)) else thF σ m
def thoM (σ : am_H) (w : Int) : Int := if cM σ ∧ (0 ≤ w ∧ w ≤ 2) then (if w = 0 then (thF σ ((mayM σ).toNat + 1)).1 else if w = 1 then (if (thF σ ((mayM σ).toNat + 1)).1 = 0 then 0 else (thF σ ((mayM σ).toNat + 1)).2.1) else (thF σ ((mayM σ).toNat + 1)).2.2) else -1
theorem c_seen3 (σ : am_H) (hS : SNR σ) (S : am_H) (hB : BG σ S) (set : Int) (hset : 0 ≤ set ∧ set < 256) : am_met M_X10_isAsSeen [am_r 55, am_i set] S (fun r τ => r = some (am_i (b2i (skB σ set))) ∧ τ = S) := by
  have e : ∀ k, S.2.1 100 k = σ.2.1 100 k := fun k => hB.1.2.2 100 k (by unfold W_ah; omega)
  have h1 := hS.1
  have h := c_X10_isAsSeen S hB.G.L set (σ.2.1 55 65).toNat ((hB.1.2.2 55 65 (by unfold W_ah; omega)).trans (by omega)) (by omega) hset (fun k hk => by rw [e]; exact hS.2 k (by omega))
  simp only [e] at h
  refine am_mono h (fun r τ hh => ?_)
  obtain ⟨rfl, rfl⟩ := hh
  refine ⟨congrArg (fun z => some (am_i z)) ?_, rfl⟩
  unfold b2i skB
  cases anyB (fun k => decide (¬ tb set (σ.2.1 100 (2 * k)) = σ.2.1 100 (2 * k + 1))) (σ.2.1 55 65).toNat <;> rfl
theorem c_X10_thought (σ : am_H) (hG : GD σ) (w : Int) (hS : SNR σ) : am_met M_X10_thought [am_r 55, am_i w] σ (fun r σ' => r = some (am_i (thoM σ w)) ∧ PQ σ σ') := by
  refine am_qq (fun Q hQ => ?_)
  refine am_enter (show plainFor yX10_thought = true by decide +kernel) rfl (Nat.le_of_ble_eq_true rfl) (fun _ _ _ => trivial) ?_
  have hL := hG.L
  have hD90 : 0 ≤ σ.2.1 96 1 ∧ σ.2.1 96 1 ≤ 90 := ⟨hG.R.day.1, by have := hG.R.day; have := hG.R.Y; omega⟩
  have hlv := lvM_rng hG.R
  refine am_aload_n (q := 1) rfl (am_tab tk_X10_thought 0 rfl) rfl ?_
  refine am_callV0 (q := 4) (me2 := M_X10_canCome) (b := 55) (kb := 10) (nb := 108) (As := []) (rest := []) (out := [am_i (if ¬ σ.2.1 55 52 = 0 ∧ (σ.2.1 96 0 < 999 ∨ σ.2.1 96 1 < σ.2.1 85 9) then 1 else 0)]) (c_X10_canCome σ hG.L) ⟨rfl, rfl⟩ (Ls_55 hL) (by decide) ⟨Or.inl km_X10_531, kc_X10_canCome, kn_X10, kd_X10_canCome, ⟨(Nat.le_of_ble_eq_true rfl), (Nat.le_of_ble_eq_true rfl)⟩, ⟨(Nat.le_of_ble_eq_true rfl), (Nat.le_of_ble_eq_true rfl)⟩, (Nat.le_of_ble_eq_true rfl)⟩ ki_X10_canCome ks_X10_canCome rfl rfl (am_tab tk_X10_thought 1 rfl) rfl ?_
  refine am_if_eq (q := 7) (t := 19) (am_tab tk_X10_thought 2 rfl) (by decide) rfl (fun h4 => ?_) (fun h4 => ?_)
  · replace h4 := b01z h4
    refine am_iconst (q := 20) (n := (-1)) (by decide) (am_tab tk_X10_thought 9 rfl) rfl ?_
    refine am_iret (Or.inl rfl) (Nat.le_of_ble_eq_true rfl) (Nat.le_of_ble_eq_true rfl) (am_tab tk_X10_thought 10 rfl) ?_
    refine hQ _ _ ?_
    refine ⟨congrArg (fun z => some (am_i z)) ?_, PQ.refl hG⟩
    unfold thoM
    rw [if_neg (by intro hx; first | exact absurd hx.1 (by assumption) | exact absurd hx.2 (by assumption))]
  · replace h4 := b01n h4
    refine am_iload_n (q := 8) rfl (am_tab tk_X10_thought 3 rfl) rfl ?_
    refine am_i2l (q := 9) (am_tab tk_X10_thought 4 rfl) rfl ?_
    refine am_lconst0 (q := 10) (am_tab tk_X10_thought 5 rfl) rfl ?_
    refine am_ldc2 (q := 13) (n := 2) (by decide) kk_X10_546 (am_tab tk_X10_thought 6 rfl) rfl ?_
    refine am_callS0 (q := 16) (me2 := M_X10_isIn) (As := [am_l w, am_l 0, am_l 2]) (rest := []) (out := [am_i (if 0 ≤ w ∧ w ≤ 2 then 1 else 0)]) (c_X10_isIn σ hL w 0 2 ) ⟨rfl, rfl⟩ ⟨Or.inl km_X10_291, kc_X10_isIn, kn_X10, kd_X10_isIn, ⟨(Nat.le_of_ble_eq_true rfl), (Nat.le_of_ble_eq_true rfl)⟩, ⟨(Nat.le_of_ble_eq_true rfl), (Nat.le_of_ble_eq_true rfl)⟩, (Nat.le_of_ble_eq_true rfl)⟩ ki_X10_isIn rfl rfl (am_tab tk_X10_thought 7 rfl) rfl ?_
    refine am_if_ne (q := 19) (t := 21) (am_tab tk_X10_thought 8 rfl) (by decide) rfl (fun h16 => ?_) (fun h16 => ?_)
    · replace h16 := b01n h16
      have hcc : cc σ := cM_cc hG.R h4
      have hts := tsD_rng hG.R hcc
      have hbs := bsD_rng hG.R hcc
      have hd1 := bgN_day hG.R hcc
      have hmay : 0 ≤ mayM σ ∧ mayM σ < 256 := (dif_tb hlv hbs).1
      refine am_aload_n (q := 22) rfl (am_tab tk_X10_thought 11 rfl) rfl ?_
      refine am_callVr (q := 25) (me2 := M_X10_putsAside) (b := 55) (kb := 10) (nb := 108) (As := []) (rest := []) (c_aside σ hG) ⟨rfl, rfl⟩ (Ls_55 hL) (by decide) ⟨Or.inl km_X10_514, kc_X10_putsAside, kn_X10, kd_X10_putsAside, ⟨(Nat.le_of_ble_eq_true rfl), (Nat.le_of_ble_eq_true rfl)⟩, ⟨(Nat.le_of_ble_eq_true rfl), (Nat.le_of_ble_eq_true rfl)⟩, (Nat.le_of_ble_eq_true rfl)⟩ ki_X10_putsAside ks_X10_putsAside rfl (am_tab tk_X10_thought 12 rfl) rfl ?_
      rintro r S0 ⟨rfl, hD0⟩
      refine am_st (st2 := []) rfl ?_
      refine am_aload_n (q := 26) rfl (am_tab tk_X10_thought 13 rfl) rfl ?_
      refine am_callVr (q := 29) (me2 := M_X10_begins) (b := 55) (kb := 10) (nb := 108) (As := []) (rest := []) (c_beg σ hG hcc S0 hD0) ⟨rfl, rfl⟩ (Ls_55 hD0.2.2.1.L) (by decide) ⟨Or.inl km_X10_449, kc_X10_begins, kn_X10, kd_X10_begins, ⟨(Nat.le_of_ble_eq_true rfl), (Nat.le_of_ble_eq_true rfl)⟩, ⟨(Nat.le_of_ble_eq_true rfl), (Nat.le_of_ble_eq_true rfl)⟩, (Nat.le_of_ble_eq_true rfl)⟩ ki_X10_begins ks_X10_begins rfl (am_tab tk_X10_thought 14 rfl) rfl ?_
      rintro r S1 ⟨rfl, hB1⟩
      refine am_st (st2 := []) rfl ?_
      refine am_aload_n (q := 30) rfl (am_tab tk_X10_thought 15 rfl) rfl ?_
      refine am_aload_n (q := 31) rfl (am_tab tk_X10_thought 16 rfl) rfl ?_
      refine am_getR (q := 34) (a := 55) (k := 10) (n := 108) (j := 54) (r := some (96)) (Ls_55 hB1.G.L) (by decide) rfl (Lr_55_54 hB1.G.L) (by decide) (Or.inl kf_X10_136) (am_tab tk_X10_thought 17 rfl) rfl ?_
      refine am_bipush (q := 36) (n := 20) (by decide) rfl (am_tab tk_X10_thought 18 rfl) rfl ?_
      refine am_aload_n (q := 37) rfl (am_tab tk_X10_thought 19 rfl) rfl ?_
      refine am_getR (q := 40) (a := 55) (k := 10) (n := 108) (j := 54) (r := some (96)) (Ls_55 hB1.G.L) (by decide) rfl (Lr_55_54 hB1.G.L) (by decide) (Or.inl kf_X10_136) (am_tab tk_X10_thought 20 rfl) rfl ?_
      refine am_iconst (q := 41) (n := 1) (by decide) (am_tab tk_X10_thought 21 rfl) rfl ?_
      refine am_iald (q := 42) (a := 96) (n := 443) (x := (bgN σ 1)) (Ls_96 hB1.G.L) (by omega) (by omega) (cn_at hB1.c 96 1 (by decide) (by decide)) (am_tab tk_X10_thought 22 rfl) rfl ?_
      refine am_iadd (q := 43) (by omega) (am_tab tk_X10_thought 23 rfl) rfl ?_
      refine am_iald (q := 44) (a := 96) (n := 443) (x := (tsD σ)) (Ls_96 hB1.G.L) (by omega) (by omega) (cn_at hB1.c 96 _ (by decide) (by decide)) (am_tab tk_X10_thought 24 rfl) rfl ?_
      refine am_callVr (q := 47) (me2 := M_X10_asksDay) (b := 55) (kb := 10) (nb := 108) (As := [am_i ((tsD σ))]) (rest := []) (c_ask3 σ S1 hB1 (tsD σ)) ⟨rfl, rfl⟩ (Ls_55 hB1.G.L) (by decide) ⟨Or.inl km_X10_429, kc_X10_asksDay, kn_X10, kd_X10_asksDay, ⟨(Nat.le_of_ble_eq_true rfl), (Nat.le_of_ble_eq_true rfl)⟩, ⟨(Nat.le_of_ble_eq_true rfl), (Nat.le_of_ble_eq_true rfl)⟩, (Nat.le_of_ble_eq_true rfl)⟩ ki_X10_asksDay ks_X10_asksDay rfl (am_tab tk_X10_thought 25 rfl) rfl ?_
      rintro r S2 ⟨rfl, hB2, hA2⟩
      refine am_st (st2 := []) rfl ?_
      refine am_aload_n (q := 48) rfl (am_tab tk_X10_thought 26 rfl) rfl ?_
      refine am_getR (q := 51) (a := 55) (k := 10) (n := 108) (j := 54) (r := some (96)) (Ls_55 hB2.G.L) (by decide) rfl (Lr_55_54 hB2.G.L) (by decide) (Or.inl kf_X10_136) (am_tab tk_X10_thought 27 rfl) rfl ?_
      refine am_bipush (q := 53) (n := 111) (by decide) rfl (am_tab tk_X10_thought 28 rfl) rfl ?_
      refine am_aload_n (q := 54) rfl (am_tab tk_X10_thought 29 rfl) rfl ?_
      refine am_getR (q := 57) (a := 55) (k := 10) (n := 108) (j := 54) (r := some (96)) (Ls_55 hB2.G.L) (by decide) rfl (Lr_55_54 hB2.G.L) (by decide) (Or.inl kf_X10_136) (am_tab tk_X10_thought 30 rfl) rfl ?_
      refine am_iconst (q := 58) (n := 1) (by decide) (am_tab tk_X10_thought 31 rfl) rfl ?_
      refine am_iald (q := 59) (a := 96) (n := 443) (x := (bgN σ 1)) (Ls_96 hB2.G.L) (by omega) (by omega) (cn_at hB2.c 96 1 (by decide) (by decide)) (am_tab tk_X10_thought 32 rfl) rfl ?_
      refine am_iadd (q := 60) (by omega) (am_tab tk_X10_thought 33 rfl) rfl ?_
      refine am_iald (q := 61) (a := 96) (n := 443) (x := (bsD σ)) (Ls_96 hB2.G.L) (by omega) (by omega) (cn_at hB2.c 96 _ (by decide) (by decide)) (am_tab tk_X10_thought 34 rfl) rfl ?_
      refine am_istore_n (q := 62) (by decide) (ls2 := [(2, am_i ((bsD σ))), (0, am_r 55), (1, am_i w)]) rfl (am_tab tk_X10_thought 35 rfl) rfl ?_
      refine am_aload_n (q := 63) rfl (am_tab tk_X10_thought 36 rfl) rfl ?_
      refine am_callV0 (q := 66) (me2 := M_X10_living) (b := 55) (kb := 10) (nb := 108) (As := []) (rest := []) (out := [am_i (lvM σ)]) (c_liv3 σ hG S2 hB2) ⟨rfl, rfl⟩ (Ls_55 hB2.G.L) (by decide) ⟨Or.inl km_X10_484, kc_X10_living, kn_X10, kd_X10_living, ⟨(Nat.le_of_ble_eq_true rfl), (Nat.le_of_ble_eq_true rfl)⟩, ⟨(Nat.le_of_ble_eq_true rfl), (Nat.le_of_ble_eq_true rfl)⟩, (Nat.le_of_ble_eq_true rfl)⟩ ki_X10_living ks_X10_living rfl rfl (am_tab tk_X10_thought 37 rfl) rfl ?_
      refine am_iload_n (q := 67) rfl (am_tab tk_X10_thought 38 rfl) rfl ?_
      refine am_iconst (q := 68) (n := (-1)) (by decide) (am_tab tk_X10_thought 39 rfl) rfl ?_
      refine am_ixor (q := 69) (am_tab tk_X10_thought 40 rfl) rfl ?_
      refine am_iand (q := 70) (am_tab tk_X10_thought 41 rfl) rfl ?_
      refine am_istore_n (q := 71) (by decide) (ls2 := [(3, am_i ((ao_and (lvM σ) (ao_xor (bsD σ) (-1))))), (2, am_i ((bsD σ))), (0, am_r 55), (1, am_i w)]) rfl (am_tab tk_X10_thought 42 rfl) rfl ?_
      refine am_iconst (q := 72) (n := 0) (by decide) (am_tab tk_X10_thought 43 rfl) rfl ?_
      refine am_istore (q := 74) (by decide) (ls2 := [(4, am_i 0), (3, am_i ((ao_and (lvM σ) (ao_xor (bsD σ) (-1))))), (2, am_i ((bsD σ))), (0, am_r 55), (1, am_i w)]) rfl (am_tab tk_X10_thought 44 rfl) rfl ?_
      refine am_iload_n (q := 75) rfl (am_tab tk_X10_thought 45 rfl) rfl ?_
      refine am_istore (q := 77) (by decide) (ls2 := [(5, am_i ((ao_and (lvM σ) (ao_xor (bsD σ) (-1))))), (4, am_i 0), (3, am_i ((ao_and (lvM σ) (ao_xor (bsD σ) (-1))))), (2, am_i ((bsD σ))), (0, am_r 55), (1, am_i w)]) rfl (am_tab tk_X10_thought 46 rfl) rfl ?_
      refine am_iconst (q := 78) (n := 0) (by decide) (am_tab tk_X10_thought 47 rfl) rfl ?_
      refine am_istore (q := 80) (by decide) (ls2 := [(6, am_i 0), (5, am_i ((ao_and (lvM σ) (ao_xor (bsD σ) (-1))))), (4, am_i 0), (3, am_i ((ao_and (lvM σ) (ao_xor (bsD σ) (-1))))), (2, am_i ((bsD σ))), (0, am_r 55), (1, am_i w)]) rfl (am_tab tk_X10_thought 48 rfl) rfl ?_
      refine am_iconst (q := 81) (n := 0) (by decide) (am_tab tk_X10_thought 49 rfl) rfl ?_
      refine am_istore (q := 83) (by decide) (ls2 := [(7, am_i 0), (6, am_i 0), (5, am_i ((ao_and (lvM σ) (ao_xor (bsD σ) (-1))))), (4, am_i 0), (3, am_i ((ao_and (lvM σ) (ao_xor (bsD σ) (-1))))), (2, am_i ((bsD σ))), (0, am_r 55), (1, am_i w)]) rfl (am_tab tk_X10_thought 50 rfl) rfl ?_
      have L83 : ∀ (n83 : Nat) (m : Nat) (S : am_H) (n : Int) (a : Int) (s : Int), 300 - m < n83 → (m : Int) ≤ mayM σ + 1 → BG σ S → AK σ (tsD σ) S → thF σ m = (n, a, s) → 0 ≤ n ∧ n ≤ m → am_wp M_X10_thought Q 0 0 83 [(7, am_i ((m : Int))), (4, am_i n), (5, am_i a), (6, am_i s), (3, am_i (mayM σ)), (2, am_i (bsD σ)), (0, am_r 55), (1, am_i w)] [] S := by
        intro n83
        induction n83 with
        | zero => intro m S n a s hn83; exact absurd hn83 (Nat.not_lt_zero _)
        | succ n83 ih83 =>
          intro m S n a s hn83 hm hB hA hth hn
          refine am_iload (q := 85) rfl (am_tab tk_X10_thought 51 rfl) rfl ?_
          refine am_iload_n (q := 86) rfl (am_tab tk_X10_thought 52 rfl) rfl ?_
          refine am_icmp_gt (q := 89) (t := 138) (am_tab tk_X10_thought 53 rfl) (by decide) rfl (fun h86 => ?_) (fun h86 => ?_)
          · refine am_aload_n (q := 139) rfl (am_tab tk_X10_thought 79 rfl) rfl ?_
            refine am_callVr (q := 142) (me2 := M_X10_takesBack) (b := 55) (kb := 10) (nb := 108) (As := []) (rest := []) (c_back3 σ hG S hB) ⟨rfl, rfl⟩ (Ls_55 hB.G.L) (by decide) ⟨Or.inl km_X10_520, kc_X10_takesBack, kn_X10, kd_X10_takesBack, ⟨(Nat.le_of_ble_eq_true rfl), (Nat.le_of_ble_eq_true rfl)⟩, ⟨(Nat.le_of_ble_eq_true rfl), (Nat.le_of_ble_eq_true rfl)⟩, (Nat.le_of_ble_eq_true rfl)⟩ ki_X10_takesBack ks_X10_takesBack rfl (am_tab tk_X10_thought 80 rfl) rfl ?_
            rintro r S9 ⟨rfl, hP9⟩
            refine am_st (st2 := []) rfl ?_
            refine am_iload_n (q := 143) rfl (am_tab tk_X10_thought 81 rfl) rfl ?_
            refine am_if_ne (q := 146) (t := 151) (am_tab tk_X10_thought 82 rfl) (by decide) rfl (fun h143 => ?_) (fun h143 => ?_)
            · refine am_iload_n (q := 152) rfl (am_tab tk_X10_thought 85 rfl) rfl ?_
              refine am_iconst (q := 153) (n := 1) (by decide) (am_tab tk_X10_thought 86 rfl) rfl ?_
              refine am_icmp_ne (q := 156) (t := 170) (am_tab tk_X10_thought 87 rfl) (by decide) rfl (fun h153 => ?_) (fun h153 => ?_)
              · refine am_iload (q := 172) rfl (am_tab tk_X10_thought 94 rfl) rfl ?_
                refine am_iret (Or.inl rfl) (Nat.le_of_ble_eq_true rfl) (Nat.le_of_ble_eq_true rfl) (am_tab tk_X10_thought 95 rfl) ?_
                refine hQ _ _ ?_
                refine ⟨congrArg (fun z => some (am_i z)) ?_, hP9⟩
                unfold thoM
                rw [if_pos ⟨h4, h16⟩, show (mayM σ).toNat + 1 = m by omega, hth]
                repeat (first | rw [if_pos (by assumption)] | rw [if_neg (by assumption)])
              · refine am_iload (q := 158) rfl (am_tab tk_X10_thought 88 rfl) rfl ?_
                refine am_if_ne (q := 161) (t := 165) (am_tab tk_X10_thought 89 rfl) (by decide) rfl (fun h158 => ?_) (fun h158 => ?_)
                · refine am_iload (q := 167) rfl (am_tab tk_X10_thought 92 rfl) rfl ?_
                  refine am_goto (t := 172) (am_tab tk_X10_thought 93 rfl) (by decide) ?_
                  refine am_iret (Or.inl rfl) (Nat.le_of_ble_eq_true rfl) (Nat.le_of_ble_eq_true rfl) (am_tab tk_X10_thought 95 rfl) ?_
                  refine hQ _ _ ?_
                  refine ⟨congrArg (fun z => some (am_i z)) ?_, hP9⟩
                  unfold thoM
                  rw [if_pos ⟨h4, h16⟩, show (mayM σ).toNat + 1 = m by omega, hth]
                  repeat (first | rw [if_pos (by assumption)] | rw [if_neg (by assumption)])
                · refine am_iconst (q := 162) (n := 0) (by decide) (am_tab tk_X10_thought 90 rfl) rfl ?_
                  refine am_goto (t := 172) (am_tab tk_X10_thought 91 rfl) (by decide) ?_
                  refine am_iret (Or.inl rfl) (Nat.le_of_ble_eq_true rfl) (Nat.le_of_ble_eq_true rfl) (am_tab tk_X10_thought 95 rfl) ?_
                  refine hQ _ _ ?_
                  refine ⟨congrArg (fun z => some (am_i z)) ?_, hP9⟩
                  unfold thoM
                  rw [if_pos ⟨h4, h16⟩, show (mayM σ).toNat + 1 = m by omega, hth]
                  repeat (first | rw [if_pos (by assumption)] | rw [if_neg (by assumption)])
            · refine am_iload (q := 148) rfl (am_tab tk_X10_thought 83 rfl) rfl ?_
              refine am_goto (t := 172) (am_tab tk_X10_thought 84 rfl) (by decide) ?_
              refine am_iret (Or.inl rfl) (Nat.le_of_ble_eq_true rfl) (Nat.le_of_ble_eq_true rfl) (am_tab tk_X10_thought 95 rfl) ?_
              refine hQ _ _ ?_
              refine ⟨congrArg (fun z => some (am_i z)) ?_, hP9⟩
              unfold thoM
              rw [if_pos ⟨h4, h16⟩, show (mayM σ).toNat + 1 = m by omega, hth]
              repeat (first | rw [if_pos (by assumption)] | rw [if_neg (by assumption)])
          · refine am_iload (q := 91) rfl (am_tab tk_X10_thought 54 rfl) rfl ?_
            refine am_iload_n (q := 92) rfl (am_tab tk_X10_thought 55 rfl) rfl ?_
            refine am_iconst (q := 93) (n := (-1)) (by decide) (am_tab tk_X10_thought 56 rfl) rfl ?_
            refine am_ixor (q := 94) (am_tab tk_X10_thought 57 rfl) rfl ?_
            refine am_iand (q := 95) (am_tab tk_X10_thought 58 rfl) rfl ?_
            refine am_if_ne (q := 98) (t := 132) (am_tab tk_X10_thought 59 rfl) (by decide) rfl (fun h95 => ?_) (fun h95 => ?_)
            · refine am_iinc (q := 135) rfl (by omega) (by decide) (ls2 := [(7, am_i (((m : Int) + 1))), (4, am_i n), (5, am_i a), (6, am_i s), (3, am_i (mayM σ)), (2, am_i (bsD σ)), (0, am_r 55), (1, am_i w)]) rfl (am_tab tk_X10_thought 77 rfl) rfl ?_
              refine am_goto (t := 83) (am_tab tk_X10_thought 78 rfl) (by decide) ?_
              have ht1 : thF σ (m + 1) = (n, a, s) := by
                show (if _ then _ else _) = _
                rw [if_neg (by intro hx; first | exact h95 hx.1 | (rw [hx.2] at h109; simp [b2i] at h109)), hth]
              exact am_less (by intro q hq; simp only [List.mem_cons, List.not_mem_nil, or_false] at hq; rcases hq with rfl | rfl | rfl | rfl | rfl | rfl | rfl | rfl <;> simp) (ih83 (m + 1) S n a s (by omega) (by omega) hB hA ht1 (by omega))
            · refine am_aload_n (q := 99) rfl (am_tab tk_X10_thought 60 rfl) rfl ?_
              refine am_aload_n (q := 100) rfl (am_tab tk_X10_thought 61 rfl) rfl ?_
              refine am_iload (q := 102) rfl (am_tab tk_X10_thought 62 rfl) rfl ?_
              refine am_iload_n (q := 103) rfl (am_tab tk_X10_thought 63 rfl) rfl ?_
              refine am_callVr (q := 106) (me2 := M_X10_reminded) (b := 55) (kb := 10) (nb := 108) (As := [am_i ((m : Int)), am_i (bsD σ)]) (rest := [am_r 55]) (c_rem3 σ S hB (m : Int) (bsD σ) (tsD σ) hA (by omega) hbs hts) ⟨rfl, rfl⟩ (Ls_55 hB.G.L) (by decide) ⟨Or.inl km_X10_458, kc_X10_reminded, kn_X10, kd_X10_reminded, ⟨(Nat.le_of_ble_eq_true rfl), (Nat.le_of_ble_eq_true rfl)⟩, ⟨(Nat.le_of_ble_eq_true rfl), (Nat.le_of_ble_eq_true rfl)⟩, (Nat.le_of_ble_eq_true rfl)⟩ ki_X10_reminded ks_X10_reminded rfl (am_tab tk_X10_thought 64 rfl) rfl ?_
              rintro r S3 ⟨rfl, hB3, hA3⟩
              refine am_st (st2 := [am_i (rmE (bgS σ) (tsD σ) (m : Int) (bsD σ)), am_r 55]) rfl ?_
              refine am_callV0 (q := 109) (me2 := M_X10_isAsSeen) (b := 55) (kb := 10) (nb := 108) (As := [am_i (rmE (bgS σ) (tsD σ) (m : Int) (bsD σ))]) (rest := []) (out := [am_i (b2i (skB σ (rmE (bgS σ) (tsD σ) (m : Int) (bsD σ))))]) (c_seen3 σ hS S3 hB3 (rmE (bgS σ) (tsD σ) (m : Int) (bsD σ)) (by rw [← rmE_eq hB3.c]; exact rmE_rng hB3.G.R _ _ (by omega))) ⟨rfl, rfl⟩ (Ls_55 hB3.G.L) (by decide) ⟨Or.inl km_X10_551, kc_X10_isAsSeen, kn_X10, kd_X10_isAsSeen, ⟨(Nat.le_of_ble_eq_true rfl), (Nat.le_of_ble_eq_true rfl)⟩, ⟨(Nat.le_of_ble_eq_true rfl), (Nat.le_of_ble_eq_true rfl)⟩, (Nat.le_of_ble_eq_true rfl)⟩ ki_X10_isAsSeen ks_X10_isAsSeen rfl rfl (am_tab tk_X10_thought 65 rfl) rfl ?_
              refine am_if_ne (q := 112) (t := 115) (am_tab tk_X10_thought 66 rfl) (by decide) rfl (fun h109 => ?_) (fun h109 => ?_)
              · refine am_iinc (q := 118) rfl (by omega) (by decide) (ls2 := [(4, am_i ((n + 1))), (7, am_i ((m : Int))), (5, am_i a), (6, am_i s), (3, am_i (mayM σ)), (2, am_i (bsD σ)), (0, am_r 55), (1, am_i w)]) rfl (am_tab tk_X10_thought 68 rfl) rfl ?_
                refine am_iload (q := 120) rfl (am_tab tk_X10_thought 69 rfl) rfl ?_
                refine am_iload (q := 122) rfl (am_tab tk_X10_thought 70 rfl) rfl ?_
                refine am_iand (q := 123) (am_tab tk_X10_thought 71 rfl) rfl ?_
                refine am_istore (q := 125) (by decide) (ls2 := [(5, am_i ((ao_and a (m : Int)))), (4, am_i ((n + 1))), (7, am_i ((m : Int))), (6, am_i s), (3, am_i (mayM σ)), (2, am_i (bsD σ)), (0, am_r 55), (1, am_i w)]) rfl (am_tab tk_X10_thought 72 rfl) rfl ?_
                refine am_iload (q := 127) rfl (am_tab tk_X10_thought 73 rfl) rfl ?_
                refine am_iload (q := 129) rfl (am_tab tk_X10_thought 74 rfl) rfl ?_
                refine am_ior (q := 130) (am_tab tk_X10_thought 75 rfl) rfl ?_
                refine am_istore (q := 132) (by decide) (ls2 := [(6, am_i ((ao_or s (m : Int)))), (5, am_i ((ao_and a (m : Int)))), (4, am_i ((n + 1))), (7, am_i ((m : Int))), (3, am_i (mayM σ)), (2, am_i (bsD σ)), (0, am_r 55), (1, am_i w)]) rfl (am_tab tk_X10_thought 76 rfl) rfl ?_
                refine am_iinc (q := 135) rfl (by omega) (by decide) (ls2 := [(7, am_i (((m : Int) + 1))), (6, am_i ((ao_or s (m : Int)))), (5, am_i ((ao_and a (m : Int)))), (4, am_i ((n + 1))), (3, am_i (mayM σ)), (2, am_i (bsD σ)), (0, am_r 55), (1, am_i w)]) rfl (am_tab tk_X10_thought 77 rfl) rfl ?_
                refine am_goto (t := 83) (am_tab tk_X10_thought 78 rfl) (by decide) ?_
                have ht1 : thF σ (m + 1) = ((n + 1), (ao_and a (m : Int)), (ao_or s (m : Int))) := by
                  show (if _ then _ else _) = _
                  rw [if_pos ⟨h95, by rcases hk : skB σ (rmE (bgS σ) (tsD σ) (m : Int) (bsD σ)) with _ | _ <;> simp [b2i, hk] at h109 ⊢⟩, hth]
                exact am_less (by intro q hq; simp only [List.mem_cons, List.not_mem_nil, or_false] at hq; rcases hq with rfl | rfl | rfl | rfl | rfl | rfl | rfl | rfl <;> simp) (ih83 (m + 1) S3 (n + 1) (ao_and a (m : Int)) (ao_or s (m : Int)) (by omega) (by omega) hB3 hA3 ht1 (by omega))
              · refine am_goto (t := 132) (am_tab tk_X10_thought 67 rfl) (by decide) ?_
                refine am_iinc (q := 135) rfl (by omega) (by decide) (ls2 := [(7, am_i (((m : Int) + 1))), (4, am_i n), (5, am_i a), (6, am_i s), (3, am_i (mayM σ)), (2, am_i (bsD σ)), (0, am_r 55), (1, am_i w)]) rfl (am_tab tk_X10_thought 77 rfl) rfl ?_
                refine am_goto (t := 83) (am_tab tk_X10_thought 78 rfl) (by decide) ?_
                have ht1 : thF σ (m + 1) = (n, a, s) := by
                  show (if _ then _ else _) = _
                  rw [if_neg (by intro hx; first | exact h95 hx.1 | (rw [hx.2] at h109; simp [b2i] at h109)), hth]
                exact am_less (by intro q hq; simp only [List.mem_cons, List.not_mem_nil, or_false] at hq; rcases hq with rfl | rfl | rfl | rfl | rfl | rfl | rfl | rfl <;> simp) (ih83 (m + 1) S3 n a s (by omega) (by omega) hB3 hA3 ht1 (by omega))
      refine am_less (by intro q hq; simp only [List.mem_cons, List.not_mem_nil, or_false] at hq; rcases hq with rfl | rfl | rfl | rfl | rfl | rfl | rfl | rfl <;> simp [mayM]) (L83 (_ + 1) 0 S2 0 (mayM σ) 0 (by exact Nat.lt_succ_self _) (by omega) hB2 hA2 rfl (by omega))
    · replace h16 := b01z h16
      refine am_iconst (q := 20) (n := (-1)) (by decide) (am_tab tk_X10_thought 9 rfl) rfl ?_
      refine am_iret (Or.inl rfl) (Nat.le_of_ble_eq_true rfl) (Nat.le_of_ble_eq_true rfl) (am_tab tk_X10_thought 10 rfl) ?_
      refine hQ _ _ ?_
      refine ⟨congrArg (fun z => some (am_i z)) ?_, PQ.refl hG⟩
      unfold thoM
      rw [if_neg (by intro hx; first | exact absurd hx.1 (by assumption) | exact absurd hx.2 (by assumption))]
theorem or_ge {s t : Int} (hs : 0 ≤ s ∧ s < 256) (ht : 0 ≤ t ∧ t < 256) : s ≤ ao_or s t := by
  obtain ⟨a, rfl⟩ := toN hs.1
  obtain ⟨b, rfl⟩ := toN ht.1
  rw [or_nat a b (by omega) (by omega)]
  have h2 : a ≤ a ||| b := Nat.left_le_or
  omega
/-- who knows an hour on -/
def hkF (σ : am_H) (kn : Int) : Nat → Int
  | 0 => kn
  | i + 1 => if tb kn i = 1 then ao_or (hkF σ kn i) (ao_and (σ.2.1 89 (8 + i)) (lvM σ)) else hkF σ kn i
theorem hkF_rng {σ : am_H} (hR : MR σ) {kn : Int} (hk : 0 ≤ kn ∧ kn < 256) : ∀ i : Nat, i ≤ 8 → kn ≤ hkF σ kn i ∧ hkF σ kn i < 256
  | 0, _ => ⟨Int.le_refl _, hk.2⟩
  | i + 1, h => by
    have ih := hkF_rng hR hk i (by omega)
    have ha := (and_tb (hR.rem i (by omega)) (lvM_rng hR)).1
    unfold hkF
    split
    · have h1 := (or_tb (s := hkF σ kn i) (by omega) ha).1
      have h2 := or_ge (s := hkF σ kn i) (by omega) ha
      omega
    · exact ih
def hrF (σ : am_H) : Nat → Int → Int → Int
  | 0, _, _ => -1
  | f + 1, kn, h => if kn = lvM σ then h else if hkF σ kn (pN σ) = kn then -1 else hrF σ f (hkF σ kn (pN σ)) (h + 1)
def hoM (σ : am_H) (p : Nat) : Int := hrF σ 257 (ao_shl 1 (p : Int)) 0
theorem c_X10_hoursFrom (σ : am_H) (hG : GD σ) (p : Nat) (hp : p < 8) : am_met M_X10_hoursFrom [am_r 55, am_i ((p : Int))] σ (fun r σ' => r = some (am_i (hoM σ p)) ∧ σ' = σ) := by
  refine am_qq (fun Q hQ => ?_)
  refine am_enter (show plainFor yX10_hoursFrom = true by decide +kernel) rfl (Nat.le_of_ble_eq_true rfl) (fun _ _ _ => trivial) ?_
  have hL := hG.L
  have hlv := lvM_rng hG.R
  have hN := pN_eq hG.R
  have h8 := pN_8 hG.R
  have hsp := shl_rng p hp
  refine am_aload_n (q := 1) rfl (am_tab tk_X10_hoursFrom 0 rfl) rfl ?_
  refine am_callV0 (q := 4) (me2 := M_X10_living) (b := 55) (kb := 10) (nb := 108) (As := []) (rest := []) (out := [am_i (lvM σ)]) (c_X10_living σ hG.L (pN σ) (pN_eq hG.R) (pN_8 hG.R)) ⟨rfl, rfl⟩ (Ls_55 hL) (by decide) ⟨Or.inl km_X10_484, kc_X10_living, kn_X10, kd_X10_living, ⟨(Nat.le_of_ble_eq_true rfl), (Nat.le_of_ble_eq_true rfl)⟩, ⟨(Nat.le_of_ble_eq_true rfl), (Nat.le_of_ble_eq_true rfl)⟩, (Nat.le_of_ble_eq_true rfl)⟩ ki_X10_living ks_X10_living rfl rfl (am_tab tk_X10_hoursFrom 1 rfl) rfl ?_
  refine am_istore_n (q := 5) (by decide) (ls2 := [(2, am_i (lvM σ)), (0, am_r 55), (1, am_i ((p : Int)))]) rfl (am_tab tk_X10_hoursFrom 2 rfl) rfl ?_
  refine am_iconst (q := 6) (n := 1) (by decide) (am_tab tk_X10_hoursFrom 3 rfl) rfl ?_
  refine am_iload_n (q := 7) rfl (am_tab tk_X10_hoursFrom 4 rfl) rfl ?_
  refine am_ishl (q := 8) (am_tab tk_X10_hoursFrom 5 rfl) rfl ?_
  refine am_istore_n (q := 9) (by decide) (ls2 := [(3, am_i ((ao_shl 1 (p : Int)))), (2, am_i (lvM σ)), (0, am_r 55), (1, am_i ((p : Int)))]) rfl (am_tab tk_X10_hoursFrom 6 rfl) rfl ?_
  refine am_iconst (q := 10) (n := 0) (by decide) (am_tab tk_X10_hoursFrom 7 rfl) rfl ?_
  refine am_istore (q := 12) (by decide) (ls2 := [(4, am_i 0), (3, am_i ((ao_shl 1 (p : Int)))), (2, am_i (lvM σ)), (0, am_r 55), (1, am_i ((p : Int)))]) rfl (am_tab tk_X10_hoursFrom 8 rfl) rfl ?_
  have L12 : ∀ (n12 : Nat) (f : Nat) (kn : Int) (h : Int), (256 - kn).toNat < n12 → (0 ≤ kn ∧ kn < 256) → 256 - kn < (f : Int) → (0 ≤ h ∧ h ≤ kn) → hoM σ p = hrF σ f kn h → am_wp M_X10_hoursFrom Q 0 0 12 [(3, am_i kn), (4, am_i h), (2, am_i (lvM σ)), (0, am_r 55), (1, am_i ((p : Int)))] [] σ := by
    intro n12
    induction n12 with
    | zero => intro f kn h hn12; exact absurd hn12 (Nat.not_lt_zero _)
    | succ n12 ih12 =>
      intro f kn h hn12 hk hf hh hv
      obtain ⟨f, rfl⟩ : ∃ g, f = g + 1 := ⟨f - 1, by omega⟩
      rw [show hrF σ (f + 1) kn h = (if kn = lvM σ then h else if hkF σ kn (pN σ) = kn then -1 else hrF σ f (hkF σ kn (pN σ)) (h + 1)) from rfl] at hv
      have hnx := hkF_rng hG.R hk (pN σ) h8
      refine am_iload_n (q := 13) rfl (am_tab tk_X10_hoursFrom 9 rfl) rfl ?_
      refine am_iload_n (q := 14) rfl (am_tab tk_X10_hoursFrom 10 rfl) rfl ?_
      refine am_icmp_eq (q := 17) (t := 82) (am_tab tk_X10_hoursFrom 11 rfl) (by decide) rfl (fun h14 => ?_) (fun h14 => ?_)
      · refine am_iload (q := 84) rfl (am_tab tk_X10_hoursFrom 49 rfl) rfl ?_
        refine am_iret (Or.inl rfl) (Nat.le_of_ble_eq_true rfl) (Nat.le_of_ble_eq_true rfl) (am_tab tk_X10_hoursFrom 50 rfl) ?_
        refine hQ _ _ ?_
        refine ⟨congrArg (fun z => some (am_i z)) ?_, rfl⟩
        rw [hv, if_pos h14]
      · refine am_iload_n (q := 18) rfl (am_tab tk_X10_hoursFrom 12 rfl) rfl ?_
        refine am_istore (q := 20) (by decide) (ls2 := [(5, am_i kn), (3, am_i kn), (4, am_i h), (2, am_i (lvM σ)), (0, am_r 55), (1, am_i ((p : Int)))]) rfl (am_tab tk_X10_hoursFrom 13 rfl) rfl ?_
        refine am_iconst (q := 21) (n := 0) (by decide) (am_tab tk_X10_hoursFrom 14 rfl) rfl ?_
        refine am_istore (q := 23) (by decide) (ls2 := [(6, am_i 0), (5, am_i kn), (3, am_i kn), (4, am_i h), (2, am_i (lvM σ)), (0, am_r 55), (1, am_i ((p : Int)))]) rfl (am_tab tk_X10_hoursFrom 15 rfl) rfl ?_
        have L23 : ∀ (n23 : Nat) (j : Nat), pN σ - j < n23 → j ≤ pN σ → am_wp M_X10_hoursFrom Q 0 0 23 [(6, am_i ((j : Int))), (5, am_i (hkF σ kn j)), (3, am_i kn), (4, am_i h), (2, am_i (lvM σ)), (0, am_r 55), (1, am_i ((p : Int)))] [] σ := by
          intro n23
          induction n23 with
          | zero => intro j hn23; exact absurd hn23 (Nat.not_lt_zero _)
          | succ n23 ih23 =>
            intro j hn23 hj
            refine am_iload (q := 25) rfl (am_tab tk_X10_hoursFrom 16 rfl) rfl ?_
            refine am_aload_n (q := 26) rfl (am_tab tk_X10_hoursFrom 17 rfl) rfl ?_
            refine am_callV0 (q := 29) (me2 := M_X10_peopleMany) (b := 55) (kb := 10) (nb := 108) (As := []) (rest := [am_i ((j : Int))]) (out := [am_i (σ.2.1 85 5), am_i ((j : Int))]) (c_X10_peopleMany σ hL  ) ⟨rfl, rfl⟩ (Ls_55 hL) (by decide) ⟨Or.inl km_X10_394, kc_X10_peopleMany, kn_X10, kd_X10_peopleMany, ⟨(Nat.le_of_ble_eq_true rfl), (Nat.le_of_ble_eq_true rfl)⟩, ⟨(Nat.le_of_ble_eq_true rfl), (Nat.le_of_ble_eq_true rfl)⟩, (Nat.le_of_ble_eq_true rfl)⟩ ki_X10_peopleMany ks_X10_peopleMany rfl rfl (am_tab tk_X10_hoursFrom 18 rfl) rfl ?_
            refine am_icmp_ge (q := 32) (t := 65) (am_tab tk_X10_hoursFrom 19 rfl) (by decide) rfl (fun h29 => ?_) (fun h29 => ?_)
            · refine am_iload (q := 67) rfl (am_tab tk_X10_hoursFrom 40 rfl) rfl ?_
              refine am_iload_n (q := 68) rfl (am_tab tk_X10_hoursFrom 41 rfl) rfl ?_
              refine am_icmp_ne (q := 71) (t := 73) (am_tab tk_X10_hoursFrom 42 rfl) (by decide) rfl (fun h68 => ?_) (fun h68 => ?_)
              · refine am_iload (q := 75) rfl (am_tab tk_X10_hoursFrom 45 rfl) rfl ?_
                refine am_istore_n (q := 76) (by decide) (ls2 := [(3, am_i (hkF σ kn j)), (6, am_i ((j : Int))), (5, am_i (hkF σ kn j)), (4, am_i h), (2, am_i (lvM σ)), (0, am_r 55), (1, am_i ((p : Int)))]) rfl (am_tab tk_X10_hoursFrom 46 rfl) rfl ?_
                refine am_iinc (q := 79) rfl (by omega) (by decide) (ls2 := [(4, am_i ((h + 1))), (3, am_i (hkF σ kn j)), (6, am_i ((j : Int))), (5, am_i (hkF σ kn j)), (2, am_i (lvM σ)), (0, am_r 55), (1, am_i ((p : Int)))]) rfl (am_tab tk_X10_hoursFrom 47 rfl) rfl ?_
                refine am_goto (t := 12) (am_tab tk_X10_hoursFrom 48 rfl) (by decide) ?_
                have ej : j = pN σ := by omega
                rw [ej] at h68 ⊢
                exact am_less (by intro q hq; simp only [List.mem_cons, List.not_mem_nil, or_false] at hq; rcases hq with rfl | rfl | rfl | rfl | rfl <;> simp) (ih12 f (hkF σ kn (pN σ)) (h + 1) (by omega) (by omega) (by omega) (by omega) (by rw [hv, if_neg h14, if_neg h68]))
              · refine am_iconst (q := 72) (n := (-1)) (by decide) (am_tab tk_X10_hoursFrom 43 rfl) rfl ?_
                refine am_iret (Or.inl rfl) (Nat.le_of_ble_eq_true rfl) (Nat.le_of_ble_eq_true rfl) (am_tab tk_X10_hoursFrom 44 rfl) ?_
                refine hQ _ _ ?_
                refine ⟨congrArg (fun z => some (am_i z)) ?_, rfl⟩
                rw [hv, if_neg h14, if_pos (by rw [← show j = pN σ by omega]; exact h68)]
            · refine am_iload_n (q := 33) rfl (am_tab tk_X10_hoursFrom 20 rfl) rfl ?_
              refine am_iload (q := 35) rfl (am_tab tk_X10_hoursFrom 21 rfl) rfl ?_
              refine am_ishr (q := 36) (am_tab tk_X10_hoursFrom 22 rfl) rfl ?_
              refine am_iconst (q := 37) (n := 1) (by decide) (am_tab tk_X10_hoursFrom 23 rfl) rfl ?_
              refine am_iand (q := 38) (am_tab tk_X10_hoursFrom 24 rfl) rfl ?_
              refine am_iconst (q := 39) (n := 1) (by decide) (am_tab tk_X10_hoursFrom 25 rfl) rfl ?_
              refine am_icmp_ne (q := 42) (t := 59) (am_tab tk_X10_hoursFrom 26 rfl) (by decide) rfl (fun h39 => ?_) (fun h39 => ?_)
              · refine am_iinc (q := 62) rfl (by omega) (by decide) (ls2 := [(6, am_i (((j : Int) + 1))), (5, am_i (hkF σ kn j)), (3, am_i kn), (4, am_i h), (2, am_i (lvM σ)), (0, am_r 55), (1, am_i ((p : Int)))]) rfl (am_tab tk_X10_hoursFrom 38 rfl) rfl ?_
                refine am_goto (t := 23) (am_tab tk_X10_hoursFrom 39 rfl) (by decide) ?_
                rw [tb_eq hk ⟨by omega, by omega⟩] at h39
                have he : hkF σ kn (j + 1) = hkF σ kn j := by
                  show (if _ then _ else _) = _
                  first | rw [if_pos h39] | rw [if_neg h39]
                exact am_less (by intro q hq; simp only [List.mem_cons, List.not_mem_nil, or_false] at hq; rcases hq with rfl | rfl | rfl | rfl | rfl | rfl | rfl <;> simp [he]) (ih23 (j + 1) (by omega) (by omega))
              · refine am_iload (q := 44) rfl (am_tab tk_X10_hoursFrom 27 rfl) rfl ?_
                refine am_aload_n (q := 45) rfl (am_tab tk_X10_hoursFrom 28 rfl) rfl ?_
                refine am_getR (q := 48) (a := 55) (k := 10) (n := 108) (j := 43) (r := some (89)) (Ls_55 hL) (by decide) rfl (Lr_55_43 hL) (by decide) (Or.inl kf_X10_115) (am_tab tk_X10_hoursFrom 29 rfl) rfl ?_
                refine am_bipush (q := 50) (n := 8) (by decide) rfl (am_tab tk_X10_hoursFrom 30 rfl) rfl ?_
                refine am_iload (q := 52) rfl (am_tab tk_X10_hoursFrom 31 rfl) rfl ?_
                refine am_iadd (q := 53) (by omega) (am_tab tk_X10_hoursFrom 32 rfl) rfl ?_
                refine am_iald (q := 54) (a := 89) (n := 16) (x := (σ.2.1 89 (8 + j))) (Ls_89 hL) (by omega) (by omega) (by rw [show Int.toNat (8 + (j : Int)) = 8 + j by omega]) (am_tab tk_X10_hoursFrom 33 rfl) rfl ?_
                refine am_iload_n (q := 55) rfl (am_tab tk_X10_hoursFrom 34 rfl) rfl ?_
                refine am_iand (q := 56) (am_tab tk_X10_hoursFrom 35 rfl) rfl ?_
                refine am_ior (q := 57) (am_tab tk_X10_hoursFrom 36 rfl) rfl ?_
                refine am_istore (q := 59) (by decide) (ls2 := [(5, am_i ((ao_or (hkF σ kn j) (ao_and (σ.2.1 89 (8 + j)) (lvM σ))))), (6, am_i ((j : Int))), (3, am_i kn), (4, am_i h), (2, am_i (lvM σ)), (0, am_r 55), (1, am_i ((p : Int)))]) rfl (am_tab tk_X10_hoursFrom 37 rfl) rfl ?_
                refine am_iinc (q := 62) rfl (by omega) (by decide) (ls2 := [(6, am_i (((j : Int) + 1))), (5, am_i ((ao_or (hkF σ kn j) (ao_and (σ.2.1 89 (8 + j)) (lvM σ))))), (3, am_i kn), (4, am_i h), (2, am_i (lvM σ)), (0, am_r 55), (1, am_i ((p : Int)))]) rfl (am_tab tk_X10_hoursFrom 38 rfl) rfl ?_
                refine am_goto (t := 23) (am_tab tk_X10_hoursFrom 39 rfl) (by decide) ?_
                rw [tb_eq hk ⟨by omega, by omega⟩] at h39
                have he : hkF σ kn (j + 1) = (ao_or (hkF σ kn j) (ao_and (σ.2.1 89 (8 + j)) (lvM σ))) := by
                  show (if _ then _ else _) = _
                  first | rw [if_pos h39] | rw [if_neg h39]
                exact am_less (by intro q hq; simp only [List.mem_cons, List.not_mem_nil, or_false] at hq; rcases hq with rfl | rfl | rfl | rfl | rfl | rfl | rfl <;> simp [he]) (ih23 (j + 1) (by omega) (by omega))
        refine am_less (by intro q hq; simp only [List.mem_cons, List.not_mem_nil, or_false] at hq; rcases hq with rfl | rfl | rfl | rfl | rfl | rfl | rfl <;> simp [hkF]) (L23 (_ + 1) 0 (by exact Nat.lt_succ_self _) (by omega))
  refine am_less (by intro q hq; simp only [List.mem_cons, List.not_mem_nil, or_false] at hq; rcases hq with rfl | rfl | rfl | rfl | rfl <;> simp) (L12 (_ + 1) 257 (ao_shl 1 (p : Int)) 0 (by exact Nat.lt_succ_self _) hsp (by omega) (by omega) rfl)
def hmF (σ : am_H) : Nat → Int
  | 0 => 0
  | p + 1 => if hmF σ p = -1 then -1 else if σ.2.1 96 (12 + p) = 1 then hmF σ p else if hoM σ p = -1 then -1 else if hmF σ p < hoM σ p then hoM σ p else hmF σ p
theorem hm_stop {σ : am_H} {p : Nat} (h : hmF σ p = -1) : ∀ m, hmF σ (p + m) = -1
  | 0 => h
  | m + 1 => by
    have ih := hm_stop h m
    show (if hmF σ (p + m) = -1 then _ else _) = _
    rw [if_pos ih]
theorem hrF_rng {σ : am_H} (hR : MR σ) : ∀ (f : Nat) (kn h : Int), 0 ≤ kn ∧ kn < 256 → 0 ≤ h ∧ h ≤ kn → -1 ≤ hrF σ f kn h ∧ hrF σ f kn h ≤ 256
  | 0, _, _, _, _ => by unfold hrF; omega
  | f + 1, kn, h, hk, hh => by
    have hnx := hkF_rng hR hk (pN σ) (pN_8 hR)
    unfold hrF
    split
    · omega
    · split
      · omega
      · exact hrF_rng hR f _ _ (by omega) (by omega)
theorem hoM_rng {σ : am_H} (hR : MR σ) {p : Nat} (hp : p < 8) : -1 ≤ hoM σ p ∧ hoM σ p ≤ 256 := hrF_rng hR 257 _ 0 (shl_rng p hp) (by have := shl_rng p hp; omega)
def houM (σ : am_H) (n : Int) : Int := if (1 ≤ n ∧ n ≤ 20) ∧ ¬ lvM σ = 0 then (if hmF σ (pN σ) = -1 then -1 else n * hmF σ (pN σ)) else -1
theorem c_X10_hours (σ : am_H) (hG : GD σ) (n : Int)  : am_met M_X10_hours [am_r 55, am_i n] σ (fun r σ' => r = some (am_i (houM σ n)) ∧ σ' = σ) := by
  refine am_qq (fun Q hQ => ?_)
  refine am_enter (show plainFor yX10_hours = true by decide +kernel) rfl (Nat.le_of_ble_eq_true rfl) (fun _ _ _ => trivial) ?_
  have hL := hG.L
  have hN := pN_eq hG.R
  have h8 := pN_8 hG.R
  refine am_iload_n (q := 1) rfl (am_tab tk_X10_hours 0 rfl) rfl ?_
  refine am_i2l (q := 2) (am_tab tk_X10_hours 1 rfl) rfl ?_
  refine am_lconst1 (q := 3) (am_tab tk_X10_hours 2 rfl) rfl ?_
  refine am_ldc2 (q := 6) (n := 20) (by decide) kk_X10_554 (am_tab tk_X10_hours 3 rfl) rfl ?_
  refine am_callS0 (q := 9) (me2 := M_X10_isIn) (As := [am_l n, am_l 1, am_l 20]) (rest := []) (out := [am_i (if 1 ≤ n ∧ n ≤ 20 then 1 else 0)]) (c_X10_isIn σ hL n 1 20 ) ⟨rfl, rfl⟩ ⟨Or.inl km_X10_291, kc_X10_isIn, kn_X10, kd_X10_isIn, ⟨(Nat.le_of_ble_eq_true rfl), (Nat.le_of_ble_eq_true rfl)⟩, ⟨(Nat.le_of_ble_eq_true rfl), (Nat.le_of_ble_eq_true rfl)⟩, (Nat.le_of_ble_eq_true rfl)⟩ ki_X10_isIn rfl rfl (am_tab tk_X10_hours 4 rfl) rfl ?_
  refine am_if_eq (q := 12) (t := 19) (am_tab tk_X10_hours 5 rfl) (by decide) rfl (fun h9 => ?_) (fun h9 => ?_)
  · replace h9 := b01z h9
    refine am_iconst (q := 20) (n := (-1)) (by decide) (am_tab tk_X10_hours 9 rfl) rfl ?_
    refine am_iret (Or.inl rfl) (Nat.le_of_ble_eq_true rfl) (Nat.le_of_ble_eq_true rfl) (am_tab tk_X10_hours 10 rfl) ?_
    refine hQ _ _ ?_
    refine ⟨congrArg (fun z => some (am_i z)) ?_, rfl⟩
    unfold houM
    rw [if_neg (by intro hx; first | exact absurd hx.1 (by assumption) | exact absurd (by assumption) hx.2)]
  · replace h9 := b01n h9
    refine am_aload_n (q := 13) rfl (am_tab tk_X10_hours 6 rfl) rfl ?_
    refine am_callV0 (q := 16) (me2 := M_X10_living) (b := 55) (kb := 10) (nb := 108) (As := []) (rest := []) (out := [am_i (lvM σ)]) (c_X10_living σ hG.L (pN σ) (pN_eq hG.R) (pN_8 hG.R)) ⟨rfl, rfl⟩ (Ls_55 hL) (by decide) ⟨Or.inl km_X10_484, kc_X10_living, kn_X10, kd_X10_living, ⟨(Nat.le_of_ble_eq_true rfl), (Nat.le_of_ble_eq_true rfl)⟩, ⟨(Nat.le_of_ble_eq_true rfl), (Nat.le_of_ble_eq_true rfl)⟩, (Nat.le_of_ble_eq_true rfl)⟩ ki_X10_living ks_X10_living rfl rfl (am_tab tk_X10_hours 7 rfl) rfl ?_
    refine am_if_ne (q := 19) (t := 21) (am_tab tk_X10_hours 8 rfl) (by decide) rfl (fun h16 => ?_) (fun h16 => ?_)
    · refine am_iconst (q := 22) (n := 0) (by decide) (am_tab tk_X10_hours 11 rfl) rfl ?_
      refine am_istore_n (q := 23) (by decide) (ls2 := [(2, am_i 0), (0, am_r 55), (1, am_i n)]) rfl (am_tab tk_X10_hours 12 rfl) rfl ?_
      refine am_iconst (q := 24) (n := 0) (by decide) (am_tab tk_X10_hours 13 rfl) rfl ?_
      refine am_istore_n (q := 25) (by decide) (ls2 := [(3, am_i 0), (2, am_i 0), (0, am_r 55), (1, am_i n)]) rfl (am_tab tk_X10_hours 14 rfl) rfl ?_
      have L25 : ∀ (n25 : Nat) (i : Nat), pN σ - i < n25 → i ≤ pN σ → (0 ≤ hmF σ i ∧ hmF σ i ≤ 256) → am_wp M_X10_hours Q 0 0 25 [(3, am_i ((i : Int))), (2, am_i (hmF σ i)), (0, am_r 55), (1, am_i n)] [] σ := by
        intro n25
        induction n25 with
        | zero => intro i hn25; exact absurd hn25 (Nat.not_lt_zero _)
        | succ n25 ih25 =>
          intro i hn25 hi hm
          have e12 : ((12 : Int) + (i : Int)).toNat = 12 + i := by omega
          have hhr : i < 8 → -1 ≤ hoM σ i ∧ hoM σ i ≤ 256 := fun h => hoM_rng hG.R h
          refine am_iload_n (q := 26) rfl (am_tab tk_X10_hours 15 rfl) rfl ?_
          refine am_aload_n (q := 27) rfl (am_tab tk_X10_hours 16 rfl) rfl ?_
          refine am_callV0 (q := 30) (me2 := M_X10_peopleMany) (b := 55) (kb := 10) (nb := 108) (As := []) (rest := [am_i ((i : Int))]) (out := [am_i (σ.2.1 85 5), am_i ((i : Int))]) (c_X10_peopleMany σ hL  ) ⟨rfl, rfl⟩ (Ls_55 hL) (by decide) ⟨Or.inl km_X10_394, kc_X10_peopleMany, kn_X10, kd_X10_peopleMany, ⟨(Nat.le_of_ble_eq_true rfl), (Nat.le_of_ble_eq_true rfl)⟩, ⟨(Nat.le_of_ble_eq_true rfl), (Nat.le_of_ble_eq_true rfl)⟩, (Nat.le_of_ble_eq_true rfl)⟩ ki_X10_peopleMany ks_X10_peopleMany rfl rfl (am_tab tk_X10_hours 17 rfl) rfl ?_
          refine am_icmp_ge (q := 33) (t := 74) (am_tab tk_X10_hours 18 rfl) (by decide) rfl (fun h30 => ?_) (fun h30 => ?_)
          · refine am_iload_n (q := 75) rfl (am_tab tk_X10_hours 40 rfl) rfl ?_
            refine am_iload_n (q := 76) rfl (am_tab tk_X10_hours 41 rfl) rfl ?_
            refine am_imul (q := 77) (by have h9 : n * hmF σ i ≤ 20 * 256 := Int.mul_le_mul (by omega) (by omega) (by omega) (by omega); have h10 : 0 ≤ n * hmF σ i := Int.mul_nonneg (by omega) (by omega); omega) (am_tab tk_X10_hours 42 rfl) rfl ?_
            refine am_iret (Or.inl rfl) (Nat.le_of_ble_eq_true rfl) (Nat.le_of_ble_eq_true rfl) (am_tab tk_X10_hours 43 rfl) ?_
            refine hQ _ _ ?_
            refine ⟨congrArg (fun z => some (am_i z)) ?_, rfl⟩
            unfold houM
            rw [if_pos ⟨by assumption, by assumption⟩, ← show i = pN σ by omega, if_neg (by omega)]
          · refine am_aload_n (q := 34) rfl (am_tab tk_X10_hours 19 rfl) rfl ?_
            refine am_iload_n (q := 35) rfl (am_tab tk_X10_hours 20 rfl) rfl ?_
            refine am_callV0 (q := 38) (me2 := M_X10_isDead) (b := 55) (kb := 10) (nb := 108) (As := [am_i ((i : Int))]) (rest := []) (out := [am_i (if σ.2.1 96 (12 + (i : Int)).toNat = 1 then 1 else 0)]) (c_X10_isDead σ hL (i : Int) (by omega)) ⟨rfl, rfl⟩ (Ls_55 hL) (by decide) ⟨Or.inl km_X10_400, kc_X10_isDead, kn_X10, kd_X10_isDead, ⟨(Nat.le_of_ble_eq_true rfl), (Nat.le_of_ble_eq_true rfl)⟩, ⟨(Nat.le_of_ble_eq_true rfl), (Nat.le_of_ble_eq_true rfl)⟩, (Nat.le_of_ble_eq_true rfl)⟩ ki_X10_isDead ks_X10_isDead rfl rfl (am_tab tk_X10_hours 21 rfl) rfl ?_
            refine am_if_eq (q := 41) (t := 44) (am_tab tk_X10_hours 22 rfl) (by decide) rfl (fun h38 => ?_) (fun h38 => ?_)
            · replace h38 := b01z h38
              refine am_aload_n (q := 45) rfl (am_tab tk_X10_hours 24 rfl) rfl ?_
              refine am_iload_n (q := 46) rfl (am_tab tk_X10_hours 25 rfl) rfl ?_
              refine am_callV0 (q := 49) (me2 := M_X10_hoursFrom) (b := 55) (kb := 10) (nb := 108) (As := [am_i ((i : Int))]) (rest := []) (out := [am_i (hoM σ i)]) (c_X10_hoursFrom σ hG i (by omega)) ⟨rfl, rfl⟩ (Ls_55 hL) (by decide) ⟨Or.inl km_X10_556, kc_X10_hoursFrom, kn_X10, kd_X10_hoursFrom, ⟨(Nat.le_of_ble_eq_true rfl), (Nat.le_of_ble_eq_true rfl)⟩, ⟨(Nat.le_of_ble_eq_true rfl), (Nat.le_of_ble_eq_true rfl)⟩, (Nat.le_of_ble_eq_true rfl)⟩ ki_X10_hoursFrom ks_X10_hoursFrom rfl rfl (am_tab tk_X10_hours 26 rfl) rfl ?_
              refine am_istore (q := 51) (by decide) (ls2 := [(4, am_i (hoM σ i)), (3, am_i ((i : Int))), (2, am_i (hmF σ i)), (0, am_r 55), (1, am_i n)]) rfl (am_tab tk_X10_hours 27 rfl) rfl ?_
              refine am_iload (q := 53) rfl (am_tab tk_X10_hours 28 rfl) rfl ?_
              refine am_iconst (q := 54) (n := (-1)) (by decide) (am_tab tk_X10_hours 29 rfl) rfl ?_
              refine am_icmp_ne (q := 57) (t := 59) (am_tab tk_X10_hours 30 rfl) (by decide) rfl (fun h54 => ?_) (fun h54 => ?_)
              · refine am_iload (q := 61) rfl (am_tab tk_X10_hours 33 rfl) rfl ?_
                refine am_iload_n (q := 62) rfl (am_tab tk_X10_hours 34 rfl) rfl ?_
                refine am_icmp_le (q := 65) (t := 68) (am_tab tk_X10_hours 35 rfl) (by decide) rfl (fun h62 => ?_) (fun h62 => ?_)
                · refine am_iinc (q := 71) rfl (by omega) (by decide) (ls2 := [(3, am_i (((i : Int) + 1))), (4, am_i (hoM σ i)), (2, am_i (hmF σ i)), (0, am_r 55), (1, am_i n)]) rfl (am_tab tk_X10_hours 38 rfl) rfl ?_
                  refine am_goto (t := 25) (am_tab tk_X10_hours 39 rfl) (by decide) ?_
                  rw [e12] at h38
                  have h9 := hhr (by omega)
                  have he : hmF σ (i + 1) = hmF σ i := by
                    show (if _ then _ else _) = _
                    rw [if_neg (by omega)]
                    first | rw [if_pos h38] | (rw [if_neg h38, if_neg h54]; first | rw [if_pos (by omega)] | rw [if_neg (by omega)])
                  exact am_less (by intro q hq; simp only [List.mem_cons, List.not_mem_nil, or_false] at hq; rcases hq with rfl | rfl | rfl | rfl <;> simp [he]) (ih25 (i + 1) (by omega) (by omega) (by rw [he]; omega))
                · refine am_iload (q := 67) rfl (am_tab tk_X10_hours 36 rfl) rfl ?_
                  refine am_istore_n (q := 68) (by decide) (ls2 := [(2, am_i (hoM σ i)), (4, am_i (hoM σ i)), (3, am_i ((i : Int))), (0, am_r 55), (1, am_i n)]) rfl (am_tab tk_X10_hours 37 rfl) rfl ?_
                  refine am_iinc (q := 71) rfl (by omega) (by decide) (ls2 := [(3, am_i (((i : Int) + 1))), (2, am_i (hoM σ i)), (4, am_i (hoM σ i)), (0, am_r 55), (1, am_i n)]) rfl (am_tab tk_X10_hours 38 rfl) rfl ?_
                  refine am_goto (t := 25) (am_tab tk_X10_hours 39 rfl) (by decide) ?_
                  rw [e12] at h38
                  have h9 := hhr (by omega)
                  have he : hmF σ (i + 1) = hoM σ i := by
                    show (if _ then _ else _) = _
                    rw [if_neg (by omega)]
                    first | rw [if_pos h38] | (rw [if_neg h38, if_neg h54]; first | rw [if_pos (by omega)] | rw [if_neg (by omega)])
                  exact am_less (by intro q hq; simp only [List.mem_cons, List.not_mem_nil, or_false] at hq; rcases hq with rfl | rfl | rfl | rfl <;> simp [he]) (ih25 (i + 1) (by omega) (by omega) (by rw [he]; omega))
              · refine am_iconst (q := 58) (n := (-1)) (by decide) (am_tab tk_X10_hours 31 rfl) rfl ?_
                refine am_iret (Or.inl rfl) (Nat.le_of_ble_eq_true rfl) (Nat.le_of_ble_eq_true rfl) (am_tab tk_X10_hours 32 rfl) ?_
                refine hQ _ _ ?_
                refine ⟨congrArg (fun z => some (am_i z)) ?_, rfl⟩
                unfold houM
                rw [e12] at h38
                have h9 : hmF σ (i + 1) = -1 := by
                  show (if _ then _ else _) = _
                  rw [if_neg (by omega), if_neg h38, if_pos h54]
                have h10 := hm_stop h9 (pN σ - (i + 1))
                rw [show i + 1 + (pN σ - (i + 1)) = pN σ by omega] at h10
                rw [if_pos ⟨by assumption, by assumption⟩, if_pos h10]
            · replace h38 := b01n h38
              refine am_goto (t := 68) (am_tab tk_X10_hours 23 rfl) (by decide) ?_
              refine am_iinc (q := 71) rfl (by omega) (by decide) (ls2 := [(3, am_i (((i : Int) + 1))), (2, am_i (hmF σ i)), (0, am_r 55), (1, am_i n)]) rfl (am_tab tk_X10_hours 38 rfl) rfl ?_
              refine am_goto (t := 25) (am_tab tk_X10_hours 39 rfl) (by decide) ?_
              rw [e12] at h38
              have h9 := hhr (by omega)
              have he : hmF σ (i + 1) = hmF σ i := by
                show (if _ then _ else _) = _
                rw [if_neg (by omega)]
                first | rw [if_pos h38] | (rw [if_neg h38, if_neg h54]; first | rw [if_pos (by omega)] | rw [if_neg (by omega)])
              exact am_less (by intro q hq; simp only [List.mem_cons, List.not_mem_nil, or_false] at hq; rcases hq with rfl | rfl | rfl | rfl <;> simp [he]) (ih25 (i + 1) (by omega) (by omega) (by rw [he]; omega))
      refine am_less (by intro q hq; simp only [List.mem_cons, List.not_mem_nil, or_false] at hq; rcases hq with rfl | rfl | rfl | rfl <;> simp [hmF]) (L25 (_ + 1) 0 (by exact Nat.lt_succ_self _) (by omega) (by show (0 : Int) ≤ 0 ∧ (0 : Int) ≤ 256; omega))
    · refine am_iconst (q := 20) (n := (-1)) (by decide) (am_tab tk_X10_hours 9 rfl) rfl ?_
      refine am_iret (Or.inl rfl) (Nat.le_of_ble_eq_true rfl) (Nat.le_of_ble_eq_true rfl) (am_tab tk_X10_hours 10 rfl) ?_
      refine hQ _ _ ?_
      refine ⟨congrArg (fun z => some (am_i z)) ?_, rfl⟩
      unfold houM
      rw [if_neg (by intro hx; first | exact absurd hx.1 (by assumption) | exact absurd (by assumption) hx.2)]
