/-- a day can come, as the model asks it -/
abbrev cM (σ : am_H) : Prop := ¬ σ.2.1 55 52 = 0 ∧ (σ.2.1 96 0 < 999 ∨ σ.2.1 96 1 < σ.2.1 85 9)
theorem cM_cc {σ : am_H} (hR : MR σ) (h : cM σ) : cc σ := by
  have hT := hR.T
  unfold cM at h
  exact ⟨by omega, h.2⟩
/-- the fewest so far, of the sets below m -/
def enF (σ : am_H) : Nat → Int
  | 0 => lvM σ
  | m + 1 => if ao_and (m : Int) (ao_xor (lvM σ) (-1)) = 0 ∧ bc (m : Int) < bc (enF σ m) ∧ rmE (bgS σ) (tsD σ) (m : Int) 0 = lvM σ then (m : Int) else enF σ m
theorem enF_rng {σ : am_H} (hR : MR σ) : ∀ m : Nat, m ≤ 256 → 0 ≤ enF σ m ∧ enF σ m < 256
  | 0, _ => lvM_rng hR
  | m + 1, h => by
    unfold enF
    split
    · omega
    · exact enF_rng hR m (by omega)
def enoM (σ : am_H) (w : Int) : Int := if (cM σ ∧ ¬ lvM σ = 0) ∧ (0 ≤ w ∧ w ≤ 1) then (if w = 0 then bc (enF σ ((lvM σ).toNat + 1)) else enF σ ((lvM σ).toNat + 1)) else -1
theorem c_X10_enough (σ : am_H) (hG : GD σ) (w : Int)  : am_met M_X10_enough [am_r 55, am_i w] σ (fun r σ' => r = some (am_i (enoM σ w)) ∧ PQ σ σ') := by
  refine am_qq (fun Q hQ => ?_)
  refine am_enter (show plainFor yX10_enough = true by decide +kernel) rfl (Nat.le_of_ble_eq_true rfl) (fun _ _ _ => trivial) ?_
  have hL := hG.L
  have hD90 : 0 ≤ σ.2.1 96 1 ∧ σ.2.1 96 1 ≤ 90 := ⟨hG.R.day.1, by have := hG.R.day; have := hG.R.Y; omega⟩
  have hlv := lvM_rng hG.R
  refine am_aload_n (q := 1) rfl (am_tab tk_X10_enough 0 rfl) rfl ?_
  refine am_callV0 (q := 4) (me2 := M_X10_canCome) (b := 55) (kb := 10) (nb := 108) (As := []) (rest := []) (out := [am_i (if ¬ σ.2.1 55 52 = 0 ∧ (σ.2.1 96 0 < 999 ∨ σ.2.1 96 1 < σ.2.1 85 9) then 1 else 0)]) (c_X10_canCome σ hG.L) ⟨rfl, rfl⟩ (Ls_55 hL) (by decide) ⟨Or.inl km_X10_531, kc_X10_canCome, kn_X10, kd_X10_canCome, ⟨(Nat.le_of_ble_eq_true rfl), (Nat.le_of_ble_eq_true rfl)⟩, ⟨(Nat.le_of_ble_eq_true rfl), (Nat.le_of_ble_eq_true rfl)⟩, (Nat.le_of_ble_eq_true rfl)⟩ ki_X10_canCome ks_X10_canCome rfl rfl (am_tab tk_X10_enough 1 rfl) rfl ?_
  refine am_if_eq (q := 7) (t := 24) (am_tab tk_X10_enough 2 rfl) (by decide) rfl (fun h4 => ?_) (fun h4 => ?_)
  · replace h4 := b01z h4
    refine am_iconst (q := 25) (n := (-1)) (by decide) (am_tab tk_X10_enough 12 rfl) rfl ?_
    refine am_iret (Or.inl rfl) (Nat.le_of_ble_eq_true rfl) (Nat.le_of_ble_eq_true rfl) (am_tab tk_X10_enough 13 rfl) ?_
    refine hQ _ _ ?_
    refine ⟨congrArg (fun z => some (am_i z)) ?_, PQ.refl hG⟩
    unfold enoM
    rw [if_neg (by intro hx; first | exact absurd hx.1.1 (by assumption) | exact absurd (by assumption) hx.1.2 | exact absurd hx.2 (by assumption))]
  · replace h4 := b01n h4
    refine am_aload_n (q := 8) rfl (am_tab tk_X10_enough 3 rfl) rfl ?_
    refine am_callV0 (q := 11) (me2 := M_X10_living) (b := 55) (kb := 10) (nb := 108) (As := []) (rest := []) (out := [am_i (lvM σ)]) (c_X10_living σ hG.L (pN σ) (pN_eq hG.R) (pN_8 hG.R)) ⟨rfl, rfl⟩ (Ls_55 hL) (by decide) ⟨Or.inl km_X10_484, kc_X10_living, kn_X10, kd_X10_living, ⟨(Nat.le_of_ble_eq_true rfl), (Nat.le_of_ble_eq_true rfl)⟩, ⟨(Nat.le_of_ble_eq_true rfl), (Nat.le_of_ble_eq_true rfl)⟩, (Nat.le_of_ble_eq_true rfl)⟩ ki_X10_living ks_X10_living rfl rfl (am_tab tk_X10_enough 4 rfl) rfl ?_
    refine am_if_eq (q := 14) (t := 24) (am_tab tk_X10_enough 5 rfl) (by decide) rfl (fun h11 => ?_) (fun h11 => ?_)
    · refine am_iconst (q := 25) (n := (-1)) (by decide) (am_tab tk_X10_enough 12 rfl) rfl ?_
      refine am_iret (Or.inl rfl) (Nat.le_of_ble_eq_true rfl) (Nat.le_of_ble_eq_true rfl) (am_tab tk_X10_enough 13 rfl) ?_
      refine hQ _ _ ?_
      refine ⟨congrArg (fun z => some (am_i z)) ?_, PQ.refl hG⟩
      unfold enoM
      rw [if_neg (by intro hx; first | exact absurd hx.1.1 (by assumption) | exact absurd (by assumption) hx.1.2 | exact absurd hx.2 (by assumption))]
    · refine am_iload_n (q := 15) rfl (am_tab tk_X10_enough 6 rfl) rfl ?_
      refine am_i2l (q := 16) (am_tab tk_X10_enough 7 rfl) rfl ?_
      refine am_lconst0 (q := 17) (am_tab tk_X10_enough 8 rfl) rfl ?_
      refine am_lconst1 (q := 18) (am_tab tk_X10_enough 9 rfl) rfl ?_
      refine am_callS0 (q := 21) (me2 := M_X10_isIn) (As := [am_l w, am_l 0, am_l 1]) (rest := []) (out := [am_i (if 0 ≤ w ∧ w ≤ 1 then 1 else 0)]) (c_X10_isIn σ hL w 0 1 ) ⟨rfl, rfl⟩ ⟨Or.inl km_X10_291, kc_X10_isIn, kn_X10, kd_X10_isIn, ⟨(Nat.le_of_ble_eq_true rfl), (Nat.le_of_ble_eq_true rfl)⟩, ⟨(Nat.le_of_ble_eq_true rfl), (Nat.le_of_ble_eq_true rfl)⟩, (Nat.le_of_ble_eq_true rfl)⟩ ki_X10_isIn rfl rfl (am_tab tk_X10_enough 10 rfl) rfl ?_
      refine am_if_ne (q := 24) (t := 26) (am_tab tk_X10_enough 11 rfl) (by decide) rfl (fun h21 => ?_) (fun h21 => ?_)
      · replace h21 := b01n h21
        refine am_aload_n (q := 27) rfl (am_tab tk_X10_enough 14 rfl) rfl ?_
        refine am_callV0 (q := 30) (me2 := M_X10_living) (b := 55) (kb := 10) (nb := 108) (As := []) (rest := []) (out := [am_i (lvM σ)]) (c_X10_living σ hG.L (pN σ) (pN_eq hG.R) (pN_8 hG.R)) ⟨rfl, rfl⟩ (Ls_55 hL) (by decide) ⟨Or.inl km_X10_484, kc_X10_living, kn_X10, kd_X10_living, ⟨(Nat.le_of_ble_eq_true rfl), (Nat.le_of_ble_eq_true rfl)⟩, ⟨(Nat.le_of_ble_eq_true rfl), (Nat.le_of_ble_eq_true rfl)⟩, (Nat.le_of_ble_eq_true rfl)⟩ ki_X10_living ks_X10_living rfl rfl (am_tab tk_X10_enough 15 rfl) rfl ?_
        refine am_istore_n (q := 31) (by decide) (ls2 := [(2, am_i (lvM σ)), (0, am_r 55), (1, am_i w)]) rfl (am_tab tk_X10_enough 16 rfl) rfl ?_
        have hcc : cc σ := cM_cc hG.R h4
        have hts := tsD_rng hG.R hcc
        have hd1 := bgN_day hG.R hcc
        refine am_aload_n (q := 32) rfl (am_tab tk_X10_enough 17 rfl) rfl ?_
        refine am_callVr (q := 35) (me2 := M_X10_putsAside) (b := 55) (kb := 10) (nb := 108) (As := []) (rest := []) (c_aside σ hG) ⟨rfl, rfl⟩ (Ls_55 hL) (by decide) ⟨Or.inl km_X10_514, kc_X10_putsAside, kn_X10, kd_X10_putsAside, ⟨(Nat.le_of_ble_eq_true rfl), (Nat.le_of_ble_eq_true rfl)⟩, ⟨(Nat.le_of_ble_eq_true rfl), (Nat.le_of_ble_eq_true rfl)⟩, (Nat.le_of_ble_eq_true rfl)⟩ ki_X10_putsAside ks_X10_putsAside rfl (am_tab tk_X10_enough 18 rfl) rfl ?_
        rintro r S0 ⟨rfl, hD0⟩
        refine am_st (st2 := []) rfl ?_
        refine am_aload_n (q := 36) rfl (am_tab tk_X10_enough 19 rfl) rfl ?_
        refine am_callVr (q := 39) (me2 := M_X10_begins) (b := 55) (kb := 10) (nb := 108) (As := []) (rest := []) (c_beg σ hG hcc S0 hD0) ⟨rfl, rfl⟩ (Ls_55 hD0.2.2.1.L) (by decide) ⟨Or.inl km_X10_449, kc_X10_begins, kn_X10, kd_X10_begins, ⟨(Nat.le_of_ble_eq_true rfl), (Nat.le_of_ble_eq_true rfl)⟩, ⟨(Nat.le_of_ble_eq_true rfl), (Nat.le_of_ble_eq_true rfl)⟩, (Nat.le_of_ble_eq_true rfl)⟩ ki_X10_begins ks_X10_begins rfl (am_tab tk_X10_enough 20 rfl) rfl ?_
        rintro r S1 ⟨rfl, hB1⟩
        refine am_st (st2 := []) rfl ?_
        refine am_aload_n (q := 40) rfl (am_tab tk_X10_enough 21 rfl) rfl ?_
        refine am_aload_n (q := 41) rfl (am_tab tk_X10_enough 22 rfl) rfl ?_
        refine am_getR (q := 44) (a := 55) (k := 10) (n := 108) (j := 54) (r := some (96)) (Ls_55 hB1.G.L) (by decide) rfl (Lr_55_54 hB1.G.L) (by decide) (Or.inl kf_X10_136) (am_tab tk_X10_enough 23 rfl) rfl ?_
        refine am_bipush (q := 46) (n := 20) (by decide) rfl (am_tab tk_X10_enough 24 rfl) rfl ?_
        refine am_aload_n (q := 47) rfl (am_tab tk_X10_enough 25 rfl) rfl ?_
        refine am_getR (q := 50) (a := 55) (k := 10) (n := 108) (j := 54) (r := some (96)) (Ls_55 hB1.G.L) (by decide) rfl (Lr_55_54 hB1.G.L) (by decide) (Or.inl kf_X10_136) (am_tab tk_X10_enough 26 rfl) rfl ?_
        refine am_iconst (q := 51) (n := 1) (by decide) (am_tab tk_X10_enough 27 rfl) rfl ?_
        refine am_iald (q := 52) (a := 96) (n := 443) (x := (bgN σ 1)) (Ls_96 hB1.G.L) (by omega) (by omega) (cn_at hB1.c 96 1 (by decide) (by decide)) (am_tab tk_X10_enough 28 rfl) rfl ?_
        refine am_iadd (q := 53) (by omega) (am_tab tk_X10_enough 29 rfl) rfl ?_
        refine am_iald (q := 54) (a := 96) (n := 443) (x := (tsD σ)) (Ls_96 hB1.G.L) (by omega) (by omega) (cn_at hB1.c 96 _ (by decide) (by decide)) (am_tab tk_X10_enough 30 rfl) rfl ?_
        refine am_callVr (q := 57) (me2 := M_X10_asksDay) (b := 55) (kb := 10) (nb := 108) (As := [am_i ((tsD σ))]) (rest := []) (c_ask3 σ S1 hB1 (tsD σ)) ⟨rfl, rfl⟩ (Ls_55 hB1.G.L) (by decide) ⟨Or.inl km_X10_429, kc_X10_asksDay, kn_X10, kd_X10_asksDay, ⟨(Nat.le_of_ble_eq_true rfl), (Nat.le_of_ble_eq_true rfl)⟩, ⟨(Nat.le_of_ble_eq_true rfl), (Nat.le_of_ble_eq_true rfl)⟩, (Nat.le_of_ble_eq_true rfl)⟩ ki_X10_asksDay ks_X10_asksDay rfl (am_tab tk_X10_enough 31 rfl) rfl ?_
        rintro r S2 ⟨rfl, hB2, hA2⟩
        refine am_st (st2 := []) rfl ?_
        refine am_iload_n (q := 58) rfl (am_tab tk_X10_enough 32 rfl) rfl ?_
        refine am_istore_n (q := 59) (by decide) (ls2 := [(3, am_i (lvM σ)), (2, am_i (lvM σ)), (0, am_r 55), (1, am_i w)]) rfl (am_tab tk_X10_enough 33 rfl) rfl ?_
        refine am_iconst (q := 60) (n := 0) (by decide) (am_tab tk_X10_enough 34 rfl) rfl ?_
        refine am_istore (q := 62) (by decide) (ls2 := [(4, am_i 0), (3, am_i (lvM σ)), (2, am_i (lvM σ)), (0, am_r 55), (1, am_i w)]) rfl (am_tab tk_X10_enough 35 rfl) rfl ?_
        have L62 : ∀ (n62 : Nat) (m : Nat) (S : am_H), 300 - m < n62 → (m : Int) ≤ lvM σ + 1 → BG σ S → AK σ (tsD σ) S → am_wp M_X10_enough Q 0 0 62 [(4, am_i ((m : Int))), (3, am_i (enF σ m)), (2, am_i (lvM σ)), (0, am_r 55), (1, am_i w)] [] S := by
          intro n62
          induction n62 with
          | zero => intro m S hn62; exact absurd hn62 (Nat.not_lt_zero _)
          | succ n62 ih62 =>
            intro m S hn62 hm hB hA
            refine am_iload (q := 64) rfl (am_tab tk_X10_enough 36 rfl) rfl ?_
            refine am_iload_n (q := 65) rfl (am_tab tk_X10_enough 37 rfl) rfl ?_
            refine am_icmp_gt (q := 68) (t := 109) (am_tab tk_X10_enough 38 rfl) (by decide) rfl (fun h65 => ?_) (fun h65 => ?_)
            · refine am_aload_n (q := 110) rfl (am_tab tk_X10_enough 60 rfl) rfl ?_
              refine am_callVr (q := 113) (me2 := M_X10_takesBack) (b := 55) (kb := 10) (nb := 108) (As := []) (rest := []) (c_back3 σ hG S hB) ⟨rfl, rfl⟩ (Ls_55 hB.G.L) (by decide) ⟨Or.inl km_X10_520, kc_X10_takesBack, kn_X10, kd_X10_takesBack, ⟨(Nat.le_of_ble_eq_true rfl), (Nat.le_of_ble_eq_true rfl)⟩, ⟨(Nat.le_of_ble_eq_true rfl), (Nat.le_of_ble_eq_true rfl)⟩, (Nat.le_of_ble_eq_true rfl)⟩ ki_X10_takesBack ks_X10_takesBack rfl (am_tab tk_X10_enough 61 rfl) rfl ?_
              rintro r S9 ⟨rfl, hP9⟩
              refine am_st (st2 := []) rfl ?_
              refine am_iload_n (q := 114) rfl (am_tab tk_X10_enough 62 rfl) rfl ?_
              refine am_if_ne (q := 117) (t := 124) (am_tab tk_X10_enough 63 rfl) (by decide) rfl (fun h114 => ?_) (fun h114 => ?_)
              · refine am_iload_n (q := 125) rfl (am_tab tk_X10_enough 67 rfl) rfl ?_
                refine am_iret (Or.inl rfl) (Nat.le_of_ble_eq_true rfl) (Nat.le_of_ble_eq_true rfl) (am_tab tk_X10_enough 68 rfl) ?_
                refine hQ _ _ ?_
                refine ⟨congrArg (fun z => some (am_i z)) ?_, hP9⟩
                unfold enoM
                rw [if_pos ⟨⟨h4, h11⟩, h21⟩, show (lvM σ).toNat + 1 = m by omega]
                first | rw [if_pos (by assumption)] | rw [if_neg (by assumption)]
              · refine am_iload_n (q := 118) rfl (am_tab tk_X10_enough 64 rfl) rfl ?_
                refine am_callS0 (q := 121) (me2 := M_X10_bits) (As := [am_i (enF σ m)]) (rest := []) (out := [am_i (bc (enF σ m))]) (c_X10_bits S9 hP9.2.L (enF σ m) (enF_rng hG.R m (by omega))) ⟨rfl, rfl⟩ ⟨Or.inl km_X10_473, kc_X10_bits, kn_X10, kd_X10_bits, ⟨(Nat.le_of_ble_eq_true rfl), (Nat.le_of_ble_eq_true rfl)⟩, ⟨(Nat.le_of_ble_eq_true rfl), (Nat.le_of_ble_eq_true rfl)⟩, (Nat.le_of_ble_eq_true rfl)⟩ ki_X10_bits rfl rfl (am_tab tk_X10_enough 65 rfl) rfl ?_
                refine am_goto (t := 125) (am_tab tk_X10_enough 66 rfl) (by decide) ?_
                refine am_iret (Or.inl rfl) (Nat.le_of_ble_eq_true rfl) (Nat.le_of_ble_eq_true rfl) (am_tab tk_X10_enough 68 rfl) ?_
                refine hQ _ _ ?_
                refine ⟨congrArg (fun z => some (am_i z)) ?_, hP9⟩
                unfold enoM
                rw [if_pos ⟨⟨h4, h11⟩, h21⟩, show (lvM σ).toNat + 1 = m by omega]
                first | rw [if_pos (by assumption)] | rw [if_neg (by assumption)]
            · refine am_iload (q := 70) rfl (am_tab tk_X10_enough 39 rfl) rfl ?_
              refine am_iload_n (q := 71) rfl (am_tab tk_X10_enough 40 rfl) rfl ?_
              refine am_iconst (q := 72) (n := (-1)) (by decide) (am_tab tk_X10_enough 41 rfl) rfl ?_
              refine am_ixor (q := 73) (am_tab tk_X10_enough 42 rfl) rfl ?_
              refine am_iand (q := 74) (am_tab tk_X10_enough 43 rfl) rfl ?_
              refine am_if_ne (q := 77) (t := 103) (am_tab tk_X10_enough 44 rfl) (by decide) rfl (fun h74 => ?_) (fun h74 => ?_)
              · refine am_iinc (q := 106) rfl (by omega) (by decide) (ls2 := [(4, am_i (((m : Int) + 1))), (3, am_i (enF σ m)), (2, am_i (lvM σ)), (0, am_r 55), (1, am_i w)]) rfl (am_tab tk_X10_enough 58 rfl) rfl ?_
                refine am_goto (t := 62) (am_tab tk_X10_enough 59 rfl) (by decide) ?_
                have he : enF σ (m + 1) = enF σ m := by
                  show (if _ then _ else _) = _
                  rw [if_neg (by intro hx; first | exact h74 hx.1 | exact absurd hx.2.1 (by omega) | exact h97 hx.2.2)]
                exact am_less (by intro q hq; simp only [List.mem_cons, List.not_mem_nil, or_false] at hq; rcases hq with rfl | rfl | rfl | rfl | rfl <;> simp [he]) (ih62 (m + 1) S (by omega) (by omega) hB hA)
              · refine am_iload (q := 79) rfl (am_tab tk_X10_enough 45 rfl) rfl ?_
                refine am_callS0 (q := 82) (me2 := M_X10_bits) (As := [am_i ((m : Int))]) (rest := []) (out := [am_i (bc (m : Int))]) (c_X10_bits S hB.G.L (m : Int) (by omega)) ⟨rfl, rfl⟩ ⟨Or.inl km_X10_473, kc_X10_bits, kn_X10, kd_X10_bits, ⟨(Nat.le_of_ble_eq_true rfl), (Nat.le_of_ble_eq_true rfl)⟩, ⟨(Nat.le_of_ble_eq_true rfl), (Nat.le_of_ble_eq_true rfl)⟩, (Nat.le_of_ble_eq_true rfl)⟩ ki_X10_bits rfl rfl (am_tab tk_X10_enough 46 rfl) rfl ?_
                refine am_iload_n (q := 83) rfl (am_tab tk_X10_enough 47 rfl) rfl ?_
                refine am_callS0 (q := 86) (me2 := M_X10_bits) (As := [am_i (enF σ m)]) (rest := [am_i (bc (m : Int))]) (out := [am_i (bc (enF σ m)), am_i (bc (m : Int))]) (c_X10_bits S hB.G.L (enF σ m) (enF_rng hG.R m (by omega))) ⟨rfl, rfl⟩ ⟨Or.inl km_X10_473, kc_X10_bits, kn_X10, kd_X10_bits, ⟨(Nat.le_of_ble_eq_true rfl), (Nat.le_of_ble_eq_true rfl)⟩, ⟨(Nat.le_of_ble_eq_true rfl), (Nat.le_of_ble_eq_true rfl)⟩, (Nat.le_of_ble_eq_true rfl)⟩ ki_X10_bits rfl rfl (am_tab tk_X10_enough 48 rfl) rfl ?_
                refine am_icmp_ge (q := 89) (t := 103) (am_tab tk_X10_enough 49 rfl) (by decide) rfl (fun h86 => ?_) (fun h86 => ?_)
                · refine am_iinc (q := 106) rfl (by omega) (by decide) (ls2 := [(4, am_i (((m : Int) + 1))), (3, am_i (enF σ m)), (2, am_i (lvM σ)), (0, am_r 55), (1, am_i w)]) rfl (am_tab tk_X10_enough 58 rfl) rfl ?_
                  refine am_goto (t := 62) (am_tab tk_X10_enough 59 rfl) (by decide) ?_
                  have he : enF σ (m + 1) = enF σ m := by
                    show (if _ then _ else _) = _
                    rw [if_neg (by intro hx; first | exact h74 hx.1 | exact absurd hx.2.1 (by omega) | exact h97 hx.2.2)]
                  exact am_less (by intro q hq; simp only [List.mem_cons, List.not_mem_nil, or_false] at hq; rcases hq with rfl | rfl | rfl | rfl | rfl <;> simp [he]) (ih62 (m + 1) S (by omega) (by omega) hB hA)
                · refine am_aload_n (q := 90) rfl (am_tab tk_X10_enough 50 rfl) rfl ?_
                  refine am_iload (q := 92) rfl (am_tab tk_X10_enough 51 rfl) rfl ?_
                  refine am_iconst (q := 93) (n := 0) (by decide) (am_tab tk_X10_enough 52 rfl) rfl ?_
                  refine am_callVr (q := 96) (me2 := M_X10_reminded) (b := 55) (kb := 10) (nb := 108) (As := [am_i ((m : Int)), am_i 0]) (rest := []) (c_rem3 σ S hB (m : Int) 0 (tsD σ) hA (by omega) (by omega) hts) ⟨rfl, rfl⟩ (Ls_55 hB.G.L) (by decide) ⟨Or.inl km_X10_458, kc_X10_reminded, kn_X10, kd_X10_reminded, ⟨(Nat.le_of_ble_eq_true rfl), (Nat.le_of_ble_eq_true rfl)⟩, ⟨(Nat.le_of_ble_eq_true rfl), (Nat.le_of_ble_eq_true rfl)⟩, (Nat.le_of_ble_eq_true rfl)⟩ ki_X10_reminded ks_X10_reminded rfl (am_tab tk_X10_enough 53 rfl) rfl ?_
                  rintro r S3 ⟨rfl, hB3, hA3⟩
                  refine am_st (st2 := [am_i (rmE (bgS σ) (tsD σ) (m : Int) 0)]) rfl ?_
                  refine am_iload_n (q := 97) rfl (am_tab tk_X10_enough 54 rfl) rfl ?_
                  refine am_icmp_ne (q := 100) (t := 103) (am_tab tk_X10_enough 55 rfl) (by decide) rfl (fun h97 => ?_) (fun h97 => ?_)
                  · refine am_iinc (q := 106) rfl (by omega) (by decide) (ls2 := [(4, am_i (((m : Int) + 1))), (3, am_i (enF σ m)), (2, am_i (lvM σ)), (0, am_r 55), (1, am_i w)]) rfl (am_tab tk_X10_enough 58 rfl) rfl ?_
                    refine am_goto (t := 62) (am_tab tk_X10_enough 59 rfl) (by decide) ?_
                    have he : enF σ (m + 1) = enF σ m := by
                      show (if _ then _ else _) = _
                      rw [if_neg (by intro hx; first | exact h74 hx.1 | exact absurd hx.2.1 (by omega) | exact h97 hx.2.2)]
                    exact am_less (by intro q hq; simp only [List.mem_cons, List.not_mem_nil, or_false] at hq; rcases hq with rfl | rfl | rfl | rfl | rfl <;> simp [he]) (ih62 (m + 1) S3 (by omega) (by omega) hB3 hA3)
                  · refine am_iload (q := 102) rfl (am_tab tk_X10_enough 56 rfl) rfl ?_
                    refine am_istore_n (q := 103) (by decide) (ls2 := [(3, am_i ((m : Int))), (4, am_i ((m : Int))), (2, am_i (lvM σ)), (0, am_r 55), (1, am_i w)]) rfl (am_tab tk_X10_enough 57 rfl) rfl ?_
                    refine am_iinc (q := 106) rfl (by omega) (by decide) (ls2 := [(4, am_i (((m : Int) + 1))), (3, am_i ((m : Int))), (2, am_i (lvM σ)), (0, am_r 55), (1, am_i w)]) rfl (am_tab tk_X10_enough 58 rfl) rfl ?_
                    refine am_goto (t := 62) (am_tab tk_X10_enough 59 rfl) (by decide) ?_
                    have he : enF σ (m + 1) = (m : Int) := by
                      show (if _ then _ else _) = _
                      rw [if_pos ⟨h74, by omega, h97⟩]
                    exact am_less (by intro q hq; simp only [List.mem_cons, List.not_mem_nil, or_false] at hq; rcases hq with rfl | rfl | rfl | rfl | rfl <;> simp [he]) (ih62 (m + 1) S3 (by omega) (by omega) hB3 hA3)
        refine am_less (by intro q hq; simp only [List.mem_cons, List.not_mem_nil, or_false] at hq; rcases hq with rfl | rfl | rfl | rfl | rfl <;> simp [enF]) (L62 (_ + 1) 0 S2 (by exact Nat.lt_succ_self _) (by omega) hB2 hA2)
      · replace h21 := b01z h21
        refine am_iconst (q := 25) (n := (-1)) (by decide) (am_tab tk_X10_enough 12 rfl) rfl ?_
        refine am_iret (Or.inl rfl) (Nat.le_of_ble_eq_true rfl) (Nat.le_of_ble_eq_true rfl) (am_tab tk_X10_enough 13 rfl) ?_
        refine hQ _ _ ?_
        refine ⟨congrArg (fun z => some (am_i z)) ?_, PQ.refl hG⟩
        unfold enoM
        rw [if_neg (by intro hx; first | exact absurd hx.1.1 (by assumption) | exact absurd (by assumption) hx.1.2 | exact absurd hx.2 (by assumption))]
/-- does anybody think -/
def atM (σ : am_H) (t b : Int) : Bool := decide (¬ rmE (bgS σ) t (selE (bgS σ) t b) b = 0)
def blM (σ : am_H) (t b : Int) : Bool := if ao_and (lvM σ) (ao_xor b (-1)) = 0 then !(atM σ t b) else anyB (fun p => decide (tb (ao_and (lvM σ) (ao_xor b (-1))) p = 1) && !(atM σ t (ao_or b (ao_shl 1 (p : Int))))) (pN σ)
def tlM (σ : am_H) (t b : Int) : Bool := if ao_and (lvM σ) (ao_xor t (-1)) = 0 then !(blM σ t b) else anyB (fun p => decide (tb (ao_and (lvM σ) (ao_xor t (-1))) p = 1) && !(blM σ (ao_or t (ao_shl 1 (p : Int))) b)) (pN σ)
def bfM (σ : am_H) (t : Int) : Bool := if lvM σ = 0 then !(tlM σ t 0) else anyB (fun p => decide (tb (lvM σ) p = 1) && !(tlM σ t (ao_shl 1 (p : Int)))) (pN σ)
def tfM (σ : am_H) : Bool := if lvM σ = 0 then !(bfM σ 0) else anyB (fun p => decide (tb (lvM σ) p = 1) && !(bfM σ (ao_shl 1 (p : Int)))) (pN σ)
def b2i (b : Bool) : Int := if b = true then 1 else 0
theorem c_X10_anyThinks (σ : am_H) (hG : GD σ) (S : am_H) (hB : BG σ S) (t : Int) (b : Int) (ht : 0 ≤ t ∧ t < 256) (hb : 0 ≤ b ∧ b < 256) : am_met M_X10_anyThinks [am_r 55, am_i t, am_i b] S (fun r σ' => r = some (am_i (b2i (atM σ t b))) ∧ BG σ σ') := by
  refine am_qq (fun Q hQ => ?_)
  refine am_enter (show plainFor yX10_anyThinks = true by decide +kernel) rfl (Nat.le_of_ble_eq_true rfl) (fun _ _ _ => trivial) ?_
  have hL := hB.G.L
  refine am_aload_n (q := 1) rfl (am_tab tk_X10_anyThinks 0 rfl) rfl ?_
  refine am_aload_n (q := 2) rfl (am_tab tk_X10_anyThinks 1 rfl) rfl ?_
  refine am_iload_n (q := 3) rfl (am_tab tk_X10_anyThinks 2 rfl) rfl ?_
  refine am_iload_n (q := 4) rfl (am_tab tk_X10_anyThinks 3 rfl) rfl ?_
  refine am_callVr (q := 7) (me2 := M_X10_selves) (b := 55) (kb := 10) (nb := 108) (As := [am_i t, am_i b]) (rest := [am_r 55]) (c_sel3 σ S hB t b ht hb) ⟨rfl, rfl⟩ (Ls_55 hL) (by decide) ⟨Or.inl km_X10_452, kc_X10_selves, kn_X10, kd_X10_selves, ⟨(Nat.le_of_ble_eq_true rfl), (Nat.le_of_ble_eq_true rfl)⟩, ⟨(Nat.le_of_ble_eq_true rfl), (Nat.le_of_ble_eq_true rfl)⟩, (Nat.le_of_ble_eq_true rfl)⟩ ki_X10_selves ks_X10_selves rfl (am_tab tk_X10_anyThinks 4 rfl) rfl ?_
  rintro r S1 ⟨rfl, hB1, hA1⟩
  refine am_st (st2 := [am_i (selE (bgS σ) t b), am_r 55]) rfl ?_
  refine am_iload_n (q := 8) rfl (am_tab tk_X10_anyThinks 5 rfl) rfl ?_
  refine am_callVr (q := 11) (me2 := M_X10_reminded) (b := 55) (kb := 10) (nb := 108) (As := [am_i (selE (bgS σ) t b), am_i b]) (rest := []) (c_rem3 σ S1 hB1 (selE (bgS σ) t b) b t hA1 (by rw [← selE_eq hB1.c]; exact selE_rng hB1.G.R _ _) hb ht) ⟨rfl, rfl⟩ (Ls_55 hB1.G.L) (by decide) ⟨Or.inl km_X10_458, kc_X10_reminded, kn_X10, kd_X10_reminded, ⟨(Nat.le_of_ble_eq_true rfl), (Nat.le_of_ble_eq_true rfl)⟩, ⟨(Nat.le_of_ble_eq_true rfl), (Nat.le_of_ble_eq_true rfl)⟩, (Nat.le_of_ble_eq_true rfl)⟩ ki_X10_reminded ks_X10_reminded rfl (am_tab tk_X10_anyThinks 6 rfl) rfl ?_
  rintro r S2 ⟨rfl, hB2, hA2⟩
  refine am_st (st2 := [am_i (rmE (bgS σ) t (selE (bgS σ) t b) b)]) rfl ?_
  refine am_if_eq (q := 14) (t := 18) (am_tab tk_X10_anyThinks 7 rfl) (by decide) rfl (fun h11 => ?_) (fun h11 => ?_)
  · refine am_iconst (q := 19) (n := 0) (by decide) (am_tab tk_X10_anyThinks 10 rfl) rfl ?_
    refine am_iret (Or.inr ⟨rfl, by first | exact Or.inl rfl | exact Or.inr rfl | omega⟩) (Nat.le_of_ble_eq_true rfl) (Nat.le_of_ble_eq_true rfl) (am_tab tk_X10_anyThinks 11 rfl) ?_
    refine hQ _ _ ?_
    refine ⟨congrArg (fun z => some (am_i z)) ?_, hB2⟩
    unfold b2i atM
    simp [h11]
  · refine am_iconst (q := 15) (n := 1) (by decide) (am_tab tk_X10_anyThinks 8 rfl) rfl ?_
    refine am_goto (t := 19) (am_tab tk_X10_anyThinks 9 rfl) (by decide) ?_
    refine am_iret (Or.inr ⟨rfl, by first | exact Or.inl rfl | exact Or.inr rfl | omega⟩) (Nat.le_of_ble_eq_true rfl) (Nat.le_of_ble_eq_true rfl) (am_tab tk_X10_anyThinks 11 rfl) ?_
    refine hQ _ _ ?_
    refine ⟨congrArg (fun z => some (am_i z)) ?_, hB2⟩
    unfold b2i atM
    simp [h11]
theorem c_X10_bribesLast (σ : am_H) (hG : GD σ) (S : am_H) (hB : BG σ S) (t : Int) (b : Int) (ht : 0 ≤ t ∧ t < 256) (hb : 0 ≤ b ∧ b < 256) : am_met M_X10_bribesLast [am_r 55, am_i t, am_i b] S (fun r σ' => r = some (am_i (b2i (blM σ t b))) ∧ BG σ σ') := by
  refine am_qq (fun Q hQ => ?_)
  refine am_enter (show plainFor yX10_bribesLast = true by decide +kernel) rfl (Nat.le_of_ble_eq_true rfl) (fun _ _ _ => trivial) ?_
  have hL := hB.G.L
  have hlv := lvM_rng hG.R
  have hN := pN_eq hG.R
  have h8 := pN_8 hG.R
  have hz0 : (0 : Int) ≤ 0 ∧ (0 : Int) < 256 := by omega
  have hz1 := hz0
  refine am_aload_n (q := 1) rfl (am_tab tk_X10_bribesLast 0 rfl) rfl ?_
  refine am_callV0 (q := 4) (me2 := M_X10_living) (b := 55) (kb := 10) (nb := 108) (As := []) (rest := []) (out := [am_i (lvM σ)]) (c_liv3 σ hG S hB) ⟨rfl, rfl⟩ (Ls_55 hL) (by decide) ⟨Or.inl km_X10_484, kc_X10_living, kn_X10, kd_X10_living, ⟨(Nat.le_of_ble_eq_true rfl), (Nat.le_of_ble_eq_true rfl)⟩, ⟨(Nat.le_of_ble_eq_true rfl), (Nat.le_of_ble_eq_true rfl)⟩, (Nat.le_of_ble_eq_true rfl)⟩ ki_X10_living ks_X10_living rfl rfl (am_tab tk_X10_bribesLast 1 rfl) rfl ?_
  refine am_iload_n (q := 5) rfl (am_tab tk_X10_bribesLast 2 rfl) rfl ?_
  refine am_iconst (q := 6) (n := (-1)) (by decide) (am_tab tk_X10_bribesLast 3 rfl) rfl ?_
  refine am_ixor (q := 7) (am_tab tk_X10_bribesLast 4 rfl) rfl ?_
  refine am_iand (q := 8) (am_tab tk_X10_bribesLast 5 rfl) rfl ?_
  refine am_istore_n (q := 9) (by decide) (ls2 := [(3, am_i ((ao_and (lvM σ) (ao_xor b (-1))))), (0, am_r 55), (1, am_i t), (2, am_i b)]) rfl (am_tab tk_X10_bribesLast 6 rfl) rfl ?_
  refine am_iload_n (q := 10) rfl (am_tab tk_X10_bribesLast 7 rfl) rfl ?_
  refine am_if_ne (q := 13) (t := 28) (am_tab tk_X10_bribesLast 8 rfl) (by decide) rfl (fun h10 => ?_) (fun h10 => ?_)
  · refine am_iconst (q := 29) (n := 0) (by decide) (am_tab tk_X10_bribesLast 18 rfl) rfl ?_
    refine am_istore (q := 31) (by decide) (ls2 := [(4, am_i 0), (3, am_i ((ao_and (lvM σ) (ao_xor b (-1))))), (0, am_r 55), (1, am_i t), (2, am_i b)]) rfl (am_tab tk_X10_bribesLast 19 rfl) rfl ?_
    have L31 : ∀ (n31 : Nat) (i : Nat) (S5 : am_H), pN σ - i < n31 → i ≤ pN σ → BG σ S5 → anyB (fun p => decide (tb (ao_and (lvM σ) (ao_xor b (-1))) p = 1) && !(atM σ t (ao_or b (ao_shl 1 (p : Int))))) i = false → am_wp M_X10_bribesLast Q 0 0 31 [(4, am_i ((i : Int))), (3, am_i ((ao_and (lvM σ) (ao_xor b (-1))))), (0, am_r 55), (1, am_i t), (2, am_i b)] [] S5 := by
      intro n31
      induction n31 with
      | zero => intro i S5 hn31; exact absurd hn31 (Nat.not_lt_zero _)
      | succ n31 ih31 =>
        intro i S5 hn31 hi hB5 hq
        refine am_iload (q := 33) rfl (am_tab tk_X10_bribesLast 20 rfl) rfl ?_
        refine am_aload_n (q := 34) rfl (am_tab tk_X10_bribesLast 21 rfl) rfl ?_
        refine am_callV0 (q := 37) (me2 := M_X10_peopleMany) (b := 55) (kb := 10) (nb := 108) (As := []) (rest := [am_i ((i : Int))]) (out := [am_i (S5.2.1 85 5), am_i ((i : Int))]) (c_X10_peopleMany S5 hB5.G.L  ) ⟨rfl, rfl⟩ (Ls_55 hB5.G.L) (by decide) ⟨Or.inl km_X10_394, kc_X10_peopleMany, kn_X10, kd_X10_peopleMany, ⟨(Nat.le_of_ble_eq_true rfl), (Nat.le_of_ble_eq_true rfl)⟩, ⟨(Nat.le_of_ble_eq_true rfl), (Nat.le_of_ble_eq_true rfl)⟩, (Nat.le_of_ble_eq_true rfl)⟩ ki_X10_peopleMany ks_X10_peopleMany rfl rfl (am_tab tk_X10_bribesLast 22 rfl) rfl ?_
        refine am_st (st2 := [am_i ((σ.2.1 85 5)), am_i ((i : Int))]) (by simp only [(show S5.2.1 85 5 = σ.2.1 85 5 from (hB5.1.2.2 85 5 (by unfold W_ah; omega)))]) ?_
        refine am_icmp_ge (q := 40) (t := 72) (am_tab tk_X10_bribesLast 23 rfl) (by decide) rfl (fun h37 => ?_) (fun h37 => ?_)
        · refine am_iconst (q := 73) (n := 0) (by decide) (am_tab tk_X10_bribesLast 44 rfl) rfl ?_
          refine am_iret (Or.inr ⟨rfl, by first | exact Or.inl rfl | exact Or.inr rfl | omega⟩) (Nat.le_of_ble_eq_true rfl) (Nat.le_of_ble_eq_true rfl) (am_tab tk_X10_bribesLast 45 rfl) ?_
          refine hQ _ _ ?_
          refine ⟨congrArg (fun z => some (am_i z)) ?_, hB5⟩
          unfold blM
          rw [if_neg (by assumption), ← show i = pN σ by omega, hq]; rfl
        · refine am_iload_n (q := 41) rfl (am_tab tk_X10_bribesLast 24 rfl) rfl ?_
          refine am_iload (q := 43) rfl (am_tab tk_X10_bribesLast 25 rfl) rfl ?_
          refine am_ishr (q := 44) (am_tab tk_X10_bribesLast 26 rfl) rfl ?_
          refine am_iconst (q := 45) (n := 1) (by decide) (am_tab tk_X10_bribesLast 27 rfl) rfl ?_
          refine am_iand (q := 46) (am_tab tk_X10_bribesLast 28 rfl) rfl ?_
          refine am_iconst (q := 47) (n := 1) (by decide) (am_tab tk_X10_bribesLast 29 rfl) rfl ?_
          refine am_icmp_ne (q := 50) (t := 66) (am_tab tk_X10_bribesLast 30 rfl) (by decide) rfl (fun h47 => ?_) (fun h47 => ?_)
          · refine am_iinc (q := 69) rfl (by omega) (by decide) (ls2 := [(4, am_i (((i : Int) + 1))), (3, am_i ((ao_and (lvM σ) (ao_xor b (-1))))), (0, am_r 55), (1, am_i t), (2, am_i b)]) rfl (am_tab tk_X10_bribesLast 42 rfl) rfl ?_
            refine am_goto (t := 31) (am_tab tk_X10_bribesLast 43 rfl) (by decide) ?_
            rw [tb_eq (dif_tb hlv hb).1 ⟨by omega, by omega⟩] at h47
            have hgi : (fun p => decide (tb (ao_and (lvM σ) (ao_xor b (-1))) p = 1) && !(atM σ t (ao_or b (ao_shl 1 (p : Int))))) i = false := by
              show (decide (tb (ao_and (lvM σ) (ao_xor b (-1))) (i : Int) = 1) && !(atM σ t (ao_or b (ao_shl 1 (i : Int))))) = false
              simp [h47]
            exact am_less (by intro q hq; simp only [List.mem_cons, List.not_mem_nil, or_false] at hq; rcases hq with rfl | rfl | rfl | rfl | rfl <;> simp) (ih31 (i + 1) S5 (by omega) (by omega) hB5 (anyB_f hq hgi))
          · refine am_aload_n (q := 51) rfl (am_tab tk_X10_bribesLast 31 rfl) rfl ?_
            refine am_iload_n (q := 52) rfl (am_tab tk_X10_bribesLast 32 rfl) rfl ?_
            refine am_iload_n (q := 53) rfl (am_tab tk_X10_bribesLast 33 rfl) rfl ?_
            refine am_iconst (q := 54) (n := 1) (by decide) (am_tab tk_X10_bribesLast 34 rfl) rfl ?_
            refine am_iload (q := 56) rfl (am_tab tk_X10_bribesLast 35 rfl) rfl ?_
            refine am_ishl (q := 57) (am_tab tk_X10_bribesLast 36 rfl) rfl ?_
            refine am_ior (q := 58) (am_tab tk_X10_bribesLast 37 rfl) rfl ?_
            refine am_callVr (q := 61) (me2 := M_X10_anyThinks) (b := 55) (kb := 10) (nb := 108) (As := [am_i t, am_i ((ao_or b (ao_shl 1 (i : Int))))]) (rest := []) (c_X10_anyThinks σ hG S5 hB5 t (ao_or b (ao_shl 1 (i : Int))) ht (or_tb hb (shl_rng i (by omega))).1) ⟨rfl, rfl⟩ (Ls_55 hB5.G.L) (by decide) ⟨Or.inl km_X10_534, kc_X10_anyThinks, kn_X10, kd_X10_anyThinks, ⟨(Nat.le_of_ble_eq_true rfl), (Nat.le_of_ble_eq_true rfl)⟩, ⟨(Nat.le_of_ble_eq_true rfl), (Nat.le_of_ble_eq_true rfl)⟩, (Nat.le_of_ble_eq_true rfl)⟩ ki_X10_anyThinks ks_X10_anyThinks rfl (am_tab tk_X10_bribesLast 38 rfl) rfl ?_
            rintro r T58 ⟨rfl, hT58⟩
            refine am_st (st2 := [am_i (b2i (atM σ t (ao_or b (ao_shl 1 (i : Int)))))]) rfl ?_
            refine am_if_ne (q := 64) (t := 66) (am_tab tk_X10_bribesLast 39 rfl) (by decide) rfl (fun h61 => ?_) (fun h61 => ?_)
            · refine am_iinc (q := 69) rfl (by omega) (by decide) (ls2 := [(4, am_i (((i : Int) + 1))), (3, am_i ((ao_and (lvM σ) (ao_xor b (-1))))), (0, am_r 55), (1, am_i t), (2, am_i b)]) rfl (am_tab tk_X10_bribesLast 42 rfl) rfl ?_
              refine am_goto (t := 31) (am_tab tk_X10_bribesLast 43 rfl) (by decide) ?_
              rw [tb_eq (dif_tb hlv hb).1 ⟨by omega, by omega⟩] at h47
              have hgi : (fun p => decide (tb (ao_and (lvM σ) (ao_xor b (-1))) p = 1) && !(atM σ t (ao_or b (ao_shl 1 (p : Int))))) i = false := by
                show (decide (tb (ao_and (lvM σ) (ao_xor b (-1))) (i : Int) = 1) && !(atM σ t (ao_or b (ao_shl 1 (i : Int))))) = false
                unfold b2i at *
                revert h61
                cases (atM σ t (ao_or b (ao_shl 1 (i : Int)))) <;> simp
              exact am_less (by intro q hq; simp only [List.mem_cons, List.not_mem_nil, or_false] at hq; rcases hq with rfl | rfl | rfl | rfl | rfl <;> simp) (ih31 (i + 1) T58 (by omega) (by omega) hT58 (anyB_f hq hgi))
            · refine am_iconst (q := 65) (n := 1) (by decide) (am_tab tk_X10_bribesLast 40 rfl) rfl ?_
              refine am_iret (Or.inr ⟨rfl, by first | exact Or.inl rfl | exact Or.inr rfl | omega⟩) (Nat.le_of_ble_eq_true rfl) (Nat.le_of_ble_eq_true rfl) (am_tab tk_X10_bribesLast 41 rfl) ?_
              refine hQ _ _ ?_
              refine ⟨congrArg (fun z => some (am_i z)) ?_, hT58⟩
              unfold blM
              rw [if_neg (by assumption), anyB_t (g := (fun p => decide (tb (ao_and (lvM σ) (ao_xor b (-1))) p = 1) && !(atM σ t (ao_or b (ao_shl 1 (p : Int)))))) (i := i) ?_ (by omega)]; rfl
              rw [tb_eq (dif_tb hlv hb).1 ⟨by omega, by omega⟩] at h47
              unfold b2i at *
              revert h61
              cases (atM σ t (ao_or b (ao_shl 1 (i : Int)))) <;> simp [h47]
    refine am_less (by intro q hq; simp only [List.mem_cons, List.not_mem_nil, or_false] at hq; rcases hq with rfl | rfl | rfl | rfl | rfl <;> simp) (L31 (_ + 1) 0 S (by exact Nat.lt_succ_self _) (by omega) hB rfl)
  · refine am_aload_n (q := 14) rfl (am_tab tk_X10_bribesLast 9 rfl) rfl ?_
    refine am_iload_n (q := 15) rfl (am_tab tk_X10_bribesLast 10 rfl) rfl ?_
    refine am_iload_n (q := 16) rfl (am_tab tk_X10_bribesLast 11 rfl) rfl ?_
    refine am_callVr (q := 19) (me2 := M_X10_anyThinks) (b := 55) (kb := 10) (nb := 108) (As := [am_i t, am_i b]) (rest := []) (c_X10_anyThinks σ hG S hB t b ht hb) ⟨rfl, rfl⟩ (Ls_55 hL) (by decide) ⟨Or.inl km_X10_534, kc_X10_anyThinks, kn_X10, kd_X10_anyThinks, ⟨(Nat.le_of_ble_eq_true rfl), (Nat.le_of_ble_eq_true rfl)⟩, ⟨(Nat.le_of_ble_eq_true rfl), (Nat.le_of_ble_eq_true rfl)⟩, (Nat.le_of_ble_eq_true rfl)⟩ ki_X10_anyThinks ks_X10_anyThinks rfl (am_tab tk_X10_bribesLast 12 rfl) rfl ?_
    rintro r T16 ⟨rfl, hT16⟩
    refine am_st (st2 := [am_i (b2i (atM σ t b))]) rfl ?_
    refine am_if_ne (q := 22) (t := 26) (am_tab tk_X10_bribesLast 13 rfl) (by decide) rfl (fun h19 => ?_) (fun h19 => ?_)
    · refine am_iconst (q := 27) (n := 0) (by decide) (am_tab tk_X10_bribesLast 16 rfl) rfl ?_
      refine am_iret (Or.inr ⟨rfl, by first | exact Or.inl rfl | exact Or.inr rfl | omega⟩) (Nat.le_of_ble_eq_true rfl) (Nat.le_of_ble_eq_true rfl) (am_tab tk_X10_bribesLast 17 rfl) ?_
      refine hQ _ _ ?_
      refine ⟨congrArg (fun z => some (am_i z)) ?_, hT16⟩
      unfold blM
      rw [if_pos (by assumption)]
      unfold b2i at *
      revert h19
      cases (atM σ t b) <;> simp
    · refine am_iconst (q := 23) (n := 1) (by decide) (am_tab tk_X10_bribesLast 14 rfl) rfl ?_
      refine am_goto (t := 27) (am_tab tk_X10_bribesLast 15 rfl) (by decide) ?_
      refine am_iret (Or.inr ⟨rfl, by first | exact Or.inl rfl | exact Or.inr rfl | omega⟩) (Nat.le_of_ble_eq_true rfl) (Nat.le_of_ble_eq_true rfl) (am_tab tk_X10_bribesLast 17 rfl) ?_
      refine hQ _ _ ?_
      refine ⟨congrArg (fun z => some (am_i z)) ?_, hT16⟩
      unfold blM
      rw [if_pos (by assumption)]
      unfold b2i at *
      revert h19
      cases (atM σ t b) <;> simp
theorem c_X10_tellsLast (σ : am_H) (hG : GD σ) (S : am_H) (hB : BG σ S) (t : Int) (b : Int) (ht : 0 ≤ t ∧ t < 256) (hb : 0 ≤ b ∧ b < 256) : am_met M_X10_tellsLast [am_r 55, am_i t, am_i b] S (fun r σ' => r = some (am_i (b2i (tlM σ t b))) ∧ BG σ σ') := by
  refine am_qq (fun Q hQ => ?_)
  refine am_enter (show plainFor yX10_tellsLast = true by decide +kernel) rfl (Nat.le_of_ble_eq_true rfl) (fun _ _ _ => trivial) ?_
  have hL := hB.G.L
  have hlv := lvM_rng hG.R
  have hN := pN_eq hG.R
  have h8 := pN_8 hG.R
  have hz0 : (0 : Int) ≤ 0 ∧ (0 : Int) < 256 := by omega
  have hz1 := hz0
  refine am_aload_n (q := 1) rfl (am_tab tk_X10_tellsLast 0 rfl) rfl ?_
  refine am_callV0 (q := 4) (me2 := M_X10_living) (b := 55) (kb := 10) (nb := 108) (As := []) (rest := []) (out := [am_i (lvM σ)]) (c_liv3 σ hG S hB) ⟨rfl, rfl⟩ (Ls_55 hL) (by decide) ⟨Or.inl km_X10_484, kc_X10_living, kn_X10, kd_X10_living, ⟨(Nat.le_of_ble_eq_true rfl), (Nat.le_of_ble_eq_true rfl)⟩, ⟨(Nat.le_of_ble_eq_true rfl), (Nat.le_of_ble_eq_true rfl)⟩, (Nat.le_of_ble_eq_true rfl)⟩ ki_X10_living ks_X10_living rfl rfl (am_tab tk_X10_tellsLast 1 rfl) rfl ?_
  refine am_iload_n (q := 5) rfl (am_tab tk_X10_tellsLast 2 rfl) rfl ?_
  refine am_iconst (q := 6) (n := (-1)) (by decide) (am_tab tk_X10_tellsLast 3 rfl) rfl ?_
  refine am_ixor (q := 7) (am_tab tk_X10_tellsLast 4 rfl) rfl ?_
  refine am_iand (q := 8) (am_tab tk_X10_tellsLast 5 rfl) rfl ?_
  refine am_istore_n (q := 9) (by decide) (ls2 := [(3, am_i ((ao_and (lvM σ) (ao_xor t (-1))))), (0, am_r 55), (1, am_i t), (2, am_i b)]) rfl (am_tab tk_X10_tellsLast 6 rfl) rfl ?_
  refine am_iload_n (q := 10) rfl (am_tab tk_X10_tellsLast 7 rfl) rfl ?_
  refine am_if_ne (q := 13) (t := 28) (am_tab tk_X10_tellsLast 8 rfl) (by decide) rfl (fun h10 => ?_) (fun h10 => ?_)
  · refine am_iconst (q := 29) (n := 0) (by decide) (am_tab tk_X10_tellsLast 18 rfl) rfl ?_
    refine am_istore (q := 31) (by decide) (ls2 := [(4, am_i 0), (3, am_i ((ao_and (lvM σ) (ao_xor t (-1))))), (0, am_r 55), (1, am_i t), (2, am_i b)]) rfl (am_tab tk_X10_tellsLast 19 rfl) rfl ?_
    have L31 : ∀ (n31 : Nat) (i : Nat) (S5 : am_H), pN σ - i < n31 → i ≤ pN σ → BG σ S5 → anyB (fun p => decide (tb (ao_and (lvM σ) (ao_xor t (-1))) p = 1) && !(blM σ (ao_or t (ao_shl 1 (p : Int))) b)) i = false → am_wp M_X10_tellsLast Q 0 0 31 [(4, am_i ((i : Int))), (3, am_i ((ao_and (lvM σ) (ao_xor t (-1))))), (0, am_r 55), (1, am_i t), (2, am_i b)] [] S5 := by
      intro n31
      induction n31 with
      | zero => intro i S5 hn31; exact absurd hn31 (Nat.not_lt_zero _)
      | succ n31 ih31 =>
        intro i S5 hn31 hi hB5 hq
        refine am_iload (q := 33) rfl (am_tab tk_X10_tellsLast 20 rfl) rfl ?_
        refine am_aload_n (q := 34) rfl (am_tab tk_X10_tellsLast 21 rfl) rfl ?_
        refine am_callV0 (q := 37) (me2 := M_X10_peopleMany) (b := 55) (kb := 10) (nb := 108) (As := []) (rest := [am_i ((i : Int))]) (out := [am_i (S5.2.1 85 5), am_i ((i : Int))]) (c_X10_peopleMany S5 hB5.G.L  ) ⟨rfl, rfl⟩ (Ls_55 hB5.G.L) (by decide) ⟨Or.inl km_X10_394, kc_X10_peopleMany, kn_X10, kd_X10_peopleMany, ⟨(Nat.le_of_ble_eq_true rfl), (Nat.le_of_ble_eq_true rfl)⟩, ⟨(Nat.le_of_ble_eq_true rfl), (Nat.le_of_ble_eq_true rfl)⟩, (Nat.le_of_ble_eq_true rfl)⟩ ki_X10_peopleMany ks_X10_peopleMany rfl rfl (am_tab tk_X10_tellsLast 22 rfl) rfl ?_
        refine am_st (st2 := [am_i ((σ.2.1 85 5)), am_i ((i : Int))]) (by simp only [(show S5.2.1 85 5 = σ.2.1 85 5 from (hB5.1.2.2 85 5 (by unfold W_ah; omega)))]) ?_
        refine am_icmp_ge (q := 40) (t := 72) (am_tab tk_X10_tellsLast 23 rfl) (by decide) rfl (fun h37 => ?_) (fun h37 => ?_)
        · refine am_iconst (q := 73) (n := 0) (by decide) (am_tab tk_X10_tellsLast 44 rfl) rfl ?_
          refine am_iret (Or.inr ⟨rfl, by first | exact Or.inl rfl | exact Or.inr rfl | omega⟩) (Nat.le_of_ble_eq_true rfl) (Nat.le_of_ble_eq_true rfl) (am_tab tk_X10_tellsLast 45 rfl) ?_
          refine hQ _ _ ?_
          refine ⟨congrArg (fun z => some (am_i z)) ?_, hB5⟩
          unfold tlM
          rw [if_neg (by assumption), ← show i = pN σ by omega, hq]; rfl
        · refine am_iload_n (q := 41) rfl (am_tab tk_X10_tellsLast 24 rfl) rfl ?_
          refine am_iload (q := 43) rfl (am_tab tk_X10_tellsLast 25 rfl) rfl ?_
          refine am_ishr (q := 44) (am_tab tk_X10_tellsLast 26 rfl) rfl ?_
          refine am_iconst (q := 45) (n := 1) (by decide) (am_tab tk_X10_tellsLast 27 rfl) rfl ?_
          refine am_iand (q := 46) (am_tab tk_X10_tellsLast 28 rfl) rfl ?_
          refine am_iconst (q := 47) (n := 1) (by decide) (am_tab tk_X10_tellsLast 29 rfl) rfl ?_
          refine am_icmp_ne (q := 50) (t := 66) (am_tab tk_X10_tellsLast 30 rfl) (by decide) rfl (fun h47 => ?_) (fun h47 => ?_)
          · refine am_iinc (q := 69) rfl (by omega) (by decide) (ls2 := [(4, am_i (((i : Int) + 1))), (3, am_i ((ao_and (lvM σ) (ao_xor t (-1))))), (0, am_r 55), (1, am_i t), (2, am_i b)]) rfl (am_tab tk_X10_tellsLast 42 rfl) rfl ?_
            refine am_goto (t := 31) (am_tab tk_X10_tellsLast 43 rfl) (by decide) ?_
            rw [tb_eq (dif_tb hlv ht).1 ⟨by omega, by omega⟩] at h47
            have hgi : (fun p => decide (tb (ao_and (lvM σ) (ao_xor t (-1))) p = 1) && !(blM σ (ao_or t (ao_shl 1 (p : Int))) b)) i = false := by
              show (decide (tb (ao_and (lvM σ) (ao_xor t (-1))) (i : Int) = 1) && !(blM σ (ao_or t (ao_shl 1 (i : Int))) b)) = false
              simp [h47]
            exact am_less (by intro q hq; simp only [List.mem_cons, List.not_mem_nil, or_false] at hq; rcases hq with rfl | rfl | rfl | rfl | rfl <;> simp) (ih31 (i + 1) S5 (by omega) (by omega) hB5 (anyB_f hq hgi))
          · refine am_aload_n (q := 51) rfl (am_tab tk_X10_tellsLast 31 rfl) rfl ?_
            refine am_iload_n (q := 52) rfl (am_tab tk_X10_tellsLast 32 rfl) rfl ?_
            refine am_iconst (q := 53) (n := 1) (by decide) (am_tab tk_X10_tellsLast 33 rfl) rfl ?_
            refine am_iload (q := 55) rfl (am_tab tk_X10_tellsLast 34 rfl) rfl ?_
            refine am_ishl (q := 56) (am_tab tk_X10_tellsLast 35 rfl) rfl ?_
            refine am_ior (q := 57) (am_tab tk_X10_tellsLast 36 rfl) rfl ?_
            refine am_iload_n (q := 58) rfl (am_tab tk_X10_tellsLast 37 rfl) rfl ?_
            refine am_callVr (q := 61) (me2 := M_X10_bribesLast) (b := 55) (kb := 10) (nb := 108) (As := [am_i ((ao_or t (ao_shl 1 (i : Int)))), am_i b]) (rest := []) (c_X10_bribesLast σ hG S5 hB5 (ao_or t (ao_shl 1 (i : Int))) b (or_tb ht (shl_rng i (by omega))).1 hb) ⟨rfl, rfl⟩ (Ls_55 hB5.G.L) (by decide) ⟨Or.inl km_X10_537, kc_X10_bribesLast, kn_X10, kd_X10_bribesLast, ⟨(Nat.le_of_ble_eq_true rfl), (Nat.le_of_ble_eq_true rfl)⟩, ⟨(Nat.le_of_ble_eq_true rfl), (Nat.le_of_ble_eq_true rfl)⟩, (Nat.le_of_ble_eq_true rfl)⟩ ki_X10_bribesLast ks_X10_bribesLast rfl (am_tab tk_X10_tellsLast 38 rfl) rfl ?_
            rintro r T58 ⟨rfl, hT58⟩
            refine am_st (st2 := [am_i (b2i (blM σ (ao_or t (ao_shl 1 (i : Int))) b))]) rfl ?_
            refine am_if_ne (q := 64) (t := 66) (am_tab tk_X10_tellsLast 39 rfl) (by decide) rfl (fun h61 => ?_) (fun h61 => ?_)
            · refine am_iinc (q := 69) rfl (by omega) (by decide) (ls2 := [(4, am_i (((i : Int) + 1))), (3, am_i ((ao_and (lvM σ) (ao_xor t (-1))))), (0, am_r 55), (1, am_i t), (2, am_i b)]) rfl (am_tab tk_X10_tellsLast 42 rfl) rfl ?_
              refine am_goto (t := 31) (am_tab tk_X10_tellsLast 43 rfl) (by decide) ?_
              rw [tb_eq (dif_tb hlv ht).1 ⟨by omega, by omega⟩] at h47
              have hgi : (fun p => decide (tb (ao_and (lvM σ) (ao_xor t (-1))) p = 1) && !(blM σ (ao_or t (ao_shl 1 (p : Int))) b)) i = false := by
                show (decide (tb (ao_and (lvM σ) (ao_xor t (-1))) (i : Int) = 1) && !(blM σ (ao_or t (ao_shl 1 (i : Int))) b)) = false
                unfold b2i at *
                revert h61
                cases (blM σ (ao_or t (ao_shl 1 (i : Int))) b) <;> simp
              exact am_less (by intro q hq; simp only [List.mem_cons, List.not_mem_nil, or_false] at hq; rcases hq with rfl | rfl | rfl | rfl | rfl <;> simp) (ih31 (i + 1) T58 (by omega) (by omega) hT58 (anyB_f hq hgi))
            · refine am_iconst (q := 65) (n := 1) (by decide) (am_tab tk_X10_tellsLast 40 rfl) rfl ?_
              refine am_iret (Or.inr ⟨rfl, by first | exact Or.inl rfl | exact Or.inr rfl | omega⟩) (Nat.le_of_ble_eq_true rfl) (Nat.le_of_ble_eq_true rfl) (am_tab tk_X10_tellsLast 41 rfl) ?_
              refine hQ _ _ ?_
              refine ⟨congrArg (fun z => some (am_i z)) ?_, hT58⟩
              unfold tlM
              rw [if_neg (by assumption), anyB_t (g := (fun p => decide (tb (ao_and (lvM σ) (ao_xor t (-1))) p = 1) && !(blM σ (ao_or t (ao_shl 1 (p : Int))) b))) (i := i) ?_ (by omega)]; rfl
              rw [tb_eq (dif_tb hlv ht).1 ⟨by omega, by omega⟩] at h47
              unfold b2i at *
              revert h61
              cases (blM σ (ao_or t (ao_shl 1 (i : Int))) b) <;> simp [h47]
    refine am_less (by intro q hq; simp only [List.mem_cons, List.not_mem_nil, or_false] at hq; rcases hq with rfl | rfl | rfl | rfl | rfl <;> simp) (L31 (_ + 1) 0 S (by exact Nat.lt_succ_self _) (by omega) hB rfl)
  · refine am_aload_n (q := 14) rfl (am_tab tk_X10_tellsLast 9 rfl) rfl ?_
    refine am_iload_n (q := 15) rfl (am_tab tk_X10_tellsLast 10 rfl) rfl ?_
    refine am_iload_n (q := 16) rfl (am_tab tk_X10_tellsLast 11 rfl) rfl ?_
    refine am_callVr (q := 19) (me2 := M_X10_bribesLast) (b := 55) (kb := 10) (nb := 108) (As := [am_i t, am_i b]) (rest := []) (c_X10_bribesLast σ hG S hB t b ht hb) ⟨rfl, rfl⟩ (Ls_55 hL) (by decide) ⟨Or.inl km_X10_537, kc_X10_bribesLast, kn_X10, kd_X10_bribesLast, ⟨(Nat.le_of_ble_eq_true rfl), (Nat.le_of_ble_eq_true rfl)⟩, ⟨(Nat.le_of_ble_eq_true rfl), (Nat.le_of_ble_eq_true rfl)⟩, (Nat.le_of_ble_eq_true rfl)⟩ ki_X10_bribesLast ks_X10_bribesLast rfl (am_tab tk_X10_tellsLast 12 rfl) rfl ?_
    rintro r T16 ⟨rfl, hT16⟩
    refine am_st (st2 := [am_i (b2i (blM σ t b))]) rfl ?_
    refine am_if_ne (q := 22) (t := 26) (am_tab tk_X10_tellsLast 13 rfl) (by decide) rfl (fun h19 => ?_) (fun h19 => ?_)
    · refine am_iconst (q := 27) (n := 0) (by decide) (am_tab tk_X10_tellsLast 16 rfl) rfl ?_
      refine am_iret (Or.inr ⟨rfl, by first | exact Or.inl rfl | exact Or.inr rfl | omega⟩) (Nat.le_of_ble_eq_true rfl) (Nat.le_of_ble_eq_true rfl) (am_tab tk_X10_tellsLast 17 rfl) ?_
      refine hQ _ _ ?_
      refine ⟨congrArg (fun z => some (am_i z)) ?_, hT16⟩
      unfold tlM
      rw [if_pos (by assumption)]
      unfold b2i at *
      revert h19
      cases (blM σ t b) <;> simp
    · refine am_iconst (q := 23) (n := 1) (by decide) (am_tab tk_X10_tellsLast 14 rfl) rfl ?_
      refine am_goto (t := 27) (am_tab tk_X10_tellsLast 15 rfl) (by decide) ?_
      refine am_iret (Or.inr ⟨rfl, by first | exact Or.inl rfl | exact Or.inr rfl | omega⟩) (Nat.le_of_ble_eq_true rfl) (Nat.le_of_ble_eq_true rfl) (am_tab tk_X10_tellsLast 17 rfl) ?_
      refine hQ _ _ ?_
      refine ⟨congrArg (fun z => some (am_i z)) ?_, hT16⟩
      unfold tlM
      rw [if_pos (by assumption)]
      unfold b2i at *
      revert h19
      cases (blM σ t b) <;> simp
theorem c_X10_bribesFirst (σ : am_H) (hG : GD σ) (S : am_H) (hB : BG σ S) (t : Int) (ht : 0 ≤ t ∧ t < 256) : am_met M_X10_bribesFirst [am_r 55, am_i t] S (fun r σ' => r = some (am_i (b2i (bfM σ t))) ∧ BG σ σ') := by
  refine am_qq (fun Q hQ => ?_)
  refine am_enter (show plainFor yX10_bribesFirst = true by decide +kernel) rfl (Nat.le_of_ble_eq_true rfl) (fun _ _ _ => trivial) ?_
  have hL := hB.G.L
  have hlv := lvM_rng hG.R
  have hN := pN_eq hG.R
  have h8 := pN_8 hG.R
  have hz0 : (0 : Int) ≤ 0 ∧ (0 : Int) < 256 := by omega
  have hz1 := hz0
  refine am_aload_n (q := 1) rfl (am_tab tk_X10_bribesFirst 0 rfl) rfl ?_
  refine am_callV0 (q := 4) (me2 := M_X10_living) (b := 55) (kb := 10) (nb := 108) (As := []) (rest := []) (out := [am_i (lvM σ)]) (c_liv3 σ hG S hB) ⟨rfl, rfl⟩ (Ls_55 hL) (by decide) ⟨Or.inl km_X10_484, kc_X10_living, kn_X10, kd_X10_living, ⟨(Nat.le_of_ble_eq_true rfl), (Nat.le_of_ble_eq_true rfl)⟩, ⟨(Nat.le_of_ble_eq_true rfl), (Nat.le_of_ble_eq_true rfl)⟩, (Nat.le_of_ble_eq_true rfl)⟩ ki_X10_living ks_X10_living rfl rfl (am_tab tk_X10_bribesFirst 1 rfl) rfl ?_
  refine am_istore_n (q := 5) (by decide) (ls2 := [(2, am_i (lvM σ)), (0, am_r 55), (1, am_i t)]) rfl (am_tab tk_X10_bribesFirst 2 rfl) rfl ?_
  refine am_iload_n (q := 6) rfl (am_tab tk_X10_bribesFirst 3 rfl) rfl ?_
  refine am_if_ne (q := 9) (t := 24) (am_tab tk_X10_bribesFirst 4 rfl) (by decide) rfl (fun h6 => ?_) (fun h6 => ?_)
  · refine am_iconst (q := 25) (n := 0) (by decide) (am_tab tk_X10_bribesFirst 14 rfl) rfl ?_
    refine am_istore_n (q := 26) (by decide) (ls2 := [(3, am_i 0), (2, am_i (lvM σ)), (0, am_r 55), (1, am_i t)]) rfl (am_tab tk_X10_bribesFirst 15 rfl) rfl ?_
    have L26 : ∀ (n26 : Nat) (i : Nat) (S5 : am_H), pN σ - i < n26 → i ≤ pN σ → BG σ S5 → anyB (fun p => decide (tb (lvM σ) p = 1) && !(tlM σ t (ao_shl 1 (p : Int)))) i = false → am_wp M_X10_bribesFirst Q 0 0 26 [(3, am_i ((i : Int))), (2, am_i (lvM σ)), (0, am_r 55), (1, am_i t)] [] S5 := by
      intro n26
      induction n26 with
      | zero => intro i S5 hn26; exact absurd hn26 (Nat.not_lt_zero _)
      | succ n26 ih26 =>
        intro i S5 hn26 hi hB5 hq
        refine am_iload_n (q := 27) rfl (am_tab tk_X10_bribesFirst 16 rfl) rfl ?_
        refine am_aload_n (q := 28) rfl (am_tab tk_X10_bribesFirst 17 rfl) rfl ?_
        refine am_callV0 (q := 31) (me2 := M_X10_peopleMany) (b := 55) (kb := 10) (nb := 108) (As := []) (rest := [am_i ((i : Int))]) (out := [am_i (S5.2.1 85 5), am_i ((i : Int))]) (c_X10_peopleMany S5 hB5.G.L  ) ⟨rfl, rfl⟩ (Ls_55 hB5.G.L) (by decide) ⟨Or.inl km_X10_394, kc_X10_peopleMany, kn_X10, kd_X10_peopleMany, ⟨(Nat.le_of_ble_eq_true rfl), (Nat.le_of_ble_eq_true rfl)⟩, ⟨(Nat.le_of_ble_eq_true rfl), (Nat.le_of_ble_eq_true rfl)⟩, (Nat.le_of_ble_eq_true rfl)⟩ ki_X10_peopleMany ks_X10_peopleMany rfl rfl (am_tab tk_X10_bribesFirst 18 rfl) rfl ?_
        refine am_st (st2 := [am_i ((σ.2.1 85 5)), am_i ((i : Int))]) (by simp only [(show S5.2.1 85 5 = σ.2.1 85 5 from (hB5.1.2.2 85 5 (by unfold W_ah; omega)))]) ?_
        refine am_icmp_ge (q := 34) (t := 62) (am_tab tk_X10_bribesFirst 19 rfl) (by decide) rfl (fun h31 => ?_) (fun h31 => ?_)
        · refine am_iconst (q := 63) (n := 0) (by decide) (am_tab tk_X10_bribesFirst 38 rfl) rfl ?_
          refine am_iret (Or.inr ⟨rfl, by first | exact Or.inl rfl | exact Or.inr rfl | omega⟩) (Nat.le_of_ble_eq_true rfl) (Nat.le_of_ble_eq_true rfl) (am_tab tk_X10_bribesFirst 39 rfl) ?_
          refine hQ _ _ ?_
          refine ⟨congrArg (fun z => some (am_i z)) ?_, hB5⟩
          unfold bfM
          rw [if_neg (by assumption), ← show i = pN σ by omega, hq]; rfl
        · refine am_iload_n (q := 35) rfl (am_tab tk_X10_bribesFirst 20 rfl) rfl ?_
          refine am_iload_n (q := 36) rfl (am_tab tk_X10_bribesFirst 21 rfl) rfl ?_
          refine am_ishr (q := 37) (am_tab tk_X10_bribesFirst 22 rfl) rfl ?_
          refine am_iconst (q := 38) (n := 1) (by decide) (am_tab tk_X10_bribesFirst 23 rfl) rfl ?_
          refine am_iand (q := 39) (am_tab tk_X10_bribesFirst 24 rfl) rfl ?_
          refine am_iconst (q := 40) (n := 1) (by decide) (am_tab tk_X10_bribesFirst 25 rfl) rfl ?_
          refine am_icmp_ne (q := 43) (t := 56) (am_tab tk_X10_bribesFirst 26 rfl) (by decide) rfl (fun h40 => ?_) (fun h40 => ?_)
          · refine am_iinc (q := 59) rfl (by omega) (by decide) (ls2 := [(3, am_i (((i : Int) + 1))), (2, am_i (lvM σ)), (0, am_r 55), (1, am_i t)]) rfl (am_tab tk_X10_bribesFirst 36 rfl) rfl ?_
            refine am_goto (t := 26) (am_tab tk_X10_bribesFirst 37 rfl) (by decide) ?_
            rw [tb_eq hlv ⟨by omega, by omega⟩] at h40
            have hgi : (fun p => decide (tb (lvM σ) p = 1) && !(tlM σ t (ao_shl 1 (p : Int)))) i = false := by
              show (decide (tb (lvM σ) (i : Int) = 1) && !(tlM σ t (ao_shl 1 (i : Int)))) = false
              simp [h40]
            exact am_less (by intro q hq; simp only [List.mem_cons, List.not_mem_nil, or_false] at hq; rcases hq with rfl | rfl | rfl | rfl <;> simp) (ih26 (i + 1) S5 (by omega) (by omega) hB5 (anyB_f hq hgi))
          · refine am_aload_n (q := 44) rfl (am_tab tk_X10_bribesFirst 27 rfl) rfl ?_
            refine am_iload_n (q := 45) rfl (am_tab tk_X10_bribesFirst 28 rfl) rfl ?_
            refine am_iconst (q := 46) (n := 1) (by decide) (am_tab tk_X10_bribesFirst 29 rfl) rfl ?_
            refine am_iload_n (q := 47) rfl (am_tab tk_X10_bribesFirst 30 rfl) rfl ?_
            refine am_ishl (q := 48) (am_tab tk_X10_bribesFirst 31 rfl) rfl ?_
            refine am_callVr (q := 51) (me2 := M_X10_tellsLast) (b := 55) (kb := 10) (nb := 108) (As := [am_i t, am_i ((ao_shl 1 (i : Int)))]) (rest := []) (c_X10_tellsLast σ hG S5 hB5 t (ao_shl 1 (i : Int)) ht (shl_rng i (by omega))) ⟨rfl, rfl⟩ (Ls_55 hB5.G.L) (by decide) ⟨Or.inl km_X10_540, kc_X10_tellsLast, kn_X10, kd_X10_tellsLast, ⟨(Nat.le_of_ble_eq_true rfl), (Nat.le_of_ble_eq_true rfl)⟩, ⟨(Nat.le_of_ble_eq_true rfl), (Nat.le_of_ble_eq_true rfl)⟩, (Nat.le_of_ble_eq_true rfl)⟩ ki_X10_tellsLast ks_X10_tellsLast rfl (am_tab tk_X10_bribesFirst 32 rfl) rfl ?_
            rintro r T48 ⟨rfl, hT48⟩
            refine am_st (st2 := [am_i (b2i (tlM σ t (ao_shl 1 (i : Int))))]) rfl ?_
            refine am_if_ne (q := 54) (t := 56) (am_tab tk_X10_bribesFirst 33 rfl) (by decide) rfl (fun h51 => ?_) (fun h51 => ?_)
            · refine am_iinc (q := 59) rfl (by omega) (by decide) (ls2 := [(3, am_i (((i : Int) + 1))), (2, am_i (lvM σ)), (0, am_r 55), (1, am_i t)]) rfl (am_tab tk_X10_bribesFirst 36 rfl) rfl ?_
              refine am_goto (t := 26) (am_tab tk_X10_bribesFirst 37 rfl) (by decide) ?_
              rw [tb_eq hlv ⟨by omega, by omega⟩] at h40
              have hgi : (fun p => decide (tb (lvM σ) p = 1) && !(tlM σ t (ao_shl 1 (p : Int)))) i = false := by
                show (decide (tb (lvM σ) (i : Int) = 1) && !(tlM σ t (ao_shl 1 (i : Int)))) = false
                unfold b2i at *
                revert h51
                cases (tlM σ t (ao_shl 1 (i : Int))) <;> simp
              exact am_less (by intro q hq; simp only [List.mem_cons, List.not_mem_nil, or_false] at hq; rcases hq with rfl | rfl | rfl | rfl <;> simp) (ih26 (i + 1) T48 (by omega) (by omega) hT48 (anyB_f hq hgi))
            · refine am_iconst (q := 55) (n := 1) (by decide) (am_tab tk_X10_bribesFirst 34 rfl) rfl ?_
              refine am_iret (Or.inr ⟨rfl, by first | exact Or.inl rfl | exact Or.inr rfl | omega⟩) (Nat.le_of_ble_eq_true rfl) (Nat.le_of_ble_eq_true rfl) (am_tab tk_X10_bribesFirst 35 rfl) ?_
              refine hQ _ _ ?_
              refine ⟨congrArg (fun z => some (am_i z)) ?_, hT48⟩
              unfold bfM
              rw [if_neg (by assumption), anyB_t (g := (fun p => decide (tb (lvM σ) p = 1) && !(tlM σ t (ao_shl 1 (p : Int))))) (i := i) ?_ (by omega)]; rfl
              rw [tb_eq hlv ⟨by omega, by omega⟩] at h40
              unfold b2i at *
              revert h51
              cases (tlM σ t (ao_shl 1 (i : Int))) <;> simp [h40]
    refine am_less (by intro q hq; simp only [List.mem_cons, List.not_mem_nil, or_false] at hq; rcases hq with rfl | rfl | rfl | rfl <;> simp) (L26 (_ + 1) 0 S (by exact Nat.lt_succ_self _) (by omega) hB rfl)
  · refine am_aload_n (q := 10) rfl (am_tab tk_X10_bribesFirst 5 rfl) rfl ?_
    refine am_iload_n (q := 11) rfl (am_tab tk_X10_bribesFirst 6 rfl) rfl ?_
    refine am_iconst (q := 12) (n := 0) (by decide) (am_tab tk_X10_bribesFirst 7 rfl) rfl ?_
    refine am_callVr (q := 15) (me2 := M_X10_tellsLast) (b := 55) (kb := 10) (nb := 108) (As := [am_i t, am_i 0]) (rest := []) (c_X10_tellsLast σ hG S hB t 0 ht hz1) ⟨rfl, rfl⟩ (Ls_55 hL) (by decide) ⟨Or.inl km_X10_540, kc_X10_tellsLast, kn_X10, kd_X10_tellsLast, ⟨(Nat.le_of_ble_eq_true rfl), (Nat.le_of_ble_eq_true rfl)⟩, ⟨(Nat.le_of_ble_eq_true rfl), (Nat.le_of_ble_eq_true rfl)⟩, (Nat.le_of_ble_eq_true rfl)⟩ ki_X10_tellsLast ks_X10_tellsLast rfl (am_tab tk_X10_bribesFirst 8 rfl) rfl ?_
    rintro r T12 ⟨rfl, hT12⟩
    refine am_st (st2 := [am_i (b2i (tlM σ t 0))]) rfl ?_
    refine am_if_ne (q := 18) (t := 22) (am_tab tk_X10_bribesFirst 9 rfl) (by decide) rfl (fun h15 => ?_) (fun h15 => ?_)
    · refine am_iconst (q := 23) (n := 0) (by decide) (am_tab tk_X10_bribesFirst 12 rfl) rfl ?_
      refine am_iret (Or.inr ⟨rfl, by first | exact Or.inl rfl | exact Or.inr rfl | omega⟩) (Nat.le_of_ble_eq_true rfl) (Nat.le_of_ble_eq_true rfl) (am_tab tk_X10_bribesFirst 13 rfl) ?_
      refine hQ _ _ ?_
      refine ⟨congrArg (fun z => some (am_i z)) ?_, hT12⟩
      unfold bfM
      rw [if_pos (by assumption)]
      unfold b2i at *
      revert h15
      cases (tlM σ t 0) <;> simp
    · refine am_iconst (q := 19) (n := 1) (by decide) (am_tab tk_X10_bribesFirst 10 rfl) rfl ?_
      refine am_goto (t := 23) (am_tab tk_X10_bribesFirst 11 rfl) (by decide) ?_
      refine am_iret (Or.inr ⟨rfl, by first | exact Or.inl rfl | exact Or.inr rfl | omega⟩) (Nat.le_of_ble_eq_true rfl) (Nat.le_of_ble_eq_true rfl) (am_tab tk_X10_bribesFirst 13 rfl) ?_
      refine hQ _ _ ?_
      refine ⟨congrArg (fun z => some (am_i z)) ?_, hT12⟩
      unfold bfM
      rw [if_pos (by assumption)]
      unfold b2i at *
      revert h15
      cases (tlM σ t 0) <;> simp
theorem c_X10_tellsFirst (σ : am_H) (hG : GD σ) (S : am_H) (hB : BG σ S)   : am_met M_X10_tellsFirst [am_r 55] S (fun r σ' => r = some (am_i (b2i (tfM σ))) ∧ BG σ σ') := by
  refine am_qq (fun Q hQ => ?_)
  refine am_enter (show plainFor yX10_tellsFirst = true by decide +kernel) rfl (Nat.le_of_ble_eq_true rfl) (fun _ _ _ => trivial) ?_
  have hL := hB.G.L
  have hlv := lvM_rng hG.R
  have hN := pN_eq hG.R
  have h8 := pN_8 hG.R
  have hz0 : (0 : Int) ≤ 0 ∧ (0 : Int) < 256 := by omega
  have hz1 := hz0
  refine am_aload_n (q := 1) rfl (am_tab tk_X10_tellsFirst 0 rfl) rfl ?_
  refine am_callV0 (q := 4) (me2 := M_X10_living) (b := 55) (kb := 10) (nb := 108) (As := []) (rest := []) (out := [am_i (lvM σ)]) (c_liv3 σ hG S hB) ⟨rfl, rfl⟩ (Ls_55 hL) (by decide) ⟨Or.inl km_X10_484, kc_X10_living, kn_X10, kd_X10_living, ⟨(Nat.le_of_ble_eq_true rfl), (Nat.le_of_ble_eq_true rfl)⟩, ⟨(Nat.le_of_ble_eq_true rfl), (Nat.le_of_ble_eq_true rfl)⟩, (Nat.le_of_ble_eq_true rfl)⟩ ki_X10_living ks_X10_living rfl rfl (am_tab tk_X10_tellsFirst 1 rfl) rfl ?_
  refine am_istore_n (q := 5) (by decide) (ls2 := [(1, am_i (lvM σ)), (0, am_r 55)]) rfl (am_tab tk_X10_tellsFirst 2 rfl) rfl ?_
  refine am_iload_n (q := 6) rfl (am_tab tk_X10_tellsFirst 3 rfl) rfl ?_
  refine am_if_ne (q := 9) (t := 23) (am_tab tk_X10_tellsFirst 4 rfl) (by decide) rfl (fun h6 => ?_) (fun h6 => ?_)
  · refine am_iconst (q := 24) (n := 0) (by decide) (am_tab tk_X10_tellsFirst 13 rfl) rfl ?_
    refine am_istore_n (q := 25) (by decide) (ls2 := [(2, am_i 0), (1, am_i (lvM σ)), (0, am_r 55)]) rfl (am_tab tk_X10_tellsFirst 14 rfl) rfl ?_
    have L25 : ∀ (n25 : Nat) (i : Nat) (S5 : am_H), pN σ - i < n25 → i ≤ pN σ → BG σ S5 → anyB (fun p => decide (tb (lvM σ) p = 1) && !(bfM σ (ao_shl 1 (p : Int)))) i = false → am_wp M_X10_tellsFirst Q 0 0 25 [(2, am_i ((i : Int))), (1, am_i (lvM σ)), (0, am_r 55)] [] S5 := by
      intro n25
      induction n25 with
      | zero => intro i S5 hn25; exact absurd hn25 (Nat.not_lt_zero _)
      | succ n25 ih25 =>
        intro i S5 hn25 hi hB5 hq
        refine am_iload_n (q := 26) rfl (am_tab tk_X10_tellsFirst 15 rfl) rfl ?_
        refine am_aload_n (q := 27) rfl (am_tab tk_X10_tellsFirst 16 rfl) rfl ?_
        refine am_callV0 (q := 30) (me2 := M_X10_peopleMany) (b := 55) (kb := 10) (nb := 108) (As := []) (rest := [am_i ((i : Int))]) (out := [am_i (S5.2.1 85 5), am_i ((i : Int))]) (c_X10_peopleMany S5 hB5.G.L  ) ⟨rfl, rfl⟩ (Ls_55 hB5.G.L) (by decide) ⟨Or.inl km_X10_394, kc_X10_peopleMany, kn_X10, kd_X10_peopleMany, ⟨(Nat.le_of_ble_eq_true rfl), (Nat.le_of_ble_eq_true rfl)⟩, ⟨(Nat.le_of_ble_eq_true rfl), (Nat.le_of_ble_eq_true rfl)⟩, (Nat.le_of_ble_eq_true rfl)⟩ ki_X10_peopleMany ks_X10_peopleMany rfl rfl (am_tab tk_X10_tellsFirst 17 rfl) rfl ?_
        refine am_st (st2 := [am_i ((σ.2.1 85 5)), am_i ((i : Int))]) (by simp only [(show S5.2.1 85 5 = σ.2.1 85 5 from (hB5.1.2.2 85 5 (by unfold W_ah; omega)))]) ?_
        refine am_icmp_ge (q := 33) (t := 60) (am_tab tk_X10_tellsFirst 18 rfl) (by decide) rfl (fun h30 => ?_) (fun h30 => ?_)
        · refine am_iconst (q := 61) (n := 0) (by decide) (am_tab tk_X10_tellsFirst 36 rfl) rfl ?_
          refine am_iret (Or.inr ⟨rfl, by first | exact Or.inl rfl | exact Or.inr rfl | omega⟩) (Nat.le_of_ble_eq_true rfl) (Nat.le_of_ble_eq_true rfl) (am_tab tk_X10_tellsFirst 37 rfl) ?_
          refine hQ _ _ ?_
          refine ⟨congrArg (fun z => some (am_i z)) ?_, hB5⟩
          unfold tfM
          rw [if_neg (by assumption), ← show i = pN σ by omega, hq]; rfl
        · refine am_iload_n (q := 34) rfl (am_tab tk_X10_tellsFirst 19 rfl) rfl ?_
          refine am_iload_n (q := 35) rfl (am_tab tk_X10_tellsFirst 20 rfl) rfl ?_
          refine am_ishr (q := 36) (am_tab tk_X10_tellsFirst 21 rfl) rfl ?_
          refine am_iconst (q := 37) (n := 1) (by decide) (am_tab tk_X10_tellsFirst 22 rfl) rfl ?_
          refine am_iand (q := 38) (am_tab tk_X10_tellsFirst 23 rfl) rfl ?_
          refine am_iconst (q := 39) (n := 1) (by decide) (am_tab tk_X10_tellsFirst 24 rfl) rfl ?_
          refine am_icmp_ne (q := 42) (t := 54) (am_tab tk_X10_tellsFirst 25 rfl) (by decide) rfl (fun h39 => ?_) (fun h39 => ?_)
          · refine am_iinc (q := 57) rfl (by omega) (by decide) (ls2 := [(2, am_i (((i : Int) + 1))), (1, am_i (lvM σ)), (0, am_r 55)]) rfl (am_tab tk_X10_tellsFirst 34 rfl) rfl ?_
            refine am_goto (t := 25) (am_tab tk_X10_tellsFirst 35 rfl) (by decide) ?_
            rw [tb_eq hlv ⟨by omega, by omega⟩] at h39
            have hgi : (fun p => decide (tb (lvM σ) p = 1) && !(bfM σ (ao_shl 1 (p : Int)))) i = false := by
              show (decide (tb (lvM σ) (i : Int) = 1) && !(bfM σ (ao_shl 1 (i : Int)))) = false
              simp [h39]
            exact am_less (by intro q hq; simp only [List.mem_cons, List.not_mem_nil, or_false] at hq; rcases hq with rfl | rfl | rfl <;> simp) (ih25 (i + 1) S5 (by omega) (by omega) hB5 (anyB_f hq hgi))
          · refine am_aload_n (q := 43) rfl (am_tab tk_X10_tellsFirst 26 rfl) rfl ?_
            refine am_iconst (q := 44) (n := 1) (by decide) (am_tab tk_X10_tellsFirst 27 rfl) rfl ?_
            refine am_iload_n (q := 45) rfl (am_tab tk_X10_tellsFirst 28 rfl) rfl ?_
            refine am_ishl (q := 46) (am_tab tk_X10_tellsFirst 29 rfl) rfl ?_
            refine am_callVr (q := 49) (me2 := M_X10_bribesFirst) (b := 55) (kb := 10) (nb := 108) (As := [am_i ((ao_shl 1 (i : Int)))]) (rest := []) (c_X10_bribesFirst σ hG S5 hB5 (ao_shl 1 (i : Int)) (shl_rng i (by omega))) ⟨rfl, rfl⟩ (Ls_55 hB5.G.L) (by decide) ⟨Or.inl km_X10_543, kc_X10_bribesFirst, kn_X10, kd_X10_bribesFirst, ⟨(Nat.le_of_ble_eq_true rfl), (Nat.le_of_ble_eq_true rfl)⟩, ⟨(Nat.le_of_ble_eq_true rfl), (Nat.le_of_ble_eq_true rfl)⟩, (Nat.le_of_ble_eq_true rfl)⟩ ki_X10_bribesFirst ks_X10_bribesFirst rfl (am_tab tk_X10_tellsFirst 30 rfl) rfl ?_
            rintro r T46 ⟨rfl, hT46⟩
            refine am_st (st2 := [am_i (b2i (bfM σ (ao_shl 1 (i : Int))))]) rfl ?_
            refine am_if_ne (q := 52) (t := 54) (am_tab tk_X10_tellsFirst 31 rfl) (by decide) rfl (fun h49 => ?_) (fun h49 => ?_)
            · refine am_iinc (q := 57) rfl (by omega) (by decide) (ls2 := [(2, am_i (((i : Int) + 1))), (1, am_i (lvM σ)), (0, am_r 55)]) rfl (am_tab tk_X10_tellsFirst 34 rfl) rfl ?_
              refine am_goto (t := 25) (am_tab tk_X10_tellsFirst 35 rfl) (by decide) ?_
              rw [tb_eq hlv ⟨by omega, by omega⟩] at h39
              have hgi : (fun p => decide (tb (lvM σ) p = 1) && !(bfM σ (ao_shl 1 (p : Int)))) i = false := by
                show (decide (tb (lvM σ) (i : Int) = 1) && !(bfM σ (ao_shl 1 (i : Int)))) = false
                unfold b2i at *
                revert h49
                cases (bfM σ (ao_shl 1 (i : Int))) <;> simp
              exact am_less (by intro q hq; simp only [List.mem_cons, List.not_mem_nil, or_false] at hq; rcases hq with rfl | rfl | rfl <;> simp) (ih25 (i + 1) T46 (by omega) (by omega) hT46 (anyB_f hq hgi))
            · refine am_iconst (q := 53) (n := 1) (by decide) (am_tab tk_X10_tellsFirst 32 rfl) rfl ?_
              refine am_iret (Or.inr ⟨rfl, by first | exact Or.inl rfl | exact Or.inr rfl | omega⟩) (Nat.le_of_ble_eq_true rfl) (Nat.le_of_ble_eq_true rfl) (am_tab tk_X10_tellsFirst 33 rfl) ?_
              refine hQ _ _ ?_
              refine ⟨congrArg (fun z => some (am_i z)) ?_, hT46⟩
              unfold tfM
              rw [if_neg (by assumption), anyB_t (g := (fun p => decide (tb (lvM σ) p = 1) && !(bfM σ (ao_shl 1 (p : Int))))) (i := i) ?_ (by omega)]; rfl
              rw [tb_eq hlv ⟨by omega, by omega⟩] at h39
              unfold b2i at *
              revert h49
              cases (bfM σ (ao_shl 1 (i : Int))) <;> simp [h39]
    refine am_less (by intro q hq; simp only [List.mem_cons, List.not_mem_nil, or_false] at hq; rcases hq with rfl | rfl | rfl <;> simp) (L25 (_ + 1) 0 S (by exact Nat.lt_succ_self _) (by omega) hB rfl)
  · refine am_aload_n (q := 10) rfl (am_tab tk_X10_tellsFirst 5 rfl) rfl ?_
    refine am_iconst (q := 11) (n := 0) (by decide) (am_tab tk_X10_tellsFirst 6 rfl) rfl ?_
    refine am_callVr (q := 14) (me2 := M_X10_bribesFirst) (b := 55) (kb := 10) (nb := 108) (As := [am_i 0]) (rest := []) (c_X10_bribesFirst σ hG S hB 0 hz0) ⟨rfl, rfl⟩ (Ls_55 hL) (by decide) ⟨Or.inl km_X10_543, kc_X10_bribesFirst, kn_X10, kd_X10_bribesFirst, ⟨(Nat.le_of_ble_eq_true rfl), (Nat.le_of_ble_eq_true rfl)⟩, ⟨(Nat.le_of_ble_eq_true rfl), (Nat.le_of_ble_eq_true rfl)⟩, (Nat.le_of_ble_eq_true rfl)⟩ ki_X10_bribesFirst ks_X10_bribesFirst rfl (am_tab tk_X10_tellsFirst 7 rfl) rfl ?_
    rintro r T11 ⟨rfl, hT11⟩
    refine am_st (st2 := [am_i (b2i (bfM σ 0))]) rfl ?_
    refine am_if_ne (q := 17) (t := 21) (am_tab tk_X10_tellsFirst 8 rfl) (by decide) rfl (fun h14 => ?_) (fun h14 => ?_)
    · refine am_iconst (q := 22) (n := 0) (by decide) (am_tab tk_X10_tellsFirst 11 rfl) rfl ?_
      refine am_iret (Or.inr ⟨rfl, by first | exact Or.inl rfl | exact Or.inr rfl | omega⟩) (Nat.le_of_ble_eq_true rfl) (Nat.le_of_ble_eq_true rfl) (am_tab tk_X10_tellsFirst 12 rfl) ?_
      refine hQ _ _ ?_
      refine ⟨congrArg (fun z => some (am_i z)) ?_, hT11⟩
      unfold tfM
      rw [if_pos (by assumption)]
      unfold b2i at *
      revert h14
      cases (bfM σ 0) <;> simp
    · refine am_iconst (q := 18) (n := 1) (by decide) (am_tab tk_X10_tellsFirst 9 rfl) rfl ?_
      refine am_goto (t := 22) (am_tab tk_X10_tellsFirst 10 rfl) (by decide) ?_
      refine am_iret (Or.inr ⟨rfl, by first | exact Or.inl rfl | exact Or.inr rfl | omega⟩) (Nat.le_of_ble_eq_true rfl) (Nat.le_of_ble_eq_true rfl) (am_tab tk_X10_tellsFirst 12 rfl) ?_
      refine hQ _ _ ?_
      refine ⟨congrArg (fun z => some (am_i z)) ?_, hT11⟩
      unfold tfM
      rw [if_pos (by assumption)]
      unfold b2i at *
      revert h14
      cases (bfM σ 0) <;> simp
