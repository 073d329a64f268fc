theorem dl_rng {σ : am_H} (hR : MR σ) : 0 ≤ dlM σ ∧ dlM σ ≤ 100000 := by
  have h1 := dl_mul hR.year hR.Y
  have h2 := hR.day
  have h3 := hR.Y
  unfold dlM
  split <;> omega
/-- is a day ahead what is looked for -/
def fgB (σ : am_H) (w : Int) (i : Nat) : Bool := decide (if w = 0 then fsD (itS i σ) = 1 else bc (thD (itS i σ)) = 1)
def firM (σ : am_H) (w : Int) : Int := if 0 ≤ w ∧ w ≤ 1 then (if firstQ (fgB σ w) (min 120 (dlM σ)).toNat = -1 then -1 else firstQ (fgB σ w) (min 120 (dlM σ)).toNat + 1) else -1
theorem fir_no {σ : am_H} {w : Int} {i : Nat} (h : anyB (fgB σ w) i = false) (hi : i = (min 120 (dlM σ)).toNat) (hw : 0 ≤ w ∧ w ≤ 1) : firM σ w = -1 := by
  unfold firM
  rw [if_pos hw, ← hi, firstQ_none h, if_pos rfl]
theorem fir_at {σ : am_H} {w : Int} {j : Nat} (hg : fgB σ w j = true) (h : anyB (fgB σ w) j = false) (hj : j < (min 120 (dlM σ)).toNat) (hw : 0 ≤ w ∧ w ≤ 1) : firM σ w = j + 1 := by
  unfold firM
  rw [if_pos hw, firstQ_at hg h hj, if_neg (by omega)]
theorem c_X10_first (σ : am_H) (hG : GD σ) (w : Int)  : am_met M_X10_first [am_r 55, am_i w] σ (fun r σ' => r = some (am_i (firM σ w)) ∧ PQ σ σ') := by
  refine am_qq (fun Q hQ => ?_)
  refine am_enter (show plainFor yX10_first = true by decide +kernel) rfl (Nat.le_of_ble_eq_true rfl) (fun _ _ _ => trivial) ?_
  have hL := hG.L
  have hD90 : 0 ≤ σ.2.1 96 1 ∧ σ.2.1 96 1 ≤ 90 := ⟨hG.R.day.1, by have := hG.R.day; have := hG.R.Y; omega⟩
  refine am_iload_n (q := 1) rfl (am_tab tk_X10_first 0 rfl) rfl ?_
  refine am_i2l (q := 2) (am_tab tk_X10_first 1 rfl) rfl ?_
  refine am_lconst0 (q := 3) (am_tab tk_X10_first 2 rfl) rfl ?_
  refine am_lconst1 (q := 4) (am_tab tk_X10_first 3 rfl) rfl ?_
  refine am_callS0 (q := 7) (me2 := M_X10_isIn) (As := [am_l w, am_l 0, am_l 1]) (rest := []) (out := [am_i (if 0 ≤ w ∧ w ≤ 1 then 1 else 0)]) (c_X10_isIn σ hL w 0 1 ) ⟨rfl, rfl⟩ ⟨Or.inl km_X10_291, kc_X10_isIn, kn_X10, kd_X10_isIn, ⟨(Nat.le_of_ble_eq_true rfl), (Nat.le_of_ble_eq_true rfl)⟩, ⟨(Nat.le_of_ble_eq_true rfl), (Nat.le_of_ble_eq_true rfl)⟩, (Nat.le_of_ble_eq_true rfl)⟩ ki_X10_isIn rfl rfl (am_tab tk_X10_first 4 rfl) rfl ?_
  refine am_if_ne (q := 10) (t := 12) (am_tab tk_X10_first 5 rfl) (by decide) rfl (fun h7 => ?_) (fun h7 => ?_)
  · replace h7 := b01n h7
    refine am_aload_n (q := 13) rfl (am_tab tk_X10_first 8 rfl) rfl ?_
    refine am_callV0 (q := 16) (me2 := M_X10_daysLeft) (b := 55) (kb := 10) (nb := 108) (As := []) (rest := []) (out := [am_i (dlM σ)]) (c_X10_daysLeft σ hG.L hG.R.year hD90 hG.R.Y) ⟨rfl, rfl⟩ (Ls_55 hL) (by decide) ⟨Or.inl km_X10_481, kc_X10_daysLeft, kn_X10, kd_X10_daysLeft, ⟨(Nat.le_of_ble_eq_true rfl), (Nat.le_of_ble_eq_true rfl)⟩, ⟨(Nat.le_of_ble_eq_true rfl), (Nat.le_of_ble_eq_true rfl)⟩, (Nat.le_of_ble_eq_true rfl)⟩ ki_X10_daysLeft ks_X10_daysLeft rfl rfl (am_tab tk_X10_first 9 rfl) rfl ?_
    refine am_istore_n (q := 17) (by decide) (ls2 := [(2, am_i (dlM σ)), (0, am_r 55), (1, am_i w)]) rfl (am_tab tk_X10_first 10 rfl) rfl ?_
    refine am_iconst (q := 18) (n := (-1)) (by decide) (am_tab tk_X10_first 11 rfl) rfl ?_
    refine am_istore_n (q := 19) (by decide) (ls2 := [(3, am_i ((-1))), (2, am_i (dlM σ)), (0, am_r 55), (1, am_i w)]) rfl (am_tab tk_X10_first 12 rfl) rfl ?_
    refine am_aload_n (q := 20) rfl (am_tab tk_X10_first 13 rfl) rfl ?_
    refine am_callVr (q := 23) (me2 := M_X10_putsAside) (b := 55) (kb := 10) (nb := 108) (As := []) (rest := []) (c_aside σ hG) ⟨rfl, rfl⟩ (Ls_55 hL) (by decide) ⟨Or.inl km_X10_514, kc_X10_putsAside, kn_X10, kd_X10_putsAside, ⟨(Nat.le_of_ble_eq_true rfl), (Nat.le_of_ble_eq_true rfl)⟩, ⟨(Nat.le_of_ble_eq_true rfl), (Nat.le_of_ble_eq_true rfl)⟩, (Nat.le_of_ble_eq_true rfl)⟩ ki_X10_putsAside ks_X10_putsAside rfl (am_tab tk_X10_first 14 rfl) rfl ?_
    rintro r S0 ⟨rfl, hD0⟩
    refine am_st (st2 := []) rfl ?_
    refine am_iconst (q := 24) (n := 1) (by decide) (am_tab tk_X10_first 15 rfl) rfl ?_
    refine am_istore (q := 26) (by decide) (ls2 := [(4, am_i 1), (3, am_i ((-1))), (2, am_i (dlM σ)), (0, am_r 55), (1, am_i w)]) rfl (am_tab tk_X10_first 16 rfl) rfl ?_
    have hdl : 0 ≤ dlM σ ∧ dlM σ ≤ 100000 := dl_rng hG.R
    have L26 : ∀ (n26 : Nat) (i : Nat) (S : am_H) (fo : Int), 200 - i < n26 → i ≤ 120 → (i : Int) ≤ dlM σ → DS σ i S → ((fo = -1 ∧ anyB (fgB σ w) i = false) ∨ (1 ≤ i ∧ fo = i ∧ fgB σ w (i - 1) = true ∧ anyB (fgB σ w) (i - 1) = false)) → am_wp M_X10_first Q 0 0 26 [(4, am_i (((i : Int) + 1))), (3, am_i fo), (2, am_i (dlM σ)), (0, am_r 55), (1, am_i w)] [] S := by
      intro n26
      induction n26 with
      | zero => intro i S fo hn26; exact absurd hn26 (Nat.not_lt_zero _)
      | succ n26 ih26 =>
        intro i S fo hn26 hi hil hD hfo
        refine am_iload (q := 28) rfl (am_tab tk_X10_first 17 rfl) rfl ?_
        refine am_bipush (q := 30) (n := 120) (by decide) rfl (am_tab tk_X10_first 18 rfl) rfl ?_
        refine am_icmp_gt (q := 33) (t := 82) (am_tab tk_X10_first 19 rfl) (by decide) rfl (fun h30 => ?_) (fun h30 => ?_)
        · refine am_aload_n (q := 83) rfl (am_tab tk_X10_first 43 rfl) rfl ?_
          refine am_callVr (q := 86) (me2 := M_X10_takesBack) (b := 55) (kb := 10) (nb := 108) (As := []) (rest := []) (c_back σ hG (i) (by omega) S hD) ⟨rfl, rfl⟩ (Ls_55 hD.2.2.1.L) (by decide) ⟨Or.inl km_X10_520, kc_X10_takesBack, kn_X10, kd_X10_takesBack, ⟨(Nat.le_of_ble_eq_true rfl), (Nat.le_of_ble_eq_true rfl)⟩, ⟨(Nat.le_of_ble_eq_true rfl), (Nat.le_of_ble_eq_true rfl)⟩, (Nat.le_of_ble_eq_true rfl)⟩ ki_X10_takesBack ks_X10_takesBack rfl (am_tab tk_X10_first 44 rfl) rfl ?_
          rintro r S9 ⟨rfl, hP9⟩
          refine am_st (st2 := []) rfl ?_
          refine am_iload_n (q := 87) rfl (am_tab tk_X10_first 45 rfl) rfl ?_
          refine am_iret (Or.inl rfl) (Nat.le_of_ble_eq_true rfl) (Nat.le_of_ble_eq_true rfl) (am_tab tk_X10_first 46 rfl) ?_
          refine hQ _ _ ?_
          refine ⟨congrArg (fun z => some (am_i z)) ?_, hP9⟩
          rcases hfo with ⟨h1, h2⟩ | ⟨h1, h2, h3, h4⟩
          · rw [h1, fir_no h2 (by omega) h7]
          · rw [h2, fir_at h3 h4 (by omega) h7]; omega
        · refine am_iload (q := 35) rfl (am_tab tk_X10_first 20 rfl) rfl ?_
          refine am_iload_n (q := 36) rfl (am_tab tk_X10_first 21 rfl) rfl ?_
          refine am_icmp_gt (q := 39) (t := 82) (am_tab tk_X10_first 22 rfl) (by decide) rfl (fun h36 => ?_) (fun h36 => ?_)
          · refine am_aload_n (q := 83) rfl (am_tab tk_X10_first 43 rfl) rfl ?_
            refine am_callVr (q := 86) (me2 := M_X10_takesBack) (b := 55) (kb := 10) (nb := 108) (As := []) (rest := []) (c_back σ hG (i) (by omega) S hD) ⟨rfl, rfl⟩ (Ls_55 hD.2.2.1.L) (by decide) ⟨Or.inl km_X10_520, kc_X10_takesBack, kn_X10, kd_X10_takesBack, ⟨(Nat.le_of_ble_eq_true rfl), (Nat.le_of_ble_eq_true rfl)⟩, ⟨(Nat.le_of_ble_eq_true rfl), (Nat.le_of_ble_eq_true rfl)⟩, (Nat.le_of_ble_eq_true rfl)⟩ ki_X10_takesBack ks_X10_takesBack rfl (am_tab tk_X10_first 44 rfl) rfl ?_
            rintro r S9 ⟨rfl, hP9⟩
            refine am_st (st2 := []) rfl ?_
            refine am_iload_n (q := 87) rfl (am_tab tk_X10_first 45 rfl) rfl ?_
            refine am_iret (Or.inl rfl) (Nat.le_of_ble_eq_true rfl) (Nat.le_of_ble_eq_true rfl) (am_tab tk_X10_first 46 rfl) ?_
            refine hQ _ _ ?_
            refine ⟨congrArg (fun z => some (am_i z)) ?_, hP9⟩
            rcases hfo with ⟨h1, h2⟩ | ⟨h1, h2, h3, h4⟩
            · rw [h1, fir_no h2 (by omega) h7]
            · rw [h2, fir_at h3 h4 (by omega) h7]; omega
          · refine am_iload_n (q := 40) rfl (am_tab tk_X10_first 23 rfl) rfl ?_
            refine am_iconst (q := 41) (n := (-1)) (by decide) (am_tab tk_X10_first 24 rfl) rfl ?_
            refine am_icmp_ne (q := 44) (t := 82) (am_tab tk_X10_first 25 rfl) (by decide) rfl (fun h41 => ?_) (fun h41 => ?_)
            · refine am_aload_n (q := 83) rfl (am_tab tk_X10_first 43 rfl) rfl ?_
              refine am_callVr (q := 86) (me2 := M_X10_takesBack) (b := 55) (kb := 10) (nb := 108) (As := []) (rest := []) (c_back σ hG (i) (by omega) S hD) ⟨rfl, rfl⟩ (Ls_55 hD.2.2.1.L) (by decide) ⟨Or.inl km_X10_520, kc_X10_takesBack, kn_X10, kd_X10_takesBack, ⟨(Nat.le_of_ble_eq_true rfl), (Nat.le_of_ble_eq_true rfl)⟩, ⟨(Nat.le_of_ble_eq_true rfl), (Nat.le_of_ble_eq_true rfl)⟩, (Nat.le_of_ble_eq_true rfl)⟩ ki_X10_takesBack ks_X10_takesBack rfl (am_tab tk_X10_first 44 rfl) rfl ?_
              rintro r S9 ⟨rfl, hP9⟩
              refine am_st (st2 := []) rfl ?_
              refine am_iload_n (q := 87) rfl (am_tab tk_X10_first 45 rfl) rfl ?_
              refine am_iret (Or.inl rfl) (Nat.le_of_ble_eq_true rfl) (Nat.le_of_ble_eq_true rfl) (am_tab tk_X10_first 46 rfl) ?_
              refine hQ _ _ ?_
              refine ⟨congrArg (fun z => some (am_i z)) ?_, hP9⟩
              rcases hfo with ⟨h1, h2⟩ | ⟨h1, h2, h3, h4⟩
              · rw [h1, fir_no h2 (by omega) h7]
              · rw [h2, fir_at h3 h4 (by omega) h7]; omega
            · refine am_aload_n (q := 45) rfl (am_tab tk_X10_first 26 rfl) rfl ?_
              refine am_callVr (q := 48) (me2 := M_X10_dayGoes) (b := 55) (kb := 10) (nb := 108) (As := []) (rest := []) (c_day σ hG (i) (by omega) S hD) ⟨rfl, rfl⟩ (Ls_55 hD.2.2.1.L) (by decide) ⟨Or.inl km_X10_476, kc_X10_dayGoes, kn_X10, kd_X10_dayGoes, ⟨(Nat.le_of_ble_eq_true rfl), (Nat.le_of_ble_eq_true rfl)⟩, ⟨(Nat.le_of_ble_eq_true rfl), (Nat.le_of_ble_eq_true rfl)⟩, (Nat.le_of_ble_eq_true rfl)⟩ ki_X10_dayGoes ks_X10_dayGoes rfl (am_tab tk_X10_first 27 rfl) rfl ?_
              rintro r S2 ⟨rfl, hD2, hLD2⟩
              refine am_st (st2 := []) rfl ?_
              refine am_iload_n (q := 49) rfl (am_tab tk_X10_first 28 rfl) rfl ?_
              refine am_if_ne (q := 52) (t := 62) (am_tab tk_X10_first 29 rfl) (by decide) rfl (fun h49 => ?_) (fun h49 => ?_)
              · refine am_aload_n (q := 63) rfl (am_tab tk_X10_first 34 rfl) rfl ?_
                refine am_getI (q := 66) (a := 55) (k := 10) (n := 108) (j := 61) (x := (thD (itS (i) σ))) (Ls_55 hD2.2.2.1.L) (by decide) rfl hLD2.2.1 (by decide) (Or.inl kf_X10_461) (am_tab tk_X10_first 35 rfl) rfl ?_
                refine am_callS0 (q := 69) (me2 := M_X10_bits) (As := [am_i ((thD (itS (i) σ)))]) (rest := []) (out := [am_i (bc (thD (itS (i) σ)))]) (c_X10_bits S2 hD2.2.2.1.L (thD (itS (i) σ)) (thD_rng (itS_GD hG _ (by omega)).1 (itS_cc hG (by omega)))) ⟨rfl, rfl⟩ ⟨Or.inl km_X10_473, kc_X10_bits, kn_X10, kd_X10_bits, ⟨(Nat.le_of_ble_eq_true rfl), (Nat.le_of_ble_eq_true rfl)⟩, ⟨(Nat.le_of_ble_eq_true rfl), (Nat.le_of_ble_eq_true rfl)⟩, (Nat.le_of_ble_eq_true rfl)⟩ ki_X10_bits rfl rfl (am_tab tk_X10_first 36 rfl) rfl ?_
                refine am_iconst (q := 70) (n := 1) (by decide) (am_tab tk_X10_first 37 rfl) rfl ?_
                refine am_icmp_ne (q := 73) (t := 76) (am_tab tk_X10_first 38 rfl) (by decide) rfl (fun h70 => ?_) (fun h70 => ?_)
                · refine am_iinc (q := 79) rfl (by omega) (by decide) (ls2 := [(4, am_i ((((i : Int) + 1) + 1))), (3, am_i fo), (2, am_i (dlM σ)), (0, am_r 55), (1, am_i w)]) rfl (am_tab tk_X10_first 41 rfl) rfl ?_
                  refine am_goto (t := 26) (am_tab tk_X10_first 42 rfl) (by decide) ?_
                  have hng : fgB σ w i = false := by
                    unfold fgB
                    simp only [decide_eq_false_iff_not]
                    first
                      | (rw [if_pos h49]; have := fsD_01 (itS i σ); omega)
                      | (rw [if_neg h49]; exact h70)
                  exact am_less (by intro q hq; simp only [List.mem_cons, List.not_mem_nil, or_false] at hq; rcases hq with rfl | rfl | rfl | rfl | rfl <;> simp) (ih26 (i + 1) S2 fo (by omega) (by omega) (by omega) hD2 (Or.inl ⟨h41, anyB_f (by rcases hfo with ⟨_, h9⟩ | ⟨h1, h2, _⟩; exact h9; omega) hng⟩))
                · refine am_iload (q := 75) rfl (am_tab tk_X10_first 39 rfl) rfl ?_
                  refine am_istore_n (q := 76) (by decide) (ls2 := [(3, am_i (((i : Int) + 1))), (4, am_i (((i : Int) + 1))), (2, am_i (dlM σ)), (0, am_r 55), (1, am_i w)]) rfl (am_tab tk_X10_first 40 rfl) rfl ?_
                  refine am_iinc (q := 79) rfl (by omega) (by decide) (ls2 := [(4, am_i ((((i : Int) + 1) + 1))), (3, am_i (((i : Int) + 1))), (2, am_i (dlM σ)), (0, am_r 55), (1, am_i w)]) rfl (am_tab tk_X10_first 41 rfl) rfl ?_
                  refine am_goto (t := 26) (am_tab tk_X10_first 42 rfl) (by decide) ?_
                  have hyg : fgB σ w i = true := by
                    unfold fgB
                    simp only [decide_eq_true_eq]
                    first
                      | (rw [if_pos h49]; have := fsD_01 (itS i σ); omega)
                      | (rw [if_neg h49]; exact h70)
                  exact am_less (by intro q hq; simp only [List.mem_cons, List.not_mem_nil, or_false] at hq; rcases hq with rfl | rfl | rfl | rfl | rfl <;> simp) (ih26 (i + 1) S2 ((i : Int) + 1) (by omega) (by omega) (by omega) hD2 (Or.inr ⟨by omega, by omega, hyg, by rcases hfo with ⟨_, h9⟩ | ⟨h1, h2, _⟩; exact h9; omega⟩))
              · refine am_aload_n (q := 53) rfl (am_tab tk_X10_first 30 rfl) rfl ?_
                refine am_getI (q := 56) (a := 55) (k := 10) (n := 108) (j := 62) (x := (fsD (itS (i) σ))) (Ls_55 hD2.2.2.1.L) (by decide) rfl hLD2.2.2 (by decide) (Or.inl kf_X10_464) (am_tab tk_X10_first 31 rfl) rfl ?_
                refine am_if_eq (q := 59) (t := 76) (am_tab tk_X10_first 32 rfl) (by decide) rfl (fun h56 => ?_) (fun h56 => ?_)
                · refine am_iinc (q := 79) rfl (by omega) (by decide) (ls2 := [(4, am_i ((((i : Int) + 1) + 1))), (3, am_i fo), (2, am_i (dlM σ)), (0, am_r 55), (1, am_i w)]) rfl (am_tab tk_X10_first 41 rfl) rfl ?_
                  refine am_goto (t := 26) (am_tab tk_X10_first 42 rfl) (by decide) ?_
                  have hng : fgB σ w i = false := by
                    unfold fgB
                    simp only [decide_eq_false_iff_not]
                    first
                      | (rw [if_pos h49]; have := fsD_01 (itS i σ); omega)
                      | (rw [if_neg h49]; exact h70)
                  exact am_less (by intro q hq; simp only [List.mem_cons, List.not_mem_nil, or_false] at hq; rcases hq with rfl | rfl | rfl | rfl | rfl <;> simp) (ih26 (i + 1) S2 fo (by omega) (by omega) (by omega) hD2 (Or.inl ⟨h41, anyB_f (by rcases hfo with ⟨_, h9⟩ | ⟨h1, h2, _⟩; exact h9; omega) hng⟩))
                · refine am_goto (t := 73) (am_tab tk_X10_first 33 rfl) (by decide) ?_
                  refine am_iload (q := 75) rfl (am_tab tk_X10_first 39 rfl) rfl ?_
                  refine am_istore_n (q := 76) (by decide) (ls2 := [(3, am_i (((i : Int) + 1))), (4, am_i (((i : Int) + 1))), (2, am_i (dlM σ)), (0, am_r 55), (1, am_i w)]) rfl (am_tab tk_X10_first 40 rfl) rfl ?_
                  refine am_iinc (q := 79) rfl (by omega) (by decide) (ls2 := [(4, am_i ((((i : Int) + 1) + 1))), (3, am_i (((i : Int) + 1))), (2, am_i (dlM σ)), (0, am_r 55), (1, am_i w)]) rfl (am_tab tk_X10_first 41 rfl) rfl ?_
                  refine am_goto (t := 26) (am_tab tk_X10_first 42 rfl) (by decide) ?_
                  have hyg : fgB σ w i = true := by
                    unfold fgB
                    simp only [decide_eq_true_eq]
                    first
                      | (rw [if_pos h49]; have := fsD_01 (itS i σ); omega)
                      | (rw [if_neg h49]; exact h70)
                  exact am_less (by intro q hq; simp only [List.mem_cons, List.not_mem_nil, or_false] at hq; rcases hq with rfl | rfl | rfl | rfl | rfl <;> simp) (ih26 (i + 1) S2 ((i : Int) + 1) (by omega) (by omega) (by omega) hD2 (Or.inr ⟨by omega, by omega, hyg, by rcases hfo with ⟨_, h9⟩ | ⟨h1, h2, _⟩; exact h9; omega⟩))
    refine am_less (by intro q hq; simp only [List.mem_cons, List.not_mem_nil, or_false] at hq; rcases hq with rfl | rfl | rfl | rfl | rfl <;> simp) (L26 (_ + 1) 0 S0 (-1) (by exact Nat.lt_succ_self _) (by omega) (by omega) hD0 (Or.inl ⟨rfl, rfl⟩))
  · replace h7 := b01z h7
    refine am_iconst (q := 11) (n := (-1)) (by decide) (am_tab tk_X10_first 6 rfl) rfl ?_
    refine am_iret (Or.inl rfl) (Nat.le_of_ble_eq_true rfl) (Nat.le_of_ble_eq_true rfl) (am_tab tk_X10_first 7 rfl) ?_
    refine hQ _ _ ?_
    refine ⟨congrArg (fun z => some (am_i z)) ?_, PQ.refl hG⟩
    unfold firM
    rw [if_neg (by omega)]
/-- the cheapest so far, what it costs, whether days are left -/
def chF (σ : am_H) : Nat → Int × Int × Int
  | 0 => (-1, 0, if σ.2.1 96 1 < σ.2.1 85 9 then 1 else 0)
  | i + 1 => if (chF σ i).2.2 = 0 then chF σ i else
    (if (chF σ i).1 = -1 ∨ coM σ (sfD (itS i σ)) < (chF σ i).2.1 then (itS (i + 1) σ).2.1 96 1 else (chF σ i).1,
     if (chF σ i).1 = -1 ∨ coM σ (sfD (itS i σ)) < (chF σ i).2.1 then coM σ (sfD (itS i σ)) else (chF σ i).2.1,
     if fsD (itS i σ) = 0 ∧ (itS (i + 1) σ).2.1 96 1 < σ.2.1 85 9 then 1 else 0)
theorem chF_stop {σ : am_H} {i : Nat} (h : (chF σ i).2.2 = 0) : ∀ m, chF σ (i + m) = chF σ i
  | 0 => rfl
  | m + 1 => by
    have ih := chF_stop h m
    show (if (chF σ (i + m)).2.2 = 0 then chF σ (i + m) else _) = _
    rw [ih, if_pos h]
theorem itS_85 (σ : am_H) (a j : Nat) (ha : ¬ a = 96) : ∀ n, (itS n σ).2.1 a j = σ.2.1 a j
  | 0 => rfl
  | n + 1 => by
    show (if a = 96 then _ else (itS n σ).2.1 a j) = _
    rw [if_neg ha, itS_85 σ a j ha n]
def cheM (σ : am_H) (w : Int) : Int := if (¬ σ.2.1 55 52 = 0 ∧ (0 ≤ w ∧ w ≤ 1)) ∧ ¬ (0 < σ.2.1 96 2 ∧ σ.2.1 96 1 < σ.2.1 85 9) then (if (chF σ 120).1 = -1 then -1 else if w = 0 then (chF σ 120).1 else (chF σ 120).2.1) else -1
theorem c_X10_cheapest (σ : am_H) (hG : GD σ) (w : Int)  : am_met M_X10_cheapest [am_r 55, am_i w] σ (fun r σ' => r = some (am_i (cheM σ w)) ∧ PQ σ σ') := by
  refine am_qq (fun Q hQ => ?_)
  refine am_enter (show plainFor yX10_cheapest = true by decide +kernel) rfl (Nat.le_of_ble_eq_true rfl) (fun _ _ _ => trivial) ?_
  have hL := hG.L
  have hD90 : 0 ≤ σ.2.1 96 1 ∧ σ.2.1 96 1 ≤ 90 := ⟨hG.R.day.1, by have := hG.R.day; have := hG.R.Y; omega⟩
  refine am_aload_n (q := 1) rfl (am_tab tk_X10_cheapest 0 rfl) rfl ?_
  refine am_getI (q := 4) (a := 55) (k := 10) (n := 108) (j := 52) (x := (σ.2.1 55 52)) (Ls_55 hL) (by decide) rfl rfl (by decide) (Or.inl kf_X10_384) (am_tab tk_X10_cheapest 1 rfl) rfl ?_
  refine am_if_eq (q := 7) (t := 39) (am_tab tk_X10_cheapest 2 rfl) (by decide) rfl (fun h4 => ?_) (fun h4 => ?_)
  · refine am_iconst (q := 40) (n := (-1)) (by decide) (am_tab tk_X10_cheapest 21 rfl) rfl ?_
    refine am_iret (Or.inl rfl) (Nat.le_of_ble_eq_true rfl) (Nat.le_of_ble_eq_true rfl) (am_tab tk_X10_cheapest 22 rfl) ?_
    refine hQ _ _ ?_
    refine ⟨congrArg (fun z => some (am_i z)) ?_, PQ.refl hG⟩
    unfold cheM
    rw [if_neg (by omega)]
  · refine am_iload_n (q := 8) rfl (am_tab tk_X10_cheapest 3 rfl) rfl ?_
    refine am_i2l (q := 9) (am_tab tk_X10_cheapest 4 rfl) rfl ?_
    refine am_lconst0 (q := 10) (am_tab tk_X10_cheapest 5 rfl) rfl ?_
    refine am_lconst1 (q := 11) (am_tab tk_X10_cheapest 6 rfl) rfl ?_
    refine am_callS0 (q := 14) (me2 := M_X10_isIn) (As := [am_l w, am_l 0, am_l 1]) (rest := []) (out := [am_i (if 0 ≤ w ∧ w ≤ 1 then 1 else 0)]) (c_X10_isIn σ hL w 0 1 ) ⟨rfl, rfl⟩ ⟨Or.inl km_X10_291, kc_X10_isIn, kn_X10, kd_X10_isIn, ⟨(Nat.le_of_ble_eq_true rfl), (Nat.le_of_ble_eq_true rfl)⟩, ⟨(Nat.le_of_ble_eq_true rfl), (Nat.le_of_ble_eq_true rfl)⟩, (Nat.le_of_ble_eq_true rfl)⟩ ki_X10_isIn rfl rfl (am_tab tk_X10_cheapest 7 rfl) rfl ?_
    refine am_if_eq (q := 17) (t := 39) (am_tab tk_X10_cheapest 8 rfl) (by decide) rfl (fun h14 => ?_) (fun h14 => ?_)
    · replace h14 := b01z h14
      refine am_iconst (q := 40) (n := (-1)) (by decide) (am_tab tk_X10_cheapest 21 rfl) rfl ?_
      refine am_iret (Or.inl rfl) (Nat.le_of_ble_eq_true rfl) (Nat.le_of_ble_eq_true rfl) (am_tab tk_X10_cheapest 22 rfl) ?_
      refine hQ _ _ ?_
      refine ⟨congrArg (fun z => some (am_i z)) ?_, PQ.refl hG⟩
      unfold cheM
      rw [if_neg (by omega)]
    · replace h14 := b01n h14
      refine am_aload_n (q := 18) rfl (am_tab tk_X10_cheapest 9 rfl) rfl ?_
      refine am_getR (q := 21) (a := 55) (k := 10) (n := 108) (j := 54) (r := some (96)) (Ls_55 hL) (by decide) rfl (Lr_55_54 hL) (by decide) (Or.inl kf_X10_136) (am_tab tk_X10_cheapest 10 rfl) rfl ?_
      refine am_iconst (q := 22) (n := 2) (by decide) (am_tab tk_X10_cheapest 11 rfl) rfl ?_
      refine am_iald (q := 23) (a := 96) (n := 443) (x := (σ.2.1 96 2)) (Ls_96 hL) (by omega) (by omega) rfl (am_tab tk_X10_cheapest 12 rfl) rfl ?_
      refine am_if_le (q := 26) (t := 41) (am_tab tk_X10_cheapest 13 rfl) (by decide) rfl (fun h23 => ?_) (fun h23 => ?_)
      · refine am_iconst (q := 42) (n := (-1)) (by decide) (am_tab tk_X10_cheapest 23 rfl) rfl ?_
        refine am_istore_n (q := 43) (by decide) (ls2 := [(2, am_i ((-1))), (0, am_r 55), (1, am_i w)]) rfl (am_tab tk_X10_cheapest 24 rfl) rfl ?_
        refine am_iconst (q := 44) (n := 0) (by decide) (am_tab tk_X10_cheapest 25 rfl) rfl ?_
        refine am_istore_n (q := 45) (by decide) (ls2 := [(3, am_i 0), (2, am_i ((-1))), (0, am_r 55), (1, am_i w)]) rfl (am_tab tk_X10_cheapest 26 rfl) rfl ?_
        refine am_aload_n (q := 46) rfl (am_tab tk_X10_cheapest 27 rfl) rfl ?_
        refine am_callVr (q := 49) (me2 := M_X10_putsAside) (b := 55) (kb := 10) (nb := 108) (As := []) (rest := []) (c_aside σ hG) ⟨rfl, rfl⟩ (Ls_55 hL) (by decide) ⟨Or.inl km_X10_514, kc_X10_putsAside, kn_X10, kd_X10_putsAside, ⟨(Nat.le_of_ble_eq_true rfl), (Nat.le_of_ble_eq_true rfl)⟩, ⟨(Nat.le_of_ble_eq_true rfl), (Nat.le_of_ble_eq_true rfl)⟩, (Nat.le_of_ble_eq_true rfl)⟩ ki_X10_putsAside ks_X10_putsAside rfl (am_tab tk_X10_cheapest 28 rfl) rfl ?_
        rintro r S0 ⟨rfl, hD0⟩
        refine am_st (st2 := []) rfl ?_
        refine am_aload_n (q := 50) rfl (am_tab tk_X10_cheapest 29 rfl) rfl ?_
        refine am_getR (q := 53) (a := 55) (k := 10) (n := 108) (j := 54) (r := some (96)) (Ls_55 hD0.2.2.1.L) (by decide) rfl (Lr_55_54 hD0.2.2.1.L) (by decide) (Or.inl kf_X10_136) (am_tab tk_X10_cheapest 30 rfl) rfl ?_
        refine am_iconst (q := 54) (n := 1) (by decide) (am_tab tk_X10_cheapest 31 rfl) rfl ?_
        refine am_iald (q := 55) (a := 96) (n := 443) (x := (σ.2.1 96 1)) (Ls_96 hD0.2.2.1.L) (by omega) (by omega) (cn_at hD0.2.1 96 1 (by decide) (by decide)) (am_tab tk_X10_cheapest 32 rfl) rfl ?_
        refine am_aload_n (q := 56) rfl (am_tab tk_X10_cheapest 33 rfl) rfl ?_
        refine am_callV0 (q := 59) (me2 := M_X10_yearDays) (b := 55) (kb := 10) (nb := 108) (As := []) (rest := [am_i ((σ.2.1 96 1))]) (out := [am_i (S0.2.1 85 9), am_i ((σ.2.1 96 1))]) (c_X10_yearDays S0 hD0.2.2.1.L  ) ⟨rfl, rfl⟩ (Ls_55 hD0.2.2.1.L) (by decide) ⟨Or.inl km_X10_397, kc_X10_yearDays, kn_X10, kd_X10_yearDays, ⟨(Nat.le_of_ble_eq_true rfl), (Nat.le_of_ble_eq_true rfl)⟩, ⟨(Nat.le_of_ble_eq_true rfl), (Nat.le_of_ble_eq_true rfl)⟩, (Nat.le_of_ble_eq_true rfl)⟩ ki_X10_yearDays ks_X10_yearDays rfl rfl (am_tab tk_X10_cheapest 34 rfl) rfl ?_
        refine am_st (st2 := [am_i ((σ.2.1 85 9)), am_i ((σ.2.1 96 1))]) (by simp only [(show S0.2.1 85 9 = σ.2.1 85 9 from (hD0.1.2.2 85 9 (by unfold W_ah; omega)))]) ?_
        refine am_icmp_ge (q := 62) (t := 66) (am_tab tk_X10_cheapest 35 rfl) (by decide) rfl (fun h59 => ?_) (fun h59 => ?_)
        · refine am_iconst (q := 67) (n := 0) (by decide) (am_tab tk_X10_cheapest 38 rfl) rfl ?_
          refine am_istore (q := 69) (by decide) (ls2 := [(4, am_i 0), (3, am_i 0), (2, am_i ((-1))), (0, am_r 55), (1, am_i w)]) rfl (am_tab tk_X10_cheapest 39 rfl) rfl ?_
          refine am_iconst (q := 70) (n := 1) (by decide) (am_tab tk_X10_cheapest 40 rfl) rfl ?_
          refine am_istore (q := 72) (by decide) (ls2 := [(5, am_i 1), (4, am_i 0), (3, am_i 0), (2, am_i ((-1))), (0, am_r 55), (1, am_i w)]) rfl (am_tab tk_X10_cheapest 41 rfl) rfl ?_
          have hdl := dl_rng hG.R
          have L72 : ∀ (n72 : Nat) (i : Nat) (S : am_H) (be : Int) (le : Int) (mo : Int), 200 - i < n72 → i ≤ 120 → (i : Int) ≤ dlM σ → DS σ i S → chF σ i = (be, le, mo) → am_wp M_X10_cheapest Q 0 0 72 [(5, am_i (((i : Int) + 1))), (2, am_i be), (3, am_i le), (4, am_i mo), (0, am_r 55), (1, am_i w)] [] S := by
            intro n72
            induction n72 with
            | zero => intro i S be le mo hn72; exact absurd hn72 (Nat.not_lt_zero _)
            | succ n72 ih72 =>
              intro i S be le mo hn72 hi hil hD hc
              have hmd : ¬ mo = 0 → (i : Int) + 1 ≤ dlM σ := by
                intro hm
                have hg := itS_GD hG i hil
                have hcc : cc (itS i σ) := by
                  refine ⟨by rw [itS_85 σ 85 9 (by decide)]; have := hG.R.T; omega, Or.inr ?_⟩
                  rw [itS_85 σ 85 9 (by decide)]
                  cases i with
                  | zero =>
                    have h8 : mo = (if σ.2.1 96 1 < σ.2.1 85 9 then 1 else 0) := (congrArg (fun z => z.2.2) hc).symm
                    by_cases h9 : σ.2.1 96 1 < σ.2.1 85 9
                    · exact h9
                    · rw [if_neg h9] at h8; exact absurd h8 hm
                  | succ i =>
                    have h8 := congrArg (fun z => z.2.2) hc
                    simp only [chF] at h8
                    by_cases h7 : (chF σ i).2.2 = 0
                    · rw [if_pos h7] at h8; omega
                    · rw [if_neg h7] at h8
                      simp only at h8
                      by_cases h9 : fsD (itS i σ) = 0 ∧ (itS (i + 1) σ).2.1 96 1 < σ.2.1 85 9
                      · exact h9.2
                      · rw [if_neg h9] at h8; exact absurd h8.symm hm
                have := of_cc hg.1.R hcc
                omega
              refine am_iload (q := 74) rfl (am_tab tk_X10_cheapest 42 rfl) rfl ?_
              refine am_bipush (q := 76) (n := 120) (by decide) rfl (am_tab tk_X10_cheapest 43 rfl) rfl ?_
              refine am_icmp_gt (q := 79) (t := 152) (am_tab tk_X10_cheapest 44 rfl) (by decide) rfl (fun h76 => ?_) (fun h76 => ?_)
              · refine am_aload_n (q := 153) rfl (am_tab tk_X10_cheapest 83 rfl) rfl ?_
                refine am_callVr (q := 156) (me2 := M_X10_takesBack) (b := 55) (kb := 10) (nb := 108) (As := []) (rest := []) (c_back σ hG (i) (by omega) S hD) ⟨rfl, rfl⟩ (Ls_55 hD.2.2.1.L) (by decide) ⟨Or.inl km_X10_520, kc_X10_takesBack, kn_X10, kd_X10_takesBack, ⟨(Nat.le_of_ble_eq_true rfl), (Nat.le_of_ble_eq_true rfl)⟩, ⟨(Nat.le_of_ble_eq_true rfl), (Nat.le_of_ble_eq_true rfl)⟩, (Nat.le_of_ble_eq_true rfl)⟩ ki_X10_takesBack ks_X10_takesBack rfl (am_tab tk_X10_cheapest 84 rfl) rfl ?_
                rintro r S9 ⟨rfl, hP9⟩
                refine am_st (st2 := []) rfl ?_
                refine am_iload_n (q := 157) rfl (am_tab tk_X10_cheapest 85 rfl) rfl ?_
                refine am_iconst (q := 158) (n := (-1)) (by decide) (am_tab tk_X10_cheapest 86 rfl) rfl ?_
                refine am_icmp_ne (q := 161) (t := 165) (am_tab tk_X10_cheapest 87 rfl) (by decide) rfl (fun h158 => ?_) (fun h158 => ?_)
                · refine am_iload_n (q := 166) rfl (am_tab tk_X10_cheapest 90 rfl) rfl ?_
                  refine am_if_ne (q := 169) (t := 173) (am_tab tk_X10_cheapest 91 rfl) (by decide) rfl (fun h166 => ?_) (fun h166 => ?_)
                  · refine am_iload_n (q := 174) rfl (am_tab tk_X10_cheapest 94 rfl) rfl ?_
                    refine am_iret (Or.inl rfl) (Nat.le_of_ble_eq_true rfl) (Nat.le_of_ble_eq_true rfl) (am_tab tk_X10_cheapest 95 rfl) ?_
                    refine hQ _ _ ?_
                    refine ⟨congrArg (fun z => some (am_i z)) ?_, hP9⟩
                    have hfin : chF σ 120 = (be, le, mo) := by
                      rcases (show i = 120 ∨ mo = 0 by omega) with h9 | h9
                      · rw [← h9, hc]
                      · have h8 := chF_stop (σ := σ) (i := i) (by rw [hc]; exact h9) (120 - i)
                        rw [show i + (120 - i) = 120 by omega] at h8
                        rw [h8, hc]
                    unfold cheM
                    rw [if_pos (by omega), hfin]
                    simp only
                    first | rw [if_pos (by omega)] | (rw [if_neg (by omega)]; first | rw [if_pos (by omega)] | rw [if_neg (by omega)])
                  · refine am_iload_n (q := 170) rfl (am_tab tk_X10_cheapest 92 rfl) rfl ?_
                    refine am_goto (t := 174) (am_tab tk_X10_cheapest 93 rfl) (by decide) ?_
                    refine am_iret (Or.inl rfl) (Nat.le_of_ble_eq_true rfl) (Nat.le_of_ble_eq_true rfl) (am_tab tk_X10_cheapest 95 rfl) ?_
                    refine hQ _ _ ?_
                    refine ⟨congrArg (fun z => some (am_i z)) ?_, hP9⟩
                    have hfin : chF σ 120 = (be, le, mo) := by
                      rcases (show i = 120 ∨ mo = 0 by omega) with h9 | h9
                      · rw [← h9, hc]
                      · have h8 := chF_stop (σ := σ) (i := i) (by rw [hc]; exact h9) (120 - i)
                        rw [show i + (120 - i) = 120 by omega] at h8
                        rw [h8, hc]
                    unfold cheM
                    rw [if_pos (by omega), hfin]
                    simp only
                    first | rw [if_pos (by omega)] | (rw [if_neg (by omega)]; first | rw [if_pos (by omega)] | rw [if_neg (by omega)])
                · refine am_iconst (q := 162) (n := (-1)) (by decide) (am_tab tk_X10_cheapest 88 rfl) rfl ?_
                  refine am_goto (t := 174) (am_tab tk_X10_cheapest 89 rfl) (by decide) ?_
                  refine am_iret (Or.inl rfl) (Nat.le_of_ble_eq_true rfl) (Nat.le_of_ble_eq_true rfl) (am_tab tk_X10_cheapest 95 rfl) ?_
                  refine hQ _ _ ?_
                  refine ⟨congrArg (fun z => some (am_i z)) ?_, hP9⟩
                  have hfin : chF σ 120 = (be, le, mo) := by
                    rcases (show i = 120 ∨ mo = 0 by omega) with h9 | h9
                    · rw [← h9, hc]
                    · have h8 := chF_stop (σ := σ) (i := i) (by rw [hc]; exact h9) (120 - i)
                      rw [show i + (120 - i) = 120 by omega] at h8
                      rw [h8, hc]
                  unfold cheM
                  rw [if_pos (by omega), hfin]
                  simp only
                  first | rw [if_pos (by omega)] | (rw [if_neg (by omega)]; first | rw [if_pos (by omega)] | rw [if_neg (by omega)])
              · refine am_iload (q := 81) rfl (am_tab tk_X10_cheapest 45 rfl) rfl ?_
                refine am_if_eq (q := 84) (t := 152) (am_tab tk_X10_cheapest 46 rfl) (by decide) rfl (fun h81 => ?_) (fun h81 => ?_)
                · refine am_aload_n (q := 153) rfl (am_tab tk_X10_cheapest 83 rfl) rfl ?_
                  refine am_callVr (q := 156) (me2 := M_X10_takesBack) (b := 55) (kb := 10) (nb := 108) (As := []) (rest := []) (c_back σ hG (i) (by omega) S hD) ⟨rfl, rfl⟩ (Ls_55 hD.2.2.1.L) (by decide) ⟨Or.inl km_X10_520, kc_X10_takesBack, kn_X10, kd_X10_takesBack, ⟨(Nat.le_of_ble_eq_true rfl), (Nat.le_of_ble_eq_true rfl)⟩, ⟨(Nat.le_of_ble_eq_true rfl), (Nat.le_of_ble_eq_true rfl)⟩, (Nat.le_of_ble_eq_true rfl)⟩ ki_X10_takesBack ks_X10_takesBack rfl (am_tab tk_X10_cheapest 84 rfl) rfl ?_
                  rintro r S9 ⟨rfl, hP9⟩
                  refine am_st (st2 := []) rfl ?_
                  refine am_iload_n (q := 157) rfl (am_tab tk_X10_cheapest 85 rfl) rfl ?_
                  refine am_iconst (q := 158) (n := (-1)) (by decide) (am_tab tk_X10_cheapest 86 rfl) rfl ?_
                  refine am_icmp_ne (q := 161) (t := 165) (am_tab tk_X10_cheapest 87 rfl) (by decide) rfl (fun h158 => ?_) (fun h158 => ?_)
                  · refine am_iload_n (q := 166) rfl (am_tab tk_X10_cheapest 90 rfl) rfl ?_
                    refine am_if_ne (q := 169) (t := 173) (am_tab tk_X10_cheapest 91 rfl) (by decide) rfl (fun h166 => ?_) (fun h166 => ?_)
                    · refine am_iload_n (q := 174) rfl (am_tab tk_X10_cheapest 94 rfl) rfl ?_
                      refine am_iret (Or.inl rfl) (Nat.le_of_ble_eq_true rfl) (Nat.le_of_ble_eq_true rfl) (am_tab tk_X10_cheapest 95 rfl) ?_
                      refine hQ _ _ ?_
                      refine ⟨congrArg (fun z => some (am_i z)) ?_, hP9⟩
                      have hfin : chF σ 120 = (be, le, mo) := by
                        rcases (show i = 120 ∨ mo = 0 by omega) with h9 | h9
                        · rw [← h9, hc]
                        · have h8 := chF_stop (σ := σ) (i := i) (by rw [hc]; exact h9) (120 - i)
                          rw [show i + (120 - i) = 120 by omega] at h8
                          rw [h8, hc]
                      unfold cheM
                      rw [if_pos (by omega), hfin]
                      simp only
                      first | rw [if_pos (by omega)] | (rw [if_neg (by omega)]; first | rw [if_pos (by omega)] | rw [if_neg (by omega)])
                    · refine am_iload_n (q := 170) rfl (am_tab tk_X10_cheapest 92 rfl) rfl ?_
                      refine am_goto (t := 174) (am_tab tk_X10_cheapest 93 rfl) (by decide) ?_
                      refine am_iret (Or.inl rfl) (Nat.le_of_ble_eq_true rfl) (Nat.le_of_ble_eq_true rfl) (am_tab tk_X10_cheapest 95 rfl) ?_
                      refine hQ _ _ ?_
                      refine ⟨congrArg (fun z => some (am_i z)) ?_, hP9⟩
                      have hfin : chF σ 120 = (be, le, mo) := by
                        rcases (show i = 120 ∨ mo = 0 by omega) with h9 | h9
                        · rw [← h9, hc]
                        · have h8 := chF_stop (σ := σ) (i := i) (by rw [hc]; exact h9) (120 - i)
                          rw [show i + (120 - i) = 120 by omega] at h8
                          rw [h8, hc]
                      unfold cheM
                      rw [if_pos (by omega), hfin]
                      simp only
                      first | rw [if_pos (by omega)] | (rw [if_neg (by omega)]; first | rw [if_pos (by omega)] | rw [if_neg (by omega)])
                  · refine am_iconst (q := 162) (n := (-1)) (by decide) (am_tab tk_X10_cheapest 88 rfl) rfl ?_
                    refine am_goto (t := 174) (am_tab tk_X10_cheapest 89 rfl) (by decide) ?_
                    refine am_iret (Or.inl rfl) (Nat.le_of_ble_eq_true rfl) (Nat.le_of_ble_eq_true rfl) (am_tab tk_X10_cheapest 95 rfl) ?_
                    refine hQ _ _ ?_
                    refine ⟨congrArg (fun z => some (am_i z)) ?_, hP9⟩
                    have hfin : chF σ 120 = (be, le, mo) := by
                      rcases (show i = 120 ∨ mo = 0 by omega) with h9 | h9
                      · rw [← h9, hc]
                      · have h8 := chF_stop (σ := σ) (i := i) (by rw [hc]; exact h9) (120 - i)
                        rw [show i + (120 - i) = 120 by omega] at h8
                        rw [h8, hc]
                    unfold cheM
                    rw [if_pos (by omega), hfin]
                    simp only
                    first | rw [if_pos (by omega)] | (rw [if_neg (by omega)]; first | rw [if_pos (by omega)] | rw [if_neg (by omega)])
                · refine am_aload_n (q := 85) rfl (am_tab tk_X10_cheapest 47 rfl) rfl ?_
                  refine am_callVr (q := 88) (me2 := M_X10_dayGoes) (b := 55) (kb := 10) (nb := 108) (As := []) (rest := []) (c_day σ hG (i) (by have := hmd h81; omega) S hD) ⟨rfl, rfl⟩ (Ls_55 hD.2.2.1.L) (by decide) ⟨Or.inl km_X10_476, kc_X10_dayGoes, kn_X10, kd_X10_dayGoes, ⟨(Nat.le_of_ble_eq_true rfl), (Nat.le_of_ble_eq_true rfl)⟩, ⟨(Nat.le_of_ble_eq_true rfl), (Nat.le_of_ble_eq_true rfl)⟩, (Nat.le_of_ble_eq_true rfl)⟩ ki_X10_dayGoes ks_X10_dayGoes rfl (am_tab tk_X10_cheapest 48 rfl) rfl ?_
                  rintro r S2 ⟨rfl, hD2, hLD2⟩
                  refine am_st (st2 := []) rfl ?_
                  refine am_aload_n (q := 89) rfl (am_tab tk_X10_cheapest 49 rfl) rfl ?_
                  refine am_aload_n (q := 90) rfl (am_tab tk_X10_cheapest 50 rfl) rfl ?_
                  refine am_getI (q := 93) (a := 55) (k := 10) (n := 108) (j := 60) (x := (sfD (itS (i) σ))) (Ls_55 hD2.2.2.1.L) (by decide) rfl hLD2.1 (by decide) (Or.inl kf_X10_455) (am_tab tk_X10_cheapest 51 rfl) rfl ?_
                  refine am_callV0 (q := 96) (me2 := M_X10_costOf) (b := 55) (kb := 10) (nb := 108) (As := [am_i ((sfD (itS (i) σ)))]) (rest := []) (out := [am_i (coM σ (sfD (itS (i) σ)))]) (c_cost2 σ hG S2 hD2 (sfD (itS (i) σ)) (sfD_rng (itS_GD hG _ (by omega)).1 (itS_cc hG (by omega)))) ⟨rfl, rfl⟩ (Ls_55 hD2.2.2.1.L) (by decide) ⟨Or.inl km_X10_528, kc_X10_costOf, kn_X10, kd_X10_costOf, ⟨(Nat.le_of_ble_eq_true rfl), (Nat.le_of_ble_eq_true rfl)⟩, ⟨(Nat.le_of_ble_eq_true rfl), (Nat.le_of_ble_eq_true rfl)⟩, (Nat.le_of_ble_eq_true rfl)⟩ ki_X10_costOf ks_X10_costOf rfl rfl (am_tab tk_X10_cheapest 52 rfl) rfl ?_
                  refine am_istore (q := 98) (by decide) (ls2 := [(6, am_i (coM σ (sfD (itS (i) σ)))), (5, am_i (((i : Int) + 1))), (2, am_i be), (3, am_i le), (4, am_i mo), (0, am_r 55), (1, am_i w)]) rfl (am_tab tk_X10_cheapest 53 rfl) rfl ?_
                  refine am_iload_n (q := 99) rfl (am_tab tk_X10_cheapest 54 rfl) rfl ?_
                  refine am_iconst (q := 100) (n := (-1)) (by decide) (am_tab tk_X10_cheapest 55 rfl) rfl ?_
                  refine am_icmp_eq (q := 103) (t := 109) (am_tab tk_X10_cheapest 56 rfl) (by decide) rfl (fun h100 => ?_) (fun h100 => ?_)
                  · refine am_aload_n (q := 110) rfl (am_tab tk_X10_cheapest 60 rfl) rfl ?_
                    refine am_getR (q := 113) (a := 55) (k := 10) (n := 108) (j := 54) (r := some (96)) (Ls_55 hD2.2.2.1.L) (by decide) rfl (Lr_55_54 hD2.2.2.1.L) (by decide) (Or.inl kf_X10_136) (am_tab tk_X10_cheapest 61 rfl) rfl ?_
                    refine am_iconst (q := 114) (n := 1) (by decide) (am_tab tk_X10_cheapest 62 rfl) rfl ?_
                    refine am_iald (q := 115) (a := 96) (n := 443) (x := ((itS (i + 1) σ).2.1 96 1)) (Ls_96 hD2.2.2.1.L) (by omega) (by omega) (cn_at hD2.2.1 96 1 (by decide) (by decide)) (am_tab tk_X10_cheapest 63 rfl) rfl ?_
                    refine am_istore_n (q := 116) (by decide) (ls2 := [(2, am_i (((itS (i + 1) σ).2.1 96 1))), (6, am_i (coM σ (sfD (itS (i) σ)))), (5, am_i (((i : Int) + 1))), (3, am_i le), (4, am_i mo), (0, am_r 55), (1, am_i w)]) rfl (am_tab tk_X10_cheapest 64 rfl) rfl ?_
                    refine am_iload (q := 118) rfl (am_tab tk_X10_cheapest 65 rfl) rfl ?_
                    refine am_istore_n (q := 119) (by decide) (ls2 := [(3, am_i (coM σ (sfD (itS (i) σ)))), (2, am_i (((itS (i + 1) σ).2.1 96 1))), (6, am_i (coM σ (sfD (itS (i) σ)))), (5, am_i (((i : Int) + 1))), (4, am_i mo), (0, am_r 55), (1, am_i w)]) rfl (am_tab tk_X10_cheapest 66 rfl) rfl ?_
                    refine am_aload_n (q := 120) rfl (am_tab tk_X10_cheapest 67 rfl) rfl ?_
                    refine am_getI (q := 123) (a := 55) (k := 10) (n := 108) (j := 62) (x := (fsD (itS (i) σ))) (Ls_55 hD2.2.2.1.L) (by decide) rfl hLD2.2.2 (by decide) (Or.inl kf_X10_464) (am_tab tk_X10_cheapest 68 rfl) rfl ?_
                    refine am_if_ne (q := 126) (t := 143) (am_tab tk_X10_cheapest 69 rfl) (by decide) rfl (fun h123 => ?_) (fun h123 => ?_)
                    · refine am_iconst (q := 144) (n := 0) (by decide) (am_tab tk_X10_cheapest 79 rfl) rfl ?_
                      refine am_istore (q := 146) (by decide) (ls2 := [(4, am_i 0), (3, am_i (coM σ (sfD (itS (i) σ)))), (2, am_i (((itS (i + 1) σ).2.1 96 1))), (6, am_i (coM σ (sfD (itS (i) σ)))), (5, am_i (((i : Int) + 1))), (0, am_r 55), (1, am_i w)]) rfl (am_tab tk_X10_cheapest 80 rfl) rfl ?_
                      refine am_iinc (q := 149) rfl (by omega) (by decide) (ls2 := [(5, am_i ((((i : Int) + 1) + 1))), (4, am_i 0), (3, am_i (coM σ (sfD (itS (i) σ)))), (2, am_i (((itS (i + 1) σ).2.1 96 1))), (6, am_i (coM σ (sfD (itS (i) σ)))), (0, am_r 55), (1, am_i w)]) rfl (am_tab tk_X10_cheapest 81 rfl) rfl ?_
                      refine am_goto (t := 72) (am_tab tk_X10_cheapest 82 rfl) (by decide) ?_
                      have hm1 : ¬ (chF σ i).2.2 = 0 := by rw [hc]; exact h81
                      have hch : chF σ (i + 1) = (((itS (i + 1) σ).2.1 96 1), coM σ (sfD (itS (i) σ)), 0) := by
                        show (if (chF σ i).2.2 = 0 then _ else _) = _
                        rw [if_neg hm1, hc]
                        simp only
                        congr 1
                        · first | rw [if_pos (by omega)] | rw [if_neg (by omega)]
                        · congr 1
                          · first | rw [if_pos (by omega)] | rw [if_neg (by omega)]
                          · first | rw [if_pos (by omega)] | rw [if_neg (by omega)]
                      exact am_less (by intro q hq; simp only [List.mem_cons, List.not_mem_nil, or_false] at hq; rcases hq with rfl | rfl | rfl | rfl | rfl | rfl <;> simp) (ih72 (i + 1) S2 ((itS (i + 1) σ).2.1 96 1) (coM σ (sfD (itS (i) σ))) 0 (by omega) (by omega) (by omega) hD2 hch)
                    · refine am_aload_n (q := 127) rfl (am_tab tk_X10_cheapest 70 rfl) rfl ?_
                      refine am_getR (q := 130) (a := 55) (k := 10) (n := 108) (j := 54) (r := some (96)) (Ls_55 hD2.2.2.1.L) (by decide) rfl (Lr_55_54 hD2.2.2.1.L) (by decide) (Or.inl kf_X10_136) (am_tab tk_X10_cheapest 71 rfl) rfl ?_
                      refine am_iconst (q := 131) (n := 1) (by decide) (am_tab tk_X10_cheapest 72 rfl) rfl ?_
                      refine am_iald (q := 132) (a := 96) (n := 443) (x := ((itS (i + 1) σ).2.1 96 1)) (Ls_96 hD2.2.2.1.L) (by omega) (by omega) (cn_at hD2.2.1 96 1 (by decide) (by decide)) (am_tab tk_X10_cheapest 73 rfl) rfl ?_
                      refine am_aload_n (q := 133) rfl (am_tab tk_X10_cheapest 74 rfl) rfl ?_
                      refine am_callV0 (q := 136) (me2 := M_X10_yearDays) (b := 55) (kb := 10) (nb := 108) (As := []) (rest := [am_i (((itS (i + 1) σ).2.1 96 1))]) (out := [am_i (S2.2.1 85 9), am_i (((itS (i + 1) σ).2.1 96 1))]) (c_X10_yearDays S2 hD2.2.2.1.L  ) ⟨rfl, rfl⟩ (Ls_55 hD2.2.2.1.L) (by decide) ⟨Or.inl km_X10_397, kc_X10_yearDays, kn_X10, kd_X10_yearDays, ⟨(Nat.le_of_ble_eq_true rfl), (Nat.le_of_ble_eq_true rfl)⟩, ⟨(Nat.le_of_ble_eq_true rfl), (Nat.le_of_ble_eq_true rfl)⟩, (Nat.le_of_ble_eq_true rfl)⟩ ki_X10_yearDays ks_X10_yearDays rfl rfl (am_tab tk_X10_cheapest 75 rfl) rfl ?_
                      refine am_st (st2 := [am_i ((σ.2.1 85 9)), am_i (((itS (i + 1) σ).2.1 96 1))]) (by simp only [(show S2.2.1 85 9 = σ.2.1 85 9 from (hD2.1.2.2 85 9 (by unfold W_ah; omega)))]) ?_
                      refine am_icmp_ge (q := 139) (t := 143) (am_tab tk_X10_cheapest 76 rfl) (by decide) rfl (fun h136 => ?_) (fun h136 => ?_)
                      · refine am_iconst (q := 144) (n := 0) (by decide) (am_tab tk_X10_cheapest 79 rfl) rfl ?_
                        refine am_istore (q := 146) (by decide) (ls2 := [(4, am_i 0), (3, am_i (coM σ (sfD (itS (i) σ)))), (2, am_i (((itS (i + 1) σ).2.1 96 1))), (6, am_i (coM σ (sfD (itS (i) σ)))), (5, am_i (((i : Int) + 1))), (0, am_r 55), (1, am_i w)]) rfl (am_tab tk_X10_cheapest 80 rfl) rfl ?_
                        refine am_iinc (q := 149) rfl (by omega) (by decide) (ls2 := [(5, am_i ((((i : Int) + 1) + 1))), (4, am_i 0), (3, am_i (coM σ (sfD (itS (i) σ)))), (2, am_i (((itS (i + 1) σ).2.1 96 1))), (6, am_i (coM σ (sfD (itS (i) σ)))), (0, am_r 55), (1, am_i w)]) rfl (am_tab tk_X10_cheapest 81 rfl) rfl ?_
                        refine am_goto (t := 72) (am_tab tk_X10_cheapest 82 rfl) (by decide) ?_
                        have hm1 : ¬ (chF σ i).2.2 = 0 := by rw [hc]; exact h81
                        have hch : chF σ (i + 1) = (((itS (i + 1) σ).2.1 96 1), coM σ (sfD (itS (i) σ)), 0) := by
                          show (if (chF σ i).2.2 = 0 then _ else _) = _
                          rw [if_neg hm1, hc]
                          simp only
                          congr 1
                          · first | rw [if_pos (by omega)] | rw [if_neg (by omega)]
                          · congr 1
                            · first | rw [if_pos (by omega)] | rw [if_neg (by omega)]
                            · first | rw [if_pos (by omega)] | rw [if_neg (by omega)]
                        exact am_less (by intro q hq; simp only [List.mem_cons, List.not_mem_nil, or_false] at hq; rcases hq with rfl | rfl | rfl | rfl | rfl | rfl <;> simp) (ih72 (i + 1) S2 ((itS (i + 1) σ).2.1 96 1) (coM σ (sfD (itS (i) σ))) 0 (by omega) (by omega) (by omega) hD2 hch)
                      · refine am_iconst (q := 140) (n := 1) (by decide) (am_tab tk_X10_cheapest 77 rfl) rfl ?_
                        refine am_goto (t := 144) (am_tab tk_X10_cheapest 78 rfl) (by decide) ?_
                        refine am_istore (q := 146) (by decide) (ls2 := [(4, am_i 1), (3, am_i (coM σ (sfD (itS (i) σ)))), (2, am_i (((itS (i + 1) σ).2.1 96 1))), (6, am_i (coM σ (sfD (itS (i) σ)))), (5, am_i (((i : Int) + 1))), (0, am_r 55), (1, am_i w)]) rfl (am_tab tk_X10_cheapest 80 rfl) rfl ?_
                        refine am_iinc (q := 149) rfl (by omega) (by decide) (ls2 := [(5, am_i ((((i : Int) + 1) + 1))), (4, am_i 1), (3, am_i (coM σ (sfD (itS (i) σ)))), (2, am_i (((itS (i + 1) σ).2.1 96 1))), (6, am_i (coM σ (sfD (itS (i) σ)))), (0, am_r 55), (1, am_i w)]) rfl (am_tab tk_X10_cheapest 81 rfl) rfl ?_
                        refine am_goto (t := 72) (am_tab tk_X10_cheapest 82 rfl) (by decide) ?_
                        have hm1 : ¬ (chF σ i).2.2 = 0 := by rw [hc]; exact h81
                        have hch : chF σ (i + 1) = (((itS (i + 1) σ).2.1 96 1), coM σ (sfD (itS (i) σ)), 1) := by
                          show (if (chF σ i).2.2 = 0 then _ else _) = _
                          rw [if_neg hm1, hc]
                          simp only
                          congr 1
                          · first | rw [if_pos (by omega)] | rw [if_neg (by omega)]
                          · congr 1
                            · first | rw [if_pos (by omega)] | rw [if_neg (by omega)]
                            · first | rw [if_pos (by omega)] | rw [if_neg (by omega)]
                        exact am_less (by intro q hq; simp only [List.mem_cons, List.not_mem_nil, or_false] at hq; rcases hq with rfl | rfl | rfl | rfl | rfl | rfl <;> simp) (ih72 (i + 1) S2 ((itS (i + 1) σ).2.1 96 1) (coM σ (sfD (itS (i) σ))) 1 (by omega) (by omega) (by omega) hD2 hch)
                  · refine am_iload (q := 105) rfl (am_tab tk_X10_cheapest 57 rfl) rfl ?_
                    refine am_iload_n (q := 106) rfl (am_tab tk_X10_cheapest 58 rfl) rfl ?_
                    refine am_icmp_ge (q := 109) (t := 119) (am_tab tk_X10_cheapest 59 rfl) (by decide) rfl (fun h106 => ?_) (fun h106 => ?_)
                    · refine am_aload_n (q := 120) rfl (am_tab tk_X10_cheapest 67 rfl) rfl ?_
                      refine am_getI (q := 123) (a := 55) (k := 10) (n := 108) (j := 62) (x := (fsD (itS (i) σ))) (Ls_55 hD2.2.2.1.L) (by decide) rfl hLD2.2.2 (by decide) (Or.inl kf_X10_464) (am_tab tk_X10_cheapest 68 rfl) rfl ?_
                      refine am_if_ne (q := 126) (t := 143) (am_tab tk_X10_cheapest 69 rfl) (by decide) rfl (fun h123 => ?_) (fun h123 => ?_)
                      · refine am_iconst (q := 144) (n := 0) (by decide) (am_tab tk_X10_cheapest 79 rfl) rfl ?_
                        refine am_istore (q := 146) (by decide) (ls2 := [(4, am_i 0), (6, am_i (coM σ (sfD (itS (i) σ)))), (5, am_i (((i : Int) + 1))), (2, am_i be), (3, am_i le), (0, am_r 55), (1, am_i w)]) rfl (am_tab tk_X10_cheapest 80 rfl) rfl ?_
                        refine am_iinc (q := 149) rfl (by omega) (by decide) (ls2 := [(5, am_i ((((i : Int) + 1) + 1))), (4, am_i 0), (6, am_i (coM σ (sfD (itS (i) σ)))), (2, am_i be), (3, am_i le), (0, am_r 55), (1, am_i w)]) rfl (am_tab tk_X10_cheapest 81 rfl) rfl ?_
                        refine am_goto (t := 72) (am_tab tk_X10_cheapest 82 rfl) (by decide) ?_
                        have hm1 : ¬ (chF σ i).2.2 = 0 := by rw [hc]; exact h81
                        have hch : chF σ (i + 1) = (be, le, 0) := by
                          show (if (chF σ i).2.2 = 0 then _ else _) = _
                          rw [if_neg hm1, hc]
                          simp only
                          congr 1
                          · first | rw [if_pos (by omega)] | rw [if_neg (by omega)]
                          · congr 1
                            · first | rw [if_pos (by omega)] | rw [if_neg (by omega)]
                            · first | rw [if_pos (by omega)] | rw [if_neg (by omega)]
                        exact am_less (by intro q hq; simp only [List.mem_cons, List.not_mem_nil, or_false] at hq; rcases hq with rfl | rfl | rfl | rfl | rfl | rfl <;> simp) (ih72 (i + 1) S2 be le 0 (by omega) (by omega) (by omega) hD2 hch)
                      · refine am_aload_n (q := 127) rfl (am_tab tk_X10_cheapest 70 rfl) rfl ?_
                        refine am_getR (q := 130) (a := 55) (k := 10) (n := 108) (j := 54) (r := some (96)) (Ls_55 hD2.2.2.1.L) (by decide) rfl (Lr_55_54 hD2.2.2.1.L) (by decide) (Or.inl kf_X10_136) (am_tab tk_X10_cheapest 71 rfl) rfl ?_
                        refine am_iconst (q := 131) (n := 1) (by decide) (am_tab tk_X10_cheapest 72 rfl) rfl ?_
                        refine am_iald (q := 132) (a := 96) (n := 443) (x := ((itS (i + 1) σ).2.1 96 1)) (Ls_96 hD2.2.2.1.L) (by omega) (by omega) (cn_at hD2.2.1 96 1 (by decide) (by decide)) (am_tab tk_X10_cheapest 73 rfl) rfl ?_
                        refine am_aload_n (q := 133) rfl (am_tab tk_X10_cheapest 74 rfl) rfl ?_
                        refine am_callV0 (q := 136) (me2 := M_X10_yearDays) (b := 55) (kb := 10) (nb := 108) (As := []) (rest := [am_i (((itS (i + 1) σ).2.1 96 1))]) (out := [am_i (S2.2.1 85 9), am_i (((itS (i + 1) σ).2.1 96 1))]) (c_X10_yearDays S2 hD2.2.2.1.L  ) ⟨rfl, rfl⟩ (Ls_55 hD2.2.2.1.L) (by decide) ⟨Or.inl km_X10_397, kc_X10_yearDays, kn_X10, kd_X10_yearDays, ⟨(Nat.le_of_ble_eq_true rfl), (Nat.le_of_ble_eq_true rfl)⟩, ⟨(Nat.le_of_ble_eq_true rfl), (Nat.le_of_ble_eq_true rfl)⟩, (Nat.le_of_ble_eq_true rfl)⟩ ki_X10_yearDays ks_X10_yearDays rfl rfl (am_tab tk_X10_cheapest 75 rfl) rfl ?_
                        refine am_st (st2 := [am_i ((σ.2.1 85 9)), am_i (((itS (i + 1) σ).2.1 96 1))]) (by simp only [(show S2.2.1 85 9 = σ.2.1 85 9 from (hD2.1.2.2 85 9 (by unfold W_ah; omega)))]) ?_
                        refine am_icmp_ge (q := 139) (t := 143) (am_tab tk_X10_cheapest 76 rfl) (by decide) rfl (fun h136 => ?_) (fun h136 => ?_)
                        · refine am_iconst (q := 144) (n := 0) (by decide) (am_tab tk_X10_cheapest 79 rfl) rfl ?_
                          refine am_istore (q := 146) (by decide) (ls2 := [(4, am_i 0), (6, am_i (coM σ (sfD (itS (i) σ)))), (5, am_i (((i : Int) + 1))), (2, am_i be), (3, am_i le), (0, am_r 55), (1, am_i w)]) rfl (am_tab tk_X10_cheapest 80 rfl) rfl ?_
                          refine am_iinc (q := 149) rfl (by omega) (by decide) (ls2 := [(5, am_i ((((i : Int) + 1) + 1))), (4, am_i 0), (6, am_i (coM σ (sfD (itS (i) σ)))), (2, am_i be), (3, am_i le), (0, am_r 55), (1, am_i w)]) rfl (am_tab tk_X10_cheapest 81 rfl) rfl ?_
                          refine am_goto (t := 72) (am_tab tk_X10_cheapest 82 rfl) (by decide) ?_
                          have hm1 : ¬ (chF σ i).2.2 = 0 := by rw [hc]; exact h81
                          have hch : chF σ (i + 1) = (be, le, 0) := by
                            show (if (chF σ i).2.2 = 0 then _ else _) = _
                            rw [if_neg hm1, hc]
                            simp only
                            congr 1
                            · first | rw [if_pos (by omega)] | rw [if_neg (by omega)]
                            · congr 1
                              · first | rw [if_pos (by omega)] | rw [if_neg (by omega)]
                              · first | rw [if_pos (by omega)] | rw [if_neg (by omega)]
                          exact am_less (by intro q hq; simp only [List.mem_cons, List.not_mem_nil, or_false] at hq; rcases hq with rfl | rfl | rfl | rfl | rfl | rfl <;> simp) (ih72 (i + 1) S2 be le 0 (by omega) (by omega) (by omega) hD2 hch)
                        · refine am_iconst (q := 140) (n := 1) (by decide) (am_tab tk_X10_cheapest 77 rfl) rfl ?_
                          refine am_goto (t := 144) (am_tab tk_X10_cheapest 78 rfl) (by decide) ?_
                          refine am_istore (q := 146) (by decide) (ls2 := [(4, am_i 1), (6, am_i (coM σ (sfD (itS (i) σ)))), (5, am_i (((i : Int) + 1))), (2, am_i be), (3, am_i le), (0, am_r 55), (1, am_i w)]) rfl (am_tab tk_X10_cheapest 80 rfl) rfl ?_
                          refine am_iinc (q := 149) rfl (by omega) (by decide) (ls2 := [(5, am_i ((((i : Int) + 1) + 1))), (4, am_i 1), (6, am_i (coM σ (sfD (itS (i) σ)))), (2, am_i be), (3, am_i le), (0, am_r 55), (1, am_i w)]) rfl (am_tab tk_X10_cheapest 81 rfl) rfl ?_
                          refine am_goto (t := 72) (am_tab tk_X10_cheapest 82 rfl) (by decide) ?_
                          have hm1 : ¬ (chF σ i).2.2 = 0 := by rw [hc]; exact h81
                          have hch : chF σ (i + 1) = (be, le, 1) := by
                            show (if (chF σ i).2.2 = 0 then _ else _) = _
                            rw [if_neg hm1, hc]
                            simp only
                            congr 1
                            · first | rw [if_pos (by omega)] | rw [if_neg (by omega)]
                            · congr 1
                              · first | rw [if_pos (by omega)] | rw [if_neg (by omega)]
                              · first | rw [if_pos (by omega)] | rw [if_neg (by omega)]
                          exact am_less (by intro q hq; simp only [List.mem_cons, List.not_mem_nil, or_false] at hq; rcases hq with rfl | rfl | rfl | rfl | rfl | rfl <;> simp) (ih72 (i + 1) S2 be le 1 (by omega) (by omega) (by omega) hD2 hch)
                    · refine am_aload_n (q := 110) rfl (am_tab tk_X10_cheapest 60 rfl) rfl ?_
                      refine am_getR (q := 113) (a := 55) (k := 10) (n := 108) (j := 54) (r := some (96)) (Ls_55 hD2.2.2.1.L) (by decide) rfl (Lr_55_54 hD2.2.2.1.L) (by decide) (Or.inl kf_X10_136) (am_tab tk_X10_cheapest 61 rfl) rfl ?_
                      refine am_iconst (q := 114) (n := 1) (by decide) (am_tab tk_X10_cheapest 62 rfl) rfl ?_
                      refine am_iald (q := 115) (a := 96) (n := 443) (x := ((itS (i + 1) σ).2.1 96 1)) (Ls_96 hD2.2.2.1.L) (by omega) (by omega) (cn_at hD2.2.1 96 1 (by decide) (by decide)) (am_tab tk_X10_cheapest 63 rfl) rfl ?_
                      refine am_istore_n (q := 116) (by decide) (ls2 := [(2, am_i (((itS (i + 1) σ).2.1 96 1))), (6, am_i (coM σ (sfD (itS (i) σ)))), (5, am_i (((i : Int) + 1))), (3, am_i le), (4, am_i mo), (0, am_r 55), (1, am_i w)]) rfl (am_tab tk_X10_cheapest 64 rfl) rfl ?_
                      refine am_iload (q := 118) rfl (am_tab tk_X10_cheapest 65 rfl) rfl ?_
                      refine am_istore_n (q := 119) (by decide) (ls2 := [(3, am_i (coM σ (sfD (itS (i) σ)))), (2, am_i (((itS (i + 1) σ).2.1 96 1))), (6, am_i (coM σ (sfD (itS (i) σ)))), (5, am_i (((i : Int) + 1))), (4, am_i mo), (0, am_r 55), (1, am_i w)]) rfl (am_tab tk_X10_cheapest 66 rfl) rfl ?_
                      refine am_aload_n (q := 120) rfl (am_tab tk_X10_cheapest 67 rfl) rfl ?_
                      refine am_getI (q := 123) (a := 55) (k := 10) (n := 108) (j := 62) (x := (fsD (itS (i) σ))) (Ls_55 hD2.2.2.1.L) (by decide) rfl hLD2.2.2 (by decide) (Or.inl kf_X10_464) (am_tab tk_X10_cheapest 68 rfl) rfl ?_
                      refine am_if_ne (q := 126) (t := 143) (am_tab tk_X10_cheapest 69 rfl) (by decide) rfl (fun h123 => ?_) (fun h123 => ?_)
                      · refine am_iconst (q := 144) (n := 0) (by decide) (am_tab tk_X10_cheapest 79 rfl) rfl ?_
                        refine am_istore (q := 146) (by decide) (ls2 := [(4, am_i 0), (3, am_i (coM σ (sfD (itS (i) σ)))), (2, am_i (((itS (i + 1) σ).2.1 96 1))), (6, am_i (coM σ (sfD (itS (i) σ)))), (5, am_i (((i : Int) + 1))), (0, am_r 55), (1, am_i w)]) rfl (am_tab tk_X10_cheapest 80 rfl) rfl ?_
                        refine am_iinc (q := 149) rfl (by omega) (by decide) (ls2 := [(5, am_i ((((i : Int) + 1) + 1))), (4, am_i 0), (3, am_i (coM σ (sfD (itS (i) σ)))), (2, am_i (((itS (i + 1) σ).2.1 96 1))), (6, am_i (coM σ (sfD (itS (i) σ)))), (0, am_r 55), (1, am_i w)]) rfl (am_tab tk_X10_cheapest 81 rfl) rfl ?_
                        refine am_goto (t := 72) (am_tab tk_X10_cheapest 82 rfl) (by decide) ?_
                        have hm1 : ¬ (chF σ i).2.2 = 0 := by rw [hc]; exact h81
                        have hch : chF σ (i + 1) = (((itS (i + 1) σ).2.1 96 1), coM σ (sfD (itS (i) σ)), 0) := by
                          show (if (chF σ i).2.2 = 0 then _ else _) = _
                          rw [if_neg hm1, hc]
                          simp only
                          congr 1
                          · first | rw [if_pos (by omega)] | rw [if_neg (by omega)]
                          · congr 1
                            · first | rw [if_pos (by omega)] | rw [if_neg (by omega)]
                            · first | rw [if_pos (by omega)] | rw [if_neg (by omega)]
                        exact am_less (by intro q hq; simp only [List.mem_cons, List.not_mem_nil, or_false] at hq; rcases hq with rfl | rfl | rfl | rfl | rfl | rfl <;> simp) (ih72 (i + 1) S2 ((itS (i + 1) σ).2.1 96 1) (coM σ (sfD (itS (i) σ))) 0 (by omega) (by omega) (by omega) hD2 hch)
                      · refine am_aload_n (q := 127) rfl (am_tab tk_X10_cheapest 70 rfl) rfl ?_
                        refine am_getR (q := 130) (a := 55) (k := 10) (n := 108) (j := 54) (r := some (96)) (Ls_55 hD2.2.2.1.L) (by decide) rfl (Lr_55_54 hD2.2.2.1.L) (by decide) (Or.inl kf_X10_136) (am_tab tk_X10_cheapest 71 rfl) rfl ?_
                        refine am_iconst (q := 131) (n := 1) (by decide) (am_tab tk_X10_cheapest 72 rfl) rfl ?_
                        refine am_iald (q := 132) (a := 96) (n := 443) (x := ((itS (i + 1) σ).2.1 96 1)) (Ls_96 hD2.2.2.1.L) (by omega) (by omega) (cn_at hD2.2.1 96 1 (by decide) (by decide)) (am_tab tk_X10_cheapest 73 rfl) rfl ?_
                        refine am_aload_n (q := 133) rfl (am_tab tk_X10_cheapest 74 rfl) rfl ?_
                        refine am_callV0 (q := 136) (me2 := M_X10_yearDays) (b := 55) (kb := 10) (nb := 108) (As := []) (rest := [am_i (((itS (i + 1) σ).2.1 96 1))]) (out := [am_i (S2.2.1 85 9), am_i (((itS (i + 1) σ).2.1 96 1))]) (c_X10_yearDays S2 hD2.2.2.1.L  ) ⟨rfl, rfl⟩ (Ls_55 hD2.2.2.1.L) (by decide) ⟨Or.inl km_X10_397, kc_X10_yearDays, kn_X10, kd_X10_yearDays, ⟨(Nat.le_of_ble_eq_true rfl), (Nat.le_of_ble_eq_true rfl)⟩, ⟨(Nat.le_of_ble_eq_true rfl), (Nat.le_of_ble_eq_true rfl)⟩, (Nat.le_of_ble_eq_true rfl)⟩ ki_X10_yearDays ks_X10_yearDays rfl rfl (am_tab tk_X10_cheapest 75 rfl) rfl ?_
                        refine am_st (st2 := [am_i ((σ.2.1 85 9)), am_i (((itS (i + 1) σ).2.1 96 1))]) (by simp only [(show S2.2.1 85 9 = σ.2.1 85 9 from (hD2.1.2.2 85 9 (by unfold W_ah; omega)))]) ?_
                        refine am_icmp_ge (q := 139) (t := 143) (am_tab tk_X10_cheapest 76 rfl) (by decide) rfl (fun h136 => ?_) (fun h136 => ?_)
                        · refine am_iconst (q := 144) (n := 0) (by decide) (am_tab tk_X10_cheapest 79 rfl) rfl ?_
                          refine am_istore (q := 146) (by decide) (ls2 := [(4, am_i 0), (3, am_i (coM σ (sfD (itS (i) σ)))), (2, am_i (((itS (i + 1) σ).2.1 96 1))), (6, am_i (coM σ (sfD (itS (i) σ)))), (5, am_i (((i : Int) + 1))), (0, am_r 55), (1, am_i w)]) rfl (am_tab tk_X10_cheapest 80 rfl) rfl ?_
                          refine am_iinc (q := 149) rfl (by omega) (by decide) (ls2 := [(5, am_i ((((i : Int) + 1) + 1))), (4, am_i 0), (3, am_i (coM σ (sfD (itS (i) σ)))), (2, am_i (((itS (i + 1) σ).2.1 96 1))), (6, am_i (coM σ (sfD (itS (i) σ)))), (0, am_r 55), (1, am_i w)]) rfl (am_tab tk_X10_cheapest 81 rfl) rfl ?_
                          refine am_goto (t := 72) (am_tab tk_X10_cheapest 82 rfl) (by decide) ?_
                          have hm1 : ¬ (chF σ i).2.2 = 0 := by rw [hc]; exact h81
                          have hch : chF σ (i + 1) = (((itS (i + 1) σ).2.1 96 1), coM σ (sfD (itS (i) σ)), 0) := by
                            show (if (chF σ i).2.2 = 0 then _ else _) = _
                            rw [if_neg hm1, hc]
                            simp only
                            congr 1
                            · first | rw [if_pos (by omega)] | rw [if_neg (by omega)]
                            · congr 1
                              · first | rw [if_pos (by omega)] | rw [if_neg (by omega)]
                              · first | rw [if_pos (by omega)] | rw [if_neg (by omega)]
                          exact am_less (by intro q hq; simp only [List.mem_cons, List.not_mem_nil, or_false] at hq; rcases hq with rfl | rfl | rfl | rfl | rfl | rfl <;> simp) (ih72 (i + 1) S2 ((itS (i + 1) σ).2.1 96 1) (coM σ (sfD (itS (i) σ))) 0 (by omega) (by omega) (by omega) hD2 hch)
                        · refine am_iconst (q := 140) (n := 1) (by decide) (am_tab tk_X10_cheapest 77 rfl) rfl ?_
                          refine am_goto (t := 144) (am_tab tk_X10_cheapest 78 rfl) (by decide) ?_
                          refine am_istore (q := 146) (by decide) (ls2 := [(4, am_i 1), (3, am_i (coM σ (sfD (itS (i) σ)))), (2, am_i (((itS (i + 1) σ).2.1 96 1))), (6, am_i (coM σ (sfD (itS (i) σ)))), (5, am_i (((i : Int) + 1))), (0, am_r 55), (1, am_i w)]) rfl (am_tab tk_X10_cheapest 80 rfl) rfl ?_
                          refine am_iinc (q := 149) rfl (by omega) (by decide) (ls2 := [(5, am_i ((((i : Int) + 1) + 1))), (4, am_i 1), (3, am_i (coM σ (sfD (itS (i) σ)))), (2, am_i (((itS (i + 1) σ).2.1 96 1))), (6, am_i (coM σ (sfD (itS (i) σ)))), (0, am_r 55), (1, am_i w)]) rfl (am_tab tk_X10_cheapest 81 rfl) rfl ?_
                          refine am_goto (t := 72) (am_tab tk_X10_cheapest 82 rfl) (by decide) ?_
                          have hm1 : ¬ (chF σ i).2.2 = 0 := by rw [hc]; exact h81
                          have hch : chF σ (i + 1) = (((itS (i + 1) σ).2.1 96 1), coM σ (sfD (itS (i) σ)), 1) := by
                            show (if (chF σ i).2.2 = 0 then _ else _) = _
                            rw [if_neg hm1, hc]
                            simp only
                            congr 1
                            · first | rw [if_pos (by omega)] | rw [if_neg (by omega)]
                            · congr 1
                              · first | rw [if_pos (by omega)] | rw [if_neg (by omega)]
                              · first | rw [if_pos (by omega)] | rw [if_neg (by omega)]
                          exact am_less (by intro q hq; simp only [List.mem_cons, List.not_mem_nil, or_false] at hq; rcases hq with rfl | rfl | rfl | rfl | rfl | rfl <;> simp) (ih72 (i + 1) S2 ((itS (i + 1) σ).2.1 96 1) (coM σ (sfD (itS (i) σ))) 1 (by omega) (by omega) (by omega) hD2 hch)
          refine am_less (by intro q hq; simp only [List.mem_cons, List.not_mem_nil, or_false] at hq; rcases hq with rfl | rfl | rfl | rfl | rfl | rfl <;> simp) (L72 (_ + 1) 0 S0 (-1) 0 0 (by exact Nat.lt_succ_self _) (by omega) (by omega) hD0 (by show (_, _, if σ.2.1 96 1 < σ.2.1 85 9 then (1 : Int) else 0) = _; first | rw [if_pos (by omega)] | rw [if_neg (by omega)]))
        · refine am_iconst (q := 63) (n := 1) (by decide) (am_tab tk_X10_cheapest 36 rfl) rfl ?_
          refine am_goto (t := 67) (am_tab tk_X10_cheapest 37 rfl) (by decide) ?_
          refine am_istore (q := 69) (by decide) (ls2 := [(4, am_i 1), (3, am_i 0), (2, am_i ((-1))), (0, am_r 55), (1, am_i w)]) rfl (am_tab tk_X10_cheapest 39 rfl) rfl ?_
          refine am_iconst (q := 70) (n := 1) (by decide) (am_tab tk_X10_cheapest 40 rfl) rfl ?_
          refine am_istore (q := 72) (by decide) (ls2 := [(5, am_i 1), (4, am_i 1), (3, am_i 0), (2, am_i ((-1))), (0, am_r 55), (1, am_i w)]) rfl (am_tab tk_X10_cheapest 41 rfl) rfl ?_
          have hdl := dl_rng hG.R
          have L72 : ∀ (n72 : Nat) (i : Nat) (S : am_H) (be : Int) (le : Int) (mo : Int), 200 - i < n72 → i ≤ 120 → (i : Int) ≤ dlM σ → DS σ i S → chF σ i = (be, le, mo) → am_wp M_X10_cheapest Q 0 0 72 [(5, am_i (((i : Int) + 1))), (2, am_i be), (3, am_i le), (4, am_i mo), (0, am_r 55), (1, am_i w)] [] S := by
            intro n72
            induction n72 with
            | zero => intro i S be le mo hn72; exact absurd hn72 (Nat.not_lt_zero _)
            | succ n72 ih72 =>
              intro i S be le mo hn72 hi hil hD hc
              have hmd : ¬ mo = 0 → (i : Int) + 1 ≤ dlM σ := by
                intro hm
                have hg := itS_GD hG i hil
                have hcc : cc (itS i σ) := by
                  refine ⟨by rw [itS_85 σ 85 9 (by decide)]; have := hG.R.T; omega, Or.inr ?_⟩
                  rw [itS_85 σ 85 9 (by decide)]
                  cases i with
                  | zero =>
                    have h8 : mo = (if σ.2.1 96 1 < σ.2.1 85 9 then 1 else 0) := (congrArg (fun z => z.2.2) hc).symm
                    by_cases h9 : σ.2.1 96 1 < σ.2.1 85 9
                    · exact h9
                    · rw [if_neg h9] at h8; exact absurd h8 hm
                  | succ i =>
                    have h8 := congrArg (fun z => z.2.2) hc
                    simp only [chF] at h8
                    by_cases h7 : (chF σ i).2.2 = 0
                    · rw [if_pos h7] at h8; omega
                    · rw [if_neg h7] at h8
                      simp only at h8
                      by_cases h9 : fsD (itS i σ) = 0 ∧ (itS (i + 1) σ).2.1 96 1 < σ.2.1 85 9
                      · exact h9.2
                      · rw [if_neg h9] at h8; exact absurd h8.symm hm
                have := of_cc hg.1.R hcc
                omega
              refine am_iload (q := 74) rfl (am_tab tk_X10_cheapest 42 rfl) rfl ?_
              refine am_bipush (q := 76) (n := 120) (by decide) rfl (am_tab tk_X10_cheapest 43 rfl) rfl ?_
              refine am_icmp_gt (q := 79) (t := 152) (am_tab tk_X10_cheapest 44 rfl) (by decide) rfl (fun h76 => ?_) (fun h76 => ?_)
              · refine am_aload_n (q := 153) rfl (am_tab tk_X10_cheapest 83 rfl) rfl ?_
                refine am_callVr (q := 156) (me2 := M_X10_takesBack) (b := 55) (kb := 10) (nb := 108) (As := []) (rest := []) (c_back σ hG (i) (by omega) S hD) ⟨rfl, rfl⟩ (Ls_55 hD.2.2.1.L) (by decide) ⟨Or.inl km_X10_520, kc_X10_takesBack, kn_X10, kd_X10_takesBack, ⟨(Nat.le_of_ble_eq_true rfl), (Nat.le_of_ble_eq_true rfl)⟩, ⟨(Nat.le_of_ble_eq_true rfl), (Nat.le_of_ble_eq_true rfl)⟩, (Nat.le_of_ble_eq_true rfl)⟩ ki_X10_takesBack ks_X10_takesBack rfl (am_tab tk_X10_cheapest 84 rfl) rfl ?_
                rintro r S9 ⟨rfl, hP9⟩
                refine am_st (st2 := []) rfl ?_
                refine am_iload_n (q := 157) rfl (am_tab tk_X10_cheapest 85 rfl) rfl ?_
                refine am_iconst (q := 158) (n := (-1)) (by decide) (am_tab tk_X10_cheapest 86 rfl) rfl ?_
                refine am_icmp_ne (q := 161) (t := 165) (am_tab tk_X10_cheapest 87 rfl) (by decide) rfl (fun h158 => ?_) (fun h158 => ?_)
                · refine am_iload_n (q := 166) rfl (am_tab tk_X10_cheapest 90 rfl) rfl ?_
                  refine am_if_ne (q := 169) (t := 173) (am_tab tk_X10_cheapest 91 rfl) (by decide) rfl (fun h166 => ?_) (fun h166 => ?_)
                  · refine am_iload_n (q := 174) rfl (am_tab tk_X10_cheapest 94 rfl) rfl ?_
                    refine am_iret (Or.inl rfl) (Nat.le_of_ble_eq_true rfl) (Nat.le_of_ble_eq_true rfl) (am_tab tk_X10_cheapest 95 rfl) ?_
                    refine hQ _ _ ?_
                    refine ⟨congrArg (fun z => some (am_i z)) ?_, hP9⟩
                    have hfin : chF σ 120 = (be, le, mo) := by
                      rcases (show i = 120 ∨ mo = 0 by omega) with h9 | h9
                      · rw [← h9, hc]
                      · have h8 := chF_stop (σ := σ) (i := i) (by rw [hc]; exact h9) (120 - i)
                        rw [show i + (120 - i) = 120 by omega] at h8
                        rw [h8, hc]
                    unfold cheM
                    rw [if_pos (by omega), hfin]
                    simp only
                    first | rw [if_pos (by omega)] | (rw [if_neg (by omega)]; first | rw [if_pos (by omega)] | rw [if_neg (by omega)])
                  · refine am_iload_n (q := 170) rfl (am_tab tk_X10_cheapest 92 rfl) rfl ?_
                    refine am_goto (t := 174) (am_tab tk_X10_cheapest 93 rfl) (by decide) ?_
                    refine am_iret (Or.inl rfl) (Nat.le_of_ble_eq_true rfl) (Nat.le_of_ble_eq_true rfl) (am_tab tk_X10_cheapest 95 rfl) ?_
                    refine hQ _ _ ?_
                    refine ⟨congrArg (fun z => some (am_i z)) ?_, hP9⟩
                    have hfin : chF σ 120 = (be, le, mo) := by
                      rcases (show i = 120 ∨ mo = 0 by omega) with h9 | h9
                      · rw [← h9, hc]
                      · have h8 := chF_stop (σ := σ) (i := i) (by rw [hc]; exact h9) (120 - i)
                        rw [show i + (120 - i) = 120 by omega] at h8
                        rw [h8, hc]
                    unfold cheM
                    rw [if_pos (by omega), hfin]
                    simp only
                    first | rw [if_pos (by omega)] | (rw [if_neg (by omega)]; first | rw [if_pos (by omega)] | rw [if_neg (by omega)])
                · refine am_iconst (q := 162) (n := (-1)) (by decide) (am_tab tk_X10_cheapest 88 rfl) rfl ?_
                  refine am_goto (t := 174) (am_tab tk_X10_cheapest 89 rfl) (by decide) ?_
                  refine am_iret (Or.inl rfl) (Nat.le_of_ble_eq_true rfl) (Nat.le_of_ble_eq_true rfl) (am_tab tk_X10_cheapest 95 rfl) ?_
                  refine hQ _ _ ?_
                  refine ⟨congrArg (fun z => some (am_i z)) ?_, hP9⟩
                  have hfin : chF σ 120 = (be, le, mo) := by
                    rcases (show i = 120 ∨ mo = 0 by omega) with h9 | h9
                    · rw [← h9, hc]
                    · have h8 := chF_stop (σ := σ) (i := i) (by rw [hc]; exact h9) (120 - i)
                      rw [show i + (120 - i) = 120 by omega] at h8
                      rw [h8, hc]
                  unfold cheM
                  rw [if_pos (by omega), hfin]
                  simp only
                  first | rw [if_pos (by omega)] | (rw [if_neg (by omega)]; first | rw [if_pos (by omega)] | rw [if_neg (by omega)])
              · refine am_iload (q := 81) rfl (am_tab tk_X10_cheapest 45 rfl) rfl ?_
                refine am_if_eq (q := 84) (t := 152) (am_tab tk_X10_cheapest 46 rfl) (by decide) rfl (fun h81 => ?_) (fun h81 => ?_)
                · refine am_aload_n (q := 153) rfl (am_tab tk_X10_cheapest 83 rfl) rfl ?_
                  refine am_callVr (q := 156) (me2 := M_X10_takesBack) (b := 55) (kb := 10) (nb := 108) (As := []) (rest := []) (c_back σ hG (i) (by omega) S hD) ⟨rfl, rfl⟩ (Ls_55 hD.2.2.1.L) (by decide) ⟨Or.inl km_X10_520, kc_X10_takesBack, kn_X10, kd_X10_takesBack, ⟨(Nat.le_of_ble_eq_true rfl), (Nat.le_of_ble_eq_true rfl)⟩, ⟨(Nat.le_of_ble_eq_true rfl), (Nat.le_of_ble_eq_true rfl)⟩, (Nat.le_of_ble_eq_true rfl)⟩ ki_X10_takesBack ks_X10_takesBack rfl (am_tab tk_X10_cheapest 84 rfl) rfl ?_
                  rintro r S9 ⟨rfl, hP9⟩
                  refine am_st (st2 := []) rfl ?_
                  refine am_iload_n (q := 157) rfl (am_tab tk_X10_cheapest 85 rfl) rfl ?_
                  refine am_iconst (q := 158) (n := (-1)) (by decide) (am_tab tk_X10_cheapest 86 rfl) rfl ?_
                  refine am_icmp_ne (q := 161) (t := 165) (am_tab tk_X10_cheapest 87 rfl) (by decide) rfl (fun h158 => ?_) (fun h158 => ?_)
                  · refine am_iload_n (q := 166) rfl (am_tab tk_X10_cheapest 90 rfl) rfl ?_
                    refine am_if_ne (q := 169) (t := 173) (am_tab tk_X10_cheapest 91 rfl) (by decide) rfl (fun h166 => ?_) (fun h166 => ?_)
                    · refine am_iload_n (q := 174) rfl (am_tab tk_X10_cheapest 94 rfl) rfl ?_
                      refine am_iret (Or.inl rfl) (Nat.le_of_ble_eq_true rfl) (Nat.le_of_ble_eq_true rfl) (am_tab tk_X10_cheapest 95 rfl) ?_
                      refine hQ _ _ ?_
                      refine ⟨congrArg (fun z => some (am_i z)) ?_, hP9⟩
                      have hfin : chF σ 120 = (be, le, mo) := by
                        rcases (show i = 120 ∨ mo = 0 by omega) with h9 | h9
                        · rw [← h9, hc]
                        · have h8 := chF_stop (σ := σ) (i := i) (by rw [hc]; exact h9) (120 - i)
                          rw [show i + (120 - i) = 120 by omega] at h8
                          rw [h8, hc]
                      unfold cheM
                      rw [if_pos (by omega), hfin]
                      simp only
                      first | rw [if_pos (by omega)] | (rw [if_neg (by omega)]; first | rw [if_pos (by omega)] | rw [if_neg (by omega)])
                    · refine am_iload_n (q := 170) rfl (am_tab tk_X10_cheapest 92 rfl) rfl ?_
                      refine am_goto (t := 174) (am_tab tk_X10_cheapest 93 rfl) (by decide) ?_
                      refine am_iret (Or.inl rfl) (Nat.le_of_ble_eq_true rfl) (Nat.le_of_ble_eq_true rfl) (am_tab tk_X10_cheapest 95 rfl) ?_
                      refine hQ _ _ ?_
                      refine ⟨congrArg (fun z => some (am_i z)) ?_, hP9⟩
                      have hfin : chF σ 120 = (be, le, mo) := by
                        rcases (show i = 120 ∨ mo = 0 by omega) with h9 | h9
                        · rw [← h9, hc]
                        · have h8 := chF_stop (σ := σ) (i := i) (by rw [hc]; exact h9) (120 - i)
                          rw [show i + (120 - i) = 120 by omega] at h8
                          rw [h8, hc]
                      unfold cheM
                      rw [if_pos (by omega), hfin]
                      simp only
                      first | rw [if_pos (by omega)] | (rw [if_neg (by omega)]; first | rw [if_pos (by omega)] | rw [if_neg (by omega)])
                  · refine am_iconst (q := 162) (n := (-1)) (by decide) (am_tab tk_X10_cheapest 88 rfl) rfl ?_
                    refine am_goto (t := 174) (am_tab tk_X10_cheapest 89 rfl) (by decide) ?_
                    refine am_iret (Or.inl rfl) (Nat.le_of_ble_eq_true rfl) (Nat.le_of_ble_eq_true rfl) (am_tab tk_X10_cheapest 95 rfl) ?_
                    refine hQ _ _ ?_
                    refine ⟨congrArg (fun z => some (am_i z)) ?_, hP9⟩
                    have hfin : chF σ 120 = (be, le, mo) := by
                      rcases (show i = 120 ∨ mo = 0 by omega) with h9 | h9
                      · rw [← h9, hc]
                      · have h8 := chF_stop (σ := σ) (i := i) (by rw [hc]; exact h9) (120 - i)
                        rw [show i + (120 - i) = 120 by omega] at h8
                        rw [h8, hc]
                    unfold cheM
                    rw [if_pos (by omega), hfin]
                    simp only
                    first | rw [if_pos (by omega)] | (rw [if_neg (by omega)]; first | rw [if_pos (by omega)] | rw [if_neg (by omega)])
                · refine am_aload_n (q := 85) rfl (am_tab tk_X10_cheapest 47 rfl) rfl ?_
                  refine am_callVr (q := 88) (me2 := M_X10_dayGoes) (b := 55) (kb := 10) (nb := 108) (As := []) (rest := []) (c_day σ hG (i) (by have := hmd h81; omega) S hD) ⟨rfl, rfl⟩ (Ls_55 hD.2.2.1.L) (by decide) ⟨Or.inl km_X10_476, kc_X10_dayGoes, kn_X10, kd_X10_dayGoes, ⟨(Nat.le_of_ble_eq_true rfl), (Nat.le_of_ble_eq_true rfl)⟩, ⟨(Nat.le_of_ble_eq_true rfl), (Nat.le_of_ble_eq_true rfl)⟩, (Nat.le_of_ble_eq_true rfl)⟩ ki_X10_dayGoes ks_X10_dayGoes rfl (am_tab tk_X10_cheapest 48 rfl) rfl ?_
                  rintro r S2 ⟨rfl, hD2, hLD2⟩
                  refine am_st (st2 := []) rfl ?_
                  refine am_aload_n (q := 89) rfl (am_tab tk_X10_cheapest 49 rfl) rfl ?_
                  refine am_aload_n (q := 90) rfl (am_tab tk_X10_cheapest 50 rfl) rfl ?_
                  refine am_getI (q := 93) (a := 55) (k := 10) (n := 108) (j := 60) (x := (sfD (itS (i) σ))) (Ls_55 hD2.2.2.1.L) (by decide) rfl hLD2.1 (by decide) (Or.inl kf_X10_455) (am_tab tk_X10_cheapest 51 rfl) rfl ?_
                  refine am_callV0 (q := 96) (me2 := M_X10_costOf) (b := 55) (kb := 10) (nb := 108) (As := [am_i ((sfD (itS (i) σ)))]) (rest := []) (out := [am_i (coM σ (sfD (itS (i) σ)))]) (c_cost2 σ hG S2 hD2 (sfD (itS (i) σ)) (sfD_rng (itS_GD hG _ (by omega)).1 (itS_cc hG (by omega)))) ⟨rfl, rfl⟩ (Ls_55 hD2.2.2.1.L) (by decide) ⟨Or.inl km_X10_528, kc_X10_costOf, kn_X10, kd_X10_costOf, ⟨(Nat.le_of_ble_eq_true rfl), (Nat.le_of_ble_eq_true rfl)⟩, ⟨(Nat.le_of_ble_eq_true rfl), (Nat.le_of_ble_eq_true rfl)⟩, (Nat.le_of_ble_eq_true rfl)⟩ ki_X10_costOf ks_X10_costOf rfl rfl (am_tab tk_X10_cheapest 52 rfl) rfl ?_
                  refine am_istore (q := 98) (by decide) (ls2 := [(6, am_i (coM σ (sfD (itS (i) σ)))), (5, am_i (((i : Int) + 1))), (2, am_i be), (3, am_i le), (4, am_i mo), (0, am_r 55), (1, am_i w)]) rfl (am_tab tk_X10_cheapest 53 rfl) rfl ?_
                  refine am_iload_n (q := 99) rfl (am_tab tk_X10_cheapest 54 rfl) rfl ?_
                  refine am_iconst (q := 100) (n := (-1)) (by decide) (am_tab tk_X10_cheapest 55 rfl) rfl ?_
                  refine am_icmp_eq (q := 103) (t := 109) (am_tab tk_X10_cheapest 56 rfl) (by decide) rfl (fun h100 => ?_) (fun h100 => ?_)
                  · refine am_aload_n (q := 110) rfl (am_tab tk_X10_cheapest 60 rfl) rfl ?_
                    refine am_getR (q := 113) (a := 55) (k := 10) (n := 108) (j := 54) (r := some (96)) (Ls_55 hD2.2.2.1.L) (by decide) rfl (Lr_55_54 hD2.2.2.1.L) (by decide) (Or.inl kf_X10_136) (am_tab tk_X10_cheapest 61 rfl) rfl ?_
                    refine am_iconst (q := 114) (n := 1) (by decide) (am_tab tk_X10_cheapest 62 rfl) rfl ?_
                    refine am_iald (q := 115) (a := 96) (n := 443) (x := ((itS (i + 1) σ).2.1 96 1)) (Ls_96 hD2.2.2.1.L) (by omega) (by omega) (cn_at hD2.2.1 96 1 (by decide) (by decide)) (am_tab tk_X10_cheapest 63 rfl) rfl ?_
                    refine am_istore_n (q := 116) (by decide) (ls2 := [(2, am_i (((itS (i + 1) σ).2.1 96 1))), (6, am_i (coM σ (sfD (itS (i) σ)))), (5, am_i (((i : Int) + 1))), (3, am_i le), (4, am_i mo), (0, am_r 55), (1, am_i w)]) rfl (am_tab tk_X10_cheapest 64 rfl) rfl ?_
                    refine am_iload (q := 118) rfl (am_tab tk_X10_cheapest 65 rfl) rfl ?_
                    refine am_istore_n (q := 119) (by decide) (ls2 := [(3, am_i (coM σ (sfD (itS (i) σ)))), (2, am_i (((itS (i + 1) σ).2.1 96 1))), (6, am_i (coM σ (sfD (itS (i) σ)))), (5, am_i (((i : Int) + 1))), (4, am_i mo), (0, am_r 55), (1, am_i w)]) rfl (am_tab tk_X10_cheapest 66 rfl) rfl ?_
                    refine am_aload_n (q := 120) rfl (am_tab tk_X10_cheapest 67 rfl) rfl ?_
                    refine am_getI (q := 123) (a := 55) (k := 10) (n := 108) (j := 62) (x := (fsD (itS (i) σ))) (Ls_55 hD2.2.2.1.L) (by decide) rfl hLD2.2.2 (by decide) (Or.inl kf_X10_464) (am_tab tk_X10_cheapest 68 rfl) rfl ?_
                    refine am_if_ne (q := 126) (t := 143) (am_tab tk_X10_cheapest 69 rfl) (by decide) rfl (fun h123 => ?_) (fun h123 => ?_)
                    · refine am_iconst (q := 144) (n := 0) (by decide) (am_tab tk_X10_cheapest 79 rfl) rfl ?_
                      refine am_istore (q := 146) (by decide) (ls2 := [(4, am_i 0), (3, am_i (coM σ (sfD (itS (i) σ)))), (2, am_i (((itS (i + 1) σ).2.1 96 1))), (6, am_i (coM σ (sfD (itS (i) σ)))), (5, am_i (((i : Int) + 1))), (0, am_r 55), (1, am_i w)]) rfl (am_tab tk_X10_cheapest 80 rfl) rfl ?_
                      refine am_iinc (q := 149) rfl (by omega) (by decide) (ls2 := [(5, am_i ((((i : Int) + 1) + 1))), (4, am_i 0), (3, am_i (coM σ (sfD (itS (i) σ)))), (2, am_i (((itS (i + 1) σ).2.1 96 1))), (6, am_i (coM σ (sfD (itS (i) σ)))), (0, am_r 55), (1, am_i w)]) rfl (am_tab tk_X10_cheapest 81 rfl) rfl ?_
                      refine am_goto (t := 72) (am_tab tk_X10_cheapest 82 rfl) (by decide) ?_
                      have hm1 : ¬ (chF σ i).2.2 = 0 := by rw [hc]; exact h81
                      have hch : chF σ (i + 1) = (((itS (i + 1) σ).2.1 96 1), coM σ (sfD (itS (i) σ)), 0) := by
                        show (if (chF σ i).2.2 = 0 then _ else _) = _
                        rw [if_neg hm1, hc]
                        simp only
                        congr 1
                        · first | rw [if_pos (by omega)] | rw [if_neg (by omega)]
                        · congr 1
                          · first | rw [if_pos (by omega)] | rw [if_neg (by omega)]
                          · first | rw [if_pos (by omega)] | rw [if_neg (by omega)]
                      exact am_less (by intro q hq; simp only [List.mem_cons, List.not_mem_nil, or_false] at hq; rcases hq with rfl | rfl | rfl | rfl | rfl | rfl <;> simp) (ih72 (i + 1) S2 ((itS (i + 1) σ).2.1 96 1) (coM σ (sfD (itS (i) σ))) 0 (by omega) (by omega) (by omega) hD2 hch)
                    · refine am_aload_n (q := 127) rfl (am_tab tk_X10_cheapest 70 rfl) rfl ?_
                      refine am_getR (q := 130) (a := 55) (k := 10) (n := 108) (j := 54) (r := some (96)) (Ls_55 hD2.2.2.1.L) (by decide) rfl (Lr_55_54 hD2.2.2.1.L) (by decide) (Or.inl kf_X10_136) (am_tab tk_X10_cheapest 71 rfl) rfl ?_
                      refine am_iconst (q := 131) (n := 1) (by decide) (am_tab tk_X10_cheapest 72 rfl) rfl ?_
                      refine am_iald (q := 132) (a := 96) (n := 443) (x := ((itS (i + 1) σ).2.1 96 1)) (Ls_96 hD2.2.2.1.L) (by omega) (by omega) (cn_at hD2.2.1 96 1 (by decide) (by decide)) (am_tab tk_X10_cheapest 73 rfl) rfl ?_
                      refine am_aload_n (q := 133) rfl (am_tab tk_X10_cheapest 74 rfl) rfl ?_
                      refine am_callV0 (q := 136) (me2 := M_X10_yearDays) (b := 55) (kb := 10) (nb := 108) (As := []) (rest := [am_i (((itS (i + 1) σ).2.1 96 1))]) (out := [am_i (S2.2.1 85 9), am_i (((itS (i + 1) σ).2.1 96 1))]) (c_X10_yearDays S2 hD2.2.2.1.L  ) ⟨rfl, rfl⟩ (Ls_55 hD2.2.2.1.L) (by decide) ⟨Or.inl km_X10_397, kc_X10_yearDays, kn_X10, kd_X10_yearDays, ⟨(Nat.le_of_ble_eq_true rfl), (Nat.le_of_ble_eq_true rfl)⟩, ⟨(Nat.le_of_ble_eq_true rfl), (Nat.le_of_ble_eq_true rfl)⟩, (Nat.le_of_ble_eq_true rfl)⟩ ki_X10_yearDays ks_X10_yearDays rfl rfl (am_tab tk_X10_cheapest 75 rfl) rfl ?_
                      refine am_st (st2 := [am_i ((σ.2.1 85 9)), am_i (((itS (i + 1) σ).2.1 96 1))]) (by simp only [(show S2.2.1 85 9 = σ.2.1 85 9 from (hD2.1.2.2 85 9 (by unfold W_ah; omega)))]) ?_
                      refine am_icmp_ge (q := 139) (t := 143) (am_tab tk_X10_cheapest 76 rfl) (by decide) rfl (fun h136 => ?_) (fun h136 => ?_)
                      · refine am_iconst (q := 144) (n := 0) (by decide) (am_tab tk_X10_cheapest 79 rfl) rfl ?_
                        refine am_istore (q := 146) (by decide) (ls2 := [(4, am_i 0), (3, am_i (coM σ (sfD (itS (i) σ)))), (2, am_i (((itS (i + 1) σ).2.1 96 1))), (6, am_i (coM σ (sfD (itS (i) σ)))), (5, am_i (((i : Int) + 1))), (0, am_r 55), (1, am_i w)]) rfl (am_tab tk_X10_cheapest 80 rfl) rfl ?_
                        refine am_iinc (q := 149) rfl (by omega) (by decide) (ls2 := [(5, am_i ((((i : Int) + 1) + 1))), (4, am_i 0), (3, am_i (coM σ (sfD (itS (i) σ)))), (2, am_i (((itS (i + 1) σ).2.1 96 1))), (6, am_i (coM σ (sfD (itS (i) σ)))), (0, am_r 55), (1, am_i w)]) rfl (am_tab tk_X10_cheapest 81 rfl) rfl ?_
                        refine am_goto (t := 72) (am_tab tk_X10_cheapest 82 rfl) (by decide) ?_
                        have hm1 : ¬ (chF σ i).2.2 = 0 := by rw [hc]; exact h81
                        have hch : chF σ (i + 1) = (((itS (i + 1) σ).2.1 96 1), coM σ (sfD (itS (i) σ)), 0) := by
                          show (if (chF σ i).2.2 = 0 then _ else _) = _
                          rw [if_neg hm1, hc]
                          simp only
                          congr 1
                          · first | rw [if_pos (by omega)] | rw [if_neg (by omega)]
                          · congr 1
                            · first | rw [if_pos (by omega)] | rw [if_neg (by omega)]
                            · first | rw [if_pos (by omega)] | rw [if_neg (by omega)]
                        exact am_less (by intro q hq; simp only [List.mem_cons, List.not_mem_nil, or_false] at hq; rcases hq with rfl | rfl | rfl | rfl | rfl | rfl <;> simp) (ih72 (i + 1) S2 ((itS (i + 1) σ).2.1 96 1) (coM σ (sfD (itS (i) σ))) 0 (by omega) (by omega) (by omega) hD2 hch)
                      · refine am_iconst (q := 140) (n := 1) (by decide) (am_tab tk_X10_cheapest 77 rfl) rfl ?_
                        refine am_goto (t := 144) (am_tab tk_X10_cheapest 78 rfl) (by decide) ?_
                        refine am_istore (q := 146) (by decide) (ls2 := [(4, am_i 1), (3, am_i (coM σ (sfD (itS (i) σ)))), (2, am_i (((itS (i + 1) σ).2.1 96 1))), (6, am_i (coM σ (sfD (itS (i) σ)))), (5, am_i (((i : Int) + 1))), (0, am_r 55), (1, am_i w)]) rfl (am_tab tk_X10_cheapest 80 rfl) rfl ?_
                        refine am_iinc (q := 149) rfl (by omega) (by decide) (ls2 := [(5, am_i ((((i : Int) + 1) + 1))), (4, am_i 1), (3, am_i (coM σ (sfD (itS (i) σ)))), (2, am_i (((itS (i + 1) σ).2.1 96 1))), (6, am_i (coM σ (sfD (itS (i) σ)))), (0, am_r 55), (1, am_i w)]) rfl (am_tab tk_X10_cheapest 81 rfl) rfl ?_
                        refine am_goto (t := 72) (am_tab tk_X10_cheapest 82 rfl) (by decide) ?_
                        have hm1 : ¬ (chF σ i).2.2 = 0 := by rw [hc]; exact h81
                        have hch : chF σ (i + 1) = (((itS (i + 1) σ).2.1 96 1), coM σ (sfD (itS (i) σ)), 1) := by
                          show (if (chF σ i).2.2 = 0 then _ else _) = _
                          rw [if_neg hm1, hc]
                          simp only
                          congr 1
                          · first | rw [if_pos (by omega)] | rw [if_neg (by omega)]
                          · congr 1
                            · first | rw [if_pos (by omega)] | rw [if_neg (by omega)]
                            · first | rw [if_pos (by omega)] | rw [if_neg (by omega)]
                        exact am_less (by intro q hq; simp only [List.mem_cons, List.not_mem_nil, or_false] at hq; rcases hq with rfl | rfl | rfl | rfl | rfl | rfl <;> simp) (ih72 (i + 1) S2 ((itS (i + 1) σ).2.1 96 1) (coM σ (sfD (itS (i) σ))) 1 (by omega) (by omega) (by omega) hD2 hch)
                  · refine am_iload (q := 105) rfl (am_tab tk_X10_cheapest 57 rfl) rfl ?_
                    refine am_iload_n (q := 106) rfl (am_tab tk_X10_cheapest 58 rfl) rfl ?_
                    refine am_icmp_ge (q := 109) (t := 119) (am_tab tk_X10_cheapest 59 rfl) (by decide) rfl (fun h106 => ?_) (fun h106 => ?_)
                    · refine am_aload_n (q := 120) rfl (am_tab tk_X10_cheapest 67 rfl) rfl ?_
                      refine am_getI (q := 123) (a := 55) (k := 10) (n := 108) (j := 62) (x := (fsD (itS (i) σ))) (Ls_55 hD2.2.2.1.L) (by decide) rfl hLD2.2.2 (by decide) (Or.inl kf_X10_464) (am_tab tk_X10_cheapest 68 rfl) rfl ?_
                      refine am_if_ne (q := 126) (t := 143) (am_tab tk_X10_cheapest 69 rfl) (by decide) rfl (fun h123 => ?_) (fun h123 => ?_)
                      · refine am_iconst (q := 144) (n := 0) (by decide) (am_tab tk_X10_cheapest 79 rfl) rfl ?_
                        refine am_istore (q := 146) (by decide) (ls2 := [(4, am_i 0), (6, am_i (coM σ (sfD (itS (i) σ)))), (5, am_i (((i : Int) + 1))), (2, am_i be), (3, am_i le), (0, am_r 55), (1, am_i w)]) rfl (am_tab tk_X10_cheapest 80 rfl) rfl ?_
                        refine am_iinc (q := 149) rfl (by omega) (by decide) (ls2 := [(5, am_i ((((i : Int) + 1) + 1))), (4, am_i 0), (6, am_i (coM σ (sfD (itS (i) σ)))), (2, am_i be), (3, am_i le), (0, am_r 55), (1, am_i w)]) rfl (am_tab tk_X10_cheapest 81 rfl) rfl ?_
                        refine am_goto (t := 72) (am_tab tk_X10_cheapest 82 rfl) (by decide) ?_
                        have hm1 : ¬ (chF σ i).2.2 = 0 := by rw [hc]; exact h81
                        have hch : chF σ (i + 1) = (be, le, 0) := by
                          show (if (chF σ i).2.2 = 0 then _ else _) = _
                          rw [if_neg hm1, hc]
                          simp only
                          congr 1
                          · first | rw [if_pos (by omega)] | rw [if_neg (by omega)]
                          · congr 1
                            · first | rw [if_pos (by omega)] | rw [if_neg (by omega)]
                            · first | rw [if_pos (by omega)] | rw [if_neg (by omega)]
                        exact am_less (by intro q hq; simp only [List.mem_cons, List.not_mem_nil, or_false] at hq; rcases hq with rfl | rfl | rfl | rfl | rfl | rfl <;> simp) (ih72 (i + 1) S2 be le 0 (by omega) (by omega) (by omega) hD2 hch)
                      · refine am_aload_n (q := 127) rfl (am_tab tk_X10_cheapest 70 rfl) rfl ?_
                        refine am_getR (q := 130) (a := 55) (k := 10) (n := 108) (j := 54) (r := some (96)) (Ls_55 hD2.2.2.1.L) (by decide) rfl (Lr_55_54 hD2.2.2.1.L) (by decide) (Or.inl kf_X10_136) (am_tab tk_X10_cheapest 71 rfl) rfl ?_
                        refine am_iconst (q := 131) (n := 1) (by decide) (am_tab tk_X10_cheapest 72 rfl) rfl ?_
                        refine am_iald (q := 132) (a := 96) (n := 443) (x := ((itS (i + 1) σ).2.1 96 1)) (Ls_96 hD2.2.2.1.L) (by omega) (by omega) (cn_at hD2.2.1 96 1 (by decide) (by decide)) (am_tab tk_X10_cheapest 73 rfl) rfl ?_
                        refine am_aload_n (q := 133) rfl (am_tab tk_X10_cheapest 74 rfl) rfl ?_
                        refine am_callV0 (q := 136) (me2 := M_X10_yearDays) (b := 55) (kb := 10) (nb := 108) (As := []) (rest := [am_i (((itS (i + 1) σ).2.1 96 1))]) (out := [am_i (S2.2.1 85 9), am_i (((itS (i + 1) σ).2.1 96 1))]) (c_X10_yearDays S2 hD2.2.2.1.L  ) ⟨rfl, rfl⟩ (Ls_55 hD2.2.2.1.L) (by decide) ⟨Or.inl km_X10_397, kc_X10_yearDays, kn_X10, kd_X10_yearDays, ⟨(Nat.le_of_ble_eq_true rfl), (Nat.le_of_ble_eq_true rfl)⟩, ⟨(Nat.le_of_ble_eq_true rfl), (Nat.le_of_ble_eq_true rfl)⟩, (Nat.le_of_ble_eq_true rfl)⟩ ki_X10_yearDays ks_X10_yearDays rfl rfl (am_tab tk_X10_cheapest 75 rfl) rfl ?_
                        refine am_st (st2 := [am_i ((σ.2.1 85 9)), am_i (((itS (i + 1) σ).2.1 96 1))]) (by simp only [(show S2.2.1 85 9 = σ.2.1 85 9 from (hD2.1.2.2 85 9 (by unfold W_ah; omega)))]) ?_
                        refine am_icmp_ge (q := 139) (t := 143) (am_tab tk_X10_cheapest 76 rfl) (by decide) rfl (fun h136 => ?_) (fun h136 => ?_)
                        · refine am_iconst (q := 144) (n := 0) (by decide) (am_tab tk_X10_cheapest 79 rfl) rfl ?_
                          refine am_istore (q := 146) (by decide) (ls2 := [(4, am_i 0), (6, am_i (coM σ (sfD (itS (i) σ)))), (5, am_i (((i : Int) + 1))), (2, am_i be), (3, am_i le), (0, am_r 55), (1, am_i w)]) rfl (am_tab tk_X10_cheapest 80 rfl) rfl ?_
                          refine am_iinc (q := 149) rfl (by omega) (by decide) (ls2 := [(5, am_i ((((i : Int) + 1) + 1))), (4, am_i 0), (6, am_i (coM σ (sfD (itS (i) σ)))), (2, am_i be), (3, am_i le), (0, am_r 55), (1, am_i w)]) rfl (am_tab tk_X10_cheapest 81 rfl) rfl ?_
                          refine am_goto (t := 72) (am_tab tk_X10_cheapest 82 rfl) (by decide) ?_
                          have hm1 : ¬ (chF σ i).2.2 = 0 := by rw [hc]; exact h81
                          have hch : chF σ (i + 1) = (be, le, 0) := by
                            show (if (chF σ i).2.2 = 0 then _ else _) = _
                            rw [if_neg hm1, hc]
                            simp only
                            congr 1
                            · first | rw [if_pos (by omega)] | rw [if_neg (by omega)]
                            · congr 1
                              · first | rw [if_pos (by omega)] | rw [if_neg (by omega)]
                              · first | rw [if_pos (by omega)] | rw [if_neg (by omega)]
                          exact am_less (by intro q hq; simp only [List.mem_cons, List.not_mem_nil, or_false] at hq; rcases hq with rfl | rfl | rfl | rfl | rfl | rfl <;> simp) (ih72 (i + 1) S2 be le 0 (by omega) (by omega) (by omega) hD2 hch)
                        · refine am_iconst (q := 140) (n := 1) (by decide) (am_tab tk_X10_cheapest 77 rfl) rfl ?_
                          refine am_goto (t := 144) (am_tab tk_X10_cheapest 78 rfl) (by decide) ?_
                          refine am_istore (q := 146) (by decide) (ls2 := [(4, am_i 1), (6, am_i (coM σ (sfD (itS (i) σ)))), (5, am_i (((i : Int) + 1))), (2, am_i be), (3, am_i le), (0, am_r 55), (1, am_i w)]) rfl (am_tab tk_X10_cheapest 80 rfl) rfl ?_
                          refine am_iinc (q := 149) rfl (by omega) (by decide) (ls2 := [(5, am_i ((((i : Int) + 1) + 1))), (4, am_i 1), (6, am_i (coM σ (sfD (itS (i) σ)))), (2, am_i be), (3, am_i le), (0, am_r 55), (1, am_i w)]) rfl (am_tab tk_X10_cheapest 81 rfl) rfl ?_
                          refine am_goto (t := 72) (am_tab tk_X10_cheapest 82 rfl) (by decide) ?_
                          have hm1 : ¬ (chF σ i).2.2 = 0 := by rw [hc]; exact h81
                          have hch : chF σ (i + 1) = (be, le, 1) := by
                            show (if (chF σ i).2.2 = 0 then _ else _) = _
                            rw [if_neg hm1, hc]
                            simp only
                            congr 1
                            · first | rw [if_pos (by omega)] | rw [if_neg (by omega)]
                            · congr 1
                              · first | rw [if_pos (by omega)] | rw [if_neg (by omega)]
                              · first | rw [if_pos (by omega)] | rw [if_neg (by omega)]
                          exact am_less (by intro q hq; simp only [List.mem_cons, List.not_mem_nil, or_false] at hq; rcases hq with rfl | rfl | rfl | rfl | rfl | rfl <;> simp) (ih72 (i + 1) S2 be le 1 (by omega) (by omega) (by omega) hD2 hch)
                    · refine am_aload_n (q := 110) rfl (am_tab tk_X10_cheapest 60 rfl) rfl ?_
                      refine am_getR (q := 113) (a := 55) (k := 10) (n := 108) (j := 54) (r := some (96)) (Ls_55 hD2.2.2.1.L) (by decide) rfl (Lr_55_54 hD2.2.2.1.L) (by decide) (Or.inl kf_X10_136) (am_tab tk_X10_cheapest 61 rfl) rfl ?_
                      refine am_iconst (q := 114) (n := 1) (by decide) (am_tab tk_X10_cheapest 62 rfl) rfl ?_
                      refine am_iald (q := 115) (a := 96) (n := 443) (x := ((itS (i + 1) σ).2.1 96 1)) (Ls_96 hD2.2.2.1.L) (by omega) (by omega) (cn_at hD2.2.1 96 1 (by decide) (by decide)) (am_tab tk_X10_cheapest 63 rfl) rfl ?_
                      refine am_istore_n (q := 116) (by decide) (ls2 := [(2, am_i (((itS (i + 1) σ).2.1 96 1))), (6, am_i (coM σ (sfD (itS (i) σ)))), (5, am_i (((i : Int) + 1))), (3, am_i le), (4, am_i mo), (0, am_r 55), (1, am_i w)]) rfl (am_tab tk_X10_cheapest 64 rfl) rfl ?_
                      refine am_iload (q := 118) rfl (am_tab tk_X10_cheapest 65 rfl) rfl ?_
                      refine am_istore_n (q := 119) (by decide) (ls2 := [(3, am_i (coM σ (sfD (itS (i) σ)))), (2, am_i (((itS (i + 1) σ).2.1 96 1))), (6, am_i (coM σ (sfD (itS (i) σ)))), (5, am_i (((i : Int) + 1))), (4, am_i mo), (0, am_r 55), (1, am_i w)]) rfl (am_tab tk_X10_cheapest 66 rfl) rfl ?_
                      refine am_aload_n (q := 120) rfl (am_tab tk_X10_cheapest 67 rfl) rfl ?_
                      refine am_getI (q := 123) (a := 55) (k := 10) (n := 108) (j := 62) (x := (fsD (itS (i) σ))) (Ls_55 hD2.2.2.1.L) (by decide) rfl hLD2.2.2 (by decide) (Or.inl kf_X10_464) (am_tab tk_X10_cheapest 68 rfl) rfl ?_
                      refine am_if_ne (q := 126) (t := 143) (am_tab tk_X10_cheapest 69 rfl) (by decide) rfl (fun h123 => ?_) (fun h123 => ?_)
                      · refine am_iconst (q := 144) (n := 0) (by decide) (am_tab tk_X10_cheapest 79 rfl) rfl ?_
                        refine am_istore (q := 146) (by decide) (ls2 := [(4, am_i 0), (3, am_i (coM σ (sfD (itS (i) σ)))), (2, am_i (((itS (i + 1) σ).2.1 96 1))), (6, am_i (coM σ (sfD (itS (i) σ)))), (5, am_i (((i : Int) + 1))), (0, am_r 55), (1, am_i w)]) rfl (am_tab tk_X10_cheapest 80 rfl) rfl ?_
                        refine am_iinc (q := 149) rfl (by omega) (by decide) (ls2 := [(5, am_i ((((i : Int) + 1) + 1))), (4, am_i 0), (3, am_i (coM σ (sfD (itS (i) σ)))), (2, am_i (((itS (i + 1) σ).2.1 96 1))), (6, am_i (coM σ (sfD (itS (i) σ)))), (0, am_r 55), (1, am_i w)]) rfl (am_tab tk_X10_cheapest 81 rfl) rfl ?_
                        refine am_goto (t := 72) (am_tab tk_X10_cheapest 82 rfl) (by decide) ?_
                        have hm1 : ¬ (chF σ i).2.2 = 0 := by rw [hc]; exact h81
                        have hch : chF σ (i + 1) = (((itS (i + 1) σ).2.1 96 1), coM σ (sfD (itS (i) σ)), 0) := by
                          show (if (chF σ i).2.2 = 0 then _ else _) = _
                          rw [if_neg hm1, hc]
                          simp only
                          congr 1
                          · first | rw [if_pos (by omega)] | rw [if_neg (by omega)]
                          · congr 1
                            · first | rw [if_pos (by omega)] | rw [if_neg (by omega)]
                            · first | rw [if_pos (by omega)] | rw [if_neg (by omega)]
                        exact am_less (by intro q hq; simp only [List.mem_cons, List.not_mem_nil, or_false] at hq; rcases hq with rfl | rfl | rfl | rfl | rfl | rfl <;> simp) (ih72 (i + 1) S2 ((itS (i + 1) σ).2.1 96 1) (coM σ (sfD (itS (i) σ))) 0 (by omega) (by omega) (by omega) hD2 hch)
                      · refine am_aload_n (q := 127) rfl (am_tab tk_X10_cheapest 70 rfl) rfl ?_
                        refine am_getR (q := 130) (a := 55) (k := 10) (n := 108) (j := 54) (r := some (96)) (Ls_55 hD2.2.2.1.L) (by decide) rfl (Lr_55_54 hD2.2.2.1.L) (by decide) (Or.inl kf_X10_136) (am_tab tk_X10_cheapest 71 rfl) rfl ?_
                        refine am_iconst (q := 131) (n := 1) (by decide) (am_tab tk_X10_cheapest 72 rfl) rfl ?_
                        refine am_iald (q := 132) (a := 96) (n := 443) (x := ((itS (i + 1) σ).2.1 96 1)) (Ls_96 hD2.2.2.1.L) (by omega) (by omega) (cn_at hD2.2.1 96 1 (by decide) (by decide)) (am_tab tk_X10_cheapest 73 rfl) rfl ?_
                        refine am_aload_n (q := 133) rfl (am_tab tk_X10_cheapest 74 rfl) rfl ?_
                        refine am_callV0 (q := 136) (me2 := M_X10_yearDays) (b := 55) (kb := 10) (nb := 108) (As := []) (rest := [am_i (((itS (i + 1) σ).2.1 96 1))]) (out := [am_i (S2.2.1 85 9), am_i (((itS (i + 1) σ).2.1 96 1))]) (c_X10_yearDays S2 hD2.2.2.1.L  ) ⟨rfl, rfl⟩ (Ls_55 hD2.2.2.1.L) (by decide) ⟨Or.inl km_X10_397, kc_X10_yearDays, kn_X10, kd_X10_yearDays, ⟨(Nat.le_of_ble_eq_true rfl), (Nat.le_of_ble_eq_true rfl)⟩, ⟨(Nat.le_of_ble_eq_true rfl), (Nat.le_of_ble_eq_true rfl)⟩, (Nat.le_of_ble_eq_true rfl)⟩ ki_X10_yearDays ks_X10_yearDays rfl rfl (am_tab tk_X10_cheapest 75 rfl) rfl ?_
                        refine am_st (st2 := [am_i ((σ.2.1 85 9)), am_i (((itS (i + 1) σ).2.1 96 1))]) (by simp only [(show S2.2.1 85 9 = σ.2.1 85 9 from (hD2.1.2.2 85 9 (by unfold W_ah; omega)))]) ?_
                        refine am_icmp_ge (q := 139) (t := 143) (am_tab tk_X10_cheapest 76 rfl) (by decide) rfl (fun h136 => ?_) (fun h136 => ?_)
                        · refine am_iconst (q := 144) (n := 0) (by decide) (am_tab tk_X10_cheapest 79 rfl) rfl ?_
                          refine am_istore (q := 146) (by decide) (ls2 := [(4, am_i 0), (3, am_i (coM σ (sfD (itS (i) σ)))), (2, am_i (((itS (i + 1) σ).2.1 96 1))), (6, am_i (coM σ (sfD (itS (i) σ)))), (5, am_i (((i : Int) + 1))), (0, am_r 55), (1, am_i w)]) rfl (am_tab tk_X10_cheapest 80 rfl) rfl ?_
                          refine am_iinc (q := 149) rfl (by omega) (by decide) (ls2 := [(5, am_i ((((i : Int) + 1) + 1))), (4, am_i 0), (3, am_i (coM σ (sfD (itS (i) σ)))), (2, am_i (((itS (i + 1) σ).2.1 96 1))), (6, am_i (coM σ (sfD (itS (i) σ)))), (0, am_r 55), (1, am_i w)]) rfl (am_tab tk_X10_cheapest 81 rfl) rfl ?_
                          refine am_goto (t := 72) (am_tab tk_X10_cheapest 82 rfl) (by decide) ?_
                          have hm1 : ¬ (chF σ i).2.2 = 0 := by rw [hc]; exact h81
                          have hch : chF σ (i + 1) = (((itS (i + 1) σ).2.1 96 1), coM σ (sfD (itS (i) σ)), 0) := by
                            show (if (chF σ i).2.2 = 0 then _ else _) = _
                            rw [if_neg hm1, hc]
                            simp only
                            congr 1
                            · first | rw [if_pos (by omega)] | rw [if_neg (by omega)]
                            · congr 1
                              · first | rw [if_pos (by omega)] | rw [if_neg (by omega)]
                              · first | rw [if_pos (by omega)] | rw [if_neg (by omega)]
                          exact am_less (by intro q hq; simp only [List.mem_cons, List.not_mem_nil, or_false] at hq; rcases hq with rfl | rfl | rfl | rfl | rfl | rfl <;> simp) (ih72 (i + 1) S2 ((itS (i + 1) σ).2.1 96 1) (coM σ (sfD (itS (i) σ))) 0 (by omega) (by omega) (by omega) hD2 hch)
                        · refine am_iconst (q := 140) (n := 1) (by decide) (am_tab tk_X10_cheapest 77 rfl) rfl ?_
                          refine am_goto (t := 144) (am_tab tk_X10_cheapest 78 rfl) (by decide) ?_
                          refine am_istore (q := 146) (by decide) (ls2 := [(4, am_i 1), (3, am_i (coM σ (sfD (itS (i) σ)))), (2, am_i (((itS (i + 1) σ).2.1 96 1))), (6, am_i (coM σ (sfD (itS (i) σ)))), (5, am_i (((i : Int) + 1))), (0, am_r 55), (1, am_i w)]) rfl (am_tab tk_X10_cheapest 80 rfl) rfl ?_
                          refine am_iinc (q := 149) rfl (by omega) (by decide) (ls2 := [(5, am_i ((((i : Int) + 1) + 1))), (4, am_i 1), (3, am_i (coM σ (sfD (itS (i) σ)))), (2, am_i (((itS (i + 1) σ).2.1 96 1))), (6, am_i (coM σ (sfD (itS (i) σ)))), (0, am_r 55), (1, am_i w)]) rfl (am_tab tk_X10_cheapest 81 rfl) rfl ?_
                          refine am_goto (t := 72) (am_tab tk_X10_cheapest 82 rfl) (by decide) ?_
                          have hm1 : ¬ (chF σ i).2.2 = 0 := by rw [hc]; exact h81
                          have hch : chF σ (i + 1) = (((itS (i + 1) σ).2.1 96 1), coM σ (sfD (itS (i) σ)), 1) := by
                            show (if (chF σ i).2.2 = 0 then _ else _) = _
                            rw [if_neg hm1, hc]
                            simp only
                            congr 1
                            · first | rw [if_pos (by omega)] | rw [if_neg (by omega)]
                            · congr 1
                              · first | rw [if_pos (by omega)] | rw [if_neg (by omega)]
                              · first | rw [if_pos (by omega)] | rw [if_neg (by omega)]
                          exact am_less (by intro q hq; simp only [List.mem_cons, List.not_mem_nil, or_false] at hq; rcases hq with rfl | rfl | rfl | rfl | rfl | rfl <;> simp) (ih72 (i + 1) S2 ((itS (i + 1) σ).2.1 96 1) (coM σ (sfD (itS (i) σ))) 1 (by omega) (by omega) (by omega) hD2 hch)
          refine am_less (by intro q hq; simp only [List.mem_cons, List.not_mem_nil, or_false] at hq; rcases hq with rfl | rfl | rfl | rfl | rfl | rfl <;> simp) (L72 (_ + 1) 0 S0 (-1) 0 1 (by exact Nat.lt_succ_self _) (by omega) (by omega) hD0 (by show (_, _, if σ.2.1 96 1 < σ.2.1 85 9 then (1 : Int) else 0) = _; first | rw [if_pos (by omega)] | rw [if_neg (by omega)]))
      · refine am_aload_n (q := 27) rfl (am_tab tk_X10_cheapest 14 rfl) rfl ?_
        refine am_getR (q := 30) (a := 55) (k := 10) (n := 108) (j := 54) (r := some (96)) (Ls_55 hL) (by decide) rfl (Lr_55_54 hL) (by decide) (Or.inl kf_X10_136) (am_tab tk_X10_cheapest 15 rfl) rfl ?_
        refine am_iconst (q := 31) (n := 1) (by decide) (am_tab tk_X10_cheapest 16 rfl) rfl ?_
        refine am_iald (q := 32) (a := 96) (n := 443) (x := (σ.2.1 96 1)) (Ls_96 hL) (by omega) (by omega) rfl (am_tab tk_X10_cheapest 17 rfl) rfl ?_
        refine am_aload_n (q := 33) rfl (am_tab tk_X10_cheapest 18 rfl) rfl ?_
        refine am_callV0 (q := 36) (me2 := M_X10_yearDays) (b := 55) (kb := 10) (nb := 108) (As := []) (rest := [am_i ((σ.2.1 96 1))]) (out := [am_i (σ.2.1 85 9), am_i ((σ.2.1 96 1))]) (c_X10_yearDays σ hL  ) ⟨rfl, rfl⟩ (Ls_55 hL) (by decide) ⟨Or.inl km_X10_397, kc_X10_yearDays, kn_X10, kd_X10_yearDays, ⟨(Nat.le_of_ble_eq_true rfl), (Nat.le_of_ble_eq_true rfl)⟩, ⟨(Nat.le_of_ble_eq_true rfl), (Nat.le_of_ble_eq_true rfl)⟩, (Nat.le_of_ble_eq_true rfl)⟩ ki_X10_yearDays ks_X10_yearDays rfl rfl (am_tab tk_X10_cheapest 19 rfl) rfl ?_
        refine am_icmp_ge (q := 39) (t := 41) (am_tab tk_X10_cheapest 20 rfl) (by decide) rfl (fun h36 => ?_) (fun h36 => ?_)
        · refine am_iconst (q := 42) (n := (-1)) (by decide) (am_tab tk_X10_cheapest 23 rfl) rfl ?_
          refine am_istore_n (q := 43) (by decide) (ls2 := [(2, am_i ((-1))), (0, am_r 55), (1, am_i w)]) rfl (am_tab tk_X10_cheapest 24 rfl) rfl ?_
          refine am_iconst (q := 44) (n := 0) (by decide) (am_tab tk_X10_cheapest 25 rfl) rfl ?_
          refine am_istore_n (q := 45) (by decide) (ls2 := [(3, am_i 0), (2, am_i ((-1))), (0, am_r 55), (1, am_i w)]) rfl (am_tab tk_X10_cheapest 26 rfl) rfl ?_
          refine am_aload_n (q := 46) rfl (am_tab tk_X10_cheapest 27 rfl) rfl ?_
          refine am_callVr (q := 49) (me2 := M_X10_putsAside) (b := 55) (kb := 10) (nb := 108) (As := []) (rest := []) (c_aside σ hG) ⟨rfl, rfl⟩ (Ls_55 hL) (by decide) ⟨Or.inl km_X10_514, kc_X10_putsAside, kn_X10, kd_X10_putsAside, ⟨(Nat.le_of_ble_eq_true rfl), (Nat.le_of_ble_eq_true rfl)⟩, ⟨(Nat.le_of_ble_eq_true rfl), (Nat.le_of_ble_eq_true rfl)⟩, (Nat.le_of_ble_eq_true rfl)⟩ ki_X10_putsAside ks_X10_putsAside rfl (am_tab tk_X10_cheapest 28 rfl) rfl ?_
          rintro r S0 ⟨rfl, hD0⟩
          refine am_st (st2 := []) rfl ?_
          refine am_aload_n (q := 50) rfl (am_tab tk_X10_cheapest 29 rfl) rfl ?_
          refine am_getR (q := 53) (a := 55) (k := 10) (n := 108) (j := 54) (r := some (96)) (Ls_55 hD0.2.2.1.L) (by decide) rfl (Lr_55_54 hD0.2.2.1.L) (by decide) (Or.inl kf_X10_136) (am_tab tk_X10_cheapest 30 rfl) rfl ?_
          refine am_iconst (q := 54) (n := 1) (by decide) (am_tab tk_X10_cheapest 31 rfl) rfl ?_
          refine am_iald (q := 55) (a := 96) (n := 443) (x := (σ.2.1 96 1)) (Ls_96 hD0.2.2.1.L) (by omega) (by omega) (cn_at hD0.2.1 96 1 (by decide) (by decide)) (am_tab tk_X10_cheapest 32 rfl) rfl ?_
          refine am_aload_n (q := 56) rfl (am_tab tk_X10_cheapest 33 rfl) rfl ?_
          refine am_callV0 (q := 59) (me2 := M_X10_yearDays) (b := 55) (kb := 10) (nb := 108) (As := []) (rest := [am_i ((σ.2.1 96 1))]) (out := [am_i (S0.2.1 85 9), am_i ((σ.2.1 96 1))]) (c_X10_yearDays S0 hD0.2.2.1.L  ) ⟨rfl, rfl⟩ (Ls_55 hD0.2.2.1.L) (by decide) ⟨Or.inl km_X10_397, kc_X10_yearDays, kn_X10, kd_X10_yearDays, ⟨(Nat.le_of_ble_eq_true rfl), (Nat.le_of_ble_eq_true rfl)⟩, ⟨(Nat.le_of_ble_eq_true rfl), (Nat.le_of_ble_eq_true rfl)⟩, (Nat.le_of_ble_eq_true rfl)⟩ ki_X10_yearDays ks_X10_yearDays rfl rfl (am_tab tk_X10_cheapest 34 rfl) rfl ?_
          refine am_st (st2 := [am_i ((σ.2.1 85 9)), am_i ((σ.2.1 96 1))]) (by simp only [(show S0.2.1 85 9 = σ.2.1 85 9 from (hD0.1.2.2 85 9 (by unfold W_ah; omega)))]) ?_
          refine am_icmp_ge (q := 62) (t := 66) (am_tab tk_X10_cheapest 35 rfl) (by decide) rfl (fun h59 => ?_) (fun h59 => ?_)
          · refine am_iconst (q := 67) (n := 0) (by decide) (am_tab tk_X10_cheapest 38 rfl) rfl ?_
            refine am_istore (q := 69) (by decide) (ls2 := [(4, am_i 0), (3, am_i 0), (2, am_i ((-1))), (0, am_r 55), (1, am_i w)]) rfl (am_tab tk_X10_cheapest 39 rfl) rfl ?_
            refine am_iconst (q := 70) (n := 1) (by decide) (am_tab tk_X10_cheapest 40 rfl) rfl ?_
            refine am_istore (q := 72) (by decide) (ls2 := [(5, am_i 1), (4, am_i 0), (3, am_i 0), (2, am_i ((-1))), (0, am_r 55), (1, am_i w)]) rfl (am_tab tk_X10_cheapest 41 rfl) rfl ?_
            have hdl := dl_rng hG.R
            have L72 : ∀ (n72 : Nat) (i : Nat) (S : am_H) (be : Int) (le : Int) (mo : Int), 200 - i < n72 → i ≤ 120 → (i : Int) ≤ dlM σ → DS σ i S → chF σ i = (be, le, mo) → am_wp M_X10_cheapest Q 0 0 72 [(5, am_i (((i : Int) + 1))), (2, am_i be), (3, am_i le), (4, am_i mo), (0, am_r 55), (1, am_i w)] [] S := by
              intro n72
              induction n72 with
              | zero => intro i S be le mo hn72; exact absurd hn72 (Nat.not_lt_zero _)
              | succ n72 ih72 =>
                intro i S be le mo hn72 hi hil hD hc
                have hmd : ¬ mo = 0 → (i : Int) + 1 ≤ dlM σ := by
                  intro hm
                  have hg := itS_GD hG i hil
                  have hcc : cc (itS i σ) := by
                    refine ⟨by rw [itS_85 σ 85 9 (by decide)]; have := hG.R.T; omega, Or.inr ?_⟩
                    rw [itS_85 σ 85 9 (by decide)]
                    cases i with
                    | zero =>
                      have h8 : mo = (if σ.2.1 96 1 < σ.2.1 85 9 then 1 else 0) := (congrArg (fun z => z.2.2) hc).symm
                      by_cases h9 : σ.2.1 96 1 < σ.2.1 85 9
                      · exact h9
                      · rw [if_neg h9] at h8; exact absurd h8 hm
                    | succ i =>
                      have h8 := congrArg (fun z => z.2.2) hc
                      simp only [chF] at h8
                      by_cases h7 : (chF σ i).2.2 = 0
                      · rw [if_pos h7] at h8; omega
                      · rw [if_neg h7] at h8
                        simp only at h8
                        by_cases h9 : fsD (itS i σ) = 0 ∧ (itS (i + 1) σ).2.1 96 1 < σ.2.1 85 9
                        · exact h9.2
                        · rw [if_neg h9] at h8; exact absurd h8.symm hm
                  have := of_cc hg.1.R hcc
                  omega
                refine am_iload (q := 74) rfl (am_tab tk_X10_cheapest 42 rfl) rfl ?_
                refine am_bipush (q := 76) (n := 120) (by decide) rfl (am_tab tk_X10_cheapest 43 rfl) rfl ?_
                refine am_icmp_gt (q := 79) (t := 152) (am_tab tk_X10_cheapest 44 rfl) (by decide) rfl (fun h76 => ?_) (fun h76 => ?_)
                · refine am_aload_n (q := 153) rfl (am_tab tk_X10_cheapest 83 rfl) rfl ?_
                  refine am_callVr (q := 156) (me2 := M_X10_takesBack) (b := 55) (kb := 10) (nb := 108) (As := []) (rest := []) (c_back σ hG (i) (by omega) S hD) ⟨rfl, rfl⟩ (Ls_55 hD.2.2.1.L) (by decide) ⟨Or.inl km_X10_520, kc_X10_takesBack, kn_X10, kd_X10_takesBack, ⟨(Nat.le_of_ble_eq_true rfl), (Nat.le_of_ble_eq_true rfl)⟩, ⟨(Nat.le_of_ble_eq_true rfl), (Nat.le_of_ble_eq_true rfl)⟩, (Nat.le_of_ble_eq_true rfl)⟩ ki_X10_takesBack ks_X10_takesBack rfl (am_tab tk_X10_cheapest 84 rfl) rfl ?_
                  rintro r S9 ⟨rfl, hP9⟩
                  refine am_st (st2 := []) rfl ?_
                  refine am_iload_n (q := 157) rfl (am_tab tk_X10_cheapest 85 rfl) rfl ?_
                  refine am_iconst (q := 158) (n := (-1)) (by decide) (am_tab tk_X10_cheapest 86 rfl) rfl ?_
                  refine am_icmp_ne (q := 161) (t := 165) (am_tab tk_X10_cheapest 87 rfl) (by decide) rfl (fun h158 => ?_) (fun h158 => ?_)
                  · refine am_iload_n (q := 166) rfl (am_tab tk_X10_cheapest 90 rfl) rfl ?_
                    refine am_if_ne (q := 169) (t := 173) (am_tab tk_X10_cheapest 91 rfl) (by decide) rfl (fun h166 => ?_) (fun h166 => ?_)
                    · refine am_iload_n (q := 174) rfl (am_tab tk_X10_cheapest 94 rfl) rfl ?_
                      refine am_iret (Or.inl rfl) (Nat.le_of_ble_eq_true rfl) (Nat.le_of_ble_eq_true rfl) (am_tab tk_X10_cheapest 95 rfl) ?_
                      refine hQ _ _ ?_
                      refine ⟨congrArg (fun z => some (am_i z)) ?_, hP9⟩
                      have hfin : chF σ 120 = (be, le, mo) := by
                        rcases (show i = 120 ∨ mo = 0 by omega) with h9 | h9
                        · rw [← h9, hc]
                        · have h8 := chF_stop (σ := σ) (i := i) (by rw [hc]; exact h9) (120 - i)
                          rw [show i + (120 - i) = 120 by omega] at h8
                          rw [h8, hc]
                      unfold cheM
                      rw [if_pos (by omega), hfin]
                      simp only
                      first | rw [if_pos (by omega)] | (rw [if_neg (by omega)]; first | rw [if_pos (by omega)] | rw [if_neg (by omega)])
                    · refine am_iload_n (q := 170) rfl (am_tab tk_X10_cheapest 92 rfl) rfl ?_
                      refine am_goto (t := 174) (am_tab tk_X10_cheapest 93 rfl) (by decide) ?_
                      refine am_iret (Or.inl rfl) (Nat.le_of_ble_eq_true rfl) (Nat.le_of_ble_eq_true rfl) (am_tab tk_X10_cheapest 95 rfl) ?_
                      refine hQ _ _ ?_
                      refine ⟨congrArg (fun z => some (am_i z)) ?_, hP9⟩
                      have hfin : chF σ 120 = (be, le, mo) := by
                        rcases (show i = 120 ∨ mo = 0 by omega) with h9 | h9
                        · rw [← h9, hc]
                        · have h8 := chF_stop (σ := σ) (i := i) (by rw [hc]; exact h9) (120 - i)
                          rw [show i + (120 - i) = 120 by omega] at h8
                          rw [h8, hc]
                      unfold cheM
                      rw [if_pos (by omega), hfin]
                      simp only
                      first | rw [if_pos (by omega)] | (rw [if_neg (by omega)]; first | rw [if_pos (by omega)] | rw [if_neg (by omega)])
                  · refine am_iconst (q := 162) (n := (-1)) (by decide) (am_tab tk_X10_cheapest 88 rfl) rfl ?_
                    refine am_goto (t := 174) (am_tab tk_X10_cheapest 89 rfl) (by decide) ?_
                    refine am_iret (Or.inl rfl) (Nat.le_of_ble_eq_true rfl) (Nat.le_of_ble_eq_true rfl) (am_tab tk_X10_cheapest 95 rfl) ?_
                    refine hQ _ _ ?_
                    refine ⟨congrArg (fun z => some (am_i z)) ?_, hP9⟩
                    have hfin : chF σ 120 = (be, le, mo) := by
                      rcases (show i = 120 ∨ mo = 0 by omega) with h9 | h9
                      · rw [← h9, hc]
                      · have h8 := chF_stop (σ := σ) (i := i) (by rw [hc]; exact h9) (120 - i)
                        rw [show i + (120 - i) = 120 by omega] at h8
                        rw [h8, hc]
                    unfold cheM
                    rw [if_pos (by omega), hfin]
                    simp only
                    first | rw [if_pos (by omega)] | (rw [if_neg (by omega)]; first | rw [if_pos (by omega)] | rw [if_neg (by omega)])
                · refine am_iload (q := 81) rfl (am_tab tk_X10_cheapest 45 rfl) rfl ?_
                  refine am_if_eq (q := 84) (t := 152) (am_tab tk_X10_cheapest 46 rfl) (by decide) rfl (fun h81 => ?_) (fun h81 => ?_)
                  · refine am_aload_n (q := 153) rfl (am_tab tk_X10_cheapest 83 rfl) rfl ?_
                    refine am_callVr (q := 156) (me2 := M_X10_takesBack) (b := 55) (kb := 10) (nb := 108) (As := []) (rest := []) (c_back σ hG (i) (by omega) S hD) ⟨rfl, rfl⟩ (Ls_55 hD.2.2.1.L) (by decide) ⟨Or.inl km_X10_520, kc_X10_takesBack, kn_X10, kd_X10_takesBack, ⟨(Nat.le_of_ble_eq_true rfl), (Nat.le_of_ble_eq_true rfl)⟩, ⟨(Nat.le_of_ble_eq_true rfl), (Nat.le_of_ble_eq_true rfl)⟩, (Nat.le_of_ble_eq_true rfl)⟩ ki_X10_takesBack ks_X10_takesBack rfl (am_tab tk_X10_cheapest 84 rfl) rfl ?_
                    rintro r S9 ⟨rfl, hP9⟩
                    refine am_st (st2 := []) rfl ?_
                    refine am_iload_n (q := 157) rfl (am_tab tk_X10_cheapest 85 rfl) rfl ?_
                    refine am_iconst (q := 158) (n := (-1)) (by decide) (am_tab tk_X10_cheapest 86 rfl) rfl ?_
                    refine am_icmp_ne (q := 161) (t := 165) (am_tab tk_X10_cheapest 87 rfl) (by decide) rfl (fun h158 => ?_) (fun h158 => ?_)
                    · refine am_iload_n (q := 166) rfl (am_tab tk_X10_cheapest 90 rfl) rfl ?_
                      refine am_if_ne (q := 169) (t := 173) (am_tab tk_X10_cheapest 91 rfl) (by decide) rfl (fun h166 => ?_) (fun h166 => ?_)
                      · refine am_iload_n (q := 174) rfl (am_tab tk_X10_cheapest 94 rfl) rfl ?_
                        refine am_iret (Or.inl rfl) (Nat.le_of_ble_eq_true rfl) (Nat.le_of_ble_eq_true rfl) (am_tab tk_X10_cheapest 95 rfl) ?_
                        refine hQ _ _ ?_
                        refine ⟨congrArg (fun z => some (am_i z)) ?_, hP9⟩
                        have hfin : chF σ 120 = (be, le, mo) := by
                          rcases (show i = 120 ∨ mo = 0 by omega) with h9 | h9
                          · rw [← h9, hc]
                          · have h8 := chF_stop (σ := σ) (i := i) (by rw [hc]; exact h9) (120 - i)
                            rw [show i + (120 - i) = 120 by omega] at h8
                            rw [h8, hc]
                        unfold cheM
                        rw [if_pos (by omega), hfin]
                        simp only
                        first | rw [if_pos (by omega)] | (rw [if_neg (by omega)]; first | rw [if_pos (by omega)] | rw [if_neg (by omega)])
                      · refine am_iload_n (q := 170) rfl (am_tab tk_X10_cheapest 92 rfl) rfl ?_
                        refine am_goto (t := 174) (am_tab tk_X10_cheapest 93 rfl) (by decide) ?_
                        refine am_iret (Or.inl rfl) (Nat.le_of_ble_eq_true rfl) (Nat.le_of_ble_eq_true rfl) (am_tab tk_X10_cheapest 95 rfl) ?_
                        refine hQ _ _ ?_
                        refine ⟨congrArg (fun z => some (am_i z)) ?_, hP9⟩
                        have hfin : chF σ 120 = (be, le, mo) := by
                          rcases (show i = 120 ∨ mo = 0 by omega) with h9 | h9
                          · rw [← h9, hc]
                          · have h8 := chF_stop (σ := σ) (i := i) (by rw [hc]; exact h9) (120 - i)
                            rw [show i + (120 - i) = 120 by omega] at h8
                            rw [h8, hc]
                        unfold cheM
                        rw [if_pos (by omega), hfin]
                        simp only
                        first | rw [if_pos (by omega)] | (rw [if_neg (by omega)]; first | rw [if_pos (by omega)] | rw [if_neg (by omega)])
                    · refine am_iconst (q := 162) (n := (-1)) (by decide) (am_tab tk_X10_cheapest 88 rfl) rfl ?_
                      refine am_goto (t := 174) (am_tab tk_X10_cheapest 89 rfl) (by decide) ?_
                      refine am_iret (Or.inl rfl) (Nat.le_of_ble_eq_true rfl) (Nat.le_of_ble_eq_true rfl) (am_tab tk_X10_cheapest 95 rfl) ?_
                      refine hQ _ _ ?_
                      refine ⟨congrArg (fun z => some (am_i z)) ?_, hP9⟩
                      have hfin : chF σ 120 = (be, le, mo) := by
                        rcases (show i = 120 ∨ mo = 0 by omega) with h9 | h9
                        · rw [← h9, hc]
                        · have h8 := chF_stop (σ := σ) (i := i) (by rw [hc]; exact h9) (120 - i)
                          rw [show i + (120 - i) = 120 by omega] at h8
                          rw [h8, hc]
                      unfold cheM
                      rw [if_pos (by omega), hfin]
                      simp only
                      first | rw [if_pos (by omega)] | (rw [if_neg (by omega)]; first | rw [if_pos (by omega)] | rw [if_neg (by omega)])
                  · refine am_aload_n (q := 85) rfl (am_tab tk_X10_cheapest 47 rfl) rfl ?_
                    refine am_callVr (q := 88) (me2 := M_X10_dayGoes) (b := 55) (kb := 10) (nb := 108) (As := []) (rest := []) (c_day σ hG (i) (by have := hmd h81; omega) S hD) ⟨rfl, rfl⟩ (Ls_55 hD.2.2.1.L) (by decide) ⟨Or.inl km_X10_476, kc_X10_dayGoes, kn_X10, kd_X10_dayGoes, ⟨(Nat.le_of_ble_eq_true rfl), (Nat.le_of_ble_eq_true rfl)⟩, ⟨(Nat.le_of_ble_eq_true rfl), (Nat.le_of_ble_eq_true rfl)⟩, (Nat.le_of_ble_eq_true rfl)⟩ ki_X10_dayGoes ks_X10_dayGoes rfl (am_tab tk_X10_cheapest 48 rfl) rfl ?_
                    rintro r S2 ⟨rfl, hD2, hLD2⟩
                    refine am_st (st2 := []) rfl ?_
                    refine am_aload_n (q := 89) rfl (am_tab tk_X10_cheapest 49 rfl) rfl ?_
                    refine am_aload_n (q := 90) rfl (am_tab tk_X10_cheapest 50 rfl) rfl ?_
                    refine am_getI (q := 93) (a := 55) (k := 10) (n := 108) (j := 60) (x := (sfD (itS (i) σ))) (Ls_55 hD2.2.2.1.L) (by decide) rfl hLD2.1 (by decide) (Or.inl kf_X10_455) (am_tab tk_X10_cheapest 51 rfl) rfl ?_
                    refine am_callV0 (q := 96) (me2 := M_X10_costOf) (b := 55) (kb := 10) (nb := 108) (As := [am_i ((sfD (itS (i) σ)))]) (rest := []) (out := [am_i (coM σ (sfD (itS (i) σ)))]) (c_cost2 σ hG S2 hD2 (sfD (itS (i) σ)) (sfD_rng (itS_GD hG _ (by omega)).1 (itS_cc hG (by omega)))) ⟨rfl, rfl⟩ (Ls_55 hD2.2.2.1.L) (by decide) ⟨Or.inl km_X10_528, kc_X10_costOf, kn_X10, kd_X10_costOf, ⟨(Nat.le_of_ble_eq_true rfl), (Nat.le_of_ble_eq_true rfl)⟩, ⟨(Nat.le_of_ble_eq_true rfl), (Nat.le_of_ble_eq_true rfl)⟩, (Nat.le_of_ble_eq_true rfl)⟩ ki_X10_costOf ks_X10_costOf rfl rfl (am_tab tk_X10_cheapest 52 rfl) rfl ?_
                    refine am_istore (q := 98) (by decide) (ls2 := [(6, am_i (coM σ (sfD (itS (i) σ)))), (5, am_i (((i : Int) + 1))), (2, am_i be), (3, am_i le), (4, am_i mo), (0, am_r 55), (1, am_i w)]) rfl (am_tab tk_X10_cheapest 53 rfl) rfl ?_
                    refine am_iload_n (q := 99) rfl (am_tab tk_X10_cheapest 54 rfl) rfl ?_
                    refine am_iconst (q := 100) (n := (-1)) (by decide) (am_tab tk_X10_cheapest 55 rfl) rfl ?_
                    refine am_icmp_eq (q := 103) (t := 109) (am_tab tk_X10_cheapest 56 rfl) (by decide) rfl (fun h100 => ?_) (fun h100 => ?_)
                    · refine am_aload_n (q := 110) rfl (am_tab tk_X10_cheapest 60 rfl) rfl ?_
                      refine am_getR (q := 113) (a := 55) (k := 10) (n := 108) (j := 54) (r := some (96)) (Ls_55 hD2.2.2.1.L) (by decide) rfl (Lr_55_54 hD2.2.2.1.L) (by decide) (Or.inl kf_X10_136) (am_tab tk_X10_cheapest 61 rfl) rfl ?_
                      refine am_iconst (q := 114) (n := 1) (by decide) (am_tab tk_X10_cheapest 62 rfl) rfl ?_
                      refine am_iald (q := 115) (a := 96) (n := 443) (x := ((itS (i + 1) σ).2.1 96 1)) (Ls_96 hD2.2.2.1.L) (by omega) (by omega) (cn_at hD2.2.1 96 1 (by decide) (by decide)) (am_tab tk_X10_cheapest 63 rfl) rfl ?_
                      refine am_istore_n (q := 116) (by decide) (ls2 := [(2, am_i (((itS (i + 1) σ).2.1 96 1))), (6, am_i (coM σ (sfD (itS (i) σ)))), (5, am_i (((i : Int) + 1))), (3, am_i le), (4, am_i mo), (0, am_r 55), (1, am_i w)]) rfl (am_tab tk_X10_cheapest 64 rfl) rfl ?_
                      refine am_iload (q := 118) rfl (am_tab tk_X10_cheapest 65 rfl) rfl ?_
                      refine am_istore_n (q := 119) (by decide) (ls2 := [(3, am_i (coM σ (sfD (itS (i) σ)))), (2, am_i (((itS (i + 1) σ).2.1 96 1))), (6, am_i (coM σ (sfD (itS (i) σ)))), (5, am_i (((i : Int) + 1))), (4, am_i mo), (0, am_r 55), (1, am_i w)]) rfl (am_tab tk_X10_cheapest 66 rfl) rfl ?_
                      refine am_aload_n (q := 120) rfl (am_tab tk_X10_cheapest 67 rfl) rfl ?_
                      refine am_getI (q := 123) (a := 55) (k := 10) (n := 108) (j := 62) (x := (fsD (itS (i) σ))) (Ls_55 hD2.2.2.1.L) (by decide) rfl hLD2.2.2 (by decide) (Or.inl kf_X10_464) (am_tab tk_X10_cheapest 68 rfl) rfl ?_
                      refine am_if_ne (q := 126) (t := 143) (am_tab tk_X10_cheapest 69 rfl) (by decide) rfl (fun h123 => ?_) (fun h123 => ?_)
                      · refine am_iconst (q := 144) (n := 0) (by decide) (am_tab tk_X10_cheapest 79 rfl) rfl ?_
                        refine am_istore (q := 146) (by decide) (ls2 := [(4, am_i 0), (3, am_i (coM σ (sfD (itS (i) σ)))), (2, am_i (((itS (i + 1) σ).2.1 96 1))), (6, am_i (coM σ (sfD (itS (i) σ)))), (5, am_i (((i : Int) + 1))), (0, am_r 55), (1, am_i w)]) rfl (am_tab tk_X10_cheapest 80 rfl) rfl ?_
                        refine am_iinc (q := 149) rfl (by omega) (by decide) (ls2 := [(5, am_i ((((i : Int) + 1) + 1))), (4, am_i 0), (3, am_i (coM σ (sfD (itS (i) σ)))), (2, am_i (((itS (i + 1) σ).2.1 96 1))), (6, am_i (coM σ (sfD (itS (i) σ)))), (0, am_r 55), (1, am_i w)]) rfl (am_tab tk_X10_cheapest 81 rfl) rfl ?_
                        refine am_goto (t := 72) (am_tab tk_X10_cheapest 82 rfl) (by decide) ?_
                        have hm1 : ¬ (chF σ i).2.2 = 0 := by rw [hc]; exact h81
                        have hch : chF σ (i + 1) = (((itS (i + 1) σ).2.1 96 1), coM σ (sfD (itS (i) σ)), 0) := by
                          show (if (chF σ i).2.2 = 0 then _ else _) = _
                          rw [if_neg hm1, hc]
                          simp only
                          congr 1
                          · first | rw [if_pos (by omega)] | rw [if_neg (by omega)]
                          · congr 1
                            · first | rw [if_pos (by omega)] | rw [if_neg (by omega)]
                            · first | rw [if_pos (by omega)] | rw [if_neg (by omega)]
                        exact am_less (by intro q hq; simp only [List.mem_cons, List.not_mem_nil, or_false] at hq; rcases hq with rfl | rfl | rfl | rfl | rfl | rfl <;> simp) (ih72 (i + 1) S2 ((itS (i + 1) σ).2.1 96 1) (coM σ (sfD (itS (i) σ))) 0 (by omega) (by omega) (by omega) hD2 hch)
                      · refine am_aload_n (q := 127) rfl (am_tab tk_X10_cheapest 70 rfl) rfl ?_
                        refine am_getR (q := 130) (a := 55) (k := 10) (n := 108) (j := 54) (r := some (96)) (Ls_55 hD2.2.2.1.L) (by decide) rfl (Lr_55_54 hD2.2.2.1.L) (by decide) (Or.inl kf_X10_136) (am_tab tk_X10_cheapest 71 rfl) rfl ?_
                        refine am_iconst (q := 131) (n := 1) (by decide) (am_tab tk_X10_cheapest 72 rfl) rfl ?_
                        refine am_iald (q := 132) (a := 96) (n := 443) (x := ((itS (i + 1) σ).2.1 96 1)) (Ls_96 hD2.2.2.1.L) (by omega) (by omega) (cn_at hD2.2.1 96 1 (by decide) (by decide)) (am_tab tk_X10_cheapest 73 rfl) rfl ?_
                        refine am_aload_n (q := 133) rfl (am_tab tk_X10_cheapest 74 rfl) rfl ?_
                        refine am_callV0 (q := 136) (me2 := M_X10_yearDays) (b := 55) (kb := 10) (nb := 108) (As := []) (rest := [am_i (((itS (i + 1) σ).2.1 96 1))]) (out := [am_i (S2.2.1 85 9), am_i (((itS (i + 1) σ).2.1 96 1))]) (c_X10_yearDays S2 hD2.2.2.1.L  ) ⟨rfl, rfl⟩ (Ls_55 hD2.2.2.1.L) (by decide) ⟨Or.inl km_X10_397, kc_X10_yearDays, kn_X10, kd_X10_yearDays, ⟨(Nat.le_of_ble_eq_true rfl), (Nat.le_of_ble_eq_true rfl)⟩, ⟨(Nat.le_of_ble_eq_true rfl), (Nat.le_of_ble_eq_true rfl)⟩, (Nat.le_of_ble_eq_true rfl)⟩ ki_X10_yearDays ks_X10_yearDays rfl rfl (am_tab tk_X10_cheapest 75 rfl) rfl ?_
                        refine am_st (st2 := [am_i ((σ.2.1 85 9)), am_i (((itS (i + 1) σ).2.1 96 1))]) (by simp only [(show S2.2.1 85 9 = σ.2.1 85 9 from (hD2.1.2.2 85 9 (by unfold W_ah; omega)))]) ?_
                        refine am_icmp_ge (q := 139) (t := 143) (am_tab tk_X10_cheapest 76 rfl) (by decide) rfl (fun h136 => ?_) (fun h136 => ?_)
                        · refine am_iconst (q := 144) (n := 0) (by decide) (am_tab tk_X10_cheapest 79 rfl) rfl ?_
                          refine am_istore (q := 146) (by decide) (ls2 := [(4, am_i 0), (3, am_i (coM σ (sfD (itS (i) σ)))), (2, am_i (((itS (i + 1) σ).2.1 96 1))), (6, am_i (coM σ (sfD (itS (i) σ)))), (5, am_i (((i : Int) + 1))), (0, am_r 55), (1, am_i w)]) rfl (am_tab tk_X10_cheapest 80 rfl) rfl ?_
                          refine am_iinc (q := 149) rfl (by omega) (by decide) (ls2 := [(5, am_i ((((i : Int) + 1) + 1))), (4, am_i 0), (3, am_i (coM σ (sfD (itS (i) σ)))), (2, am_i (((itS (i + 1) σ).2.1 96 1))), (6, am_i (coM σ (sfD (itS (i) σ)))), (0, am_r 55), (1, am_i w)]) rfl (am_tab tk_X10_cheapest 81 rfl) rfl ?_
                          refine am_goto (t := 72) (am_tab tk_X10_cheapest 82 rfl) (by decide) ?_
                          have hm1 : ¬ (chF σ i).2.2 = 0 := by rw [hc]; exact h81
                          have hch : chF σ (i + 1) = (((itS (i + 1) σ).2.1 96 1), coM σ (sfD (itS (i) σ)), 0) := by
                            show (if (chF σ i).2.2 = 0 then _ else _) = _
                            rw [if_neg hm1, hc]
                            simp only
                            congr 1
                            · first | rw [if_pos (by omega)] | rw [if_neg (by omega)]
                            · congr 1
                              · first | rw [if_pos (by omega)] | rw [if_neg (by omega)]
                              · first | rw [if_pos (by omega)] | rw [if_neg (by omega)]
                          exact am_less (by intro q hq; simp only [List.mem_cons, List.not_mem_nil, or_false] at hq; rcases hq with rfl | rfl | rfl | rfl | rfl | rfl <;> simp) (ih72 (i + 1) S2 ((itS (i + 1) σ).2.1 96 1) (coM σ (sfD (itS (i) σ))) 0 (by omega) (by omega) (by omega) hD2 hch)
                        · refine am_iconst (q := 140) (n := 1) (by decide) (am_tab tk_X10_cheapest 77 rfl) rfl ?_
                          refine am_goto (t := 144) (am_tab tk_X10_cheapest 78 rfl) (by decide) ?_
                          refine am_istore (q := 146) (by decide) (ls2 := [(4, am_i 1), (3, am_i (coM σ (sfD (itS (i) σ)))), (2, am_i (((itS (i + 1) σ).2.1 96 1))), (6, am_i (coM σ (sfD (itS (i) σ)))), (5, am_i (((i : Int) + 1))), (0, am_r 55), (1, am_i w)]) rfl (am_tab tk_X10_cheapest 80 rfl) rfl ?_
                          refine am_iinc (q := 149) rfl (by omega) (by decide) (ls2 := [(5, am_i ((((i : Int) + 1) + 1))), (4, am_i 1), (3, am_i (coM σ (sfD (itS (i) σ)))), (2, am_i (((itS (i + 1) σ).2.1 96 1))), (6, am_i (coM σ (sfD (itS (i) σ)))), (0, am_r 55), (1, am_i w)]) rfl (am_tab tk_X10_cheapest 81 rfl) rfl ?_
                          refine am_goto (t := 72) (am_tab tk_X10_cheapest 82 rfl) (by decide) ?_
                          have hm1 : ¬ (chF σ i).2.2 = 0 := by rw [hc]; exact h81
                          have hch : chF σ (i + 1) = (((itS (i + 1) σ).2.1 96 1), coM σ (sfD (itS (i) σ)), 1) := by
                            show (if (chF σ i).2.2 = 0 then _ else _) = _
                            rw [if_neg hm1, hc]
                            simp only
                            congr 1
                            · first | rw [if_pos (by omega)] | rw [if_neg (by omega)]
                            · congr 1
                              · first | rw [if_pos (by omega)] | rw [if_neg (by omega)]
                              · first | rw [if_pos (by omega)] | rw [if_neg (by omega)]
                          exact am_less (by intro q hq; simp only [List.mem_cons, List.not_mem_nil, or_false] at hq; rcases hq with rfl | rfl | rfl | rfl | rfl | rfl <;> simp) (ih72 (i + 1) S2 ((itS (i + 1) σ).2.1 96 1) (coM σ (sfD (itS (i) σ))) 1 (by omega) (by omega) (by omega) hD2 hch)
                    · refine am_iload (q := 105) rfl (am_tab tk_X10_cheapest 57 rfl) rfl ?_
                      refine am_iload_n (q := 106) rfl (am_tab tk_X10_cheapest 58 rfl) rfl ?_
                      refine am_icmp_ge (q := 109) (t := 119) (am_tab tk_X10_cheapest 59 rfl) (by decide) rfl (fun h106 => ?_) (fun h106 => ?_)
                      · refine am_aload_n (q := 120) rfl (am_tab tk_X10_cheapest 67 rfl) rfl ?_
                        refine am_getI (q := 123) (a := 55) (k := 10) (n := 108) (j := 62) (x := (fsD (itS (i) σ))) (Ls_55 hD2.2.2.1.L) (by decide) rfl hLD2.2.2 (by decide) (Or.inl kf_X10_464) (am_tab tk_X10_cheapest 68 rfl) rfl ?_
                        refine am_if_ne (q := 126) (t := 143) (am_tab tk_X10_cheapest 69 rfl) (by decide) rfl (fun h123 => ?_) (fun h123 => ?_)
                        · refine am_iconst (q := 144) (n := 0) (by decide) (am_tab tk_X10_cheapest 79 rfl) rfl ?_
                          refine am_istore (q := 146) (by decide) (ls2 := [(4, am_i 0), (6, am_i (coM σ (sfD (itS (i) σ)))), (5, am_i (((i : Int) + 1))), (2, am_i be), (3, am_i le), (0, am_r 55), (1, am_i w)]) rfl (am_tab tk_X10_cheapest 80 rfl) rfl ?_
                          refine am_iinc (q := 149) rfl (by omega) (by decide) (ls2 := [(5, am_i ((((i : Int) + 1) + 1))), (4, am_i 0), (6, am_i (coM σ (sfD (itS (i) σ)))), (2, am_i be), (3, am_i le), (0, am_r 55), (1, am_i w)]) rfl (am_tab tk_X10_cheapest 81 rfl) rfl ?_
                          refine am_goto (t := 72) (am_tab tk_X10_cheapest 82 rfl) (by decide) ?_
                          have hm1 : ¬ (chF σ i).2.2 = 0 := by rw [hc]; exact h81
                          have hch : chF σ (i + 1) = (be, le, 0) := by
                            show (if (chF σ i).2.2 = 0 then _ else _) = _
                            rw [if_neg hm1, hc]
                            simp only
                            congr 1
                            · first | rw [if_pos (by omega)] | rw [if_neg (by omega)]
                            · congr 1
                              · first | rw [if_pos (by omega)] | rw [if_neg (by omega)]
                              · first | rw [if_pos (by omega)] | rw [if_neg (by omega)]
                          exact am_less (by intro q hq; simp only [List.mem_cons, List.not_mem_nil, or_false] at hq; rcases hq with rfl | rfl | rfl | rfl | rfl | rfl <;> simp) (ih72 (i + 1) S2 be le 0 (by omega) (by omega) (by omega) hD2 hch)
                        · refine am_aload_n (q := 127) rfl (am_tab tk_X10_cheapest 70 rfl) rfl ?_
                          refine am_getR (q := 130) (a := 55) (k := 10) (n := 108) (j := 54) (r := some (96)) (Ls_55 hD2.2.2.1.L) (by decide) rfl (Lr_55_54 hD2.2.2.1.L) (by decide) (Or.inl kf_X10_136) (am_tab tk_X10_cheapest 71 rfl) rfl ?_
                          refine am_iconst (q := 131) (n := 1) (by decide) (am_tab tk_X10_cheapest 72 rfl) rfl ?_
                          refine am_iald (q := 132) (a := 96) (n := 443) (x := ((itS (i + 1) σ).2.1 96 1)) (Ls_96 hD2.2.2.1.L) (by omega) (by omega) (cn_at hD2.2.1 96 1 (by decide) (by decide)) (am_tab tk_X10_cheapest 73 rfl) rfl ?_
                          refine am_aload_n (q := 133) rfl (am_tab tk_X10_cheapest 74 rfl) rfl ?_
                          refine am_callV0 (q := 136) (me2 := M_X10_yearDays) (b := 55) (kb := 10) (nb := 108) (As := []) (rest := [am_i (((itS (i + 1) σ).2.1 96 1))]) (out := [am_i (S2.2.1 85 9), am_i (((itS (i + 1) σ).2.1 96 1))]) (c_X10_yearDays S2 hD2.2.2.1.L  ) ⟨rfl, rfl⟩ (Ls_55 hD2.2.2.1.L) (by decide) ⟨Or.inl km_X10_397, kc_X10_yearDays, kn_X10, kd_X10_yearDays, ⟨(Nat.le_of_ble_eq_true rfl), (Nat.le_of_ble_eq_true rfl)⟩, ⟨(Nat.le_of_ble_eq_true rfl), (Nat.le_of_ble_eq_true rfl)⟩, (Nat.le_of_ble_eq_true rfl)⟩ ki_X10_yearDays ks_X10_yearDays rfl rfl (am_tab tk_X10_cheapest 75 rfl) rfl ?_
                          refine am_st (st2 := [am_i ((σ.2.1 85 9)), am_i (((itS (i + 1) σ).2.1 96 1))]) (by simp only [(show S2.2.1 85 9 = σ.2.1 85 9 from (hD2.1.2.2 85 9 (by unfold W_ah; omega)))]) ?_
                          refine am_icmp_ge (q := 139) (t := 143) (am_tab tk_X10_cheapest 76 rfl) (by decide) rfl (fun h136 => ?_) (fun h136 => ?_)
                          · refine am_iconst (q := 144) (n := 0) (by decide) (am_tab tk_X10_cheapest 79 rfl) rfl ?_
                            refine am_istore (q := 146) (by decide) (ls2 := [(4, am_i 0), (6, am_i (coM σ (sfD (itS (i) σ)))), (5, am_i (((i : Int) + 1))), (2, am_i be), (3, am_i le), (0, am_r 55), (1, am_i w)]) rfl (am_tab tk_X10_cheapest 80 rfl) rfl ?_
                            refine am_iinc (q := 149) rfl (by omega) (by decide) (ls2 := [(5, am_i ((((i : Int) + 1) + 1))), (4, am_i 0), (6, am_i (coM σ (sfD (itS (i) σ)))), (2, am_i be), (3, am_i le), (0, am_r 55), (1, am_i w)]) rfl (am_tab tk_X10_cheapest 81 rfl) rfl ?_
                            refine am_goto (t := 72) (am_tab tk_X10_cheapest 82 rfl) (by decide) ?_
                            have hm1 : ¬ (chF σ i).2.2 = 0 := by rw [hc]; exact h81
                            have hch : chF σ (i + 1) = (be, le, 0) := by
                              show (if (chF σ i).2.2 = 0 then _ else _) = _
                              rw [if_neg hm1, hc]
                              simp only
                              congr 1
                              · first | rw [if_pos (by omega)] | rw [if_neg (by omega)]
                              · congr 1
                                · first | rw [if_pos (by omega)] | rw [if_neg (by omega)]
                                · first | rw [if_pos (by omega)] | rw [if_neg (by omega)]
                            exact am_less (by intro q hq; simp only [List.mem_cons, List.not_mem_nil, or_false] at hq; rcases hq with rfl | rfl | rfl | rfl | rfl | rfl <;> simp) (ih72 (i + 1) S2 be le 0 (by omega) (by omega) (by omega) hD2 hch)
                          · refine am_iconst (q := 140) (n := 1) (by decide) (am_tab tk_X10_cheapest 77 rfl) rfl ?_
                            refine am_goto (t := 144) (am_tab tk_X10_cheapest 78 rfl) (by decide) ?_
                            refine am_istore (q := 146) (by decide) (ls2 := [(4, am_i 1), (6, am_i (coM σ (sfD (itS (i) σ)))), (5, am_i (((i : Int) + 1))), (2, am_i be), (3, am_i le), (0, am_r 55), (1, am_i w)]) rfl (am_tab tk_X10_cheapest 80 rfl) rfl ?_
                            refine am_iinc (q := 149) rfl (by omega) (by decide) (ls2 := [(5, am_i ((((i : Int) + 1) + 1))), (4, am_i 1), (6, am_i (coM σ (sfD (itS (i) σ)))), (2, am_i be), (3, am_i le), (0, am_r 55), (1, am_i w)]) rfl (am_tab tk_X10_cheapest 81 rfl) rfl ?_
                            refine am_goto (t := 72) (am_tab tk_X10_cheapest 82 rfl) (by decide) ?_
                            have hm1 : ¬ (chF σ i).2.2 = 0 := by rw [hc]; exact h81
                            have hch : chF σ (i + 1) = (be, le, 1) := by
                              show (if (chF σ i).2.2 = 0 then _ else _) = _
                              rw [if_neg hm1, hc]
                              simp only
                              congr 1
                              · first | rw [if_pos (by omega)] | rw [if_neg (by omega)]
                              · congr 1
                                · first | rw [if_pos (by omega)] | rw [if_neg (by omega)]
                                · first | rw [if_pos (by omega)] | rw [if_neg (by omega)]
                            exact am_less (by intro q hq; simp only [List.mem_cons, List.not_mem_nil, or_false] at hq; rcases hq with rfl | rfl | rfl | rfl | rfl | rfl <;> simp) (ih72 (i + 1) S2 be le 1 (by omega) (by omega) (by omega) hD2 hch)
                      · refine am_aload_n (q := 110) rfl (am_tab tk_X10_cheapest 60 rfl) rfl ?_
                        refine am_getR (q := 113) (a := 55) (k := 10) (n := 108) (j := 54) (r := some (96)) (Ls_55 hD2.2.2.1.L) (by decide) rfl (Lr_55_54 hD2.2.2.1.L) (by decide) (Or.inl kf_X10_136) (am_tab tk_X10_cheapest 61 rfl) rfl ?_
                        refine am_iconst (q := 114) (n := 1) (by decide) (am_tab tk_X10_cheapest 62 rfl) rfl ?_
                        refine am_iald (q := 115) (a := 96) (n := 443) (x := ((itS (i + 1) σ).2.1 96 1)) (Ls_96 hD2.2.2.1.L) (by omega) (by omega) (cn_at hD2.2.1 96 1 (by decide) (by decide)) (am_tab tk_X10_cheapest 63 rfl) rfl ?_
                        refine am_istore_n (q := 116) (by decide) (ls2 := [(2, am_i (((itS (i + 1) σ).2.1 96 1))), (6, am_i (coM σ (sfD (itS (i) σ)))), (5, am_i (((i : Int) + 1))), (3, am_i le), (4, am_i mo), (0, am_r 55), (1, am_i w)]) rfl (am_tab tk_X10_cheapest 64 rfl) rfl ?_
                        refine am_iload (q := 118) rfl (am_tab tk_X10_cheapest 65 rfl) rfl ?_
                        refine am_istore_n (q := 119) (by decide) (ls2 := [(3, am_i (coM σ (sfD (itS (i) σ)))), (2, am_i (((itS (i + 1) σ).2.1 96 1))), (6, am_i (coM σ (sfD (itS (i) σ)))), (5, am_i (((i : Int) + 1))), (4, am_i mo), (0, am_r 55), (1, am_i w)]) rfl (am_tab tk_X10_cheapest 66 rfl) rfl ?_
                        refine am_aload_n (q := 120) rfl (am_tab tk_X10_cheapest 67 rfl) rfl ?_
                        refine am_getI (q := 123) (a := 55) (k := 10) (n := 108) (j := 62) (x := (fsD (itS (i) σ))) (Ls_55 hD2.2.2.1.L) (by decide) rfl hLD2.2.2 (by decide) (Or.inl kf_X10_464) (am_tab tk_X10_cheapest 68 rfl) rfl ?_
                        refine am_if_ne (q := 126) (t := 143) (am_tab tk_X10_cheapest 69 rfl) (by decide) rfl (fun h123 => ?_) (fun h123 => ?_)
                        · refine am_iconst (q := 144) (n := 0) (by decide) (am_tab tk_X10_cheapest 79 rfl) rfl ?_
                          refine am_istore (q := 146) (by decide) (ls2 := [(4, am_i 0), (3, am_i (coM σ (sfD (itS (i) σ)))), (2, am_i (((itS (i + 1) σ).2.1 96 1))), (6, am_i (coM σ (sfD (itS (i) σ)))), (5, am_i (((i : Int) + 1))), (0, am_r 55), (1, am_i w)]) rfl (am_tab tk_X10_cheapest 80 rfl) rfl ?_
                          refine am_iinc (q := 149) rfl (by omega) (by decide) (ls2 := [(5, am_i ((((i : Int) + 1) + 1))), (4, am_i 0), (3, am_i (coM σ (sfD (itS (i) σ)))), (2, am_i (((itS (i + 1) σ).2.1 96 1))), (6, am_i (coM σ (sfD (itS (i) σ)))), (0, am_r 55), (1, am_i w)]) rfl (am_tab tk_X10_cheapest 81 rfl) rfl ?_
                          refine am_goto (t := 72) (am_tab tk_X10_cheapest 82 rfl) (by decide) ?_
                          have hm1 : ¬ (chF σ i).2.2 = 0 := by rw [hc]; exact h81
                          have hch : chF σ (i + 1) = (((itS (i + 1) σ).2.1 96 1), coM σ (sfD (itS (i) σ)), 0) := by
                            show (if (chF σ i).2.2 = 0 then _ else _) = _
                            rw [if_neg hm1, hc]
                            simp only
                            congr 1
                            · first | rw [if_pos (by omega)] | rw [if_neg (by omega)]
                            · congr 1
                              · first | rw [if_pos (by omega)] | rw [if_neg (by omega)]
                              · first | rw [if_pos (by omega)] | rw [if_neg (by omega)]
                          exact am_less (by intro q hq; simp only [List.mem_cons, List.not_mem_nil, or_false] at hq; rcases hq with rfl | rfl | rfl | rfl | rfl | rfl <;> simp) (ih72 (i + 1) S2 ((itS (i + 1) σ).2.1 96 1) (coM σ (sfD (itS (i) σ))) 0 (by omega) (by omega) (by omega) hD2 hch)
                        · refine am_aload_n (q := 127) rfl (am_tab tk_X10_cheapest 70 rfl) rfl ?_
                          refine am_getR (q := 130) (a := 55) (k := 10) (n := 108) (j := 54) (r := some (96)) (Ls_55 hD2.2.2.1.L) (by decide) rfl (Lr_55_54 hD2.2.2.1.L) (by decide) (Or.inl kf_X10_136) (am_tab tk_X10_cheapest 71 rfl) rfl ?_
                          refine am_iconst (q := 131) (n := 1) (by decide) (am_tab tk_X10_cheapest 72 rfl) rfl ?_
                          refine am_iald (q := 132) (a := 96) (n := 443) (x := ((itS (i + 1) σ).2.1 96 1)) (Ls_96 hD2.2.2.1.L) (by omega) (by omega) (cn_at hD2.2.1 96 1 (by decide) (by decide)) (am_tab tk_X10_cheapest 73 rfl) rfl ?_
                          refine am_aload_n (q := 133) rfl (am_tab tk_X10_cheapest 74 rfl) rfl ?_
                          refine am_callV0 (q := 136) (me2 := M_X10_yearDays) (b := 55) (kb := 10) (nb := 108) (As := []) (rest := [am_i (((itS (i + 1) σ).2.1 96 1))]) (out := [am_i (S2.2.1 85 9), am_i (((itS (i + 1) σ).2.1 96 1))]) (c_X10_yearDays S2 hD2.2.2.1.L  ) ⟨rfl, rfl⟩ (Ls_55 hD2.2.2.1.L) (by decide) ⟨Or.inl km_X10_397, kc_X10_yearDays, kn_X10, kd_X10_yearDays, ⟨(Nat.le_of_ble_eq_true rfl), (Nat.le_of_ble_eq_true rfl)⟩, ⟨(Nat.le_of_ble_eq_true rfl), (Nat.le_of_ble_eq_true rfl)⟩, (Nat.le_of_ble_eq_true rfl)⟩ ki_X10_yearDays ks_X10_yearDays rfl rfl (am_tab tk_X10_cheapest 75 rfl) rfl ?_
                          refine am_st (st2 := [am_i ((σ.2.1 85 9)), am_i (((itS (i + 1) σ).2.1 96 1))]) (by simp only [(show S2.2.1 85 9 = σ.2.1 85 9 from (hD2.1.2.2 85 9 (by unfold W_ah; omega)))]) ?_
                          refine am_icmp_ge (q := 139) (t := 143) (am_tab tk_X10_cheapest 76 rfl) (by decide) rfl (fun h136 => ?_) (fun h136 => ?_)
                          · refine am_iconst (q := 144) (n := 0) (by decide) (am_tab tk_X10_cheapest 79 rfl) rfl ?_
                            refine am_istore (q := 146) (by decide) (ls2 := [(4, am_i 0), (3, am_i (coM σ (sfD (itS (i) σ)))), (2, am_i (((itS (i + 1) σ).2.1 96 1))), (6, am_i (coM σ (sfD (itS (i) σ)))), (5, am_i (((i : Int) + 1))), (0, am_r 55), (1, am_i w)]) rfl (am_tab tk_X10_cheapest 80 rfl) rfl ?_
                            refine am_iinc (q := 149) rfl (by omega) (by decide) (ls2 := [(5, am_i ((((i : Int) + 1) + 1))), (4, am_i 0), (3, am_i (coM σ (sfD (itS (i) σ)))), (2, am_i (((itS (i + 1) σ).2.1 96 1))), (6, am_i (coM σ (sfD (itS (i) σ)))), (0, am_r 55), (1, am_i w)]) rfl (am_tab tk_X10_cheapest 81 rfl) rfl ?_
                            refine am_goto (t := 72) (am_tab tk_X10_cheapest 82 rfl) (by decide) ?_
                            have hm1 : ¬ (chF σ i).2.2 = 0 := by rw [hc]; exact h81
                            have hch : chF σ (i + 1) = (((itS (i + 1) σ).2.1 96 1), coM σ (sfD (itS (i) σ)), 0) := by
                              show (if (chF σ i).2.2 = 0 then _ else _) = _
                              rw [if_neg hm1, hc]
                              simp only
                              congr 1
                              · first | rw [if_pos (by omega)] | rw [if_neg (by omega)]
                              · congr 1
                                · first | rw [if_pos (by omega)] | rw [if_neg (by omega)]
                                · first | rw [if_pos (by omega)] | rw [if_neg (by omega)]
                            exact am_less (by intro q hq; simp only [List.mem_cons, List.not_mem_nil, or_false] at hq; rcases hq with rfl | rfl | rfl | rfl | rfl | rfl <;> simp) (ih72 (i + 1) S2 ((itS (i + 1) σ).2.1 96 1) (coM σ (sfD (itS (i) σ))) 0 (by omega) (by omega) (by omega) hD2 hch)
                          · refine am_iconst (q := 140) (n := 1) (by decide) (am_tab tk_X10_cheapest 77 rfl) rfl ?_
                            refine am_goto (t := 144) (am_tab tk_X10_cheapest 78 rfl) (by decide) ?_
                            refine am_istore (q := 146) (by decide) (ls2 := [(4, am_i 1), (3, am_i (coM σ (sfD (itS (i) σ)))), (2, am_i (((itS (i + 1) σ).2.1 96 1))), (6, am_i (coM σ (sfD (itS (i) σ)))), (5, am_i (((i : Int) + 1))), (0, am_r 55), (1, am_i w)]) rfl (am_tab tk_X10_cheapest 80 rfl) rfl ?_
                            refine am_iinc (q := 149) rfl (by omega) (by decide) (ls2 := [(5, am_i ((((i : Int) + 1) + 1))), (4, am_i 1), (3, am_i (coM σ (sfD (itS (i) σ)))), (2, am_i (((itS (i + 1) σ).2.1 96 1))), (6, am_i (coM σ (sfD (itS (i) σ)))), (0, am_r 55), (1, am_i w)]) rfl (am_tab tk_X10_cheapest 81 rfl) rfl ?_
                            refine am_goto (t := 72) (am_tab tk_X10_cheapest 82 rfl) (by decide) ?_
                            have hm1 : ¬ (chF σ i).2.2 = 0 := by rw [hc]; exact h81
                            have hch : chF σ (i + 1) = (((itS (i + 1) σ).2.1 96 1), coM σ (sfD (itS (i) σ)), 1) := by
                              show (if (chF σ i).2.2 = 0 then _ else _) = _
                              rw [if_neg hm1, hc]
                              simp only
                              congr 1
                              · first | rw [if_pos (by omega)] | rw [if_neg (by omega)]
                              · congr 1
                                · first | rw [if_pos (by omega)] | rw [if_neg (by omega)]
                                · first | rw [if_pos (by omega)] | rw [if_neg (by omega)]
                            exact am_less (by intro q hq; simp only [List.mem_cons, List.not_mem_nil, or_false] at hq; rcases hq with rfl | rfl | rfl | rfl | rfl | rfl <;> simp) (ih72 (i + 1) S2 ((itS (i + 1) σ).2.1 96 1) (coM σ (sfD (itS (i) σ))) 1 (by omega) (by omega) (by omega) hD2 hch)
            refine am_less (by intro q hq; simp only [List.mem_cons, List.not_mem_nil, or_false] at hq; rcases hq with rfl | rfl | rfl | rfl | rfl | rfl <;> simp) (L72 (_ + 1) 0 S0 (-1) 0 0 (by exact Nat.lt_succ_self _) (by omega) (by omega) hD0 (by show (_, _, if σ.2.1 96 1 < σ.2.1 85 9 then (1 : Int) else 0) = _; first | rw [if_pos (by omega)] | rw [if_neg (by omega)]))
          · exact absurd h36 (by omega)
        · refine am_iconst (q := 40) (n := (-1)) (by decide) (am_tab tk_X10_cheapest 21 rfl) rfl ?_
          refine am_iret (Or.inl rfl) (Nat.le_of_ble_eq_true rfl) (Nat.le_of_ble_eq_true rfl) (am_tab tk_X10_cheapest 22 rfl) ?_
          refine hQ _ _ ?_
          refine ⟨congrArg (fun z => some (am_i z)) ?_, PQ.refl hG⟩
          unfold cheM
          rw [if_neg (by omega)]
