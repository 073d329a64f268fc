theorem c_letter9 (σ : am_H) (hG : GD σ) (p : Int) (k : Int) (hnm : (∀ q : Nat, (q : Int) < σ.2.1 85 5 → 0 ≤ σ.2.1 86 (8 + q) ∧ σ.2.1 86 (8 + q) < 387420489)) : am_met M_X10_letter [am_r 55, am_i p, am_i k] σ (fun r σ' => r = some (am_i (letM σ p k)) ∧ σ' = σ) := by
  refine am_qq (fun Q hQ => ?_)
  refine am_enter (show plainFor yX10_letter = true by decide +kernel) rfl (Nat.le_of_ble_eq_true rfl) (fun _ _ _ => trivial) ?_
  have hL := hG.L
  have hP := hG.R.P
  refine am_aload_n (q := 1) rfl (am_tab tk_X10_letter 0 rfl) rfl ?_
  refine am_iload_n (q := 2) rfl (am_tab tk_X10_letter 1 rfl) rfl ?_
  refine am_callV0 (q := 5) (me2 := M_X10_isPerson) (b := 55) (kb := 10) (nb := 108) (As := [am_i p]) (rest := []) (out := [am_i (if 0 ≤ p ∧ p ≤ σ.2.1 85 5 - 1 then 1 else 0)]) (c_X10_isPerson σ hL p hP) ⟨rfl, rfl⟩ (Ls_55 hL) (by decide) ⟨Or.inl km_X10_490, kc_X10_isPerson, kn_X10, kd_X10_isPerson, ⟨(Nat.le_of_ble_eq_true rfl), (Nat.le_of_ble_eq_true rfl)⟩, ⟨(Nat.le_of_ble_eq_true rfl), (Nat.le_of_ble_eq_true rfl)⟩, (Nat.le_of_ble_eq_true rfl)⟩ ki_X10_isPerson ks_X10_isPerson rfl rfl (am_tab tk_X10_letter 2 rfl) rfl ?_
  refine am_if_eq (q := 8) (t := 20) (am_tab tk_X10_letter 3 rfl) (by decide) rfl (fun h5 => ?_) (fun h5 => ?_)
  · replace h5 := b01z h5
    refine am_iconst (q := 21) (n := (-1)) (by decide) (am_tab tk_X10_letter 10 rfl) rfl ?_
    refine am_iret (Or.inl rfl) (Nat.le_of_ble_eq_true rfl) (Nat.le_of_ble_eq_true rfl) (am_tab tk_X10_letter 11 rfl) ?_
    refine hQ _ _ ?_
    refine ⟨congrArg (fun z => some (am_i z)) ?_, rfl⟩
    unfold letM
    rw [if_neg (by intro hx; first | exact absurd hx.1 (by assumption) | exact absurd hx.2 (by assumption))]
  · replace h5 := b01n h5
    refine am_iload_n (q := 9) rfl (am_tab tk_X10_letter 4 rfl) rfl ?_
    refine am_i2l (q := 10) (am_tab tk_X10_letter 5 rfl) rfl ?_
    refine am_lconst0 (q := 11) (am_tab tk_X10_letter 6 rfl) rfl ?_
    refine am_ldc2 (q := 14) (n := 5) (by decide) kk_X10_493 (am_tab tk_X10_letter 7 rfl) rfl ?_
    refine am_callS0 (q := 17) (me2 := M_X10_isIn) (As := [am_l k, am_l 0, am_l 5]) (rest := []) (out := [am_i (if 0 ≤ k ∧ k ≤ 5 then 1 else 0)]) (c_X10_isIn σ hL k 0 5 ) ⟨rfl, rfl⟩ ⟨Or.inl km_X10_291, kc_X10_isIn, kn_X10, kd_X10_isIn, ⟨(Nat.le_of_ble_eq_true rfl), (Nat.le_of_ble_eq_true rfl)⟩, ⟨(Nat.le_of_ble_eq_true rfl), (Nat.le_of_ble_eq_true rfl)⟩, (Nat.le_of_ble_eq_true rfl)⟩ ki_X10_isIn rfl rfl (am_tab tk_X10_letter 8 rfl) rfl ?_
    refine am_if_ne (q := 20) (t := 22) (am_tab tk_X10_letter 9 rfl) (by decide) rfl (fun h17 => ?_) (fun h17 => ?_)
    · replace h17 := b01n h17
      refine am_aload_n (q := 23) rfl (am_tab tk_X10_letter 12 rfl) rfl ?_
      refine am_getR (q := 26) (a := 55) (k := 10) (n := 108) (j := 40) (r := some (86)) (Ls_55 hL) (by decide) rfl (Lr_55_40 hL) (by decide) (Or.inl kf_X10_105) (am_tab tk_X10_letter 13 rfl) rfl ?_
      refine am_bipush (q := 28) (n := 8) (by decide) rfl (am_tab tk_X10_letter 14 rfl) rfl ?_
      refine am_iload_n (q := 29) rfl (am_tab tk_X10_letter 15 rfl) rfl ?_
      refine am_iadd (q := 30) (by omega) (am_tab tk_X10_letter 16 rfl) rfl ?_
      refine am_lald (q := 31) (a := 86) (n := 16) (x := (σ.2.1 86 (Int.toNat (8 + p)))) (Ls_86 hL) (by omega) (by omega) rfl (am_tab tk_X10_letter 17 rfl) rfl ?_
      refine am_lstore_n (q := 32) (by decide) (ls2 := [(3, am_l ((σ.2.1 86 (Int.toNat (8 + p))))), (0, am_r 55), (1, am_i p), (2, am_i k)]) rfl (am_tab tk_X10_letter 18 rfl) rfl ?_
      have hv : 0 ≤ (σ.2.1 86 (Int.toNat (8 + p))) ∧ (σ.2.1 86 (Int.toNat (8 + p))) < 387420489 := by
        have h9 := hnm p.toNat (by omega)
        rw [show 8 + p.toNat = Int.toNat (8 + p) by omega] at h9
        exact h9
      have hnr := nzF_rng 6 (σ.2.1 86 (Int.toNat (8 + p)))
      refine am_iconst (q := 33) (n := 0) (by decide) (am_tab tk_X10_letter 19 rfl) rfl ?_
      refine am_istore (q := 35) (by decide) (ls2 := [(5, am_i 0), (3, am_l ((σ.2.1 86 (Int.toNat (8 + p))))), (0, am_r 55), (1, am_i p), (2, am_i k)]) rfl (am_tab tk_X10_letter 20 rfl) rfl ?_
      refine am_lload_n (q := 36) rfl (am_tab tk_X10_letter 21 rfl) rfl ?_
      refine am_lstore (q := 38) (by decide) (ls2 := [(6, am_l ((σ.2.1 86 (Int.toNat (8 + p))))), (5, am_i 0), (3, am_l ((σ.2.1 86 (Int.toNat (8 + p))))), (0, am_r 55), (1, am_i p), (2, am_i k)]) rfl (am_tab tk_X10_letter 22 rfl) rfl ?_
      have L38 : ∀ (n38 : Nat) (f : Nat) (z : Int) (n : Int), f < n38 → 0 ≤ z → z < 27 ^ f → 0 ≤ n → n + f = 6 → n + nzF f z = nzF 6 (σ.2.1 86 (Int.toNat (8 + p))) → am_wp M_X10_letter Q 0 0 38 [(6, am_l z), (5, am_i n), (3, am_l ((σ.2.1 86 (Int.toNat (8 + p))))), (0, am_r 55), (1, am_i p), (2, am_i k)] [] σ := by
        intro n38
        induction n38 with
        | zero => intro f z n hn38; exact absurd hn38 (Nat.not_lt_zero _)
        | succ n38 ih38 =>
          intro f z n hn38 hz hz27 hn hnf hs0
          have hdz : Int.tdiv z 27 = z / 27 := Int.tdiv_eq_ediv_of_nonneg hz
          refine am_lload (q := 40) rfl (am_tab tk_X10_letter 23 rfl) rfl ?_
          refine am_lconst0 (q := 41) (am_tab tk_X10_letter 24 rfl) rfl ?_
          refine am_lcmp (q := 42) (am_tab tk_X10_letter 25 rfl) rfl ?_
          refine am_if_le (q := 45) (t := 59) (am_tab tk_X10_letter 26 rfl) (by decide) rfl (fun h42 => ?_) (fun h42 => ?_)
          · rw [ao_cmp_le] at h42
            refine am_iload_n (q := 60) rfl (am_tab tk_X10_letter 33 rfl) rfl ?_
            refine am_iload (q := 62) rfl (am_tab tk_X10_letter 34 rfl) rfl ?_
            refine am_icmp_lt (q := 65) (t := 67) (am_tab tk_X10_letter 35 rfl) (by decide) rfl (fun h62 => ?_) (fun h62 => ?_)
            · refine am_iload (q := 69) rfl (am_tab tk_X10_letter 38 rfl) rfl ?_
              refine am_iconst (q := 70) (n := 1) (by decide) (am_tab tk_X10_letter 39 rfl) rfl ?_
              refine am_isub (q := 71) (by omega) (am_tab tk_X10_letter 40 rfl) rfl ?_
              refine am_istore (q := 73) (by decide) (ls2 := [(6, am_i ((n - 1))), (5, am_i n), (3, am_l ((σ.2.1 86 (Int.toNat (8 + p))))), (0, am_r 55), (1, am_i p), (2, am_i k)]) rfl (am_tab tk_X10_letter 41 rfl) rfl ?_
              have hnn : n = nzF 6 (σ.2.1 86 (Int.toNat (8 + p))) := by
                have h9 : nzF f z = 0 := by
                  cases f with
                  | zero => rfl
                  | succ f => show (if 0 < z then _ else _) = _; rw [if_neg (by omega)]
                omega
              have L73 : ∀ (n73 : Nat) (m : Nat), 6 - m < n73 → k ≤ n - 1 - (m : Int) → am_wp M_X10_letter Q 0 0 73 [(6, am_i ((n - 1 - (m : Int)))), (3, am_l (dq m (σ.2.1 86 (Int.toNat (8 + p))))), (5, am_i n), (0, am_r 55), (1, am_i p), (2, am_i k)] [] σ := by
                intro n73
                induction n73 with
                | zero => intro m hn73; exact absurd hn73 (Nat.not_lt_zero _)
                | succ n73 ih73 =>
                  intro m hn73 hm
                  have hdq := dq_rng hv m
                  refine am_iload (q := 75) rfl (am_tab tk_X10_letter 42 rfl) rfl ?_
                  refine am_iload_n (q := 76) rfl (am_tab tk_X10_letter 43 rfl) rfl ?_
                  refine am_icmp_le (q := 79) (t := 91) (am_tab tk_X10_letter 44 rfl) (by decide) rfl (fun h76 => ?_) (fun h76 => ?_)
                  · refine am_lload_n (q := 92) rfl (am_tab tk_X10_letter 51 rfl) rfl ?_
                    refine am_ldc2 (q := 95) (n := 27) (by decide) kk_X10_302 (am_tab tk_X10_letter 52 rfl) rfl ?_
                    refine am_lrem (q := 96) (by omega) (by omega) (am_tab tk_X10_letter 53 rfl) rfl ?_
                    refine am_l2i (q := 97) (y := Int.tmod (dq m (σ.2.1 86 (Int.toNat (8 + p)))) 27) (l2i_eq (by have h1 := Int.tmod_nonneg (a := dq m (σ.2.1 86 (Int.toNat (8 + p)))) 27 hdq.1; have h2 := Int.tmod_lt_of_pos (dq m (σ.2.1 86 (Int.toNat (8 + p)))) (b := 27) (by omega); omega)).symm (am_tab tk_X10_letter 54 rfl) rfl ?_
                    refine am_iret (Or.inl rfl) (Nat.le_of_ble_eq_true rfl) (Nat.le_of_ble_eq_true rfl) (am_tab tk_X10_letter 55 rfl) ?_
                    refine hQ _ _ ?_
                    refine ⟨congrArg (fun z => some (am_i z)) ?_, rfl⟩
                    unfold letM
                    rw [if_pos ⟨h5, h17⟩]
                    unfold ltM
                    rw [if_neg (by omega), show (nzF 6 (σ.2.1 86 (Int.toNat (8 + p))) - 1 - k).toNat = m by omega]
                  · refine am_lload_n (q := 80) rfl (am_tab tk_X10_letter 45 rfl) rfl ?_
                    refine am_ldc2 (q := 83) (n := 27) (by decide) kk_X10_302 (am_tab tk_X10_letter 46 rfl) rfl ?_
                    refine am_ldiv (q := 84) (by omega) (by omega) (am_tab tk_X10_letter 47 rfl) rfl ?_
                    refine am_lstore_n (q := 85) (by decide) (ls2 := [(3, am_l ((Int.tdiv (dq m (σ.2.1 86 (Int.toNat (8 + p)))) 27))), (6, am_i ((n - 1 - (m : Int)))), (5, am_i n), (0, am_r 55), (1, am_i p), (2, am_i k)]) rfl (am_tab tk_X10_letter 48 rfl) rfl ?_
                    refine am_iinc (q := 88) rfl (by omega) (by decide) (ls2 := [(6, am_i (((n - 1 - (m : Int)) + (-1)))), (3, am_l ((Int.tdiv (dq m (σ.2.1 86 (Int.toNat (8 + p)))) 27))), (5, am_i n), (0, am_r 55), (1, am_i p), (2, am_i k)]) rfl (am_tab tk_X10_letter 49 rfl) rfl ?_
                    refine am_goto (t := 73) (am_tab tk_X10_letter 50 rfl) (by decide) ?_
                    rw [show (n - 1 - (m : Int)) + (-1) = n - 1 - ((m + 1 : Nat) : Int) by omega, show Int.tdiv (dq m (σ.2.1 86 (Int.toNat (8 + p)))) 27 = dq (m + 1) (σ.2.1 86 (Int.toNat (8 + p))) from rfl]
                    exact am_less (by intro q hq; simp only [List.mem_cons, List.not_mem_nil, or_false] at hq; rcases hq with rfl | rfl | rfl | rfl | rfl | rfl <;> simp) (ih73 (m + 1) (by omega) (by omega))
              refine am_less (by intro q hq; simp only [List.mem_cons, List.not_mem_nil, or_false] at hq; rcases hq with rfl | rfl | rfl | rfl | rfl | rfl <;> simp [dq]) (L73 (_ + 1) 0 (by exact Nat.lt_succ_self _) (by omega))
            · refine am_iconst (q := 66) (n := 0) (by decide) (am_tab tk_X10_letter 36 rfl) rfl ?_
              refine am_iret (Or.inl rfl) (Nat.le_of_ble_eq_true rfl) (Nat.le_of_ble_eq_true rfl) (am_tab tk_X10_letter 37 rfl) ?_
              refine hQ _ _ ?_
              refine ⟨congrArg (fun z => some (am_i z)) ?_, rfl⟩
              unfold letM
              rw [if_pos ⟨h5, h17⟩]
              unfold ltM
              have h9 : nzF f z = 0 := by
                cases f with
                | zero => rfl
                | succ f => show (if 0 < z then _ else _) = _; rw [if_neg (by omega)]
              rw [if_pos (by omega)]
          · rw [ao_cmp_le] at h42
            refine am_iinc (q := 48) rfl (by omega) (by decide) (ls2 := [(5, am_i ((n + 1))), (6, am_l z), (3, am_l ((σ.2.1 86 (Int.toNat (8 + p))))), (0, am_r 55), (1, am_i p), (2, am_i k)]) rfl (am_tab tk_X10_letter 27 rfl) rfl ?_
            refine am_lload (q := 50) rfl (am_tab tk_X10_letter 28 rfl) rfl ?_
            refine am_ldc2 (q := 53) (n := 27) (by decide) kk_X10_302 (am_tab tk_X10_letter 29 rfl) rfl ?_
            refine am_ldiv (q := 54) (by omega) (by omega) (am_tab tk_X10_letter 30 rfl) rfl ?_
            refine am_lstore (q := 56) (by decide) (ls2 := [(6, am_l ((Int.tdiv z 27))), (5, am_i ((n + 1))), (3, am_l ((σ.2.1 86 (Int.toNat (8 + p))))), (0, am_r 55), (1, am_i p), (2, am_i k)]) rfl (am_tab tk_X10_letter 31 rfl) rfl ?_
            refine am_goto (t := 38) (am_tab tk_X10_letter 32 rfl) (by decide) ?_
            have hf1 : 1 ≤ f := by
              rcases Nat.eq_zero_or_pos f with h9 | h9
              · rw [h9] at hz27; simp at hz27; omega
              · exact h9
            obtain ⟨g, hg⟩ : ∃ g, f = g + 1 := ⟨f - 1, by omega⟩
            have hz2 : Int.tdiv z 27 < 27 ^ (f - 1) := by
              rw [hg, show (27 : Int) ^ (g + 1) = 27 ^ g * 27 from Int.pow_succ _ _] at hz27
              rw [hdz, hg, Nat.add_sub_cancel]
              omega
            have hs1 : nzF f z = nzF (f - 1) (Int.tdiv z 27) + 1 := by
              rw [hg, Nat.add_sub_cancel]
              show (if 0 < z then _ else _) = _
              rw [if_pos (by omega)]
            exact am_less (by intro q hq; simp only [List.mem_cons, List.not_mem_nil, or_false] at hq; rcases hq with rfl | rfl | rfl | rfl | rfl | rfl <;> simp) (ih38 (f - 1) (Int.tdiv z 27) (n + 1) (by omega) (by omega) hz2 (by omega) (by omega) (by omega))
      refine am_less (by intro q hq; simp only [List.mem_cons, List.not_mem_nil, or_false] at hq; rcases hq with rfl | rfl | rfl | rfl | rfl | rfl <;> simp) (L38 (_ + 1) 6 (σ.2.1 86 (Int.toNat (8 + p))) 0 (by exact Nat.lt_succ_self _) (by omega) (by simp; omega) (by omega) (by omega) (by omega))
    · replace h17 := b01z h17
      refine am_iconst (q := 21) (n := (-1)) (by decide) (am_tab tk_X10_letter 10 rfl) rfl ?_
      refine am_iret (Or.inl rfl) (Nat.le_of_ble_eq_true rfl) (Nat.le_of_ble_eq_true rfl) (am_tab tk_X10_letter 11 rfl) ?_
      refine hQ _ _ ?_
      refine ⟨congrArg (fun z => some (am_i z)) ?_, rfl⟩
      unfold letM
      rw [if_neg (by intro hx; first | exact absurd hx.1 (by assumption) | exact absurd hx.2 (by assumption))]
