theorem asSeen_loop (σ : am_H) (hL : lay σ) (n : Nat) (hn : σ.2.1 55 65 = n) (h8 : n ≤ 8) (set : Int) (hset : 0 ≤ set ∧ set < 256) (hr : ∀ k : Nat, k < n → 0 ≤ σ.2.1 100 (2 * k) ∧ σ.2.1 100 (2 * k) < 8) : ∀ m i : Nat, i + m = n → anyB (fun k => decide (¬ tb set (σ.2.1 100 (2 * k)) = σ.2.1 100 (2 * k + 1))) i = false → am_wp M_X10_isAsSeen (fun r σ' => r = some (am_i (if anyB (fun k => decide (¬ tb set (σ.2.1 100 (2 * k)) = σ.2.1 100 (2 * k + 1))) n = true then 0 else 1)) ∧ σ' = σ) 0 0 2 [(2, am_i ((i : Int))), (0, am_r 55), (1, am_i set)] [] σ := by
  intro m
  induction m with
  | zero =>
    intro i hi hq
    refine am_iload_n (q := 3) rfl (am_tab tk_X10_isAsSeen 2 rfl) rfl ?_
    refine am_aload_n (q := 4) rfl (am_tab tk_X10_isAsSeen 3 rfl) rfl ?_
    refine am_getI (q := 7) (a := 55) (k := 10) (n := 108) (j := 65) (x := (σ.2.1 55 65)) (Ls_55 hL) (by decide) rfl rfl (by decide) (Or.inl kf_X10_391) (am_tab tk_X10_isAsSeen 4 rfl) rfl ?_
    refine am_icmp_ge (q := 10) (t := 43) (am_tab tk_X10_isAsSeen 5 rfl) (by decide) rfl (fun h7 => ?_) (fun h7 => ?_)
    · refine am_iconst (q := 44) (n := 1) (by decide) (am_tab tk_X10_isAsSeen 29 rfl) rfl ?_
      refine am_iret (Or.inr ⟨rfl, by first | exact Or.inl rfl | exact Or.inr rfl | omega⟩) (Nat.le_of_ble_eq_true rfl) (Nat.le_of_ble_eq_true rfl) (am_tab tk_X10_isAsSeen 30 rfl) ?_
      exact ⟨by rw [← show i = n by omega, hq]; rfl, rfl⟩
    · exact absurd h7 (by omega)
  | succ m ih =>
    intro i hi hq
    have e1 : ((2 : Int) * (i : Int)).toNat = 2 * i := by omega
    have e2 : (((2 : Int) * (i : Int)) + 1).toNat = 2 * i + 1 := by omega
    refine am_iload_n (q := 3) rfl (am_tab tk_X10_isAsSeen 2 rfl) rfl ?_
    refine am_aload_n (q := 4) rfl (am_tab tk_X10_isAsSeen 3 rfl) rfl ?_
    refine am_getI (q := 7) (a := 55) (k := 10) (n := 108) (j := 65) (x := (σ.2.1 55 65)) (Ls_55 hL) (by decide) rfl rfl (by decide) (Or.inl kf_X10_391) (am_tab tk_X10_isAsSeen 4 rfl) rfl ?_
    refine am_icmp_ge (q := 10) (t := 43) (am_tab tk_X10_isAsSeen 5 rfl) (by decide) rfl (fun h7 => ?_) (fun h7 => ?_)
    · exact absurd h7 (by omega)
    · refine am_iload_n (q := 11) rfl (am_tab tk_X10_isAsSeen 6 rfl) rfl ?_
      refine am_aload_n (q := 12) rfl (am_tab tk_X10_isAsSeen 7 rfl) rfl ?_
      refine am_getR (q := 15) (a := 55) (k := 10) (n := 108) (j := 66) (r := some (100)) (Ls_55 hL) (by decide) rfl (Lr_55_66 hL) (by decide) (Or.inl kf_X10_148) (am_tab tk_X10_isAsSeen 8 rfl) rfl ?_
      refine am_iconst (q := 16) (n := 2) (by decide) (am_tab tk_X10_isAsSeen 9 rfl) rfl ?_
      refine am_iload_n (q := 17) rfl (am_tab tk_X10_isAsSeen 10 rfl) rfl ?_
      refine am_imul (q := 18) (by omega) (am_tab tk_X10_isAsSeen 11 rfl) rfl ?_
      refine am_iald (q := 19) (a := 100) (n := 16) (x := (σ.2.1 100 (2 * i))) (Ls_100 hL) (by omega) (by omega) (by rw [e1]) (am_tab tk_X10_isAsSeen 12 rfl) rfl ?_
      refine am_ishr (q := 20) (am_tab tk_X10_isAsSeen 13 rfl) rfl ?_
      refine am_iconst (q := 21) (n := 1) (by decide) (am_tab tk_X10_isAsSeen 14 rfl) rfl ?_
      refine am_iand (q := 22) (am_tab tk_X10_isAsSeen 15 rfl) rfl ?_
      refine am_aload_n (q := 23) rfl (am_tab tk_X10_isAsSeen 16 rfl) rfl ?_
      refine am_getR (q := 26) (a := 55) (k := 10) (n := 108) (j := 66) (r := some (100)) (Ls_55 hL) (by decide) rfl (Lr_55_66 hL) (by decide) (Or.inl kf_X10_148) (am_tab tk_X10_isAsSeen 17 rfl) rfl ?_
      refine am_iconst (q := 27) (n := 2) (by decide) (am_tab tk_X10_isAsSeen 18 rfl) rfl ?_
      refine am_iload_n (q := 28) rfl (am_tab tk_X10_isAsSeen 19 rfl) rfl ?_
      refine am_imul (q := 29) (by omega) (am_tab tk_X10_isAsSeen 20 rfl) rfl ?_
      refine am_iconst (q := 30) (n := 1) (by decide) (am_tab tk_X10_isAsSeen 21 rfl) rfl ?_
      refine am_iadd (q := 31) (by omega) (am_tab tk_X10_isAsSeen 22 rfl) rfl ?_
      refine am_iald (q := 32) (a := 100) (n := 16) (x := (σ.2.1 100 (2 * i + 1))) (Ls_100 hL) (by omega) (by omega) (by rw [e2]) (am_tab tk_X10_isAsSeen 23 rfl) rfl ?_
      refine am_icmp_eq (q := 35) (t := 37) (am_tab tk_X10_isAsSeen 24 rfl) (by decide) rfl (fun h32 => ?_) (fun h32 => ?_)
      · refine am_iinc (q := 40) rfl (by omega) (by decide) (ls2 := [(2, am_i (((i : Int) + 1))), (0, am_r 55), (1, am_i set)]) rfl (am_tab tk_X10_isAsSeen 27 rfl) rfl ?_
        refine am_goto (t := 2) (am_tab tk_X10_isAsSeen 28 rfl) (by decide) ?_
        rw [tb_eq hset (hr i (by omega))] at h32
        exact ih (i + 1) (by omega) (anyB_f hq (by simp [h32]))
      · refine am_iconst (q := 36) (n := 0) (by decide) (am_tab tk_X10_isAsSeen 25 rfl) rfl ?_
        refine am_iret (Or.inr ⟨rfl, by first | exact Or.inl rfl | exact Or.inr rfl | omega⟩) (Nat.le_of_ble_eq_true rfl) (Nat.le_of_ble_eq_true rfl) (am_tab tk_X10_isAsSeen 26 rfl) ?_
        rw [tb_eq hset (hr i (by omega))] at h32
        exact ⟨by rw [anyB_t (g := (fun k => decide (¬ tb set (σ.2.1 100 (2 * k)) = σ.2.1 100 (2 * k + 1)))) (i := i) (by simp [h32]) (by omega)]; rfl, rfl⟩
theorem c_X10_isAsSeen (σ : am_H) (hL : lay σ) (set : Int) (n : Nat) (hn : σ.2.1 55 65 = n) (h8 : n ≤ 8) (hset : 0 ≤ set ∧ set < 256) (hr : ∀ k : Nat, k < n → 0 ≤ σ.2.1 100 (2 * k) ∧ σ.2.1 100 (2 * k) < 8) : am_met M_X10_isAsSeen [am_r 55, am_i set] σ (fun r σ' => r = some (am_i (if anyB (fun k => decide (¬ tb set (σ.2.1 100 (2 * k)) = σ.2.1 100 (2 * k + 1))) n = true then 0 else 1)) ∧ σ' = σ) := by
  refine am_enter (show plainFor yX10_isAsSeen = true by decide +kernel) rfl (Nat.le_of_ble_eq_true rfl) (fun _ _ _ => trivial) ?_
  refine am_iconst (q := 1) (n := 0) (by decide) (am_tab tk_X10_isAsSeen 0 rfl) rfl ?_
  refine am_istore_n (q := 2) (by decide) (ls2 := [(2, am_i 0), (0, am_r 55), (1, am_i set)]) rfl (am_tab tk_X10_isAsSeen 1 rfl) rfl ?_
  exact asSeen_loop σ hL n hn h8 set hset hr n 0 (by omega) rfl
