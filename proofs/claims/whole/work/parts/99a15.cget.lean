/-- days that are none are told to nobody -/
def ZR (Y : Int) (g : Nat → Int) : Prop := g 20 = 0 ∧ g 111 = 0 ∧ ∀ d : Nat, d < 91 → Y < (d : Int) → g (20 + d) = 0
theorem bc0 : bc 0 = 0 := by decide
theorem sumN_sh {f g : Nat → Int} (h0 : f 0 = 0) : ∀ n, (∀ d, d < n → f (d + 1) = g d) → sumN f (n + 1) = sumN g n
  | 0, _ => by show 0 + f 0 = 0; rw [h0]; rfl
  | n + 1, h => by
    show sumN f (n + 1) + f (n + 1) = sumN g n + g n
    rw [sumN_sh h0 n (fun d hd => h d (by omega)), h n (by omega)]
theorem sumN_cut {g : Nat → Int} {m : Nat} : ∀ n, (∀ d, m ≤ d → d < m + n → g d = 0) → sumN g (m + n) = sumN g m
  | 0, _ => rfl
  | n + 1, h => by
    show sumN g (m + n) + g (m + n) = _
    rw [sumN_cut n (fun d h1 h2 => h d h1 (by omega)), h (m + n) (by omega) (by omega), Int.add_zero]
theorem sumN_cg {f g : Nat → Int} : ∀ n, (∀ d, d < n → f d = g d) → sumN f n = sumN g n
  | 0, _ => rfl
  | n + 1, h => by
    show sumN f n + f n = sumN g n + g n
    rw [sumN_cg n (fun d hd => h d (by omega)), h n (by omega)]
theorem c_countBits_34 (σ : am_H) (hL : lay σ)  (hr : ∀ d : Nat, d < 91 → 0 ≤ σ.2.1 34 d ∧ σ.2.1 34 d < 256) : am_met M_X9_countBits [am_r 34] σ (fun r σ' => r = some (am_i (sumN (fun d => bc (σ.2.1 34 d)) 91)) ∧ σ' = σ) := by
  refine am_qq (fun Q hQ => ?_)
  refine am_enter (show plainFor yX9_countBits = true by decide +kernel) rfl (Nat.le_of_ble_eq_true rfl) (fun _ _ _ => trivial) ?_
  have hs : ∀ k : Nat, k ≤ 91 → 0 ≤ sumN (fun d => bc (σ.2.1 34 d)) k ∧ sumN (fun d => bc (σ.2.1 34 d)) k ≤ k * 8 := fun k hk => sumN_rng k (fun i hi => (bc1_eq (hr i (by omega))).2)
  refine am_iconst (q := 1) (n := 0) (by decide) (am_tab tk_X9_countBits 0 rfl) rfl ?_
  refine am_istore_n (q := 2) (by decide) (ls2 := [(1, am_i 0), (0, am_r 34)]) rfl (am_tab tk_X9_countBits 1 rfl) rfl ?_
  refine am_aload_n (q := 3) rfl (am_tab tk_X9_countBits 2 rfl) rfl ?_
  refine am_astore_n (q := 4) (by decide) (ls2 := [(2, am_r 34), (1, am_i 0), (0, am_r 34)]) rfl (am_tab tk_X9_countBits 3 rfl) rfl ?_
  refine am_aload_n (q := 5) rfl (am_tab tk_X9_countBits 4 rfl) rfl ?_
  refine am_alen (q := 6) (a := 34) (k := 11) (n := 91) (Ls_34 hL) (by decide) (by decide) (am_tab tk_X9_countBits 5 rfl) rfl ?_
  refine am_istore_n (q := 7) (by decide) (ls2 := [(3, am_i 91), (2, am_r 34), (1, am_i 0), (0, am_r 34)]) rfl (am_tab tk_X9_countBits 6 rfl) rfl ?_
  refine am_iconst (q := 8) (n := 0) (by decide) (am_tab tk_X9_countBits 7 rfl) rfl ?_
  refine am_istore (q := 10) (by decide) (ls2 := [(4, am_i 0), (3, am_i 91), (2, am_r 34), (1, am_i 0), (0, am_r 34)]) rfl (am_tab tk_X9_countBits 8 rfl) rfl ?_
  have L10 : ∀ (n10 : Nat) (k : Nat), 91 - k < n10 → k ≤ 91 → am_wp M_X9_countBits Q 0 0 10 [(4, am_i ((k : Int))), (3, am_i 91), (2, am_r 34), (1, am_i ((sumN (fun d => bc (σ.2.1 34 d)) k))), (0, am_r 34)] [] σ := by
    intro n10
    induction n10 with
    | zero => intro k hn10; exact absurd hn10 (Nat.not_lt_zero _)
    | succ n10 ih10 =>
      intro k hn10 hk
      refine am_iload (q := 12) rfl (am_tab tk_X9_countBits 9 rfl) rfl ?_
      refine am_iload_n (q := 13) rfl (am_tab tk_X9_countBits 10 rfl) rfl ?_
      refine am_icmp_ge (q := 16) (t := 36) (am_tab tk_X9_countBits 11 rfl) (by decide) rfl (fun h13 => ?_) (fun h13 => ?_)
      · refine am_iload_n (q := 37) rfl (am_tab tk_X9_countBits 23 rfl) rfl ?_
        refine am_iret (Or.inl rfl) (Nat.le_of_ble_eq_true rfl) (Nat.le_of_ble_eq_true rfl) (am_tab tk_X9_countBits 24 rfl) ?_
        refine hQ _ _ ?_
        rw [show k = 91 by omega]
        exact ⟨rfl, rfl⟩
      · refine am_aload_n (q := 17) rfl (am_tab tk_X9_countBits 12 rfl) rfl ?_
        refine am_iload (q := 19) rfl (am_tab tk_X9_countBits 13 rfl) rfl ?_
        refine am_iald (q := 20) (a := 34) (n := 91) (x := (σ.2.1 34 k)) (Ls_34 hL) (by omega) (by omega) (by rw [show Int.toNat (k : Int) = k by omega]) (am_tab tk_X9_countBits 14 rfl) rfl ?_
        refine am_istore (q := 22) (by decide) (ls2 := [(5, am_i ((σ.2.1 34 k))), (4, am_i ((k : Int))), (3, am_i 91), (2, am_r 34), (1, am_i ((sumN (fun d => bc (σ.2.1 34 d)) k))), (0, am_r 34)]) rfl (am_tab tk_X9_countBits 15 rfl) rfl ?_
        have hsk := hs k (by omega)
        have hbk := (bc1_eq (hr k (by omega))).2
        refine am_iload_n (q := 23) rfl (am_tab tk_X9_countBits 16 rfl) rfl ?_
        refine am_iload (q := 25) rfl (am_tab tk_X9_countBits 17 rfl) rfl ?_
        refine am_callS0 (q := 28) (me2 := M_J6_bitCount_0f7a4) (As := [am_i ((σ.2.1 34 k))]) (rest := [am_i ((sumN (fun d => bc (σ.2.1 34 d)) k))]) (out := [am_i (bc (σ.2.1 34 k)), am_i ((sumN (fun d => bc (σ.2.1 34 d)) k))]) (c_bc σ (σ.2.1 34 k) (hr k (by omega))) ⟨rfl, rfl⟩ ⟨Or.inl km_X9_133, kc_J6_bitCount_0f7a4, kn_J6, kd_J6_bitCount_0f7a4, ⟨(Nat.le_of_ble_eq_true rfl), (Nat.le_of_ble_eq_true rfl)⟩, ⟨(Nat.le_of_ble_eq_true rfl), (Nat.le_of_ble_eq_true rfl)⟩, (Nat.le_of_ble_eq_true rfl)⟩ ki_J6_bitCount_0f7a4 rfl rfl (am_tab tk_X9_countBits 18 rfl) rfl ?_
        refine am_iadd (q := 29) (by omega) (am_tab tk_X9_countBits 19 rfl) rfl ?_
        refine am_istore_n (q := 30) (by decide) (ls2 := [(1, am_i (((sumN (fun d => bc (σ.2.1 34 d)) k) + (bc (σ.2.1 34 k))))), (5, am_i ((σ.2.1 34 k))), (4, am_i ((k : Int))), (3, am_i 91), (2, am_r 34), (0, am_r 34)]) rfl (am_tab tk_X9_countBits 20 rfl) rfl ?_
        refine am_iinc (q := 33) rfl (by omega) (by decide) (ls2 := [(4, am_i (((k : Int) + 1))), (1, am_i (((sumN (fun d => bc (σ.2.1 34 d)) k) + (bc (σ.2.1 34 k))))), (5, am_i ((σ.2.1 34 k))), (3, am_i 91), (2, am_r 34), (0, am_r 34)]) rfl (am_tab tk_X9_countBits 21 rfl) rfl ?_
        refine am_goto (t := 10) (am_tab tk_X9_countBits 22 rfl) (by decide) ?_
        exact am_less (by intro q hq; simp only [List.mem_cons, List.not_mem_nil, or_false] at hq; rcases hq with rfl | rfl | rfl | rfl | rfl <;> simp [sumN]) (ih10 (k + 1) (by omega) (by omega))
  refine am_less (by intro q hq; simp only [List.mem_cons, List.not_mem_nil, or_false] at hq; rcases hq with rfl | rfl | rfl | rfl | rfl <;> simp [sumN]) (L10 (_ + 1) 0 (by exact Nat.lt_succ_self _) (by omega))
theorem c_countBits_35 (σ : am_H) (hL : lay σ)  (hr : ∀ d : Nat, d < 91 → 0 ≤ σ.2.1 35 d ∧ σ.2.1 35 d < 256) : am_met M_X9_countBits [am_r 35] σ (fun r σ' => r = some (am_i (sumN (fun d => bc (σ.2.1 35 d)) 91)) ∧ σ' = σ) := by
  refine am_qq (fun Q hQ => ?_)
  refine am_enter (show plainFor yX9_countBits = true by decide +kernel) rfl (Nat.le_of_ble_eq_true rfl) (fun _ _ _ => trivial) ?_
  have hs : ∀ k : Nat, k ≤ 91 → 0 ≤ sumN (fun d => bc (σ.2.1 35 d)) k ∧ sumN (fun d => bc (σ.2.1 35 d)) k ≤ k * 8 := fun k hk => sumN_rng k (fun i hi => (bc1_eq (hr i (by omega))).2)
  refine am_iconst (q := 1) (n := 0) (by decide) (am_tab tk_X9_countBits 0 rfl) rfl ?_
  refine am_istore_n (q := 2) (by decide) (ls2 := [(1, am_i 0), (0, am_r 35)]) rfl (am_tab tk_X9_countBits 1 rfl) rfl ?_
  refine am_aload_n (q := 3) rfl (am_tab tk_X9_countBits 2 rfl) rfl ?_
  refine am_astore_n (q := 4) (by decide) (ls2 := [(2, am_r 35), (1, am_i 0), (0, am_r 35)]) rfl (am_tab tk_X9_countBits 3 rfl) rfl ?_
  refine am_aload_n (q := 5) rfl (am_tab tk_X9_countBits 4 rfl) rfl ?_
  refine am_alen (q := 6) (a := 35) (k := 11) (n := 91) (Ls_35 hL) (by decide) (by decide) (am_tab tk_X9_countBits 5 rfl) rfl ?_
  refine am_istore_n (q := 7) (by decide) (ls2 := [(3, am_i 91), (2, am_r 35), (1, am_i 0), (0, am_r 35)]) rfl (am_tab tk_X9_countBits 6 rfl) rfl ?_
  refine am_iconst (q := 8) (n := 0) (by decide) (am_tab tk_X9_countBits 7 rfl) rfl ?_
  refine am_istore (q := 10) (by decide) (ls2 := [(4, am_i 0), (3, am_i 91), (2, am_r 35), (1, am_i 0), (0, am_r 35)]) rfl (am_tab tk_X9_countBits 8 rfl) rfl ?_
  have L10 : ∀ (n10 : Nat) (k : Nat), 91 - k < n10 → k ≤ 91 → am_wp M_X9_countBits Q 0 0 10 [(4, am_i ((k : Int))), (3, am_i 91), (2, am_r 35), (1, am_i ((sumN (fun d => bc (σ.2.1 35 d)) k))), (0, am_r 35)] [] σ := by
    intro n10
    induction n10 with
    | zero => intro k hn10; exact absurd hn10 (Nat.not_lt_zero _)
    | succ n10 ih10 =>
      intro k hn10 hk
      refine am_iload (q := 12) rfl (am_tab tk_X9_countBits 9 rfl) rfl ?_
      refine am_iload_n (q := 13) rfl (am_tab tk_X9_countBits 10 rfl) rfl ?_
      refine am_icmp_ge (q := 16) (t := 36) (am_tab tk_X9_countBits 11 rfl) (by decide) rfl (fun h13 => ?_) (fun h13 => ?_)
      · refine am_iload_n (q := 37) rfl (am_tab tk_X9_countBits 23 rfl) rfl ?_
        refine am_iret (Or.inl rfl) (Nat.le_of_ble_eq_true rfl) (Nat.le_of_ble_eq_true rfl) (am_tab tk_X9_countBits 24 rfl) ?_
        refine hQ _ _ ?_
        rw [show k = 91 by omega]
        exact ⟨rfl, rfl⟩
      · refine am_aload_n (q := 17) rfl (am_tab tk_X9_countBits 12 rfl) rfl ?_
        refine am_iload (q := 19) rfl (am_tab tk_X9_countBits 13 rfl) rfl ?_
        refine am_iald (q := 20) (a := 35) (n := 91) (x := (σ.2.1 35 k)) (Ls_35 hL) (by omega) (by omega) (by rw [show Int.toNat (k : Int) = k by omega]) (am_tab tk_X9_countBits 14 rfl) rfl ?_
        refine am_istore (q := 22) (by decide) (ls2 := [(5, am_i ((σ.2.1 35 k))), (4, am_i ((k : Int))), (3, am_i 91), (2, am_r 35), (1, am_i ((sumN (fun d => bc (σ.2.1 35 d)) k))), (0, am_r 35)]) rfl (am_tab tk_X9_countBits 15 rfl) rfl ?_
        have hsk := hs k (by omega)
        have hbk := (bc1_eq (hr k (by omega))).2
        refine am_iload_n (q := 23) rfl (am_tab tk_X9_countBits 16 rfl) rfl ?_
        refine am_iload (q := 25) rfl (am_tab tk_X9_countBits 17 rfl) rfl ?_
        refine am_callS0 (q := 28) (me2 := M_J6_bitCount_0f7a4) (As := [am_i ((σ.2.1 35 k))]) (rest := [am_i ((sumN (fun d => bc (σ.2.1 35 d)) k))]) (out := [am_i (bc (σ.2.1 35 k)), am_i ((sumN (fun d => bc (σ.2.1 35 d)) k))]) (c_bc σ (σ.2.1 35 k) (hr k (by omega))) ⟨rfl, rfl⟩ ⟨Or.inl km_X9_133, kc_J6_bitCount_0f7a4, kn_J6, kd_J6_bitCount_0f7a4, ⟨(Nat.le_of_ble_eq_true rfl), (Nat.le_of_ble_eq_true rfl)⟩, ⟨(Nat.le_of_ble_eq_true rfl), (Nat.le_of_ble_eq_true rfl)⟩, (Nat.le_of_ble_eq_true rfl)⟩ ki_J6_bitCount_0f7a4 rfl rfl (am_tab tk_X9_countBits 18 rfl) rfl ?_
        refine am_iadd (q := 29) (by omega) (am_tab tk_X9_countBits 19 rfl) rfl ?_
        refine am_istore_n (q := 30) (by decide) (ls2 := [(1, am_i (((sumN (fun d => bc (σ.2.1 35 d)) k) + (bc (σ.2.1 35 k))))), (5, am_i ((σ.2.1 35 k))), (4, am_i ((k : Int))), (3, am_i 91), (2, am_r 35), (0, am_r 35)]) rfl (am_tab tk_X9_countBits 20 rfl) rfl ?_
        refine am_iinc (q := 33) rfl (by omega) (by decide) (ls2 := [(4, am_i (((k : Int) + 1))), (1, am_i (((sumN (fun d => bc (σ.2.1 35 d)) k) + (bc (σ.2.1 35 k))))), (5, am_i ((σ.2.1 35 k))), (3, am_i 91), (2, am_r 35), (0, am_r 35)]) rfl (am_tab tk_X9_countBits 21 rfl) rfl ?_
        refine am_goto (t := 10) (am_tab tk_X9_countBits 22 rfl) (by decide) ?_
        exact am_less (by intro q hq; simp only [List.mem_cons, List.not_mem_nil, or_false] at hq; rcases hq with rfl | rfl | rfl | rfl | rfl <;> simp [sumN]) (ih10 (k + 1) (by omega) (by omega))
  refine am_less (by intro q hq; simp only [List.mem_cons, List.not_mem_nil, or_false] at hq; rcases hq with rfl | rfl | rfl | rfl | rfl <;> simp [sumN]) (L10 (_ + 1) 0 (by exact Nat.lt_succ_self _) (by omega))
theorem c_refuse (σ : am_H) (hL : lay σ) (k : Nat) (hk : k < 6) (hr : 0 ≤ σ.2.1 54 k ∧ σ.2.1 54 k ≤ 100000) : am_met M_X9_refuse [am_r 0, am_i ((k : Int))] σ (fun r σ' => r = some (am_i (-1)) ∧ σ' = am_setN σ 54 k (σ.2.1 54 k + 1)) := by
  refine am_qq (fun Q hQ => ?_)
  refine am_enter (show plainFor yX9_refuse = true by decide +kernel) rfl (Nat.le_of_ble_eq_true rfl) (fun _ _ _ => trivial) ?_
  refine am_iload_n (q := 1) rfl (am_tab tk_X9_refuse 0 rfl) rfl ?_
  refine am_if_lt (q := 4) (t := 23) (am_tab tk_X9_refuse 1 rfl) (by decide) rfl (fun h1 => ?_) (fun h1 => ?_)
  · exact absurd h1 (by omega)
  · refine am_iload_n (q := 5) rfl (am_tab tk_X9_refuse 2 rfl) rfl ?_
    refine am_aload_n (q := 6) rfl (am_tab tk_X9_refuse 3 rfl) rfl ?_
    refine am_getR (q := 9) (a := 0) (k := 9) (n := 17) (j := 13) (r := some (54)) (Ls_0 hL) (by decide) rfl (Lr_0_13 hL) (by decide) (Or.inl kf_X9_78) (am_tab tk_X9_refuse 4 rfl) rfl ?_
    refine am_alen (q := 10) (a := 54) (k := 11) (n := 6) (Ls_54 hL) (by decide) (by decide) (am_tab tk_X9_refuse 5 rfl) rfl ?_
    refine am_icmp_ge (q := 13) (t := 23) (am_tab tk_X9_refuse 6 rfl) (by decide) rfl (fun h10 => ?_) (fun h10 => ?_)
    · exact absurd h10 (by omega)
    · refine am_aload_n (q := 14) rfl (am_tab tk_X9_refuse 7 rfl) rfl ?_
      refine am_getR (q := 17) (a := 0) (k := 9) (n := 17) (j := 13) (r := some (54)) (Ls_0 hL) (by decide) rfl (Lr_0_13 hL) (by decide) (Or.inl kf_X9_78) (am_tab tk_X9_refuse 8 rfl) rfl ?_
      refine am_iload_n (q := 18) rfl (am_tab tk_X9_refuse 9 rfl) rfl ?_
      refine am_dup2 (q := 19) rfl rfl (am_tab tk_X9_refuse 10 rfl) rfl ?_
      refine am_iald (q := 20) (a := 54) (n := 6) (x := (σ.2.1 54 k)) (Ls_54 hL) (by omega) (by omega) (by rw [show Int.toNat (k : Int) = k by omega]) (am_tab tk_X9_refuse 11 rfl) rfl ?_
      refine am_iconst (q := 21) (n := 1) (by decide) (am_tab tk_X9_refuse 12 rfl) rfl ?_
      refine am_iadd (q := 22) (by omega) (am_tab tk_X9_refuse 13 rfl) rfl ?_
      refine am_iast (q := 23) (a := 54) (n := 6) (Ls_54 hL) (by omega) (by omega) (am_tab tk_X9_refuse 14 rfl) rfl ?_
      refine am_iconst (q := 24) (n := (-1)) (by decide) (am_tab tk_X9_refuse 15 rfl) rfl ?_
      refine am_iret (Or.inl rfl) (Nat.le_of_ble_eq_true rfl) (Nat.le_of_ble_eq_true rfl) (am_tab tk_X9_refuse 16 rfl) ?_
      refine hQ _ _ ?_
      rw [show Int.toNat (k : Int) = k by omega]
      exact ⟨rfl, rfl⟩
theorem c_fault (σ : am_H) (hL : lay σ) (n : Int) (h7 : σ.2.1 0 14 = σ.2.1 55 7) (h8 : σ.2.1 0 15 = σ.2.1 55 8) : am_met M_X9_fault [am_r 0, am_i n] σ (fun r σ' => r = some (am_i (if n = 0 then σ.2.1 55 7 else if n = 1 then σ.2.1 55 8 else -1)) ∧ σ' = σ) := by
  refine am_qq (fun Q hQ => ?_)
  refine am_enter (show plainFor yX9_fault = true by decide +kernel) rfl (Nat.le_of_ble_eq_true rfl) (fun _ _ _ => trivial) ?_
  refine am_iload_n (q := 1) rfl (am_tab tk_X9_fault 0 rfl) rfl ?_
  rcases (show n = 0 ∨ n = 1 ∨ (n ≠ 0 ∧ n ≠ 1) by omega) with e1 | e1 | e1
  · refine am_lookup (t := 28) (off := 27) (by decide) (by rw [e1]; rfl) dsw_X9_fault_1 (by decide) ?_
    refine am_aload_n (q := 29) rfl (am_tab tk_X9_fault 2 rfl) rfl ?_
    refine am_getI (q := 32) (a := 0) (k := 9) (n := 17) (j := 14) (x := (σ.2.1 55 7)) (Ls_0 hL) (by decide) rfl h7 (by decide) (Or.inl kf_X9_120) (am_tab tk_X9_fault 3 rfl) rfl ?_
    refine am_iret (Or.inl rfl) (Nat.le_of_ble_eq_true rfl) (Nat.le_of_ble_eq_true rfl) (am_tab tk_X9_fault 4 rfl) ?_
    refine hQ _ _ ?_
    refine ⟨congrArg (fun z => some (am_i z)) ?_, rfl⟩
    first | (rw [if_pos (by omega)]; done) | (rw [if_neg (by omega), if_pos (by omega)]; done) | (rw [if_neg (by omega), if_neg (by omega)]; done)
  · refine am_lookup (t := 33) (off := 32) (by decide) (by rw [e1]; rfl) dsw_X9_fault_1 (by decide) ?_
    refine am_aload_n (q := 34) rfl (am_tab tk_X9_fault 5 rfl) rfl ?_
    refine am_getI (q := 37) (a := 0) (k := 9) (n := 17) (j := 15) (x := (σ.2.1 55 8)) (Ls_0 hL) (by decide) rfl h8 (by decide) (Or.inl kf_X9_81) (am_tab tk_X9_fault 6 rfl) rfl ?_
    refine am_iret (Or.inl rfl) (Nat.le_of_ble_eq_true rfl) (Nat.le_of_ble_eq_true rfl) (am_tab tk_X9_fault 7 rfl) ?_
    refine hQ _ _ ?_
    refine ⟨congrArg (fun z => some (am_i z)) ?_, rfl⟩
    first | (rw [if_pos (by omega)]; done) | (rw [if_neg (by omega), if_pos (by omega)]; done) | (rw [if_neg (by omega), if_neg (by omega)]; done)
  · refine am_lookup (t := 38) (off := 37) (by decide) (by simp [Op.lookupswitch.offset] <;> (repeat rw [if_neg (by omega)])) dsw_X9_fault_1 (by decide) ?_
    refine am_iconst (q := 39) (n := (-1)) (by decide) (am_tab tk_X9_fault 8 rfl) rfl ?_
    refine am_iret (Or.inl rfl) (Nat.le_of_ble_eq_true rfl) (Nat.le_of_ble_eq_true rfl) (am_tab tk_X9_fault 9 rfl) ?_
    refine hQ _ _ ?_
    refine ⟨congrArg (fun z => some (am_i z)) ?_, rfl⟩
    first | (rw [if_pos (by omega)]; done) | (rw [if_neg (by omega), if_pos (by omega)]; done) | (rw [if_neg (by omega), if_neg (by omega)]; done)
theorem c_status (σ : am_H) (hL : lay σ) (k : Int) (hr : ∀ j, j < 6 → σ.2.1 54 j = σ.2.1 57 j) : am_met M_X9_status [am_r 0, am_i k] σ (fun r σ' => r = some (am_i (if 0 ≤ k ∧ k ≤ 5 then σ.2.1 57 k.toNat else -1)) ∧ σ' = σ) := by
  refine am_qq (fun Q hQ => ?_)
  refine am_enter (show plainFor yX9_status = true by decide +kernel) rfl (Nat.le_of_ble_eq_true rfl) (fun _ _ _ => trivial) ?_
  refine am_iload_n (q := 1) rfl (am_tab tk_X9_status 0 rfl) rfl ?_
  refine am_if_lt (q := 4) (t := 13) (am_tab tk_X9_status 1 rfl) (by decide) rfl (fun h1 => ?_) (fun h1 => ?_)
  · refine am_iconst (q := 14) (n := (-1)) (by decide) (am_tab tk_X9_status 7 rfl) rfl ?_
    refine am_goto (t := 23) (am_tab tk_X9_status 8 rfl) (by decide) ?_
    refine am_iret (Or.inl rfl) (Nat.le_of_ble_eq_true rfl) (Nat.le_of_ble_eq_true rfl) (am_tab tk_X9_status 13 rfl) ?_
    refine hQ _ _ ?_
    refine ⟨congrArg (fun z => some (am_i z)) ?_, rfl⟩
    first | (rw [if_pos (by omega)]; done) | (rw [if_neg (by omega)]; done)
  · refine am_iload_n (q := 5) rfl (am_tab tk_X9_status 2 rfl) rfl ?_
    refine am_aload_n (q := 6) rfl (am_tab tk_X9_status 3 rfl) rfl ?_
    refine am_getR (q := 9) (a := 0) (k := 9) (n := 17) (j := 13) (r := some (54)) (Ls_0 hL) (by decide) rfl (Lr_0_13 hL) (by decide) (Or.inl kf_X9_78) (am_tab tk_X9_status 4 rfl) rfl ?_
    refine am_alen (q := 10) (a := 54) (k := 11) (n := 6) (Ls_54 hL) (by decide) (by decide) (am_tab tk_X9_status 5 rfl) rfl ?_
    refine am_icmp_lt (q := 13) (t := 17) (am_tab tk_X9_status 6 rfl) (by decide) rfl (fun h10 => ?_) (fun h10 => ?_)
    · refine am_aload_n (q := 18) rfl (am_tab tk_X9_status 9 rfl) rfl ?_
      refine am_getR (q := 21) (a := 0) (k := 9) (n := 17) (j := 13) (r := some (54)) (Ls_0 hL) (by decide) rfl (Lr_0_13 hL) (by decide) (Or.inl kf_X9_78) (am_tab tk_X9_status 10 rfl) rfl ?_
      refine am_iload_n (q := 22) rfl (am_tab tk_X9_status 11 rfl) rfl ?_
      refine am_iald (q := 23) (a := 54) (n := 6) (x := (σ.2.1 57 k.toNat)) (Ls_54 hL) (by omega) (by omega) (hr k.toNat (by omega)) (am_tab tk_X9_status 12 rfl) rfl ?_
      refine am_iret (Or.inl rfl) (Nat.le_of_ble_eq_true rfl) (Nat.le_of_ble_eq_true rfl) (am_tab tk_X9_status 13 rfl) ?_
      refine hQ _ _ ?_
      refine ⟨congrArg (fun z => some (am_i z)) ?_, rfl⟩
      first | (rw [if_pos (by omega)]; done) | (rw [if_neg (by omega)]; done)
    · refine am_iconst (q := 14) (n := (-1)) (by decide) (am_tab tk_X9_status 7 rfl) rfl ?_
      refine am_goto (t := 23) (am_tab tk_X9_status 8 rfl) (by decide) ?_
      refine am_iret (Or.inl rfl) (Nat.le_of_ble_eq_true rfl) (Nat.le_of_ble_eq_true rfl) (am_tab tk_X9_status 13 rfl) ?_
      refine hQ _ _ ?_
      refine ⟨congrArg (fun z => some (am_i z)) ?_, rfl⟩
      first | (rw [if_pos (by omega)]; done) | (rw [if_neg (by omega)]; done)
theorem c_octet (σ : am_H) (hL : lay σ) (k : Int) (hs : σ.2.1 49 1 = σ.2.1 55 107) (h146 : 0 ≤ σ.2.1 55 107 ∧ σ.2.1 55 107 ≤ 146) (hb : ∀ j : Nat, (j : Int) < σ.2.1 55 107 → σ.2.1 50 j = σ.2.1 130 j) : am_met M_X9_octet [am_r 0, am_i k] σ (fun r σ' => r = some (am_i (if 0 ≤ k ∧ k < σ.2.1 55 107 then σ.2.1 130 k.toNat else -1)) ∧ σ' = σ) := by
  refine am_qq (fun Q hQ => ?_)
  refine am_enter (show plainFor yX9_octet = true by decide +kernel) rfl (Nat.le_of_ble_eq_true rfl) (fun _ _ _ => trivial) ?_
  refine am_iload_n (q := 1) rfl (am_tab tk_X9_octet 0 rfl) rfl ?_
  refine am_if_lt (q := 4) (t := 15) (am_tab tk_X9_octet 1 rfl) (by decide) rfl (fun h1 => ?_) (fun h1 => ?_)
  · refine am_iconst (q := 16) (n := (-1)) (by decide) (am_tab tk_X9_octet 7 rfl) rfl ?_
    refine am_goto (t := 28) (am_tab tk_X9_octet 8 rfl) (by decide) ?_
    refine am_iret (Or.inl rfl) (Nat.le_of_ble_eq_true rfl) (Nat.le_of_ble_eq_true rfl) (am_tab tk_X9_octet 14 rfl) ?_
    refine hQ _ _ ?_
    refine ⟨congrArg (fun z => some (am_i z)) ?_, rfl⟩
    first | (rw [if_pos (by omega)]; done) | (rw [if_neg (by omega)]; done)
  · refine am_iload_n (q := 5) rfl (am_tab tk_X9_octet 2 rfl) rfl ?_
    refine am_aload_n (q := 6) rfl (am_tab tk_X9_octet 3 rfl) rfl ?_
    refine am_getR (q := 9) (a := 0) (k := 9) (n := 17) (j := 8) (r := some (49)) (Ls_0 hL) (by decide) rfl (Lr_0_8 hL) (by decide) (Or.inl kf_X9_64) (am_tab tk_X9_octet 4 rfl) rfl ?_
    refine am_getI (q := 12) (a := 49) (k := 3) (n := 2) (j := 1) (x := (σ.2.1 55 107)) (Ls_49 hL) (by decide) rfl hs (by decide) (Or.inr kf_X9_325) (am_tab tk_X9_octet 5 rfl) rfl ?_
    refine am_icmp_lt (q := 15) (t := 19) (am_tab tk_X9_octet 6 rfl) (by decide) rfl (fun h12 => ?_) (fun h12 => ?_)
    · refine am_aload_n (q := 20) rfl (am_tab tk_X9_octet 9 rfl) rfl ?_
      refine am_getR (q := 23) (a := 0) (k := 9) (n := 17) (j := 8) (r := some (49)) (Ls_0 hL) (by decide) rfl (Lr_0_8 hL) (by decide) (Or.inl kf_X9_64) (am_tab tk_X9_octet 10 rfl) rfl ?_
      refine am_getR (q := 26) (a := 49) (k := 3) (n := 2) (j := 0) (r := some (50)) (Ls_49 hL) (by decide) rfl (Lr_49_0 hL) (by decide) (Or.inr kf_X9_328) (am_tab tk_X9_octet 11 rfl) rfl ?_
      refine am_iload_n (q := 27) rfl (am_tab tk_X9_octet 12 rfl) rfl ?_
      refine am_iald (q := 28) (a := 50) (n := 146) (x := (σ.2.1 130 k.toNat)) (Ls_50 hL) (by omega) (by omega) (hb k.toNat (by omega)) (am_tab tk_X9_octet 13 rfl) rfl ?_
      refine am_iret (Or.inl rfl) (Nat.le_of_ble_eq_true rfl) (Nat.le_of_ble_eq_true rfl) (am_tab tk_X9_octet 14 rfl) ?_
      refine hQ _ _ ?_
      refine ⟨congrArg (fun z => some (am_i z)) ?_, rfl⟩
      first | (rw [if_pos (by omega)]; done) | (rw [if_neg (by omega)]; done)
    · refine am_iconst (q := 16) (n := (-1)) (by decide) (am_tab tk_X9_octet 7 rfl) rfl ?_
      refine am_goto (t := 28) (am_tab tk_X9_octet 8 rfl) (by decide) ?_
      refine am_iret (Or.inl rfl) (Nat.le_of_ble_eq_true rfl) (Nat.le_of_ble_eq_true rfl) (am_tab tk_X9_octet 14 rfl) ?_
      refine hQ _ _ ?_
      refine ⟨congrArg (fun z => some (am_i z)) ?_, rfl⟩
      first | (rw [if_pos (by omega)]; done) | (rw [if_neg (by omega)]; done)
theorem c_seed (σ : am_H) (hL : lay σ) (x : Int) (hr : 0 ≤ σ.2.1 54 5 ∧ σ.2.1 54 5 ≤ 100000) : am_met M_X9_seed [am_r 0, am_i x] σ (fun r σ' => r = some (am_i (if x < 0 then 0 else 1)) ∧ σ' = if x < 0 then am_setN σ 54 5 (σ.2.1 54 5 + 1) else am_setN σ 0 16 x) := by
  refine am_qq (fun Q hQ => ?_)
  refine am_enter (show plainFor yX9_seed = true by decide +kernel) rfl (Nat.le_of_ble_eq_true rfl) (fun _ _ _ => trivial) ?_
  refine am_iload_n (q := 1) rfl (am_tab tk_X9_seed 0 rfl) rfl ?_
  refine am_if_ge (q := 4) (t := 12) (am_tab tk_X9_seed 1 rfl) (by decide) rfl (fun h1 => ?_) (fun h1 => ?_)
  · refine am_aload_n (q := 13) rfl (am_tab tk_X9_seed 8 rfl) rfl ?_
    refine am_iload_n (q := 14) rfl (am_tab tk_X9_seed 9 rfl) rfl ?_
    refine am_i2l (q := 15) (am_tab tk_X9_seed 10 rfl) rfl ?_
    refine am_putL (q := 18) (k := 9) (n := 17) (j := 16) (Ls_0 hL) (by decide) rfl (by decide) (Or.inl ⟨kf_X9_85, rfl⟩) (am_tab tk_X9_seed 11 rfl) rfl ?_
    refine am_iconst (q := 19) (n := 1) (by decide) (am_tab tk_X9_seed 12 rfl) rfl ?_
    refine am_iret (Or.inr ⟨rfl, by first | exact Or.inl rfl | exact Or.inr rfl | omega⟩) (Nat.le_of_ble_eq_true rfl) (Nat.le_of_ble_eq_true rfl) (am_tab tk_X9_seed 13 rfl) ?_
    refine hQ _ _ ?_
    first | exact ⟨by rw [if_pos (by omega)], by rw [if_pos (by omega)]⟩ | exact ⟨by rw [if_neg (by omega)], by rw [if_neg (by omega)]⟩
  · refine am_aload_n (q := 5) rfl (am_tab tk_X9_seed 2 rfl) rfl ?_
    refine am_iconst (q := 6) (n := 5) (by decide) (am_tab tk_X9_seed 3 rfl) rfl ?_
    refine am_callV0 (q := 9) (me2 := M_X9_refuse) (b := 0) (kb := 9) (nb := 17) (As := [am_i 5]) (rest := []) (out := [am_i ((-1))]) (c_refuse σ hL 5 (by decide) hr) ⟨rfl, rfl⟩ (Ls_0 hL) (by decide) ⟨Or.inl km_X9_92, kc_X9_refuse, kn_X9, kd_X9_refuse, ⟨(Nat.le_of_ble_eq_true rfl), (Nat.le_of_ble_eq_true rfl)⟩, ⟨(Nat.le_of_ble_eq_true rfl), (Nat.le_of_ble_eq_true rfl)⟩, (Nat.le_of_ble_eq_true rfl)⟩ ki_X9_refuse ks_X9_refuse rfl rfl (am_tab tk_X9_seed 4 rfl) rfl ?_
    refine am_pop (q := 10) rfl (am_tab tk_X9_seed 5 rfl) rfl ?_
    refine am_iconst (q := 11) (n := 0) (by decide) (am_tab tk_X9_seed 6 rfl) rfl ?_
    refine am_iret (Or.inr ⟨rfl, by first | exact Or.inl rfl | exact Or.inr rfl | omega⟩) (Nat.le_of_ble_eq_true rfl) (Nat.le_of_ble_eq_true rfl) (am_tab tk_X9_seed 7 rfl) ?_
    refine hQ _ _ ?_
    first | exact ⟨by rw [if_pos (by omega)], by rw [if_pos (by omega)]⟩ | exact ⟨by rw [if_neg (by omega)], by rw [if_neg (by omega)]⟩
theorem c_end (σ : am_H) (hL : lay σ) (n : Int) (hr : 0 ≤ σ.2.1 54 0 ∧ σ.2.1 54 0 ≤ 100000) : am_met M_X9_end [am_r 0, am_i n] σ (fun r σ' => r = some (am_i (if n < 0 ∨ n > σ.2.1 1 1 then 0 else 1)) ∧ σ' = if n < 0 ∨ n > σ.2.1 1 1 then am_setN σ 54 0 (σ.2.1 54 0 + 1) else am_setN σ 1 1 n) := by
  refine am_qq (fun Q hQ => ?_)
  refine am_enter (show plainFor yX9_end = true by decide +kernel) rfl (Nat.le_of_ble_eq_true rfl) (fun _ _ _ => trivial) ?_
  refine am_iload_n (q := 1) rfl (am_tab tk_X9_end 0 rfl) rfl ?_
  refine am_if_lt (q := 4) (t := 15) (am_tab tk_X9_end 1 rfl) (by decide) rfl (fun h1 => ?_) (fun h1 => ?_)
  · refine am_aload_n (q := 16) rfl (am_tab tk_X9_end 7 rfl) rfl ?_
    refine am_iconst (q := 17) (n := 0) (by decide) (am_tab tk_X9_end 8 rfl) rfl ?_
    refine am_callV0 (q := 20) (me2 := M_X9_refuse) (b := 0) (kb := 9) (nb := 17) (As := [am_i 0]) (rest := []) (out := [am_i ((-1))]) (c_refuse σ hL 0 (by decide) hr) ⟨rfl, rfl⟩ (Ls_0 hL) (by decide) ⟨Or.inl km_X9_92, kc_X9_refuse, kn_X9, kd_X9_refuse, ⟨(Nat.le_of_ble_eq_true rfl), (Nat.le_of_ble_eq_true rfl)⟩, ⟨(Nat.le_of_ble_eq_true rfl), (Nat.le_of_ble_eq_true rfl)⟩, (Nat.le_of_ble_eq_true rfl)⟩ ki_X9_refuse ks_X9_refuse rfl rfl (am_tab tk_X9_end 9 rfl) rfl ?_
    refine am_pop (q := 21) rfl (am_tab tk_X9_end 10 rfl) rfl ?_
    refine am_iconst (q := 22) (n := 0) (by decide) (am_tab tk_X9_end 11 rfl) rfl ?_
    refine am_iret (Or.inr ⟨rfl, by first | exact Or.inl rfl | exact Or.inr rfl | omega⟩) (Nat.le_of_ble_eq_true rfl) (Nat.le_of_ble_eq_true rfl) (am_tab tk_X9_end 12 rfl) ?_
    refine hQ _ _ ?_
    first | exact ⟨by rw [if_pos (by omega)], by rw [if_pos (by omega)]⟩ | exact ⟨by rw [if_neg (by omega)], by rw [if_neg (by omega)]⟩
  · refine am_iload_n (q := 5) rfl (am_tab tk_X9_end 2 rfl) rfl ?_
    refine am_aload_n (q := 6) rfl (am_tab tk_X9_end 3 rfl) rfl ?_
    refine am_getR (q := 9) (a := 0) (k := 9) (n := 17) (j := 0) (r := some (1)) (Ls_0 hL) (by decide) rfl (Lr_0_0 hL) (by decide) (Or.inl kf_X9_12) (am_tab tk_X9_end 4 rfl) rfl ?_
    refine am_getI (q := 12) (a := 1) (k := 6) (n := 2) (j := 1) (x := (σ.2.1 1 1)) (Ls_1 hL) (by decide) rfl rfl (by decide) (Or.inr kf_X9_89) (am_tab tk_X9_end 5 rfl) rfl ?_
    refine am_icmp_le (q := 15) (t := 23) (am_tab tk_X9_end 6 rfl) (by decide) rfl (fun h12 => ?_) (fun h12 => ?_)
    · refine am_aload_n (q := 24) rfl (am_tab tk_X9_end 13 rfl) rfl ?_
      refine am_getR (q := 27) (a := 0) (k := 9) (n := 17) (j := 0) (r := some (1)) (Ls_0 hL) (by decide) rfl (Lr_0_0 hL) (by decide) (Or.inl kf_X9_12) (am_tab tk_X9_end 14 rfl) rfl ?_
      refine am_iload_n (q := 28) rfl (am_tab tk_X9_end 15 rfl) rfl ?_
      refine am_putI (q := 31) (k := 6) (n := 2) (j := 1) (Ls_1 hL) (by decide) rfl (by decide) (Or.inr (Or.inl ⟨kf_X9_89, rfl⟩)) (am_tab tk_X9_end 16 rfl) rfl ?_
      refine am_iconst (q := 32) (n := 1) (by decide) (am_tab tk_X9_end 17 rfl) rfl ?_
      refine am_iret (Or.inr ⟨rfl, by first | exact Or.inl rfl | exact Or.inr rfl | omega⟩) (Nat.le_of_ble_eq_true rfl) (Nat.le_of_ble_eq_true rfl) (am_tab tk_X9_end 18 rfl) ?_
      refine hQ _ _ ?_
      first | exact ⟨by rw [if_pos (by omega)], by rw [if_pos (by omega)]⟩ | exact ⟨by rw [if_neg (by omega)], by rw [if_neg (by omega)]⟩
    · refine am_aload_n (q := 16) rfl (am_tab tk_X9_end 7 rfl) rfl ?_
      refine am_iconst (q := 17) (n := 0) (by decide) (am_tab tk_X9_end 8 rfl) rfl ?_
      refine am_callV0 (q := 20) (me2 := M_X9_refuse) (b := 0) (kb := 9) (nb := 17) (As := [am_i 0]) (rest := []) (out := [am_i ((-1))]) (c_refuse σ hL 0 (by decide) hr) ⟨rfl, rfl⟩ (Ls_0 hL) (by decide) ⟨Or.inl km_X9_92, kc_X9_refuse, kn_X9, kd_X9_refuse, ⟨(Nat.le_of_ble_eq_true rfl), (Nat.le_of_ble_eq_true rfl)⟩, ⟨(Nat.le_of_ble_eq_true rfl), (Nat.le_of_ble_eq_true rfl)⟩, (Nat.le_of_ble_eq_true rfl)⟩ ki_X9_refuse ks_X9_refuse rfl rfl (am_tab tk_X9_end 9 rfl) rfl ?_
      refine am_pop (q := 21) rfl (am_tab tk_X9_end 10 rfl) rfl ?_
      refine am_iconst (q := 22) (n := 0) (by decide) (am_tab tk_X9_end 11 rfl) rfl ?_
      refine am_iret (Or.inr ⟨rfl, by first | exact Or.inl rfl | exact Or.inr rfl | omega⟩) (Nat.le_of_ble_eq_true rfl) (Nat.le_of_ble_eq_true rfl) (am_tab tk_X9_end 12 rfl) ?_
      refine hQ _ _ ?_
      first | exact ⟨by rw [if_pos (by omega)], by rw [if_pos (by omega)]⟩ | exact ⟨by rw [if_neg (by omega)], by rw [if_neg (by omega)]⟩
theorem c_has_3 (σ : am_H) (hC : CI 3 σ) (n : Int) (hZ : ZR (σ.2.1 85 9) (fun j => σ.2.1 96 j)) (hR : RWr 32 σ (fun j => σ.2.1 96 j)) (hS : SNC σ) (hU : σ.2.1 42 2 = σ.2.1 55 69) : am_met M_X9_has [am_r 0, am_i n] σ (fun r σ' => r = some (am_i (hasM σ n)) ∧ σ' = σ) := by
  refine am_qq (fun Q hQ => ?_)
  refine am_enter (show plainFor yX9_has = true by decide +kernel) rfl (Nat.le_of_ble_eq_true rfl) (fun _ _ _ => trivial) ?_
  have hL := hC.G.L
  refine am_iload_n (q := 1) rfl (am_tab tk_X9_has 0 rfl) rfl ?_
  rcases (show n = 0 ∨ n = 1 ∨ n = 2 ∨ n = 3 ∨ n = 4 ∨ n = 5 ∨ n = 6 ∨ n = 7 ∨ n = 8 ∨ n = 9 ∨ n = 10 ∨ n = 11 ∨ (n < 0 ∨ 11 < n) by omega) with e1 | e1 | e1 | e1 | e1 | e1 | e1 | e1 | e1 | e1 | e1 | e1 | e1
  · refine am_tableIn (t := 64) (off := 63) (by omega) (by omega) (by rw [e1]; rfl) dsw_X9_has_1 (by decide) ?_
    refine am_aload_n (q := 65) rfl (am_tab tk_X9_has 2 rfl) rfl ?_
    refine am_getR (q := 68) (a := 0) (k := 9) (n := 17) (j := 2) (r := some (3)) (Ls_0 hL) (by decide) rfl hC.t (by decide) (Or.inl kf_X9_19) (am_tab tk_X9_has 3 rfl) rfl ?_
    refine am_getI (q := 71) (a := 3) (k := 8) (n := 17) (j := 0) (x := (σ.2.1 85 9)) (Ls_3 hL) (by decide) rfl hC.W.days (by decide) (Or.inr kf_X9_123) (am_tab tk_X9_has 4 rfl) rfl ?_
    refine am_iret (Or.inl rfl) (Nat.le_of_ble_eq_true rfl) (Nat.le_of_ble_eq_true rfl) (am_tab tk_X9_has 5 rfl) ?_
    refine hQ _ _ ?_
    refine ⟨congrArg (fun z => some (am_i z)) ?_, rfl⟩
    unfold hasM
    first | (rw [if_pos (by omega)]; done) | (rw [if_neg (by omega), if_pos (by omega)]; done) | (rw [if_neg (by omega), if_neg (by omega), if_pos (by omega)]; done) | (rw [if_neg (by omega), if_neg (by omega), if_neg (by omega), if_pos (by omega)]; done) | (rw [if_neg (by omega), if_neg (by omega), if_neg (by omega), if_neg (by omega), if_pos (by omega)]; done) | (rw [if_neg (by omega), if_neg (by omega), if_neg (by omega), if_neg (by omega), if_neg (by omega), if_pos (by omega)]; done) | (rw [if_neg (by omega), if_neg (by omega), if_neg (by omega), if_neg (by omega), if_neg (by omega), if_neg (by omega), if_pos (by omega)]; done) | (rw [if_neg (by omega), if_neg (by omega), if_neg (by omega), if_neg (by omega), if_neg (by omega), if_neg (by omega), if_neg (by omega), if_pos (by omega)]; done) | (rw [if_neg (by omega), if_neg (by omega), if_neg (by omega), if_neg (by omega), if_neg (by omega), if_neg (by omega), if_neg (by omega), if_neg (by omega), if_pos (by omega)]; done) | (rw [if_neg (by omega), if_neg (by omega), if_neg (by omega), if_neg (by omega), if_neg (by omega), if_neg (by omega), if_neg (by omega), if_neg (by omega), if_neg (by omega), if_pos (by omega)]; done) | (rw [if_neg (by omega), if_neg (by omega), if_neg (by omega), if_neg (by omega), if_neg (by omega), if_neg (by omega), if_neg (by omega), if_neg (by omega), if_neg (by omega), if_neg (by omega), if_pos (by omega)]; done) | (rw [if_neg (by omega), if_neg (by omega), if_neg (by omega), if_neg (by omega), if_neg (by omega), if_neg (by omega), if_neg (by omega), if_neg (by omega), if_neg (by omega), if_neg (by omega), if_neg (by omega), if_pos (by omega)]; done) | (rw [if_neg (by omega), if_neg (by omega), if_neg (by omega), if_neg (by omega), if_neg (by omega), if_neg (by omega), if_neg (by omega), if_neg (by omega), if_neg (by omega), if_neg (by omega), if_neg (by omega), if_neg (by omega)]; done)
  · refine am_tableIn (t := 72) (off := 71) (by omega) (by omega) (by rw [e1]; rfl) dsw_X9_has_1 (by decide) ?_
    refine am_aload_n (q := 73) rfl (am_tab tk_X9_has 6 rfl) rfl ?_
    refine am_getR (q := 76) (a := 0) (k := 9) (n := 17) (j := 2) (r := some (3)) (Ls_0 hL) (by decide) rfl hC.t (by decide) (Or.inl kf_X9_19) (am_tab tk_X9_has 7 rfl) rfl ?_
    refine am_getI (q := 79) (a := 3) (k := 8) (n := 17) (j := 2) (x := (σ.2.1 85 5)) (Ls_3 hL) (by decide) rfl hC.W.people (by decide) (Or.inr kf_X9_126) (am_tab tk_X9_has 8 rfl) rfl ?_
    refine am_iret (Or.inl rfl) (Nat.le_of_ble_eq_true rfl) (Nat.le_of_ble_eq_true rfl) (am_tab tk_X9_has 9 rfl) ?_
    refine hQ _ _ ?_
    refine ⟨congrArg (fun z => some (am_i z)) ?_, rfl⟩
    unfold hasM
    first | (rw [if_pos (by omega)]; done) | (rw [if_neg (by omega), if_pos (by omega)]; done) | (rw [if_neg (by omega), if_neg (by omega), if_pos (by omega)]; done) | (rw [if_neg (by omega), if_neg (by omega), if_neg (by omega), if_pos (by omega)]; done) | (rw [if_neg (by omega), if_neg (by omega), if_neg (by omega), if_neg (by omega), if_pos (by omega)]; done) | (rw [if_neg (by omega), if_neg (by omega), if_neg (by omega), if_neg (by omega), if_neg (by omega), if_pos (by omega)]; done) | (rw [if_neg (by omega), if_neg (by omega), if_neg (by omega), if_neg (by omega), if_neg (by omega), if_neg (by omega), if_pos (by omega)]; done) | (rw [if_neg (by omega), if_neg (by omega), if_neg (by omega), if_neg (by omega), if_neg (by omega), if_neg (by omega), if_neg (by omega), if_pos (by omega)]; done) | (rw [if_neg (by omega), if_neg (by omega), if_neg (by omega), if_neg (by omega), if_neg (by omega), if_neg (by omega), if_neg (by omega), if_neg (by omega), if_pos (by omega)]; done) | (rw [if_neg (by omega), if_neg (by omega), if_neg (by omega), if_neg (by omega), if_neg (by omega), if_neg (by omega), if_neg (by omega), if_neg (by omega), if_neg (by omega), if_pos (by omega)]; done) | (rw [if_neg (by omega), if_neg (by omega), if_neg (by omega), if_neg (by omega), if_neg (by omega), if_neg (by omega), if_neg (by omega), if_neg (by omega), if_neg (by omega), if_neg (by omega), if_pos (by omega)]; done) | (rw [if_neg (by omega), if_neg (by omega), if_neg (by omega), if_neg (by omega), if_neg (by omega), if_neg (by omega), if_neg (by omega), if_neg (by omega), if_neg (by omega), if_neg (by omega), if_neg (by omega), if_pos (by omega)]; done) | (rw [if_neg (by omega), if_neg (by omega), if_neg (by omega), if_neg (by omega), if_neg (by omega), if_neg (by omega), if_neg (by omega), if_neg (by omega), if_neg (by omega), if_neg (by omega), if_neg (by omega), if_neg (by omega)]; done)
  · refine am_tableIn (t := 80) (off := 79) (by omega) (by omega) (by rw [e1]; rfl) dsw_X9_has_1 (by decide) ?_
    refine am_aload_n (q := 81) rfl (am_tab tk_X9_has 10 rfl) rfl ?_
    refine am_callVr (q := 84) (me2 := M_X9_living) (b := 0) (kb := 9) (nb := 17) (As := []) (rest := []) (c_living_3 σ hC) ⟨rfl, rfl⟩ (Ls_0 hL) (by decide) ⟨Or.inl km_X9_129, kc_X9_living, kn_X9, kd_X9_living, ⟨(Nat.le_of_ble_eq_true rfl), (Nat.le_of_ble_eq_true rfl)⟩, ⟨(Nat.le_of_ble_eq_true rfl), (Nat.le_of_ble_eq_true rfl)⟩, (Nat.le_of_ble_eq_true rfl)⟩ ki_X9_living ks_X9_living rfl (am_tab tk_X9_has 11 rfl) rfl ?_
    rintro r τ ⟨hr9, hτ⟩
    rw [liv_eq hC.G hC.F] at hr9
    rw [hr9, hτ]
    refine am_st (st2 := [am_i (lvM σ)]) rfl ?_
    refine am_callS0 (q := 87) (me2 := M_J6_bitCount_0f7a4) (As := [am_i (lvM σ)]) (rest := []) (out := [am_i (bc (lvM σ))]) (c_bc σ (lvM σ) (lvM_rng hC.G.R)) ⟨rfl, rfl⟩ ⟨Or.inl km_X9_133, kc_J6_bitCount_0f7a4, kn_J6, kd_J6_bitCount_0f7a4, ⟨(Nat.le_of_ble_eq_true rfl), (Nat.le_of_ble_eq_true rfl)⟩, ⟨(Nat.le_of_ble_eq_true rfl), (Nat.le_of_ble_eq_true rfl)⟩, (Nat.le_of_ble_eq_true rfl)⟩ ki_J6_bitCount_0f7a4 rfl rfl (am_tab tk_X9_has 12 rfl) rfl ?_
    refine am_iret (Or.inl rfl) (Nat.le_of_ble_eq_true rfl) (Nat.le_of_ble_eq_true rfl) (am_tab tk_X9_has 13 rfl) ?_
    refine hQ _ _ ?_
    refine ⟨congrArg (fun z => some (am_i z)) ?_, rfl⟩
    unfold hasM
    first | (rw [if_pos (by omega)]; done) | (rw [if_neg (by omega), if_pos (by omega)]; done) | (rw [if_neg (by omega), if_neg (by omega), if_pos (by omega)]; done) | (rw [if_neg (by omega), if_neg (by omega), if_neg (by omega), if_pos (by omega)]; done) | (rw [if_neg (by omega), if_neg (by omega), if_neg (by omega), if_neg (by omega), if_pos (by omega)]; done) | (rw [if_neg (by omega), if_neg (by omega), if_neg (by omega), if_neg (by omega), if_neg (by omega), if_pos (by omega)]; done) | (rw [if_neg (by omega), if_neg (by omega), if_neg (by omega), if_neg (by omega), if_neg (by omega), if_neg (by omega), if_pos (by omega)]; done) | (rw [if_neg (by omega), if_neg (by omega), if_neg (by omega), if_neg (by omega), if_neg (by omega), if_neg (by omega), if_neg (by omega), if_pos (by omega)]; done) | (rw [if_neg (by omega), if_neg (by omega), if_neg (by omega), if_neg (by omega), if_neg (by omega), if_neg (by omega), if_neg (by omega), if_neg (by omega), if_pos (by omega)]; done) | (rw [if_neg (by omega), if_neg (by omega), if_neg (by omega), if_neg (by omega), if_neg (by omega), if_neg (by omega), if_neg (by omega), if_neg (by omega), if_neg (by omega), if_pos (by omega)]; done) | (rw [if_neg (by omega), if_neg (by omega), if_neg (by omega), if_neg (by omega), if_neg (by omega), if_neg (by omega), if_neg (by omega), if_neg (by omega), if_neg (by omega), if_neg (by omega), if_pos (by omega)]; done) | (rw [if_neg (by omega), if_neg (by omega), if_neg (by omega), if_neg (by omega), if_neg (by omega), if_neg (by omega), if_neg (by omega), if_neg (by omega), if_neg (by omega), if_neg (by omega), if_neg (by omega), if_pos (by omega)]; done) | (rw [if_neg (by omega), if_neg (by omega), if_neg (by omega), if_neg (by omega), if_neg (by omega), if_neg (by omega), if_neg (by omega), if_neg (by omega), if_neg (by omega), if_neg (by omega), if_neg (by omega), if_neg (by omega)]; done)
  · refine am_tableIn (t := 88) (off := 87) (by omega) (by omega) (by rw [e1]; rfl) dsw_X9_has_1 (by decide) ?_
    refine am_aload_n (q := 89) rfl (am_tab tk_X9_has 14 rfl) rfl ?_
    refine am_getR (q := 92) (a := 0) (k := 9) (n := 17) (j := 4) (r := some (32)) (Ls_0 hL) (by decide) rfl (Lr_0_4 hL) (by decide) (Or.inl kf_X9_38) (am_tab tk_X9_has 15 rfl) rfl ?_
    refine am_getI (q := 95) (a := 32) (k := 1) (n := 11) (j := 0) (x := (σ.2.1 96 0)) (Ls_32 hL) (by decide) rfl hC.F.1.1 (by decide) (Or.inr kf_X9_138) (am_tab tk_X9_has 16 rfl) rfl ?_
    refine am_iret (Or.inl rfl) (Nat.le_of_ble_eq_true rfl) (Nat.le_of_ble_eq_true rfl) (am_tab tk_X9_has 17 rfl) ?_
    refine hQ _ _ ?_
    refine ⟨congrArg (fun z => some (am_i z)) ?_, rfl⟩
    unfold hasM
    first | (rw [if_pos (by omega)]; done) | (rw [if_neg (by omega), if_pos (by omega)]; done) | (rw [if_neg (by omega), if_neg (by omega), if_pos (by omega)]; done) | (rw [if_neg (by omega), if_neg (by omega), if_neg (by omega), if_pos (by omega)]; done) | (rw [if_neg (by omega), if_neg (by omega), if_neg (by omega), if_neg (by omega), if_pos (by omega)]; done) | (rw [if_neg (by omega), if_neg (by omega), if_neg (by omega), if_neg (by omega), if_neg (by omega), if_pos (by omega)]; done) | (rw [if_neg (by omega), if_neg (by omega), if_neg (by omega), if_neg (by omega), if_neg (by omega), if_neg (by omega), if_pos (by omega)]; done) | (rw [if_neg (by omega), if_neg (by omega), if_neg (by omega), if_neg (by omega), if_neg (by omega), if_neg (by omega), if_neg (by omega), if_pos (by omega)]; done) | (rw [if_neg (by omega), if_neg (by omega), if_neg (by omega), if_neg (by omega), if_neg (by omega), if_neg (by omega), if_neg (by omega), if_neg (by omega), if_pos (by omega)]; done) | (rw [if_neg (by omega), if_neg (by omega), if_neg (by omega), if_neg (by omega), if_neg (by omega), if_neg (by omega), if_neg (by omega), if_neg (by omega), if_neg (by omega), if_pos (by omega)]; done) | (rw [if_neg (by omega), if_neg (by omega), if_neg (by omega), if_neg (by omega), if_neg (by omega), if_neg (by omega), if_neg (by omega), if_neg (by omega), if_neg (by omega), if_neg (by omega), if_pos (by omega)]; done) | (rw [if_neg (by omega), if_neg (by omega), if_neg (by omega), if_neg (by omega), if_neg (by omega), if_neg (by omega), if_neg (by omega), if_neg (by omega), if_neg (by omega), if_neg (by omega), if_neg (by omega), if_pos (by omega)]; done) | (rw [if_neg (by omega), if_neg (by omega), if_neg (by omega), if_neg (by omega), if_neg (by omega), if_neg (by omega), if_neg (by omega), if_neg (by omega), if_neg (by omega), if_neg (by omega), if_neg (by omega), if_neg (by omega)]; done)
  · refine am_tableIn (t := 96) (off := 95) (by omega) (by omega) (by rw [e1]; rfl) dsw_X9_has_1 (by decide) ?_
    refine am_aload_n (q := 97) rfl (am_tab tk_X9_has 18 rfl) rfl ?_
    refine am_getR (q := 100) (a := 0) (k := 9) (n := 17) (j := 4) (r := some (32)) (Ls_0 hL) (by decide) rfl (Lr_0_4 hL) (by decide) (Or.inl kf_X9_38) (am_tab tk_X9_has 19 rfl) rfl ?_
    refine am_getI (q := 103) (a := 32) (k := 1) (n := 11) (j := 1) (x := (σ.2.1 96 1)) (Ls_32 hL) (by decide) rfl hC.F.1.2.1 (by decide) (Or.inr kf_X9_141) (am_tab tk_X9_has 20 rfl) rfl ?_
    refine am_iret (Or.inl rfl) (Nat.le_of_ble_eq_true rfl) (Nat.le_of_ble_eq_true rfl) (am_tab tk_X9_has 21 rfl) ?_
    refine hQ _ _ ?_
    refine ⟨congrArg (fun z => some (am_i z)) ?_, rfl⟩
    unfold hasM
    first | (rw [if_pos (by omega)]; done) | (rw [if_neg (by omega), if_pos (by omega)]; done) | (rw [if_neg (by omega), if_neg (by omega), if_pos (by omega)]; done) | (rw [if_neg (by omega), if_neg (by omega), if_neg (by omega), if_pos (by omega)]; done) | (rw [if_neg (by omega), if_neg (by omega), if_neg (by omega), if_neg (by omega), if_pos (by omega)]; done) | (rw [if_neg (by omega), if_neg (by omega), if_neg (by omega), if_neg (by omega), if_neg (by omega), if_pos (by omega)]; done) | (rw [if_neg (by omega), if_neg (by omega), if_neg (by omega), if_neg (by omega), if_neg (by omega), if_neg (by omega), if_pos (by omega)]; done) | (rw [if_neg (by omega), if_neg (by omega), if_neg (by omega), if_neg (by omega), if_neg (by omega), if_neg (by omega), if_neg (by omega), if_pos (by omega)]; done) | (rw [if_neg (by omega), if_neg (by omega), if_neg (by omega), if_neg (by omega), if_neg (by omega), if_neg (by omega), if_neg (by omega), if_neg (by omega), if_pos (by omega)]; done) | (rw [if_neg (by omega), if_neg (by omega), if_neg (by omega), if_neg (by omega), if_neg (by omega), if_neg (by omega), if_neg (by omega), if_neg (by omega), if_neg (by omega), if_pos (by omega)]; done) | (rw [if_neg (by omega), if_neg (by omega), if_neg (by omega), if_neg (by omega), if_neg (by omega), if_neg (by omega), if_neg (by omega), if_neg (by omega), if_neg (by omega), if_neg (by omega), if_pos (by omega)]; done) | (rw [if_neg (by omega), if_neg (by omega), if_neg (by omega), if_neg (by omega), if_neg (by omega), if_neg (by omega), if_neg (by omega), if_neg (by omega), if_neg (by omega), if_neg (by omega), if_neg (by omega), if_pos (by omega)]; done) | (rw [if_neg (by omega), if_neg (by omega), if_neg (by omega), if_neg (by omega), if_neg (by omega), if_neg (by omega), if_neg (by omega), if_neg (by omega), if_neg (by omega), if_neg (by omega), if_neg (by omega), if_neg (by omega)]; done)
  · refine am_tableIn (t := 104) (off := 103) (by omega) (by omega) (by rw [e1]; rfl) dsw_X9_has_1 (by decide) ?_
    refine am_aload_n (q := 105) rfl (am_tab tk_X9_has 22 rfl) rfl ?_
    refine am_getR (q := 108) (a := 0) (k := 9) (n := 17) (j := 4) (r := some (32)) (Ls_0 hL) (by decide) rfl (Lr_0_4 hL) (by decide) (Or.inl kf_X9_38) (am_tab tk_X9_has 23 rfl) rfl ?_
    refine am_getI (q := 111) (a := 32) (k := 1) (n := 11) (j := 2) (x := (σ.2.1 96 2)) (Ls_32 hL) (by decide) rfl hC.F.1.2.2.1 (by decide) (Or.inr kf_X9_144) (am_tab tk_X9_has 24 rfl) rfl ?_
    refine am_iret (Or.inl rfl) (Nat.le_of_ble_eq_true rfl) (Nat.le_of_ble_eq_true rfl) (am_tab tk_X9_has 25 rfl) ?_
    refine hQ _ _ ?_
    refine ⟨congrArg (fun z => some (am_i z)) ?_, rfl⟩
    unfold hasM
    first | (rw [if_pos (by omega)]; done) | (rw [if_neg (by omega), if_pos (by omega)]; done) | (rw [if_neg (by omega), if_neg (by omega), if_pos (by omega)]; done) | (rw [if_neg (by omega), if_neg (by omega), if_neg (by omega), if_pos (by omega)]; done) | (rw [if_neg (by omega), if_neg (by omega), if_neg (by omega), if_neg (by omega), if_pos (by omega)]; done) | (rw [if_neg (by omega), if_neg (by omega), if_neg (by omega), if_neg (by omega), if_neg (by omega), if_pos (by omega)]; done) | (rw [if_neg (by omega), if_neg (by omega), if_neg (by omega), if_neg (by omega), if_neg (by omega), if_neg (by omega), if_pos (by omega)]; done) | (rw [if_neg (by omega), if_neg (by omega), if_neg (by omega), if_neg (by omega), if_neg (by omega), if_neg (by omega), if_neg (by omega), if_pos (by omega)]; done) | (rw [if_neg (by omega), if_neg (by omega), if_neg (by omega), if_neg (by omega), if_neg (by omega), if_neg (by omega), if_neg (by omega), if_neg (by omega), if_pos (by omega)]; done) | (rw [if_neg (by omega), if_neg (by omega), if_neg (by omega), if_neg (by omega), if_neg (by omega), if_neg (by omega), if_neg (by omega), if_neg (by omega), if_neg (by omega), if_pos (by omega)]; done) | (rw [if_neg (by omega), if_neg (by omega), if_neg (by omega), if_neg (by omega), if_neg (by omega), if_neg (by omega), if_neg (by omega), if_neg (by omega), if_neg (by omega), if_neg (by omega), if_pos (by omega)]; done) | (rw [if_neg (by omega), if_neg (by omega), if_neg (by omega), if_neg (by omega), if_neg (by omega), if_neg (by omega), if_neg (by omega), if_neg (by omega), if_neg (by omega), if_neg (by omega), if_neg (by omega), if_pos (by omega)]; done) | (rw [if_neg (by omega), if_neg (by omega), if_neg (by omega), if_neg (by omega), if_neg (by omega), if_neg (by omega), if_neg (by omega), if_neg (by omega), if_neg (by omega), if_neg (by omega), if_neg (by omega), if_neg (by omega)]; done)
  · refine am_tableIn (t := 112) (off := 111) (by omega) (by omega) (by rw [e1]; rfl) dsw_X9_has_1 (by decide) ?_
    refine am_aload_n (q := 113) rfl (am_tab tk_X9_has 26 rfl) rfl ?_
    refine am_getR (q := 116) (a := 0) (k := 9) (n := 17) (j := 4) (r := some (32)) (Ls_0 hL) (by decide) rfl (Lr_0_4 hL) (by decide) (Or.inl kf_X9_38) (am_tab tk_X9_has 27 rfl) rfl ?_
    refine am_getR (q := 119) (a := 32) (k := 1) (n := 11) (j := 6) (r := some (34)) (Ls_32 hL) (by decide) rfl (Lr_32_6 hL) (by decide) (Or.inr kf_X9_147) (am_tab tk_X9_has 28 rfl) rfl ?_
    refine am_callSr (q := 122) (me2 := M_X9_countBits) (As := [am_r 34]) (rest := []) (c_countBits_34 σ hL (fun d hd => by rw [hC.F.2.2.2.2.1 d hd]; exact hC.G.R.told d hd)) ⟨rfl, rfl⟩ ⟨Or.inl km_X9_150, kc_X9_countBits, kn_X9, kd_X9_countBits, ⟨(Nat.le_of_ble_eq_true rfl), (Nat.le_of_ble_eq_true rfl)⟩, ⟨(Nat.le_of_ble_eq_true rfl), (Nat.le_of_ble_eq_true rfl)⟩, (Nat.le_of_ble_eq_true rfl)⟩ ki_X9_countBits rfl (am_tab tk_X9_has 29 rfl) rfl ?_
    rintro r τ ⟨hr9, hτ⟩
    rw [show sumN (fun d => bc (σ.2.1 34 d)) 91 = stM σ 20 from sumN_sh (f := fun d => bc (σ.2.1 34 d)) (by show bc (σ.2.1 34 0) = 0; rw [show σ.2.1 34 0 = 0 from (hC.F.2.2.2.2.1 0 (by decide)).trans hZ.1]; exact bc0) 90 (fun d hd => by show bc (σ.2.1 34 (d + 1)) = bc (σ.2.1 96 (20 + 1 + d)); rw [show σ.2.1 34 (d + 1) = σ.2.1 96 (20 + 1 + d) from (hC.F.2.2.2.2.1 (d + 1) (by omega)).trans (by rw [show 20 + (d + 1) = 20 + 1 + d by omega])])] at hr9
    rw [hr9, hτ]
    refine am_st (st2 := [am_i (stM σ 20)]) rfl ?_
    refine am_iret (Or.inl rfl) (Nat.le_of_ble_eq_true rfl) (Nat.le_of_ble_eq_true rfl) (am_tab tk_X9_has 30 rfl) ?_
    refine hQ _ _ ?_
    refine ⟨congrArg (fun z => some (am_i z)) ?_, rfl⟩
    unfold hasM
    first | (rw [if_pos (by omega)]; done) | (rw [if_neg (by omega), if_pos (by omega)]; done) | (rw [if_neg (by omega), if_neg (by omega), if_pos (by omega)]; done) | (rw [if_neg (by omega), if_neg (by omega), if_neg (by omega), if_pos (by omega)]; done) | (rw [if_neg (by omega), if_neg (by omega), if_neg (by omega), if_neg (by omega), if_pos (by omega)]; done) | (rw [if_neg (by omega), if_neg (by omega), if_neg (by omega), if_neg (by omega), if_neg (by omega), if_pos (by omega)]; done) | (rw [if_neg (by omega), if_neg (by omega), if_neg (by omega), if_neg (by omega), if_neg (by omega), if_neg (by omega), if_pos (by omega)]; done) | (rw [if_neg (by omega), if_neg (by omega), if_neg (by omega), if_neg (by omega), if_neg (by omega), if_neg (by omega), if_neg (by omega), if_pos (by omega)]; done) | (rw [if_neg (by omega), if_neg (by omega), if_neg (by omega), if_neg (by omega), if_neg (by omega), if_neg (by omega), if_neg (by omega), if_neg (by omega), if_pos (by omega)]; done) | (rw [if_neg (by omega), if_neg (by omega), if_neg (by omega), if_neg (by omega), if_neg (by omega), if_neg (by omega), if_neg (by omega), if_neg (by omega), if_neg (by omega), if_pos (by omega)]; done) | (rw [if_neg (by omega), if_neg (by omega), if_neg (by omega), if_neg (by omega), if_neg (by omega), if_neg (by omega), if_neg (by omega), if_neg (by omega), if_neg (by omega), if_neg (by omega), if_pos (by omega)]; done) | (rw [if_neg (by omega), if_neg (by omega), if_neg (by omega), if_neg (by omega), if_neg (by omega), if_neg (by omega), if_neg (by omega), if_neg (by omega), if_neg (by omega), if_neg (by omega), if_neg (by omega), if_pos (by omega)]; done) | (rw [if_neg (by omega), if_neg (by omega), if_neg (by omega), if_neg (by omega), if_neg (by omega), if_neg (by omega), if_neg (by omega), if_neg (by omega), if_neg (by omega), if_neg (by omega), if_neg (by omega), if_neg (by omega)]; done)
  · refine am_tableIn (t := 123) (off := 122) (by omega) (by omega) (by rw [e1]; rfl) dsw_X9_has_1 (by decide) ?_
    refine am_aload_n (q := 124) rfl (am_tab tk_X9_has 31 rfl) rfl ?_
    refine am_getR (q := 127) (a := 0) (k := 9) (n := 17) (j := 4) (r := some (32)) (Ls_0 hL) (by decide) rfl (Lr_0_4 hL) (by decide) (Or.inl kf_X9_38) (am_tab tk_X9_has 32 rfl) rfl ?_
    refine am_getR (q := 130) (a := 32) (k := 1) (n := 11) (j := 7) (r := some (35)) (Ls_32 hL) (by decide) rfl (Lr_32_7 hL) (by decide) (Or.inr kf_X9_154) (am_tab tk_X9_has 33 rfl) rfl ?_
    refine am_callSr (q := 133) (me2 := M_X9_countBits) (As := [am_r 35]) (rest := []) (c_countBits_35 σ hL (fun d hd => by rw [hC.F.2.2.2.2.2 d hd]; exact hC.G.R.brib d hd)) ⟨rfl, rfl⟩ ⟨Or.inl km_X9_150, kc_X9_countBits, kn_X9, kd_X9_countBits, ⟨(Nat.le_of_ble_eq_true rfl), (Nat.le_of_ble_eq_true rfl)⟩, ⟨(Nat.le_of_ble_eq_true rfl), (Nat.le_of_ble_eq_true rfl)⟩, (Nat.le_of_ble_eq_true rfl)⟩ ki_X9_countBits rfl (am_tab tk_X9_has 34 rfl) rfl ?_
    rintro r τ ⟨hr9, hτ⟩
    rw [show sumN (fun d => bc (σ.2.1 35 d)) 91 = stM σ 111 from sumN_sh (f := fun d => bc (σ.2.1 35 d)) (by show bc (σ.2.1 35 0) = 0; rw [show σ.2.1 35 0 = 0 from (hC.F.2.2.2.2.2 0 (by decide)).trans hZ.2.1]; exact bc0) 90 (fun d hd => by show bc (σ.2.1 35 (d + 1)) = bc (σ.2.1 96 (111 + 1 + d)); rw [show σ.2.1 35 (d + 1) = σ.2.1 96 (111 + 1 + d) from (hC.F.2.2.2.2.2 (d + 1) (by omega)).trans (by rw [show 111 + (d + 1) = 111 + 1 + d by omega])])] at hr9
    rw [hr9, hτ]
    refine am_st (st2 := [am_i (stM σ 111)]) rfl ?_
    refine am_iret (Or.inl rfl) (Nat.le_of_ble_eq_true rfl) (Nat.le_of_ble_eq_true rfl) (am_tab tk_X9_has 35 rfl) ?_
    refine hQ _ _ ?_
    refine ⟨congrArg (fun z => some (am_i z)) ?_, rfl⟩
    unfold hasM
    first | (rw [if_pos (by omega)]; done) | (rw [if_neg (by omega), if_pos (by omega)]; done) | (rw [if_neg (by omega), if_neg (by omega), if_pos (by omega)]; done) | (rw [if_neg (by omega), if_neg (by omega), if_neg (by omega), if_pos (by omega)]; done) | (rw [if_neg (by omega), if_neg (by omega), if_neg (by omega), if_neg (by omega), if_pos (by omega)]; done) | (rw [if_neg (by omega), if_neg (by omega), if_neg (by omega), if_neg (by omega), if_neg (by omega), if_pos (by omega)]; done) | (rw [if_neg (by omega), if_neg (by omega), if_neg (by omega), if_neg (by omega), if_neg (by omega), if_neg (by omega), if_pos (by omega)]; done) | (rw [if_neg (by omega), if_neg (by omega), if_neg (by omega), if_neg (by omega), if_neg (by omega), if_neg (by omega), if_neg (by omega), if_pos (by omega)]; done) | (rw [if_neg (by omega), if_neg (by omega), if_neg (by omega), if_neg (by omega), if_neg (by omega), if_neg (by omega), if_neg (by omega), if_neg (by omega), if_pos (by omega)]; done) | (rw [if_neg (by omega), if_neg (by omega), if_neg (by omega), if_neg (by omega), if_neg (by omega), if_neg (by omega), if_neg (by omega), if_neg (by omega), if_neg (by omega), if_pos (by omega)]; done) | (rw [if_neg (by omega), if_neg (by omega), if_neg (by omega), if_neg (by omega), if_neg (by omega), if_neg (by omega), if_neg (by omega), if_neg (by omega), if_neg (by omega), if_neg (by omega), if_pos (by omega)]; done) | (rw [if_neg (by omega), if_neg (by omega), if_neg (by omega), if_neg (by omega), if_neg (by omega), if_neg (by omega), if_neg (by omega), if_neg (by omega), if_neg (by omega), if_neg (by omega), if_neg (by omega), if_pos (by omega)]; done) | (rw [if_neg (by omega), if_neg (by omega), if_neg (by omega), if_neg (by omega), if_neg (by omega), if_neg (by omega), if_neg (by omega), if_neg (by omega), if_neg (by omega), if_neg (by omega), if_neg (by omega), if_neg (by omega)]; done)
  · refine am_tableIn (t := 134) (off := 133) (by omega) (by omega) (by rw [e1]; rfl) dsw_X9_has_1 (by decide) ?_
    refine am_aload_n (q := 135) rfl (am_tab tk_X9_has 36 rfl) rfl ?_
    refine am_getR (q := 138) (a := 0) (k := 9) (n := 17) (j := 4) (r := some (32)) (Ls_0 hL) (by decide) rfl (Lr_0_4 hL) (by decide) (Or.inl kf_X9_38) (am_tab tk_X9_has 37 rfl) rfl ?_
    refine am_getI (q := 141) (a := 32) (k := 1) (n := 11) (j := 3) (x := (σ.2.1 96 3)) (Ls_32 hL) (by decide) rfl hC.F.1.2.2.2 (by decide) (Or.inr kf_X9_157) (am_tab tk_X9_has 38 rfl) rfl ?_
    refine am_iret (Or.inl rfl) (Nat.le_of_ble_eq_true rfl) (Nat.le_of_ble_eq_true rfl) (am_tab tk_X9_has 39 rfl) ?_
    refine hQ _ _ ?_
    refine ⟨congrArg (fun z => some (am_i z)) ?_, rfl⟩
    unfold hasM
    first | (rw [if_pos (by omega)]; done) | (rw [if_neg (by omega), if_pos (by omega)]; done) | (rw [if_neg (by omega), if_neg (by omega), if_pos (by omega)]; done) | (rw [if_neg (by omega), if_neg (by omega), if_neg (by omega), if_pos (by omega)]; done) | (rw [if_neg (by omega), if_neg (by omega), if_neg (by omega), if_neg (by omega), if_pos (by omega)]; done) | (rw [if_neg (by omega), if_neg (by omega), if_neg (by omega), if_neg (by omega), if_neg (by omega), if_pos (by omega)]; done) | (rw [if_neg (by omega), if_neg (by omega), if_neg (by omega), if_neg (by omega), if_neg (by omega), if_neg (by omega), if_pos (by omega)]; done) | (rw [if_neg (by omega), if_neg (by omega), if_neg (by omega), if_neg (by omega), if_neg (by omega), if_neg (by omega), if_neg (by omega), if_pos (by omega)]; done) | (rw [if_neg (by omega), if_neg (by omega), if_neg (by omega), if_neg (by omega), if_neg (by omega), if_neg (by omega), if_neg (by omega), if_neg (by omega), if_pos (by omega)]; done) | (rw [if_neg (by omega), if_neg (by omega), if_neg (by omega), if_neg (by omega), if_neg (by omega), if_neg (by omega), if_neg (by omega), if_neg (by omega), if_neg (by omega), if_pos (by omega)]; done) | (rw [if_neg (by omega), if_neg (by omega), if_neg (by omega), if_neg (by omega), if_neg (by omega), if_neg (by omega), if_neg (by omega), if_neg (by omega), if_neg (by omega), if_neg (by omega), if_pos (by omega)]; done) | (rw [if_neg (by omega), if_neg (by omega), if_neg (by omega), if_neg (by omega), if_neg (by omega), if_neg (by omega), if_neg (by omega), if_neg (by omega), if_neg (by omega), if_neg (by omega), if_neg (by omega), if_pos (by omega)]; done) | (rw [if_neg (by omega), if_neg (by omega), if_neg (by omega), if_neg (by omega), if_neg (by omega), if_neg (by omega), if_neg (by omega), if_neg (by omega), if_neg (by omega), if_neg (by omega), if_neg (by omega), if_neg (by omega)]; done)
  · refine am_tableIn (t := 142) (off := 141) (by omega) (by omega) (by rw [e1]; rfl) dsw_X9_has_1 (by decide) ?_
    refine am_aload_n (q := 143) rfl (am_tab tk_X9_has 40 rfl) rfl ?_
    refine am_getR (q := 146) (a := 0) (k := 9) (n := 17) (j := 4) (r := some (32)) (Ls_0 hL) (by decide) rfl (Lr_0_4 hL) (by decide) (Or.inl kf_X9_38) (am_tab tk_X9_has 41 rfl) rfl ?_
    refine am_getI (q := 149) (a := 32) (k := 1) (n := 11) (j := 10) (x := (σ.2.1 96 202)) (Ls_32 hL) (by decide) rfl hR.2.1 (by decide) (Or.inr kf_X9_160) (am_tab tk_X9_has 42 rfl) rfl ?_
    refine am_iret (Or.inl rfl) (Nat.le_of_ble_eq_true rfl) (Nat.le_of_ble_eq_true rfl) (am_tab tk_X9_has 43 rfl) ?_
    refine hQ _ _ ?_
    refine ⟨congrArg (fun z => some (am_i z)) ?_, rfl⟩
    unfold hasM
    first | (rw [if_pos (by omega)]; done) | (rw [if_neg (by omega), if_pos (by omega)]; done) | (rw [if_neg (by omega), if_neg (by omega), if_pos (by omega)]; done) | (rw [if_neg (by omega), if_neg (by omega), if_neg (by omega), if_pos (by omega)]; done) | (rw [if_neg (by omega), if_neg (by omega), if_neg (by omega), if_neg (by omega), if_pos (by omega)]; done) | (rw [if_neg (by omega), if_neg (by omega), if_neg (by omega), if_neg (by omega), if_neg (by omega), if_pos (by omega)]; done) | (rw [if_neg (by omega), if_neg (by omega), if_neg (by omega), if_neg (by omega), if_neg (by omega), if_neg (by omega), if_pos (by omega)]; done) | (rw [if_neg (by omega), if_neg (by omega), if_neg (by omega), if_neg (by omega), if_neg (by omega), if_neg (by omega), if_neg (by omega), if_pos (by omega)]; done) | (rw [if_neg (by omega), if_neg (by omega), if_neg (by omega), if_neg (by omega), if_neg (by omega), if_neg (by omega), if_neg (by omega), if_neg (by omega), if_pos (by omega)]; done) | (rw [if_neg (by omega), if_neg (by omega), if_neg (by omega), if_neg (by omega), if_neg (by omega), if_neg (by omega), if_neg (by omega), if_neg (by omega), if_neg (by omega), if_pos (by omega)]; done) | (rw [if_neg (by omega), if_neg (by omega), if_neg (by omega), if_neg (by omega), if_neg (by omega), if_neg (by omega), if_neg (by omega), if_neg (by omega), if_neg (by omega), if_neg (by omega), if_pos (by omega)]; done) | (rw [if_neg (by omega), if_neg (by omega), if_neg (by omega), if_neg (by omega), if_neg (by omega), if_neg (by omega), if_neg (by omega), if_neg (by omega), if_neg (by omega), if_neg (by omega), if_neg (by omega), if_pos (by omega)]; done) | (rw [if_neg (by omega), if_neg (by omega), if_neg (by omega), if_neg (by omega), if_neg (by omega), if_neg (by omega), if_neg (by omega), if_neg (by omega), if_neg (by omega), if_neg (by omega), if_neg (by omega), if_neg (by omega)]; done)
  · refine am_tableIn (t := 150) (off := 149) (by omega) (by omega) (by rw [e1]; rfl) dsw_X9_has_1 (by decide) ?_
    refine am_aload_n (q := 151) rfl (am_tab tk_X9_has 44 rfl) rfl ?_
    refine am_getI (q := 154) (a := 0) (k := 9) (n := 17) (j := 11) (x := (σ.2.1 55 65)) (Ls_0 hL) (by decide) rfl hS.2.1 (by decide) (Or.inl kf_X9_114) (am_tab tk_X9_has 45 rfl) rfl ?_
    refine am_iret (Or.inl rfl) (Nat.le_of_ble_eq_true rfl) (Nat.le_of_ble_eq_true rfl) (am_tab tk_X9_has 46 rfl) ?_
    refine hQ _ _ ?_
    refine ⟨congrArg (fun z => some (am_i z)) ?_, rfl⟩
    unfold hasM
    first | (rw [if_pos (by omega)]; done) | (rw [if_neg (by omega), if_pos (by omega)]; done) | (rw [if_neg (by omega), if_neg (by omega), if_pos (by omega)]; done) | (rw [if_neg (by omega), if_neg (by omega), if_neg (by omega), if_pos (by omega)]; done) | (rw [if_neg (by omega), if_neg (by omega), if_neg (by omega), if_neg (by omega), if_pos (by omega)]; done) | (rw [if_neg (by omega), if_neg (by omega), if_neg (by omega), if_neg (by omega), if_neg (by omega), if_pos (by omega)]; done) | (rw [if_neg (by omega), if_neg (by omega), if_neg (by omega), if_neg (by omega), if_neg (by omega), if_neg (by omega), if_pos (by omega)]; done) | (rw [if_neg (by omega), if_neg (by omega), if_neg (by omega), if_neg (by omega), if_neg (by omega), if_neg (by omega), if_neg (by omega), if_pos (by omega)]; done) | (rw [if_neg (by omega), if_neg (by omega), if_neg (by omega), if_neg (by omega), if_neg (by omega), if_neg (by omega), if_neg (by omega), if_neg (by omega), if_pos (by omega)]; done) | (rw [if_neg (by omega), if_neg (by omega), if_neg (by omega), if_neg (by omega), if_neg (by omega), if_neg (by omega), if_neg (by omega), if_neg (by omega), if_neg (by omega), if_pos (by omega)]; done) | (rw [if_neg (by omega), if_neg (by omega), if_neg (by omega), if_neg (by omega), if_neg (by omega), if_neg (by omega), if_neg (by omega), if_neg (by omega), if_neg (by omega), if_neg (by omega), if_pos (by omega)]; done) | (rw [if_neg (by omega), if_neg (by omega), if_neg (by omega), if_neg (by omega), if_neg (by omega), if_neg (by omega), if_neg (by omega), if_neg (by omega), if_neg (by omega), if_neg (by omega), if_neg (by omega), if_pos (by omega)]; done) | (rw [if_neg (by omega), if_neg (by omega), if_neg (by omega), if_neg (by omega), if_neg (by omega), if_neg (by omega), if_neg (by omega), if_neg (by omega), if_neg (by omega), if_neg (by omega), if_neg (by omega), if_neg (by omega)]; done)
  · refine am_tableIn (t := 155) (off := 154) (by omega) (by omega) (by rw [e1]; rfl) dsw_X9_has_1 (by decide) ?_
    refine am_aload_n (q := 156) rfl (am_tab tk_X9_has 47 rfl) rfl ?_
    refine am_getR (q := 159) (a := 0) (k := 9) (n := 17) (j := 6) (r := some (42)) (Ls_0 hL) (by decide) rfl (Lr_0_6 hL) (by decide) (Or.inl kf_X9_48) (am_tab tk_X9_has 48 rfl) rfl ?_
    refine am_getI (q := 162) (a := 42) (k := 2) (n := 3) (j := 2) (x := (σ.2.1 55 69)) (Ls_42 hL) (by decide) rfl hU (by decide) (Or.inr kf_X9_163) (am_tab tk_X9_has 49 rfl) rfl ?_
    refine am_iret (Or.inl rfl) (Nat.le_of_ble_eq_true rfl) (Nat.le_of_ble_eq_true rfl) (am_tab tk_X9_has 50 rfl) ?_
    refine hQ _ _ ?_
    refine ⟨congrArg (fun z => some (am_i z)) ?_, rfl⟩
    unfold hasM
    first | (rw [if_pos (by omega)]; done) | (rw [if_neg (by omega), if_pos (by omega)]; done) | (rw [if_neg (by omega), if_neg (by omega), if_pos (by omega)]; done) | (rw [if_neg (by omega), if_neg (by omega), if_neg (by omega), if_pos (by omega)]; done) | (rw [if_neg (by omega), if_neg (by omega), if_neg (by omega), if_neg (by omega), if_pos (by omega)]; done) | (rw [if_neg (by omega), if_neg (by omega), if_neg (by omega), if_neg (by omega), if_neg (by omega), if_pos (by omega)]; done) | (rw [if_neg (by omega), if_neg (by omega), if_neg (by omega), if_neg (by omega), if_neg (by omega), if_neg (by omega), if_pos (by omega)]; done) | (rw [if_neg (by omega), if_neg (by omega), if_neg (by omega), if_neg (by omega), if_neg (by omega), if_neg (by omega), if_neg (by omega), if_pos (by omega)]; done) | (rw [if_neg (by omega), if_neg (by omega), if_neg (by omega), if_neg (by omega), if_neg (by omega), if_neg (by omega), if_neg (by omega), if_neg (by omega), if_pos (by omega)]; done) | (rw [if_neg (by omega), if_neg (by omega), if_neg (by omega), if_neg (by omega), if_neg (by omega), if_neg (by omega), if_neg (by omega), if_neg (by omega), if_neg (by omega), if_pos (by omega)]; done) | (rw [if_neg (by omega), if_neg (by omega), if_neg (by omega), if_neg (by omega), if_neg (by omega), if_neg (by omega), if_neg (by omega), if_neg (by omega), if_neg (by omega), if_neg (by omega), if_pos (by omega)]; done) | (rw [if_neg (by omega), if_neg (by omega), if_neg (by omega), if_neg (by omega), if_neg (by omega), if_neg (by omega), if_neg (by omega), if_neg (by omega), if_neg (by omega), if_neg (by omega), if_neg (by omega), if_pos (by omega)]; done) | (rw [if_neg (by omega), if_neg (by omega), if_neg (by omega), if_neg (by omega), if_neg (by omega), if_neg (by omega), if_neg (by omega), if_neg (by omega), if_neg (by omega), if_neg (by omega), if_neg (by omega), if_neg (by omega)]; done)
  · refine am_tableOut (t := 163) e1 dsw_X9_has_1 (by decide) ?_
    refine am_iconst (q := 164) (n := (-1)) (by decide) (am_tab tk_X9_has 51 rfl) rfl ?_
    refine am_iret (Or.inl rfl) (Nat.le_of_ble_eq_true rfl) (Nat.le_of_ble_eq_true rfl) (am_tab tk_X9_has 52 rfl) ?_
    refine hQ _ _ ?_
    refine ⟨congrArg (fun z => some (am_i z)) ?_, rfl⟩
    unfold hasM
    first | (rw [if_pos (by omega)]; done) | (rw [if_neg (by omega), if_pos (by omega)]; done) | (rw [if_neg (by omega), if_neg (by omega), if_pos (by omega)]; done) | (rw [if_neg (by omega), if_neg (by omega), if_neg (by omega), if_pos (by omega)]; done) | (rw [if_neg (by omega), if_neg (by omega), if_neg (by omega), if_neg (by omega), if_pos (by omega)]; done) | (rw [if_neg (by omega), if_neg (by omega), if_neg (by omega), if_neg (by omega), if_neg (by omega), if_pos (by omega)]; done) | (rw [if_neg (by omega), if_neg (by omega), if_neg (by omega), if_neg (by omega), if_neg (by omega), if_neg (by omega), if_pos (by omega)]; done) | (rw [if_neg (by omega), if_neg (by omega), if_neg (by omega), if_neg (by omega), if_neg (by omega), if_neg (by omega), if_neg (by omega), if_pos (by omega)]; done) | (rw [if_neg (by omega), if_neg (by omega), if_neg (by omega), if_neg (by omega), if_neg (by omega), if_neg (by omega), if_neg (by omega), if_neg (by omega), if_pos (by omega)]; done) | (rw [if_neg (by omega), if_neg (by omega), if_neg (by omega), if_neg (by omega), if_neg (by omega), if_neg (by omega), if_neg (by omega), if_neg (by omega), if_neg (by omega), if_pos (by omega)]; done) | (rw [if_neg (by omega), if_neg (by omega), if_neg (by omega), if_neg (by omega), if_neg (by omega), if_neg (by omega), if_neg (by omega), if_neg (by omega), if_neg (by omega), if_neg (by omega), if_pos (by omega)]; done) | (rw [if_neg (by omega), if_neg (by omega), if_neg (by omega), if_neg (by omega), if_neg (by omega), if_neg (by omega), if_neg (by omega), if_neg (by omega), if_neg (by omega), if_neg (by omega), if_neg (by omega), if_pos (by omega)]; done) | (rw [if_neg (by omega), if_neg (by omega), if_neg (by omega), if_neg (by omega), if_neg (by omega), if_neg (by omega), if_neg (by omega), if_neg (by omega), if_neg (by omega), if_neg (by omega), if_neg (by omega), if_neg (by omega)]; done)
theorem c_kept_3 (σ : am_H) (hC : CI 3 σ) (k : Int) (w : Int) (hR : RWr 32 σ (fun j => σ.2.1 96 j)) (hO : ROK (fun j => σ.2.1 96 j)) : am_met M_X9_kept [am_r 0, am_i k, am_i w] σ (fun r σ' => r = some (am_i (if (0 ≤ k ∧ k ≤ σ.2.1 96 202 - 1) ∧ (0 ≤ w ∧ w ≤ 3) then σ.2.1 96 (203 + 4 * k + w).toNat else -1)) ∧ σ' = σ) := by
  refine am_qq (fun Q hQ => ?_)
  refine am_enter (show plainFor yX9_kept = true by decide +kernel) rfl (Nat.le_of_ble_eq_true rfl) (fun _ _ _ => trivial) ?_
  have hL := hC.G.L
  have hkm := hC.G.R.kept
  refine am_iload_n (q := 1) rfl (am_tab tk_X9_kept 0 rfl) rfl ?_
  refine am_if_lt (q := 4) (t := 15) (am_tab tk_X9_kept 1 rfl) (by decide) rfl (fun h1 => ?_) (fun h1 => ?_)
  · refine am_iconst (q := 16) (n := (-1)) (by decide) (am_tab tk_X9_kept 7 rfl) rfl ?_
    refine am_iret (Or.inl rfl) (Nat.le_of_ble_eq_true rfl) (Nat.le_of_ble_eq_true rfl) (am_tab tk_X9_kept 8 rfl) ?_
    refine hQ _ _ ?_
    refine ⟨congrArg (fun z => some (am_i z)) ?_, rfl⟩
    rw [if_neg (by omega)]
  · refine am_iload_n (q := 5) rfl (am_tab tk_X9_kept 2 rfl) rfl ?_
    refine am_aload_n (q := 6) rfl (am_tab tk_X9_kept 3 rfl) rfl ?_
    refine am_getR (q := 9) (a := 0) (k := 9) (n := 17) (j := 4) (r := some (32)) (Ls_0 hL) (by decide) rfl (Lr_0_4 hL) (by decide) (Or.inl kf_X9_38) (am_tab tk_X9_kept 4 rfl) rfl ?_
    refine am_getI (q := 12) (a := 32) (k := 1) (n := 11) (j := 10) (x := (σ.2.1 96 202)) (Ls_32 hL) (by decide) rfl hR.2.1 (by decide) (Or.inr kf_X9_160) (am_tab tk_X9_kept 5 rfl) rfl ?_
    refine am_icmp_lt (q := 15) (t := 17) (am_tab tk_X9_kept 6 rfl) (by decide) rfl (fun h12 => ?_) (fun h12 => ?_)
    · obtain ⟨q, rfl⟩ := toN (show 0 ≤ k by omega)
      have hkq : (q : Int) < (fun j => σ.2.1 96 j) 202 := by show (q : Int) < σ.2.1 96 202; omega
      have hok := hO q hkq
      have hdec := row_dec hok.1 hok.2.1 hok.2.2.1 hok.2.2.2
      refine am_aload_n (q := 18) rfl (am_tab tk_X9_kept 9 rfl) rfl ?_
      refine am_getR (q := 21) (a := 0) (k := 9) (n := 17) (j := 4) (r := some (32)) (Ls_0 hL) (by decide) rfl (Lr_0_4 hL) (by decide) (Or.inl kf_X9_38) (am_tab tk_X9_kept 10 rfl) rfl ?_
      refine am_iload_n (q := 22) rfl (am_tab tk_X9_kept 11 rfl) rfl ?_
      refine am_callV0 (q := 25) (me2 := M_X1_rowAt) (b := 32) (kb := 1) (nb := 11) (As := [am_i ((q : Int))]) (rest := []) (out := [am_i ((rwV (fun j => σ.2.1 96 j) q))]) (c_rowAt σ hL q (fun j => σ.2.1 96 j) hR hkq hkm.2) ⟨rfl, rfl⟩ (Ls_32 hL) (by decide) ⟨Or.inr km_X9_204, kc_X1_rowAt, kn_X1, kd_X1_rowAt, ⟨(Nat.le_of_ble_eq_true rfl), (Nat.le_of_ble_eq_true rfl)⟩, ⟨(Nat.le_of_ble_eq_true rfl), (Nat.le_of_ble_eq_true rfl)⟩, (Nat.le_of_ble_eq_true rfl)⟩ ki_X1_rowAt ks_X1_rowAt rfl rfl (am_tab tk_X9_kept 12 rfl) rfl ?_
      refine am_istore_n (q := 26) (by decide) (ls2 := [(3, am_i ((rwV (fun j => σ.2.1 96 j) q))), (0, am_r 0), (1, am_i ((q : Int))), (2, am_i w)]) rfl (am_tab tk_X9_kept 13 rfl) rfl ?_
      refine am_iload_n (q := 27) rfl (am_tab tk_X9_kept 14 rfl) rfl ?_
      rcases (show w = 0 ∨ w = 1 ∨ w = 2 ∨ w = 3 ∨ (w < 0 ∨ 3 < w) by omega) with e27 | e27 | e27 | e27 | e27
      · refine am_tableIn (t := 56) (off := 29) (by omega) (by omega) (by rw [e27]; rfl) dsw_X9_kept_27 (by decide) ?_
        refine am_iload_n (q := 57) rfl (am_tab tk_X9_kept 16 rfl) rfl ?_
        refine am_callS0 (q := 60) (me2 := M_X1_rowYear) (As := [am_i ((rwV (fun j => σ.2.1 96 j) q))]) (rest := []) (out := [am_i (Int.tdiv (rwV (fun j => σ.2.1 96 j) q) 4096)]) (c_X1_rowYear σ (rwV (fun j => σ.2.1 96 j) q) hdec.1) ⟨rfl, rfl⟩ ⟨Or.inr km_X9_207, kc_X1_rowYear, kn_X1, kd_X1_rowYear, ⟨(Nat.le_of_ble_eq_true rfl), (Nat.le_of_ble_eq_true rfl)⟩, ⟨(Nat.le_of_ble_eq_true rfl), (Nat.le_of_ble_eq_true rfl)⟩, (Nat.le_of_ble_eq_true rfl)⟩ ki_X1_rowYear rfl rfl (am_tab tk_X9_kept 17 rfl) rfl ?_
        refine am_iret (Or.inl rfl) (Nat.le_of_ble_eq_true rfl) (Nat.le_of_ble_eq_true rfl) (am_tab tk_X9_kept 18 rfl) ?_
        refine hQ _ _ ?_
        refine ⟨congrArg (fun z => some (am_i z)) ?_, rfl⟩
        rw [if_pos (by omega), show (203 + 4 * (q : Int) + w).toNat = 203 + 4 * q + w.toNat by omega]
        subst e27
        first | exact hdec.2.1 | exact hdec.2.2.1.trans (by congr 1; omega) | exact hdec.2.2.2.1.trans (by congr 1; omega) | exact hdec.2.2.2.2.trans (by congr 1; omega)
      · refine am_tableIn (t := 61) (off := 34) (by omega) (by omega) (by rw [e27]; rfl) dsw_X9_kept_27 (by decide) ?_
        refine am_iload_n (q := 62) rfl (am_tab tk_X9_kept 19 rfl) rfl ?_
        refine am_callS0 (q := 65) (me2 := M_X1_rowDay) (As := [am_i ((rwV (fun j => σ.2.1 96 j) q))]) (rest := []) (out := [am_i ((Int.tdiv (rwV (fun j => σ.2.1 96 j) q) 32).tmod 128)]) (c_X1_rowDay σ (rwV (fun j => σ.2.1 96 j) q) hdec.1) ⟨rfl, rfl⟩ ⟨Or.inr km_X9_210, kc_X1_rowDay, kn_X1, kd_X1_rowDay, ⟨(Nat.le_of_ble_eq_true rfl), (Nat.le_of_ble_eq_true rfl)⟩, ⟨(Nat.le_of_ble_eq_true rfl), (Nat.le_of_ble_eq_true rfl)⟩, (Nat.le_of_ble_eq_true rfl)⟩ ki_X1_rowDay rfl rfl (am_tab tk_X9_kept 20 rfl) rfl ?_
        refine am_iret (Or.inl rfl) (Nat.le_of_ble_eq_true rfl) (Nat.le_of_ble_eq_true rfl) (am_tab tk_X9_kept 21 rfl) ?_
        refine hQ _ _ ?_
        refine ⟨congrArg (fun z => some (am_i z)) ?_, rfl⟩
        rw [if_pos (by omega), show (203 + 4 * (q : Int) + w).toNat = 203 + 4 * q + w.toNat by omega]
        subst e27
        first | exact hdec.2.1 | exact hdec.2.2.1.trans (by congr 1; omega) | exact hdec.2.2.2.1.trans (by congr 1; omega) | exact hdec.2.2.2.2.trans (by congr 1; omega)
      · refine am_tableIn (t := 66) (off := 39) (by omega) (by omega) (by rw [e27]; rfl) dsw_X9_kept_27 (by decide) ?_
        refine am_iload_n (q := 67) rfl (am_tab tk_X9_kept 22 rfl) rfl ?_
        refine am_callS0 (q := 70) (me2 := M_X1_rowThinkers) (As := [am_i ((rwV (fun j => σ.2.1 96 j) q))]) (rest := []) (out := [am_i ((Int.tdiv (rwV (fun j => σ.2.1 96 j) q) 2).tmod 16)]) (c_X1_rowThinkers σ (rwV (fun j => σ.2.1 96 j) q) hdec.1) ⟨rfl, rfl⟩ ⟨Or.inr km_X9_213, kc_X1_rowThinkers, kn_X1, kd_X1_rowThinkers, ⟨(Nat.le_of_ble_eq_true rfl), (Nat.le_of_ble_eq_true rfl)⟩, ⟨(Nat.le_of_ble_eq_true rfl), (Nat.le_of_ble_eq_true rfl)⟩, (Nat.le_of_ble_eq_true rfl)⟩ ki_X1_rowThinkers rfl rfl (am_tab tk_X9_kept 23 rfl) rfl ?_
        refine am_iret (Or.inl rfl) (Nat.le_of_ble_eq_true rfl) (Nat.le_of_ble_eq_true rfl) (am_tab tk_X9_kept 24 rfl) ?_
        refine hQ _ _ ?_
        refine ⟨congrArg (fun z => some (am_i z)) ?_, rfl⟩
        rw [if_pos (by omega), show (203 + 4 * (q : Int) + w).toNat = 203 + 4 * q + w.toNat by omega]
        subst e27
        first | exact hdec.2.1 | exact hdec.2.2.1.trans (by congr 1; omega) | exact hdec.2.2.2.1.trans (by congr 1; omega) | exact hdec.2.2.2.2.trans (by congr 1; omega)
      · refine am_tableIn (t := 71) (off := 44) (by omega) (by omega) (by rw [e27]; rfl) dsw_X9_kept_27 (by decide) ?_
        refine am_iload_n (q := 72) rfl (am_tab tk_X9_kept 25 rfl) rfl ?_
        refine am_callS0 (q := 75) (me2 := M_X1_rowFeast) (As := [am_i ((rwV (fun j => σ.2.1 96 j) q))]) (rest := []) (out := [am_i (Int.tmod (rwV (fun j => σ.2.1 96 j) q) 2)]) (c_X1_rowFeast σ (rwV (fun j => σ.2.1 96 j) q) hdec.1) ⟨rfl, rfl⟩ ⟨Or.inr km_X9_216, kc_X1_rowFeast, kn_X1, kd_X1_rowFeast, ⟨(Nat.le_of_ble_eq_true rfl), (Nat.le_of_ble_eq_true rfl)⟩, ⟨(Nat.le_of_ble_eq_true rfl), (Nat.le_of_ble_eq_true rfl)⟩, (Nat.le_of_ble_eq_true rfl)⟩ ki_X1_rowFeast rfl rfl (am_tab tk_X9_kept 26 rfl) rfl ?_
        refine am_iret (Or.inl rfl) (Nat.le_of_ble_eq_true rfl) (Nat.le_of_ble_eq_true rfl) (am_tab tk_X9_kept 27 rfl) ?_
        refine hQ _ _ ?_
        refine ⟨congrArg (fun z => some (am_i z)) ?_, rfl⟩
        rw [if_pos (by omega), show (203 + 4 * (q : Int) + w).toNat = 203 + 4 * q + w.toNat by omega]
        subst e27
        first | exact hdec.2.1 | exact hdec.2.2.1.trans (by congr 1; omega) | exact hdec.2.2.2.1.trans (by congr 1; omega) | exact hdec.2.2.2.2.trans (by congr 1; omega)
      · refine am_tableOut (t := 76) e27 dsw_X9_kept_27 (by decide) ?_
        refine am_iconst (q := 77) (n := (-1)) (by decide) (am_tab tk_X9_kept 28 rfl) rfl ?_
        refine am_iret (Or.inl rfl) (Nat.le_of_ble_eq_true rfl) (Nat.le_of_ble_eq_true rfl) (am_tab tk_X9_kept 29 rfl) ?_
        refine hQ _ _ ?_
        refine ⟨congrArg (fun z => some (am_i z)) ?_, rfl⟩
        rw [if_neg (by omega)]
    · refine am_iconst (q := 16) (n := (-1)) (by decide) (am_tab tk_X9_kept 7 rfl) rfl ?_
      refine am_iret (Or.inl rfl) (Nat.le_of_ble_eq_true rfl) (Nat.le_of_ble_eq_true rfl) (am_tab tk_X9_kept 8 rfl) ?_
      refine hQ _ _ ?_
      refine ⟨congrArg (fun z => some (am_i z)) ?_, rfl⟩
      rw [if_neg (by omega)]
theorem c_day9_3 (σ : am_H) (hC : CI 3 σ) (d : Int) (w : Int)  : am_met M_X9_day [am_r 0, am_i d, am_i w] σ (fun r σ' => r = some (am_i (dayM σ d w)) ∧ σ' = σ) := by
  refine am_qq (fun Q hQ => ?_)
  refine am_enter (show plainFor yX9_day = true by decide +kernel) rfl (Nat.le_of_ble_eq_true rfl) (fun _ _ _ => trivial) ?_
  have hL := hC.G.L
  have hYY := hC.G.R.Y
  refine am_aload_n (q := 1) rfl (am_tab tk_X9_day 0 rfl) rfl ?_
  refine am_iload_n (q := 2) rfl (am_tab tk_X9_day 1 rfl) rfl ?_
  refine am_callV0 (q := 5) (me2 := M_X9_isDay) (b := 0) (kb := 9) (nb := 17) (As := [am_i d]) (rest := []) (out := [am_i (if 1 ≤ d ∧ d ≤ σ.2.1 85 9 then 1 else 0)]) (c_isDay_3 σ hC d) ⟨rfl, rfl⟩ (Ls_0 hL) (by decide) ⟨Or.inl km_X9_198, kc_X9_isDay, kn_X9, kd_X9_isDay, ⟨(Nat.le_of_ble_eq_true rfl), (Nat.le_of_ble_eq_true rfl)⟩, ⟨(Nat.le_of_ble_eq_true rfl), (Nat.le_of_ble_eq_true rfl)⟩, (Nat.le_of_ble_eq_true rfl)⟩ ki_X9_isDay ks_X9_isDay rfl rfl (am_tab tk_X9_day 2 rfl) rfl ?_
  refine am_if_ne (q := 8) (t := 10) (am_tab tk_X9_day 3 rfl) (by decide) rfl (fun h5 => ?_) (fun h5 => ?_)
  · replace h5 := b01n h5
    refine am_iload_n (q := 11) rfl (am_tab tk_X9_day 6 rfl) rfl ?_
    rcases (show w = 0 ∨ w = 1 ∨ w = 2 ∨ (w < 0 ∨ 2 < w) by omega) with e11 | e11 | e11 | e11
    · refine am_tableIn (t := 36) (off := 25) (by omega) (by omega) (by rw [e11]; rfl) dsw_X9_day_11 (by decide) ?_
      refine am_aload_n (q := 37) rfl (am_tab tk_X9_day 8 rfl) rfl ?_
      refine am_getR (q := 40) (a := 0) (k := 9) (n := 17) (j := 4) (r := some (32)) (Ls_0 hL) (by decide) rfl (Lr_0_4 hL) (by decide) (Or.inl kf_X9_38) (am_tab tk_X9_day 9 rfl) rfl ?_
      refine am_getR (q := 43) (a := 32) (k := 1) (n := 11) (j := 6) (r := some (34)) (Ls_32 hL) (by decide) rfl (Lr_32_6 hL) (by decide) (Or.inr kf_X9_147) (am_tab tk_X9_day 10 rfl) rfl ?_
      refine am_iload_n (q := 44) rfl (am_tab tk_X9_day 11 rfl) rfl ?_
      refine am_iald (q := 45) (a := 34) (n := 91) (x := (σ.2.1 96 (20 + d).toNat)) (Ls_34 hL) (by omega) (by omega) (by rw [show (20 + d).toNat = 20 + d.toNat by omega]; exact hC.F.2.2.2.2.1 _ (by omega)) (am_tab tk_X9_day 12 rfl) rfl ?_
      refine am_iret (Or.inl rfl) (Nat.le_of_ble_eq_true rfl) (Nat.le_of_ble_eq_true rfl) (am_tab tk_X9_day 13 rfl) ?_
      refine hQ _ _ ?_
      refine ⟨congrArg (fun z => some (am_i z)) ?_, rfl⟩
      unfold dayM
      rw [if_pos h5]
      first | rw [if_pos (show w = 0 by omega)] | rw [if_neg (show ¬ w = 0 by omega), if_pos (show w = 1 by omega)] | rw [if_neg (show ¬ w = 0 by omega), if_neg (show ¬ w = 1 by omega), if_pos (show w = 2 by omega)] | rw [if_neg (show ¬ w = 0 by omega), if_neg (show ¬ w = 1 by omega), if_neg (show ¬ w = 2 by omega)]
    · refine am_tableIn (t := 46) (off := 35) (by omega) (by omega) (by rw [e11]; rfl) dsw_X9_day_11 (by decide) ?_
      refine am_aload_n (q := 47) rfl (am_tab tk_X9_day 14 rfl) rfl ?_
      refine am_getR (q := 50) (a := 0) (k := 9) (n := 17) (j := 4) (r := some (32)) (Ls_0 hL) (by decide) rfl (Lr_0_4 hL) (by decide) (Or.inl kf_X9_38) (am_tab tk_X9_day 15 rfl) rfl ?_
      refine am_getR (q := 53) (a := 32) (k := 1) (n := 11) (j := 7) (r := some (35)) (Ls_32 hL) (by decide) rfl (Lr_32_7 hL) (by decide) (Or.inr kf_X9_154) (am_tab tk_X9_day 16 rfl) rfl ?_
      refine am_iload_n (q := 54) rfl (am_tab tk_X9_day 17 rfl) rfl ?_
      refine am_iald (q := 55) (a := 35) (n := 91) (x := (σ.2.1 96 (111 + d).toNat)) (Ls_35 hL) (by omega) (by omega) (by rw [show (111 + d).toNat = 111 + d.toNat by omega]; exact hC.F.2.2.2.2.2 _ (by omega)) (am_tab tk_X9_day 18 rfl) rfl ?_
      refine am_iret (Or.inl rfl) (Nat.le_of_ble_eq_true rfl) (Nat.le_of_ble_eq_true rfl) (am_tab tk_X9_day 19 rfl) ?_
      refine hQ _ _ ?_
      refine ⟨congrArg (fun z => some (am_i z)) ?_, rfl⟩
      unfold dayM
      rw [if_pos h5]
      first | rw [if_pos (show w = 0 by omega)] | rw [if_neg (show ¬ w = 0 by omega), if_pos (show w = 1 by omega)] | rw [if_neg (show ¬ w = 0 by omega), if_neg (show ¬ w = 1 by omega), if_pos (show w = 2 by omega)] | rw [if_neg (show ¬ w = 0 by omega), if_neg (show ¬ w = 1 by omega), if_neg (show ¬ w = 2 by omega)]
    · refine am_tableIn (t := 56) (off := 45) (by omega) (by omega) (by rw [e11]; rfl) dsw_X9_day_11 (by decide) ?_
      refine am_aload_n (q := 57) rfl (am_tab tk_X9_day 20 rfl) rfl ?_
      refine am_getR (q := 60) (a := 0) (k := 9) (n := 17) (j := 2) (r := some (3)) (Ls_0 hL) (by decide) rfl hC.t (by decide) (Or.inl kf_X9_19) (am_tab tk_X9_day 21 rfl) rfl ?_
      refine am_getR (q := 63) (a := 3) (k := 8) (n := 17) (j := 14) (r := some (10)) (Ls_3 hL) (by decide) rfl (Lr_3_14 hL) (by decide) (Or.inr kf_X9_201) (am_tab tk_X9_day 22 rfl) rfl ?_
      refine am_iload_n (q := 64) rfl (am_tab tk_X9_day 23 rfl) rfl ?_
      refine am_iald (q := 65) (a := 10) (n := 91) (x := (if frM σ d = true then 1 else 0)) (Ls_10 hL) (by omega) (by omega) (by have h9 := hC.W.frost d.toNat (by omega) (by omega) (by omega); rw [show ((d.toNat : Nat) : Int) = d by omega] at h9; exact h9) (am_tab tk_X9_day 24 rfl) rfl ?_
      refine am_iret (Or.inl rfl) (Nat.le_of_ble_eq_true rfl) (Nat.le_of_ble_eq_true rfl) (am_tab tk_X9_day 25 rfl) ?_
      refine hQ _ _ ?_
      refine ⟨congrArg (fun z => some (am_i z)) ?_, rfl⟩
      unfold dayM
      rw [if_pos h5]
      first | rw [if_pos (show w = 0 by omega)] | rw [if_neg (show ¬ w = 0 by omega), if_pos (show w = 1 by omega)] | rw [if_neg (show ¬ w = 0 by omega), if_neg (show ¬ w = 1 by omega), if_pos (show w = 2 by omega)] | rw [if_neg (show ¬ w = 0 by omega), if_neg (show ¬ w = 1 by omega), if_neg (show ¬ w = 2 by omega)]
    · refine am_tableOut (t := 66) e11 dsw_X9_day_11 (by decide) ?_
      refine am_iconst (q := 67) (n := (-1)) (by decide) (am_tab tk_X9_day 26 rfl) rfl ?_
      refine am_iret (Or.inl rfl) (Nat.le_of_ble_eq_true rfl) (Nat.le_of_ble_eq_true rfl) (am_tab tk_X9_day 27 rfl) ?_
      refine hQ _ _ ?_
      refine ⟨congrArg (fun z => some (am_i z)) ?_, rfl⟩
      unfold dayM
      rw [if_pos h5]
      first | rw [if_pos (show w = 0 by omega)] | rw [if_neg (show ¬ w = 0 by omega), if_pos (show w = 1 by omega)] | rw [if_neg (show ¬ w = 0 by omega), if_neg (show ¬ w = 1 by omega), if_pos (show w = 2 by omega)] | rw [if_neg (show ¬ w = 0 by omega), if_neg (show ¬ w = 1 by omega), if_neg (show ¬ w = 2 by omega)]
  · replace h5 := b01z h5
    refine am_iconst (q := 9) (n := (-1)) (by decide) (am_tab tk_X9_day 4 rfl) rfl ?_
    refine am_iret (Or.inl rfl) (Nat.le_of_ble_eq_true rfl) (Nat.le_of_ble_eq_true rfl) (am_tab tk_X9_day 5 rfl) ?_
    refine hQ _ _ ?_
    refine ⟨congrArg (fun z => some (am_i z)) ?_, rfl⟩
    unfold dayM
    rw [if_neg h5]
theorem c_daysToldOff_3 (σ : am_H) (hC : CI 3 σ) (p : Nat) (hp8 : p < 8) (hZ : ZR (σ.2.1 85 9) (fun j => σ.2.1 96 j)) : am_met M_X9_daysToldOff [am_r 0, am_i ((p : Int))] σ (fun r σ' => r = some (am_i (sumN (fun d => tb (σ.2.1 96 (21 + d)) p) 90)) ∧ σ' = σ) := by
  refine am_qq (fun Q hQ => ?_)
  refine am_enter (show plainFor yX9_daysToldOff = true by decide +kernel) rfl (Nat.le_of_ble_eq_true rfl) (fun _ _ _ => trivial) ?_
  have hL := hC.G.L
  have hYY := hC.G.R.Y
  refine am_iconst (q := 1) (n := 0) (by decide) (am_tab tk_X9_daysToldOff 0 rfl) rfl ?_
  refine am_istore_n (q := 2) (by decide) (ls2 := [(2, am_i 0), (0, am_r 0), (1, am_i ((p : Int)))]) rfl (am_tab tk_X9_daysToldOff 1 rfl) rfl ?_
  refine am_iconst (q := 3) (n := 1) (by decide) (am_tab tk_X9_daysToldOff 2 rfl) rfl ?_
  refine am_istore_n (q := 4) (by decide) (ls2 := [(3, am_i 1), (2, am_i 0), (0, am_r 0), (1, am_i ((p : Int)))]) rfl (am_tab tk_X9_daysToldOff 3 rfl) rfl ?_
  have L4 : ∀ (n4 : Nat) (d : Nat), 90 - d < n4 → (d : Int) ≤ σ.2.1 85 9 → am_wp M_X9_daysToldOff Q 0 0 4 [(3, am_i (((d : Int) + 1))), (2, am_i ((sumN (fun d => tb (σ.2.1 96 (21 + d)) p) d))), (0, am_r 0), (1, am_i ((p : Int)))] [] σ := by
    intro n4
    induction n4 with
    | zero => intro d hn4; exact absurd hn4 (Nat.not_lt_zero _)
    | succ n4 ih4 =>
      intro d hn4 hd
      refine am_iload_n (q := 5) rfl (am_tab tk_X9_daysToldOff 4 rfl) rfl ?_
      refine am_aload_n (q := 6) rfl (am_tab tk_X9_daysToldOff 5 rfl) rfl ?_
      refine am_getR (q := 9) (a := 0) (k := 9) (n := 17) (j := 2) (r := some (3)) (Ls_0 hL) (by decide) rfl hC.t (by decide) (Or.inl kf_X9_19) (am_tab tk_X9_daysToldOff 6 rfl) rfl ?_
      refine am_getI (q := 12) (a := 3) (k := 8) (n := 17) (j := 0) (x := (σ.2.1 85 9)) (Ls_3 hL) (by decide) rfl hC.W.days (by decide) (Or.inr kf_X9_123) (am_tab tk_X9_daysToldOff 7 rfl) rfl ?_
      refine am_icmp_gt (q := 15) (t := 37) (am_tab tk_X9_daysToldOff 8 rfl) (by decide) rfl (fun h12 => ?_) (fun h12 => ?_)
      · refine am_iload_n (q := 38) rfl (am_tab tk_X9_daysToldOff 21 rfl) rfl ?_
        refine am_iret (Or.inl rfl) (Nat.le_of_ble_eq_true rfl) (Nat.le_of_ble_eq_true rfl) (am_tab tk_X9_daysToldOff 22 rfl) ?_
        refine hQ _ _ ?_
        refine ⟨congrArg (fun z => some (am_i z)) ?_, rfl⟩
        have h9 := sumN_cut (g := fun d => tb (σ.2.1 96 (21 + d)) p) (m := d) (90 - d) (fun e h1 h2 => by show tb (σ.2.1 96 (21 + e)) p = 0; rw [show σ.2.1 96 (21 + e) = 0 from (show 20 + (e + 1) = 21 + e by omega) ▸ hZ.2.2 (e + 1) (by omega) (by omega)]; exact tb0 _)
        rw [show d + (90 - d) = 90 by omega] at h9
        exact h9.symm
      · have hsr := sumN_rng (g := fun d => tb (σ.2.1 96 (21 + d)) p) (B := 1) d (fun i _ => by have := tb_01 (σ.2.1 96 (21 + i)) p; omega)
        have htd : 0 ≤ σ.2.1 96 (21 + d) ∧ σ.2.1 96 (21 + d) < 256 := by rw [show 21 + d = 20 + (d + 1) by omega]; exact hC.G.R.told _ (by omega)
        have htb := tb_01 (σ.2.1 96 (21 + d)) p
        refine am_iload_n (q := 16) rfl (am_tab tk_X9_daysToldOff 9 rfl) rfl ?_
        refine am_aload_n (q := 17) rfl (am_tab tk_X9_daysToldOff 10 rfl) rfl ?_
        refine am_getR (q := 20) (a := 0) (k := 9) (n := 17) (j := 4) (r := some (32)) (Ls_0 hL) (by decide) rfl (Lr_0_4 hL) (by decide) (Or.inl kf_X9_38) (am_tab tk_X9_daysToldOff 11 rfl) rfl ?_
        refine am_getR (q := 23) (a := 32) (k := 1) (n := 11) (j := 6) (r := some (34)) (Ls_32 hL) (by decide) rfl (Lr_32_6 hL) (by decide) (Or.inr kf_X9_147) (am_tab tk_X9_daysToldOff 12 rfl) rfl ?_
        refine am_iload_n (q := 24) rfl (am_tab tk_X9_daysToldOff 13 rfl) rfl ?_
        refine am_iald (q := 25) (a := 34) (n := 91) (x := (σ.2.1 96 (21 + d))) (Ls_34 hL) (by omega) (by omega) (by rw [show Int.toNat ((d : Int) + 1) = d + 1 by omega]; exact (hC.F.2.2.2.2.1 (d + 1) (by omega)).trans (by rw [show 20 + (d + 1) = 21 + d by omega])) (am_tab tk_X9_daysToldOff 14 rfl) rfl ?_
        refine am_iload_n (q := 26) rfl (am_tab tk_X9_daysToldOff 15 rfl) rfl ?_
        refine am_callS0 (q := 29) (me2 := M_X9_bit) (As := [am_i ((σ.2.1 96 (21 + d))), am_i ((p : Int))]) (rest := [am_i ((sumN (fun d => tb (σ.2.1 96 (21 + d)) p) d))]) (out := [am_i (tb (σ.2.1 96 (21 + d)) (p : Int)), am_i ((sumN (fun d => tb (σ.2.1 96 (21 + d)) p) d))]) (c_bit σ (σ.2.1 96 (21 + d)) (p : Int) (htd) (by omega)) ⟨rfl, rfl⟩ ⟨Or.inl km_X9_185, kc_X9_bit, kn_X9, kd_X9_bit, ⟨(Nat.le_of_ble_eq_true rfl), (Nat.le_of_ble_eq_true rfl)⟩, ⟨(Nat.le_of_ble_eq_true rfl), (Nat.le_of_ble_eq_true rfl)⟩, (Nat.le_of_ble_eq_true rfl)⟩ ki_X9_bit rfl rfl (am_tab tk_X9_daysToldOff 16 rfl) rfl ?_
        refine am_iadd (q := 30) (by omega) (am_tab tk_X9_daysToldOff 17 rfl) rfl ?_
        refine am_istore_n (q := 31) (by decide) (ls2 := [(2, am_i (((sumN (fun d => tb (σ.2.1 96 (21 + d)) p) d) + (tb (σ.2.1 96 (21 + d)) (p : Int))))), (3, am_i (((d : Int) + 1))), (0, am_r 0), (1, am_i ((p : Int)))]) rfl (am_tab tk_X9_daysToldOff 18 rfl) rfl ?_
        refine am_iinc (q := 34) rfl (by omega) (by decide) (ls2 := [(3, am_i ((((d : Int) + 1) + 1))), (2, am_i (((sumN (fun d => tb (σ.2.1 96 (21 + d)) p) d) + (tb (σ.2.1 96 (21 + d)) (p : Int))))), (0, am_r 0), (1, am_i ((p : Int)))]) rfl (am_tab tk_X9_daysToldOff 19 rfl) rfl ?_
        refine am_goto (t := 4) (am_tab tk_X9_daysToldOff 20 rfl) (by decide) ?_
        exact am_less (by intro q hq; simp only [List.mem_cons, List.not_mem_nil, or_false] at hq; rcases hq with rfl | rfl | rfl | rfl <;> simp [sumN]) (ih4 (d + 1) (by omega) (by omega))
  refine am_less (by intro q hq; simp only [List.mem_cons, List.not_mem_nil, or_false] at hq; rcases hq with rfl | rfl | rfl | rfl <;> simp [sumN]) (L4 (_ + 1) 0 (by exact Nat.lt_succ_self _) (by omega))
theorem c_person_3 (σ : am_H) (hC : CI 3 σ) (p : Int) (w : Int) (hZ : ZR (σ.2.1 85 9) (fun j => σ.2.1 96 j)) : am_met M_X9_person [am_r 0, am_i p, am_i w] σ (fun r σ' => r = some (am_i (persM σ p w)) ∧ σ' = σ) := by
  refine am_qq (fun Q hQ => ?_)
  refine am_enter (show plainFor yX9_person = true by decide +kernel) rfl (Nat.le_of_ble_eq_true rfl) (fun _ _ _ => trivial) ?_
  have hL := hC.G.L
  have hPP := hC.G.R.P
  refine am_aload_n (q := 1) rfl (am_tab tk_X9_person 0 rfl) rfl ?_
  refine am_iload_n (q := 2) rfl (am_tab tk_X9_person 1 rfl) rfl ?_
  refine am_callV0 (q := 5) (me2 := M_X9_isPerson) (b := 0) (kb := 9) (nb := 17) (As := [am_i p]) (rest := []) (out := [am_i (if 0 ≤ p ∧ p < σ.2.1 85 5 then 1 else 0)]) (c_isPerson_3 σ hC p) ⟨rfl, rfl⟩ (Ls_0 hL) (by decide) ⟨Or.inl km_X9_166, kc_X9_isPerson, kn_X9, kd_X9_isPerson, ⟨(Nat.le_of_ble_eq_true rfl), (Nat.le_of_ble_eq_true rfl)⟩, ⟨(Nat.le_of_ble_eq_true rfl), (Nat.le_of_ble_eq_true rfl)⟩, (Nat.le_of_ble_eq_true rfl)⟩ ki_X9_isPerson ks_X9_isPerson rfl rfl (am_tab tk_X9_person 2 rfl) rfl ?_
  refine am_if_ne (q := 8) (t := 10) (am_tab tk_X9_person 3 rfl) (by decide) rfl (fun h5 => ?_) (fun h5 => ?_)
  · replace h5 := b01n h5
    obtain ⟨q, rfl⟩ := toN h5.1
    have hqp : q < pN σ := by unfold pN; omega
    have h8 : pN σ ≤ 8 := by unfold pN; omega
    have hrb : σ.2.1 8 q = mkS (fun r => decide (tb (σ.2.1 89 (8 + r)) (q : Int) = 1)) (pN σ) := by
      have h9 := hC.W.rby q hqp
      refine mkS_ext h9.1 h8 (fun r hr => ?_)
      rw [h9.2 r hr]
      simp
    refine am_iload_n (q := 11) rfl (am_tab tk_X9_person 6 rfl) rfl ?_
    rcases (show w = 0 ∨ w = 1 ∨ w = 2 ∨ w = 3 ∨ w = 4 ∨ w = 5 ∨ w = 6 ∨ (w < 0 ∨ 6 < w) by omega) with e11 | e11 | e11 | e11 | e11 | e11 | e11 | e11
    · refine am_tableIn (t := 52) (off := 41) (by omega) (by omega) (by rw [e11]; rfl) dsw_X9_person_11 (by decide) ?_
      refine am_aload_n (q := 53) rfl (am_tab tk_X9_person 8 rfl) rfl ?_
      refine am_getR (q := 56) (a := 0) (k := 9) (n := 17) (j := 2) (r := some (3)) (Ls_0 hL) (by decide) rfl hC.t (by decide) (Or.inl kf_X9_19) (am_tab tk_X9_person 9 rfl) rfl ?_
      refine am_getR (q := 59) (a := 3) (k := 8) (n := 17) (j := 9) (r := some (5)) (Ls_3 hL) (by decide) rfl (Lr_3_9 hL) (by decide) (Or.inr kf_X9_173) (am_tab tk_X9_person 10 rfl) rfl ?_
      refine am_iload_n (q := 60) rfl (am_tab tk_X9_person 11 rfl) rfl ?_
      refine am_iald (q := 61) (a := 5) (n := 8) (x := (σ.2.1 87 (8 + q))) (Ls_5 hL) (by omega) (by omega) (by rw [show Int.toNat (q : Int) = q by omega]; exact hC.W.minds q hqp) (am_tab tk_X9_person 12 rfl) rfl ?_
      refine am_iret (Or.inl rfl) (Nat.le_of_ble_eq_true rfl) (Nat.le_of_ble_eq_true rfl) (am_tab tk_X9_person 13 rfl) ?_
      refine hQ _ _ ?_
      refine ⟨congrArg (fun z => some (am_i z)) ?_, rfl⟩
      unfold persM
      rw [if_pos (show 0 ≤ (q : Int) ∧ (q : Int) ≤ σ.2.1 85 5 - 1 by omega), show (8 + (q : Int)).toNat = 8 + q by omega, show (4 + (q : Int)).toNat = 4 + q by omega, show (12 + (q : Int)).toNat = 12 + q by omega]
      first | rw [if_pos (show w = 0 by omega)] | rw [if_neg (show ¬ w = 0 by omega), if_pos (show w = 1 by omega)] | rw [if_neg (show ¬ w = 0 by omega), if_neg (show ¬ w = 1 by omega), if_pos (show w = 2 by omega)] | rw [if_neg (show ¬ w = 0 by omega), if_neg (show ¬ w = 1 by omega), if_neg (show ¬ w = 2 by omega), if_pos (show w = 3 by omega)] | rw [if_neg (show ¬ w = 0 by omega), if_neg (show ¬ w = 1 by omega), if_neg (show ¬ w = 2 by omega), if_neg (show ¬ w = 3 by omega), if_pos (show w = 4 by omega)] | rw [if_neg (show ¬ w = 0 by omega), if_neg (show ¬ w = 1 by omega), if_neg (show ¬ w = 2 by omega), if_neg (show ¬ w = 3 by omega), if_neg (show ¬ w = 4 by omega), if_pos (show w = 5 by omega)] | rw [if_neg (show ¬ w = 0 by omega), if_neg (show ¬ w = 1 by omega), if_neg (show ¬ w = 2 by omega), if_neg (show ¬ w = 3 by omega), if_neg (show ¬ w = 4 by omega), if_neg (show ¬ w = 5 by omega), if_pos (show w = 6 by omega)] | rw [if_neg (show ¬ w = 0 by omega), if_neg (show ¬ w = 1 by omega), if_neg (show ¬ w = 2 by omega), if_neg (show ¬ w = 3 by omega), if_neg (show ¬ w = 4 by omega), if_neg (show ¬ w = 5 by omega), if_neg (show ¬ w = 6 by omega)]
    · refine am_tableIn (t := 62) (off := 51) (by omega) (by omega) (by rw [e11]; rfl) dsw_X9_person_11 (by decide) ?_
      refine am_aload_n (q := 63) rfl (am_tab tk_X9_person 14 rfl) rfl ?_
      refine am_getR (q := 66) (a := 0) (k := 9) (n := 17) (j := 2) (r := some (3)) (Ls_0 hL) (by decide) rfl hC.t (by decide) (Or.inl kf_X9_19) (am_tab tk_X9_person 15 rfl) rfl ?_
      refine am_getR (q := 69) (a := 3) (k := 8) (n := 17) (j := 10) (r := some (6)) (Ls_3 hL) (by decide) rfl (Lr_3_10 hL) (by decide) (Or.inr kf_X9_176) (am_tab tk_X9_person 16 rfl) rfl ?_
      refine am_iload_n (q := 70) rfl (am_tab tk_X9_person 17 rfl) rfl ?_
      refine am_iald (q := 71) (a := 6) (n := 8) (x := (σ.2.1 88 (8 + q))) (Ls_6 hL) (by omega) (by omega) (by rw [show Int.toNat (q : Int) = q by omega]; exact hC.W.asks q hqp) (am_tab tk_X9_person 18 rfl) rfl ?_
      refine am_iret (Or.inl rfl) (Nat.le_of_ble_eq_true rfl) (Nat.le_of_ble_eq_true rfl) (am_tab tk_X9_person 19 rfl) ?_
      refine hQ _ _ ?_
      refine ⟨congrArg (fun z => some (am_i z)) ?_, rfl⟩
      unfold persM
      rw [if_pos (show 0 ≤ (q : Int) ∧ (q : Int) ≤ σ.2.1 85 5 - 1 by omega), show (8 + (q : Int)).toNat = 8 + q by omega, show (4 + (q : Int)).toNat = 4 + q by omega, show (12 + (q : Int)).toNat = 12 + q by omega]
      first | rw [if_pos (show w = 0 by omega)] | rw [if_neg (show ¬ w = 0 by omega), if_pos (show w = 1 by omega)] | rw [if_neg (show ¬ w = 0 by omega), if_neg (show ¬ w = 1 by omega), if_pos (show w = 2 by omega)] | rw [if_neg (show ¬ w = 0 by omega), if_neg (show ¬ w = 1 by omega), if_neg (show ¬ w = 2 by omega), if_pos (show w = 3 by omega)] | rw [if_neg (show ¬ w = 0 by omega), if_neg (show ¬ w = 1 by omega), if_neg (show ¬ w = 2 by omega), if_neg (show ¬ w = 3 by omega), if_pos (show w = 4 by omega)] | rw [if_neg (show ¬ w = 0 by omega), if_neg (show ¬ w = 1 by omega), if_neg (show ¬ w = 2 by omega), if_neg (show ¬ w = 3 by omega), if_neg (show ¬ w = 4 by omega), if_pos (show w = 5 by omega)] | rw [if_neg (show ¬ w = 0 by omega), if_neg (show ¬ w = 1 by omega), if_neg (show ¬ w = 2 by omega), if_neg (show ¬ w = 3 by omega), if_neg (show ¬ w = 4 by omega), if_neg (show ¬ w = 5 by omega), if_pos (show w = 6 by omega)] | rw [if_neg (show ¬ w = 0 by omega), if_neg (show ¬ w = 1 by omega), if_neg (show ¬ w = 2 by omega), if_neg (show ¬ w = 3 by omega), if_neg (show ¬ w = 4 by omega), if_neg (show ¬ w = 5 by omega), if_neg (show ¬ w = 6 by omega)]
    · refine am_tableIn (t := 72) (off := 61) (by omega) (by omega) (by rw [e11]; rfl) dsw_X9_person_11 (by decide) ?_
      refine am_aload_n (q := 73) rfl (am_tab tk_X9_person 20 rfl) rfl ?_
      refine am_getR (q := 76) (a := 0) (k := 9) (n := 17) (j := 4) (r := some (32)) (Ls_0 hL) (by decide) rfl (Lr_0_4 hL) (by decide) (Or.inl kf_X9_38) (am_tab tk_X9_person 21 rfl) rfl ?_
      refine am_getR (q := 79) (a := 32) (k := 1) (n := 11) (j := 5) (r := some (33)) (Ls_32 hL) (by decide) rfl (Lr_32_5 hL) (by decide) (Or.inr kf_X9_179) (am_tab tk_X9_person 22 rfl) rfl ?_
      refine am_iload_n (q := 80) rfl (am_tab tk_X9_person 23 rfl) rfl ?_
      refine am_iald (q := 81) (a := 33) (n := 8) (x := (σ.2.1 96 (4 + q))) (Ls_33 hL) (by omega) (by omega) (by rw [show Int.toNat (q : Int) = q by omega]; exact hC.F.2.2.2.1 q (by omega)) (am_tab tk_X9_person 24 rfl) rfl ?_
      refine am_iret (Or.inl rfl) (Nat.le_of_ble_eq_true rfl) (Nat.le_of_ble_eq_true rfl) (am_tab tk_X9_person 25 rfl) ?_
      refine hQ _ _ ?_
      refine ⟨congrArg (fun z => some (am_i z)) ?_, rfl⟩
      unfold persM
      rw [if_pos (show 0 ≤ (q : Int) ∧ (q : Int) ≤ σ.2.1 85 5 - 1 by omega), show (8 + (q : Int)).toNat = 8 + q by omega, show (4 + (q : Int)).toNat = 4 + q by omega, show (12 + (q : Int)).toNat = 12 + q by omega]
      first | rw [if_pos (show w = 0 by omega)] | rw [if_neg (show ¬ w = 0 by omega), if_pos (show w = 1 by omega)] | rw [if_neg (show ¬ w = 0 by omega), if_neg (show ¬ w = 1 by omega), if_pos (show w = 2 by omega)] | rw [if_neg (show ¬ w = 0 by omega), if_neg (show ¬ w = 1 by omega), if_neg (show ¬ w = 2 by omega), if_pos (show w = 3 by omega)] | rw [if_neg (show ¬ w = 0 by omega), if_neg (show ¬ w = 1 by omega), if_neg (show ¬ w = 2 by omega), if_neg (show ¬ w = 3 by omega), if_pos (show w = 4 by omega)] | rw [if_neg (show ¬ w = 0 by omega), if_neg (show ¬ w = 1 by omega), if_neg (show ¬ w = 2 by omega), if_neg (show ¬ w = 3 by omega), if_neg (show ¬ w = 4 by omega), if_pos (show w = 5 by omega)] | rw [if_neg (show ¬ w = 0 by omega), if_neg (show ¬ w = 1 by omega), if_neg (show ¬ w = 2 by omega), if_neg (show ¬ w = 3 by omega), if_neg (show ¬ w = 4 by omega), if_neg (show ¬ w = 5 by omega), if_pos (show w = 6 by omega)] | rw [if_neg (show ¬ w = 0 by omega), if_neg (show ¬ w = 1 by omega), if_neg (show ¬ w = 2 by omega), if_neg (show ¬ w = 3 by omega), if_neg (show ¬ w = 4 by omega), if_neg (show ¬ w = 5 by omega), if_neg (show ¬ w = 6 by omega)]
    · refine am_tableIn (t := 82) (off := 71) (by omega) (by omega) (by rw [e11]; rfl) dsw_X9_person_11 (by decide) ?_
      refine am_aload_n (q := 83) rfl (am_tab tk_X9_person 26 rfl) rfl ?_
      refine am_getR (q := 86) (a := 0) (k := 9) (n := 17) (j := 4) (r := some (32)) (Ls_0 hL) (by decide) rfl (Lr_0_4 hL) (by decide) (Or.inl kf_X9_38) (am_tab tk_X9_person 27 rfl) rfl ?_
      refine am_getI (q := 89) (a := 32) (k := 1) (n := 11) (j := 4) (x := (σ.2.1 32 4)) (Ls_32 hL) (by decide) rfl rfl (by decide) (Or.inr kf_X9_182) (am_tab tk_X9_person 28 rfl) rfl ?_
      refine am_iload_n (q := 90) rfl (am_tab tk_X9_person 29 rfl) rfl ?_
      refine am_callSr (q := 93) (me2 := M_X9_bit) (As := [am_i ((σ.2.1 32 4)), am_i ((q : Int))]) (rest := []) (c_bit σ (σ.2.1 32 4) (q : Int) hC.F.2.1 (by omega)) ⟨rfl, rfl⟩ ⟨Or.inl km_X9_185, kc_X9_bit, kn_X9, kd_X9_bit, ⟨(Nat.le_of_ble_eq_true rfl), (Nat.le_of_ble_eq_true rfl)⟩, ⟨(Nat.le_of_ble_eq_true rfl), (Nat.le_of_ble_eq_true rfl)⟩, (Nat.le_of_ble_eq_true rfl)⟩ ki_X9_bit rfl (am_tab tk_X9_person 30 rfl) rfl ?_
      rintro r τ ⟨hr9, hτ⟩
      rw [show tb (σ.2.1 32 4) (q : Int) = σ.2.1 96 (12 + q) from hC.F.2.2.1 q (by omega)] at hr9
      rw [hr9, hτ]
      refine am_st (st2 := [am_i ((σ.2.1 96 (12 + q)))]) rfl ?_
      refine am_iret (Or.inl rfl) (Nat.le_of_ble_eq_true rfl) (Nat.le_of_ble_eq_true rfl) (am_tab tk_X9_person 31 rfl) ?_
      refine hQ _ _ ?_
      refine ⟨congrArg (fun z => some (am_i z)) ?_, rfl⟩
      unfold persM
      rw [if_pos (show 0 ≤ (q : Int) ∧ (q : Int) ≤ σ.2.1 85 5 - 1 by omega), show (8 + (q : Int)).toNat = 8 + q by omega, show (4 + (q : Int)).toNat = 4 + q by omega, show (12 + (q : Int)).toNat = 12 + q by omega]
      first | rw [if_pos (show w = 0 by omega)] | rw [if_neg (show ¬ w = 0 by omega), if_pos (show w = 1 by omega)] | rw [if_neg (show ¬ w = 0 by omega), if_neg (show ¬ w = 1 by omega), if_pos (show w = 2 by omega)] | rw [if_neg (show ¬ w = 0 by omega), if_neg (show ¬ w = 1 by omega), if_neg (show ¬ w = 2 by omega), if_pos (show w = 3 by omega)] | rw [if_neg (show ¬ w = 0 by omega), if_neg (show ¬ w = 1 by omega), if_neg (show ¬ w = 2 by omega), if_neg (show ¬ w = 3 by omega), if_pos (show w = 4 by omega)] | rw [if_neg (show ¬ w = 0 by omega), if_neg (show ¬ w = 1 by omega), if_neg (show ¬ w = 2 by omega), if_neg (show ¬ w = 3 by omega), if_neg (show ¬ w = 4 by omega), if_pos (show w = 5 by omega)] | rw [if_neg (show ¬ w = 0 by omega), if_neg (show ¬ w = 1 by omega), if_neg (show ¬ w = 2 by omega), if_neg (show ¬ w = 3 by omega), if_neg (show ¬ w = 4 by omega), if_neg (show ¬ w = 5 by omega), if_pos (show w = 6 by omega)] | rw [if_neg (show ¬ w = 0 by omega), if_neg (show ¬ w = 1 by omega), if_neg (show ¬ w = 2 by omega), if_neg (show ¬ w = 3 by omega), if_neg (show ¬ w = 4 by omega), if_neg (show ¬ w = 5 by omega), if_neg (show ¬ w = 6 by omega)]
    · refine am_tableIn (t := 94) (off := 83) (by omega) (by omega) (by rw [e11]; rfl) dsw_X9_person_11 (by decide) ?_
      refine am_aload_n (q := 95) rfl (am_tab tk_X9_person 32 rfl) rfl ?_
      refine am_getR (q := 98) (a := 0) (k := 9) (n := 17) (j := 2) (r := some (3)) (Ls_0 hL) (by decide) rfl hC.t (by decide) (Or.inl kf_X9_19) (am_tab tk_X9_person 33 rfl) rfl ?_
      refine am_getR (q := 101) (a := 3) (k := 8) (n := 17) (j := 11) (r := some (7)) (Ls_3 hL) (by decide) rfl (Lr_3_11 hL) (by decide) (Or.inr kf_X9_189) (am_tab tk_X9_person 34 rfl) rfl ?_
      refine am_iload_n (q := 102) rfl (am_tab tk_X9_person 35 rfl) rfl ?_
      refine am_iald (q := 103) (a := 7) (n := 8) (x := (σ.2.1 89 (8 + q))) (Ls_7 hL) (by omega) (by omega) (by rw [show Int.toNat (q : Int) = q by omega]; exact hC.W.rems q hqp) (am_tab tk_X9_person 36 rfl) rfl ?_
      refine am_iret (Or.inl rfl) (Nat.le_of_ble_eq_true rfl) (Nat.le_of_ble_eq_true rfl) (am_tab tk_X9_person 37 rfl) ?_
      refine hQ _ _ ?_
      refine ⟨congrArg (fun z => some (am_i z)) ?_, rfl⟩
      unfold persM
      rw [if_pos (show 0 ≤ (q : Int) ∧ (q : Int) ≤ σ.2.1 85 5 - 1 by omega), show (8 + (q : Int)).toNat = 8 + q by omega, show (4 + (q : Int)).toNat = 4 + q by omega, show (12 + (q : Int)).toNat = 12 + q by omega]
      first | rw [if_pos (show w = 0 by omega)] | rw [if_neg (show ¬ w = 0 by omega), if_pos (show w = 1 by omega)] | rw [if_neg (show ¬ w = 0 by omega), if_neg (show ¬ w = 1 by omega), if_pos (show w = 2 by omega)] | rw [if_neg (show ¬ w = 0 by omega), if_neg (show ¬ w = 1 by omega), if_neg (show ¬ w = 2 by omega), if_pos (show w = 3 by omega)] | rw [if_neg (show ¬ w = 0 by omega), if_neg (show ¬ w = 1 by omega), if_neg (show ¬ w = 2 by omega), if_neg (show ¬ w = 3 by omega), if_pos (show w = 4 by omega)] | rw [if_neg (show ¬ w = 0 by omega), if_neg (show ¬ w = 1 by omega), if_neg (show ¬ w = 2 by omega), if_neg (show ¬ w = 3 by omega), if_neg (show ¬ w = 4 by omega), if_pos (show w = 5 by omega)] | rw [if_neg (show ¬ w = 0 by omega), if_neg (show ¬ w = 1 by omega), if_neg (show ¬ w = 2 by omega), if_neg (show ¬ w = 3 by omega), if_neg (show ¬ w = 4 by omega), if_neg (show ¬ w = 5 by omega), if_pos (show w = 6 by omega)] | rw [if_neg (show ¬ w = 0 by omega), if_neg (show ¬ w = 1 by omega), if_neg (show ¬ w = 2 by omega), if_neg (show ¬ w = 3 by omega), if_neg (show ¬ w = 4 by omega), if_neg (show ¬ w = 5 by omega), if_neg (show ¬ w = 6 by omega)]
    · refine am_tableIn (t := 104) (off := 93) (by omega) (by omega) (by rw [e11]; rfl) dsw_X9_person_11 (by decide) ?_
      refine am_aload_n (q := 105) rfl (am_tab tk_X9_person 38 rfl) rfl ?_
      refine am_getR (q := 108) (a := 0) (k := 9) (n := 17) (j := 2) (r := some (3)) (Ls_0 hL) (by decide) rfl hC.t (by decide) (Or.inl kf_X9_19) (am_tab tk_X9_person 39 rfl) rfl ?_
      refine am_getR (q := 111) (a := 3) (k := 8) (n := 17) (j := 12) (r := some (8)) (Ls_3 hL) (by decide) rfl (Lr_3_12 hL) (by decide) (Or.inr kf_X9_192) (am_tab tk_X9_person 40 rfl) rfl ?_
      refine am_iload_n (q := 112) rfl (am_tab tk_X9_person 41 rfl) rfl ?_
      refine am_iald (q := 113) (a := 8) (n := 8) (x := (mkS (fun r => decide (tb (σ.2.1 89 (8 + r)) (q : Int) = 1)) (pN σ))) (Ls_8 hL) (by omega) (by omega) (by rw [show Int.toNat (q : Int) = q by omega]; exact hrb) (am_tab tk_X9_person 42 rfl) rfl ?_
      refine am_iret (Or.inl rfl) (Nat.le_of_ble_eq_true rfl) (Nat.le_of_ble_eq_true rfl) (am_tab tk_X9_person 43 rfl) ?_
      refine hQ _ _ ?_
      refine ⟨congrArg (fun z => some (am_i z)) ?_, rfl⟩
      unfold persM
      rw [if_pos (show 0 ≤ (q : Int) ∧ (q : Int) ≤ σ.2.1 85 5 - 1 by omega), show (8 + (q : Int)).toNat = 8 + q by omega, show (4 + (q : Int)).toNat = 4 + q by omega, show (12 + (q : Int)).toNat = 12 + q by omega]
      first | rw [if_pos (show w = 0 by omega)] | rw [if_neg (show ¬ w = 0 by omega), if_pos (show w = 1 by omega)] | rw [if_neg (show ¬ w = 0 by omega), if_neg (show ¬ w = 1 by omega), if_pos (show w = 2 by omega)] | rw [if_neg (show ¬ w = 0 by omega), if_neg (show ¬ w = 1 by omega), if_neg (show ¬ w = 2 by omega), if_pos (show w = 3 by omega)] | rw [if_neg (show ¬ w = 0 by omega), if_neg (show ¬ w = 1 by omega), if_neg (show ¬ w = 2 by omega), if_neg (show ¬ w = 3 by omega), if_pos (show w = 4 by omega)] | rw [if_neg (show ¬ w = 0 by omega), if_neg (show ¬ w = 1 by omega), if_neg (show ¬ w = 2 by omega), if_neg (show ¬ w = 3 by omega), if_neg (show ¬ w = 4 by omega), if_pos (show w = 5 by omega)] | rw [if_neg (show ¬ w = 0 by omega), if_neg (show ¬ w = 1 by omega), if_neg (show ¬ w = 2 by omega), if_neg (show ¬ w = 3 by omega), if_neg (show ¬ w = 4 by omega), if_neg (show ¬ w = 5 by omega), if_pos (show w = 6 by omega)] | rw [if_neg (show ¬ w = 0 by omega), if_neg (show ¬ w = 1 by omega), if_neg (show ¬ w = 2 by omega), if_neg (show ¬ w = 3 by omega), if_neg (show ¬ w = 4 by omega), if_neg (show ¬ w = 5 by omega), if_neg (show ¬ w = 6 by omega)]
    · refine am_tableIn (t := 114) (off := 103) (by omega) (by omega) (by rw [e11]; rfl) dsw_X9_person_11 (by decide) ?_
      refine am_aload_n (q := 115) rfl (am_tab tk_X9_person 44 rfl) rfl ?_
      refine am_iload_n (q := 116) rfl (am_tab tk_X9_person 45 rfl) rfl ?_
      refine am_callV0 (q := 119) (me2 := M_X9_daysToldOff) (b := 0) (kb := 9) (nb := 17) (As := [am_i ((q : Int))]) (rest := []) (out := [am_i (sumN (fun d => tb (σ.2.1 96 (21 + d)) (q : Int)) 90)]) (c_daysToldOff_3 σ hC q (by omega) hZ) ⟨rfl, rfl⟩ (Ls_0 hL) (by decide) ⟨Or.inl km_X9_195, kc_X9_daysToldOff, kn_X9, kd_X9_daysToldOff, ⟨(Nat.le_of_ble_eq_true rfl), (Nat.le_of_ble_eq_true rfl)⟩, ⟨(Nat.le_of_ble_eq_true rfl), (Nat.le_of_ble_eq_true rfl)⟩, (Nat.le_of_ble_eq_true rfl)⟩ ki_X9_daysToldOff ks_X9_daysToldOff rfl rfl (am_tab tk_X9_person 46 rfl) rfl ?_
      refine am_iret (Or.inl rfl) (Nat.le_of_ble_eq_true rfl) (Nat.le_of_ble_eq_true rfl) (am_tab tk_X9_person 47 rfl) ?_
      refine hQ _ _ ?_
      refine ⟨congrArg (fun z => some (am_i z)) ?_, rfl⟩
      unfold persM
      rw [if_pos (show 0 ≤ (q : Int) ∧ (q : Int) ≤ σ.2.1 85 5 - 1 by omega), show (8 + (q : Int)).toNat = 8 + q by omega, show (4 + (q : Int)).toNat = 4 + q by omega, show (12 + (q : Int)).toNat = 12 + q by omega]
      first | rw [if_pos (show w = 0 by omega)] | rw [if_neg (show ¬ w = 0 by omega), if_pos (show w = 1 by omega)] | rw [if_neg (show ¬ w = 0 by omega), if_neg (show ¬ w = 1 by omega), if_pos (show w = 2 by omega)] | rw [if_neg (show ¬ w = 0 by omega), if_neg (show ¬ w = 1 by omega), if_neg (show ¬ w = 2 by omega), if_pos (show w = 3 by omega)] | rw [if_neg (show ¬ w = 0 by omega), if_neg (show ¬ w = 1 by omega), if_neg (show ¬ w = 2 by omega), if_neg (show ¬ w = 3 by omega), if_pos (show w = 4 by omega)] | rw [if_neg (show ¬ w = 0 by omega), if_neg (show ¬ w = 1 by omega), if_neg (show ¬ w = 2 by omega), if_neg (show ¬ w = 3 by omega), if_neg (show ¬ w = 4 by omega), if_pos (show w = 5 by omega)] | rw [if_neg (show ¬ w = 0 by omega), if_neg (show ¬ w = 1 by omega), if_neg (show ¬ w = 2 by omega), if_neg (show ¬ w = 3 by omega), if_neg (show ¬ w = 4 by omega), if_neg (show ¬ w = 5 by omega), if_pos (show w = 6 by omega)] | rw [if_neg (show ¬ w = 0 by omega), if_neg (show ¬ w = 1 by omega), if_neg (show ¬ w = 2 by omega), if_neg (show ¬ w = 3 by omega), if_neg (show ¬ w = 4 by omega), if_neg (show ¬ w = 5 by omega), if_neg (show ¬ w = 6 by omega)]
    · refine am_tableOut (t := 120) e11 dsw_X9_person_11 (by decide) ?_
      refine am_iconst (q := 121) (n := (-1)) (by decide) (am_tab tk_X9_person 48 rfl) rfl ?_
      refine am_iret (Or.inl rfl) (Nat.le_of_ble_eq_true rfl) (Nat.le_of_ble_eq_true rfl) (am_tab tk_X9_person 49 rfl) ?_
      refine hQ _ _ ?_
      refine ⟨congrArg (fun z => some (am_i z)) ?_, rfl⟩
      unfold persM
      rw [if_pos (show 0 ≤ (q : Int) ∧ (q : Int) ≤ σ.2.1 85 5 - 1 by omega), show (8 + (q : Int)).toNat = 8 + q by omega, show (4 + (q : Int)).toNat = 4 + q by omega, show (12 + (q : Int)).toNat = 12 + q by omega]
      first | rw [if_pos (show w = 0 by omega)] | rw [if_neg (show ¬ w = 0 by omega), if_pos (show w = 1 by omega)] | rw [if_neg (show ¬ w = 0 by omega), if_neg (show ¬ w = 1 by omega), if_pos (show w = 2 by omega)] | rw [if_neg (show ¬ w = 0 by omega), if_neg (show ¬ w = 1 by omega), if_neg (show ¬ w = 2 by omega), if_pos (show w = 3 by omega)] | rw [if_neg (show ¬ w = 0 by omega), if_neg (show ¬ w = 1 by omega), if_neg (show ¬ w = 2 by omega), if_neg (show ¬ w = 3 by omega), if_pos (show w = 4 by omega)] | rw [if_neg (show ¬ w = 0 by omega), if_neg (show ¬ w = 1 by omega), if_neg (show ¬ w = 2 by omega), if_neg (show ¬ w = 3 by omega), if_neg (show ¬ w = 4 by omega), if_pos (show w = 5 by omega)] | rw [if_neg (show ¬ w = 0 by omega), if_neg (show ¬ w = 1 by omega), if_neg (show ¬ w = 2 by omega), if_neg (show ¬ w = 3 by omega), if_neg (show ¬ w = 4 by omega), if_neg (show ¬ w = 5 by omega), if_pos (show w = 6 by omega)] | rw [if_neg (show ¬ w = 0 by omega), if_neg (show ¬ w = 1 by omega), if_neg (show ¬ w = 2 by omega), if_neg (show ¬ w = 3 by omega), if_neg (show ¬ w = 4 by omega), if_neg (show ¬ w = 5 by omega), if_neg (show ¬ w = 6 by omega)]
  · replace h5 := b01z h5
    refine am_iconst (q := 9) (n := (-1)) (by decide) (am_tab tk_X9_person 4 rfl) rfl ?_
    refine am_iret (Or.inl rfl) (Nat.le_of_ble_eq_true rfl) (Nat.le_of_ble_eq_true rfl) (am_tab tk_X9_person 5 rfl) ?_
    refine hQ _ _ ?_
    refine ⟨congrArg (fun z => some (am_i z)) ?_, rfl⟩
    unfold persM
    rw [if_neg (by omega)]
theorem c_has_15 (σ : am_H) (hC : CI 15 σ) (n : Int) (hZ : ZR (σ.2.1 85 9) (fun j => σ.2.1 96 j)) (hR : RWr 32 σ (fun j => σ.2.1 96 j)) (hS : SNC σ) (hU : σ.2.1 42 2 = σ.2.1 55 69) : am_met M_X9_has [am_r 0, am_i n] σ (fun r σ' => r = some (am_i (hasM σ n)) ∧ σ' = σ) := by
  refine am_qq (fun Q hQ => ?_)
  refine am_enter (show plainFor yX9_has = true by decide +kernel) rfl (Nat.le_of_ble_eq_true rfl) (fun _ _ _ => trivial) ?_
  have hL := hC.G.L
  refine am_iload_n (q := 1) rfl (am_tab tk_X9_has 0 rfl) rfl ?_
  rcases (show n = 0 ∨ n = 1 ∨ n = 2 ∨ n = 3 ∨ n = 4 ∨ n = 5 ∨ n = 6 ∨ n = 7 ∨ n = 8 ∨ n = 9 ∨ n = 10 ∨ n = 11 ∨ (n < 0 ∨ 11 < n) by omega) with e1 | e1 | e1 | e1 | e1 | e1 | e1 | e1 | e1 | e1 | e1 | e1 | e1
  · refine am_tableIn (t := 64) (off := 63) (by omega) (by omega) (by rw [e1]; rfl) dsw_X9_has_1 (by decide) ?_
    refine am_aload_n (q := 65) rfl (am_tab tk_X9_has 2 rfl) rfl ?_
    refine am_getR (q := 68) (a := 0) (k := 9) (n := 17) (j := 2) (r := some (15)) (Ls_0 hL) (by decide) rfl hC.t (by decide) (Or.inl kf_X9_19) (am_tab tk_X9_has 3 rfl) rfl ?_
    refine am_getI (q := 71) (a := 15) (k := 8) (n := 17) (j := 0) (x := (σ.2.1 85 9)) (Ls_15 hL) (by decide) rfl hC.W.days (by decide) (Or.inr kf_X9_123) (am_tab tk_X9_has 4 rfl) rfl ?_
    refine am_iret (Or.inl rfl) (Nat.le_of_ble_eq_true rfl) (Nat.le_of_ble_eq_true rfl) (am_tab tk_X9_has 5 rfl) ?_
    refine hQ _ _ ?_
    refine ⟨congrArg (fun z => some (am_i z)) ?_, rfl⟩
    unfold hasM
    first | (rw [if_pos (by omega)]; done) | (rw [if_neg (by omega), if_pos (by omega)]; done) | (rw [if_neg (by omega), if_neg (by omega), if_pos (by omega)]; done) | (rw [if_neg (by omega), if_neg (by omega), if_neg (by omega), if_pos (by omega)]; done) | (rw [if_neg (by omega), if_neg (by omega), if_neg (by omega), if_neg (by omega), if_pos (by omega)]; done) | (rw [if_neg (by omega), if_neg (by omega), if_neg (by omega), if_neg (by omega), if_neg (by omega), if_pos (by omega)]; done) | (rw [if_neg (by omega), if_neg (by omega), if_neg (by omega), if_neg (by omega), if_neg (by omega), if_neg (by omega), if_pos (by omega)]; done) | (rw [if_neg (by omega), if_neg (by omega), if_neg (by omega), if_neg (by omega), if_neg (by omega), if_neg (by omega), if_neg (by omega), if_pos (by omega)]; done) | (rw [if_neg (by omega), if_neg (by omega), if_neg (by omega), if_neg (by omega), if_neg (by omega), if_neg (by omega), if_neg (by omega), if_neg (by omega), if_pos (by omega)]; done) | (rw [if_neg (by omega), if_neg (by omega), if_neg (by omega), if_neg (by omega), if_neg (by omega), if_neg (by omega), if_neg (by omega), if_neg (by omega), if_neg (by omega), if_pos (by omega)]; done) | (rw [if_neg (by omega), if_neg (by omega), if_neg (by omega), if_neg (by omega), if_neg (by omega), if_neg (by omega), if_neg (by omega), if_neg (by omega), if_neg (by omega), if_neg (by omega), if_pos (by omega)]; done) | (rw [if_neg (by omega), if_neg (by omega), if_neg (by omega), if_neg (by omega), if_neg (by omega), if_neg (by omega), if_neg (by omega), if_neg (by omega), if_neg (by omega), if_neg (by omega), if_neg (by omega), if_pos (by omega)]; done) | (rw [if_neg (by omega), if_neg (by omega), if_neg (by omega), if_neg (by omega), if_neg (by omega), if_neg (by omega), if_neg (by omega), if_neg (by omega), if_neg (by omega), if_neg (by omega), if_neg (by omega), if_neg (by omega)]; done)
  · refine am_tableIn (t := 72) (off := 71) (by omega) (by omega) (by rw [e1]; rfl) dsw_X9_has_1 (by decide) ?_
    refine am_aload_n (q := 73) rfl (am_tab tk_X9_has 6 rfl) rfl ?_
    refine am_getR (q := 76) (a := 0) (k := 9) (n := 17) (j := 2) (r := some (15)) (Ls_0 hL) (by decide) rfl hC.t (by decide) (Or.inl kf_X9_19) (am_tab tk_X9_has 7 rfl) rfl ?_
    refine am_getI (q := 79) (a := 15) (k := 8) (n := 17) (j := 2) (x := (σ.2.1 85 5)) (Ls_15 hL) (by decide) rfl hC.W.people (by decide) (Or.inr kf_X9_126) (am_tab tk_X9_has 8 rfl) rfl ?_
    refine am_iret (Or.inl rfl) (Nat.le_of_ble_eq_true rfl) (Nat.le_of_ble_eq_true rfl) (am_tab tk_X9_has 9 rfl) ?_
    refine hQ _ _ ?_
    refine ⟨congrArg (fun z => some (am_i z)) ?_, rfl⟩
    unfold hasM
    first | (rw [if_pos (by omega)]; done) | (rw [if_neg (by omega), if_pos (by omega)]; done) | (rw [if_neg (by omega), if_neg (by omega), if_pos (by omega)]; done) | (rw [if_neg (by omega), if_neg (by omega), if_neg (by omega), if_pos (by omega)]; done) | (rw [if_neg (by omega), if_neg (by omega), if_neg (by omega), if_neg (by omega), if_pos (by omega)]; done) | (rw [if_neg (by omega), if_neg (by omega), if_neg (by omega), if_neg (by omega), if_neg (by omega), if_pos (by omega)]; done) | (rw [if_neg (by omega), if_neg (by omega), if_neg (by omega), if_neg (by omega), if_neg (by omega), if_neg (by omega), if_pos (by omega)]; done) | (rw [if_neg (by omega), if_neg (by omega), if_neg (by omega), if_neg (by omega), if_neg (by omega), if_neg (by omega), if_neg (by omega), if_pos (by omega)]; done) | (rw [if_neg (by omega), if_neg (by omega), if_neg (by omega), if_neg (by omega), if_neg (by omega), if_neg (by omega), if_neg (by omega), if_neg (by omega), if_pos (by omega)]; done) | (rw [if_neg (by omega), if_neg (by omega), if_neg (by omega), if_neg (by omega), if_neg (by omega), if_neg (by omega), if_neg (by omega), if_neg (by omega), if_neg (by omega), if_pos (by omega)]; done) | (rw [if_neg (by omega), if_neg (by omega), if_neg (by omega), if_neg (by omega), if_neg (by omega), if_neg (by omega), if_neg (by omega), if_neg (by omega), if_neg (by omega), if_neg (by omega), if_pos (by omega)]; done) | (rw [if_neg (by omega), if_neg (by omega), if_neg (by omega), if_neg (by omega), if_neg (by omega), if_neg (by omega), if_neg (by omega), if_neg (by omega), if_neg (by omega), if_neg (by omega), if_neg (by omega), if_pos (by omega)]; done) | (rw [if_neg (by omega), if_neg (by omega), if_neg (by omega), if_neg (by omega), if_neg (by omega), if_neg (by omega), if_neg (by omega), if_neg (by omega), if_neg (by omega), if_neg (by omega), if_neg (by omega), if_neg (by omega)]; done)
  · refine am_tableIn (t := 80) (off := 79) (by omega) (by omega) (by rw [e1]; rfl) dsw_X9_has_1 (by decide) ?_
    refine am_aload_n (q := 81) rfl (am_tab tk_X9_has 10 rfl) rfl ?_
    refine am_callVr (q := 84) (me2 := M_X9_living) (b := 0) (kb := 9) (nb := 17) (As := []) (rest := []) (c_living_15 σ hC) ⟨rfl, rfl⟩ (Ls_0 hL) (by decide) ⟨Or.inl km_X9_129, kc_X9_living, kn_X9, kd_X9_living, ⟨(Nat.le_of_ble_eq_true rfl), (Nat.le_of_ble_eq_true rfl)⟩, ⟨(Nat.le_of_ble_eq_true rfl), (Nat.le_of_ble_eq_true rfl)⟩, (Nat.le_of_ble_eq_true rfl)⟩ ki_X9_living ks_X9_living rfl (am_tab tk_X9_has 11 rfl) rfl ?_
    rintro r τ ⟨hr9, hτ⟩
    rw [liv_eq hC.G hC.F] at hr9
    rw [hr9, hτ]
    refine am_st (st2 := [am_i (lvM σ)]) rfl ?_
    refine am_callS0 (q := 87) (me2 := M_J6_bitCount_0f7a4) (As := [am_i (lvM σ)]) (rest := []) (out := [am_i (bc (lvM σ))]) (c_bc σ (lvM σ) (lvM_rng hC.G.R)) ⟨rfl, rfl⟩ ⟨Or.inl km_X9_133, kc_J6_bitCount_0f7a4, kn_J6, kd_J6_bitCount_0f7a4, ⟨(Nat.le_of_ble_eq_true rfl), (Nat.le_of_ble_eq_true rfl)⟩, ⟨(Nat.le_of_ble_eq_true rfl), (Nat.le_of_ble_eq_true rfl)⟩, (Nat.le_of_ble_eq_true rfl)⟩ ki_J6_bitCount_0f7a4 rfl rfl (am_tab tk_X9_has 12 rfl) rfl ?_
    refine am_iret (Or.inl rfl) (Nat.le_of_ble_eq_true rfl) (Nat.le_of_ble_eq_true rfl) (am_tab tk_X9_has 13 rfl) ?_
    refine hQ _ _ ?_
    refine ⟨congrArg (fun z => some (am_i z)) ?_, rfl⟩
    unfold hasM
    first | (rw [if_pos (by omega)]; done) | (rw [if_neg (by omega), if_pos (by omega)]; done) | (rw [if_neg (by omega), if_neg (by omega), if_pos (by omega)]; done) | (rw [if_neg (by omega), if_neg (by omega), if_neg (by omega), if_pos (by omega)]; done) | (rw [if_neg (by omega), if_neg (by omega), if_neg (by omega), if_neg (by omega), if_pos (by omega)]; done) | (rw [if_neg (by omega), if_neg (by omega), if_neg (by omega), if_neg (by omega), if_neg (by omega), if_pos (by omega)]; done) | (rw [if_neg (by omega), if_neg (by omega), if_neg (by omega), if_neg (by omega), if_neg (by omega), if_neg (by omega), if_pos (by omega)]; done) | (rw [if_neg (by omega), if_neg (by omega), if_neg (by omega), if_neg (by omega), if_neg (by omega), if_neg (by omega), if_neg (by omega), if_pos (by omega)]; done) | (rw [if_neg (by omega), if_neg (by omega), if_neg (by omega), if_neg (by omega), if_neg (by omega), if_neg (by omega), if_neg (by omega), if_neg (by omega), if_pos (by omega)]; done) | (rw [if_neg (by omega), if_neg (by omega), if_neg (by omega), if_neg (by omega), if_neg (by omega), if_neg (by omega), if_neg (by omega), if_neg (by omega), if_neg (by omega), if_pos (by omega)]; done) | (rw [if_neg (by omega), if_neg (by omega), if_neg (by omega), if_neg (by omega), if_neg (by omega), if_neg (by omega), if_neg (by omega), if_neg (by omega), if_neg (by omega), if_neg (by omega), if_pos (by omega)]; done) | (rw [if_neg (by omega), if_neg (by omega), if_neg (by omega), if_neg (by omega), if_neg (by omega), if_neg (by omega), if_neg (by omega), if_neg (by omega), if_neg (by omega), if_neg (by omega), if_neg (by omega), if_pos (by omega)]; done) | (rw [if_neg (by omega), if_neg (by omega), if_neg (by omega), if_neg (by omega), if_neg (by omega), if_neg (by omega), if_neg (by omega), if_neg (by omega), if_neg (by omega), if_neg (by omega), if_neg (by omega), if_neg (by omega)]; done)
  · refine am_tableIn (t := 88) (off := 87) (by omega) (by omega) (by rw [e1]; rfl) dsw_X9_has_1 (by decide) ?_
    refine am_aload_n (q := 89) rfl (am_tab tk_X9_has 14 rfl) rfl ?_
    refine am_getR (q := 92) (a := 0) (k := 9) (n := 17) (j := 4) (r := some (32)) (Ls_0 hL) (by decide) rfl (Lr_0_4 hL) (by decide) (Or.inl kf_X9_38) (am_tab tk_X9_has 15 rfl) rfl ?_
    refine am_getI (q := 95) (a := 32) (k := 1) (n := 11) (j := 0) (x := (σ.2.1 96 0)) (Ls_32 hL) (by decide) rfl hC.F.1.1 (by decide) (Or.inr kf_X9_138) (am_tab tk_X9_has 16 rfl) rfl ?_
    refine am_iret (Or.inl rfl) (Nat.le_of_ble_eq_true rfl) (Nat.le_of_ble_eq_true rfl) (am_tab tk_X9_has 17 rfl) ?_
    refine hQ _ _ ?_
    refine ⟨congrArg (fun z => some (am_i z)) ?_, rfl⟩
    unfold hasM
    first | (rw [if_pos (by omega)]; done) | (rw [if_neg (by omega), if_pos (by omega)]; done) | (rw [if_neg (by omega), if_neg (by omega), if_pos (by omega)]; done) | (rw [if_neg (by omega), if_neg (by omega), if_neg (by omega), if_pos (by omega)]; done) | (rw [if_neg (by omega), if_neg (by omega), if_neg (by omega), if_neg (by omega), if_pos (by omega)]; done) | (rw [if_neg (by omega), if_neg (by omega), if_neg (by omega), if_neg (by omega), if_neg (by omega), if_pos (by omega)]; done) | (rw [if_neg (by omega), if_neg (by omega), if_neg (by omega), if_neg (by omega), if_neg (by omega), if_neg (by omega), if_pos (by omega)]; done) | (rw [if_neg (by omega), if_neg (by omega), if_neg (by omega), if_neg (by omega), if_neg (by omega), if_neg (by omega), if_neg (by omega), if_pos (by omega)]; done) | (rw [if_neg (by omega), if_neg (by omega), if_neg (by omega), if_neg (by omega), if_neg (by omega), if_neg (by omega), if_neg (by omega), if_neg (by omega), if_pos (by omega)]; done) | (rw [if_neg (by omega), if_neg (by omega), if_neg (by omega), if_neg (by omega), if_neg (by omega), if_neg (by omega), if_neg (by omega), if_neg (by omega), if_neg (by omega), if_pos (by omega)]; done) | (rw [if_neg (by omega), if_neg (by omega), if_neg (by omega), if_neg (by omega), if_neg (by omega), if_neg (by omega), if_neg (by omega), if_neg (by omega), if_neg (by omega), if_neg (by omega), if_pos (by omega)]; done) | (rw [if_neg (by omega), if_neg (by omega), if_neg (by omega), if_neg (by omega), if_neg (by omega), if_neg (by omega), if_neg (by omega), if_neg (by omega), if_neg (by omega), if_neg (by omega), if_neg (by omega), if_pos (by omega)]; done) | (rw [if_neg (by omega), if_neg (by omega), if_neg (by omega), if_neg (by omega), if_neg (by omega), if_neg (by omega), if_neg (by omega), if_neg (by omega), if_neg (by omega), if_neg (by omega), if_neg (by omega), if_neg (by omega)]; done)
  · refine am_tableIn (t := 96) (off := 95) (by omega) (by omega) (by rw [e1]; rfl) dsw_X9_has_1 (by decide) ?_
    refine am_aload_n (q := 97) rfl (am_tab tk_X9_has 18 rfl) rfl ?_
    refine am_getR (q := 100) (a := 0) (k := 9) (n := 17) (j := 4) (r := some (32)) (Ls_0 hL) (by decide) rfl (Lr_0_4 hL) (by decide) (Or.inl kf_X9_38) (am_tab tk_X9_has 19 rfl) rfl ?_
    refine am_getI (q := 103) (a := 32) (k := 1) (n := 11) (j := 1) (x := (σ.2.1 96 1)) (Ls_32 hL) (by decide) rfl hC.F.1.2.1 (by decide) (Or.inr kf_X9_141) (am_tab tk_X9_has 20 rfl) rfl ?_
    refine am_iret (Or.inl rfl) (Nat.le_of_ble_eq_true rfl) (Nat.le_of_ble_eq_true rfl) (am_tab tk_X9_has 21 rfl) ?_
    refine hQ _ _ ?_
    refine ⟨congrArg (fun z => some (am_i z)) ?_, rfl⟩
    unfold hasM
    first | (rw [if_pos (by omega)]; done) | (rw [if_neg (by omega), if_pos (by omega)]; done) | (rw [if_neg (by omega), if_neg (by omega), if_pos (by omega)]; done) | (rw [if_neg (by omega), if_neg (by omega), if_neg (by omega), if_pos (by omega)]; done) | (rw [if_neg (by omega), if_neg (by omega), if_neg (by omega), if_neg (by omega), if_pos (by omega)]; done) | (rw [if_neg (by omega), if_neg (by omega), if_neg (by omega), if_neg (by omega), if_neg (by omega), if_pos (by omega)]; done) | (rw [if_neg (by omega), if_neg (by omega), if_neg (by omega), if_neg (by omega), if_neg (by omega), if_neg (by omega), if_pos (by omega)]; done) | (rw [if_neg (by omega), if_neg (by omega), if_neg (by omega), if_neg (by omega), if_neg (by omega), if_neg (by omega), if_neg (by omega), if_pos (by omega)]; done) | (rw [if_neg (by omega), if_neg (by omega), if_neg (by omega), if_neg (by omega), if_neg (by omega), if_neg (by omega), if_neg (by omega), if_neg (by omega), if_pos (by omega)]; done) | (rw [if_neg (by omega), if_neg (by omega), if_neg (by omega), if_neg (by omega), if_neg (by omega), if_neg (by omega), if_neg (by omega), if_neg (by omega), if_neg (by omega), if_pos (by omega)]; done) | (rw [if_neg (by omega), if_neg (by omega), if_neg (by omega), if_neg (by omega), if_neg (by omega), if_neg (by omega), if_neg (by omega), if_neg (by omega), if_neg (by omega), if_neg (by omega), if_pos (by omega)]; done) | (rw [if_neg (by omega), if_neg (by omega), if_neg (by omega), if_neg (by omega), if_neg (by omega), if_neg (by omega), if_neg (by omega), if_neg (by omega), if_neg (by omega), if_neg (by omega), if_neg (by omega), if_pos (by omega)]; done) | (rw [if_neg (by omega), if_neg (by omega), if_neg (by omega), if_neg (by omega), if_neg (by omega), if_neg (by omega), if_neg (by omega), if_neg (by omega), if_neg (by omega), if_neg (by omega), if_neg (by omega), if_neg (by omega)]; done)
  · refine am_tableIn (t := 104) (off := 103) (by omega) (by omega) (by rw [e1]; rfl) dsw_X9_has_1 (by decide) ?_
    refine am_aload_n (q := 105) rfl (am_tab tk_X9_has 22 rfl) rfl ?_
    refine am_getR (q := 108) (a := 0) (k := 9) (n := 17) (j := 4) (r := some (32)) (Ls_0 hL) (by decide) rfl (Lr_0_4 hL) (by decide) (Or.inl kf_X9_38) (am_tab tk_X9_has 23 rfl) rfl ?_
    refine am_getI (q := 111) (a := 32) (k := 1) (n := 11) (j := 2) (x := (σ.2.1 96 2)) (Ls_32 hL) (by decide) rfl hC.F.1.2.2.1 (by decide) (Or.inr kf_X9_144) (am_tab tk_X9_has 24 rfl) rfl ?_
    refine am_iret (Or.inl rfl) (Nat.le_of_ble_eq_true rfl) (Nat.le_of_ble_eq_true rfl) (am_tab tk_X9_has 25 rfl) ?_
    refine hQ _ _ ?_
    refine ⟨congrArg (fun z => some (am_i z)) ?_, rfl⟩
    unfold hasM
    first | (rw [if_pos (by omega)]; done) | (rw [if_neg (by omega), if_pos (by omega)]; done) | (rw [if_neg (by omega), if_neg (by omega), if_pos (by omega)]; done) | (rw [if_neg (by omega), if_neg (by omega), if_neg (by omega), if_pos (by omega)]; done) | (rw [if_neg (by omega), if_neg (by omega), if_neg (by omega), if_neg (by omega), if_pos (by omega)]; done) | (rw [if_neg (by omega), if_neg (by omega), if_neg (by omega), if_neg (by omega), if_neg (by omega), if_pos (by omega)]; done) | (rw [if_neg (by omega), if_neg (by omega), if_neg (by omega), if_neg (by omega), if_neg (by omega), if_neg (by omega), if_pos (by omega)]; done) | (rw [if_neg (by omega), if_neg (by omega), if_neg (by omega), if_neg (by omega), if_neg (by omega), if_neg (by omega), if_neg (by omega), if_pos (by omega)]; done) | (rw [if_neg (by omega), if_neg (by omega), if_neg (by omega), if_neg (by omega), if_neg (by omega), if_neg (by omega), if_neg (by omega), if_neg (by omega), if_pos (by omega)]; done) | (rw [if_neg (by omega), if_neg (by omega), if_neg (by omega), if_neg (by omega), if_neg (by omega), if_neg (by omega), if_neg (by omega), if_neg (by omega), if_neg (by omega), if_pos (by omega)]; done) | (rw [if_neg (by omega), if_neg (by omega), if_neg (by omega), if_neg (by omega), if_neg (by omega), if_neg (by omega), if_neg (by omega), if_neg (by omega), if_neg (by omega), if_neg (by omega), if_pos (by omega)]; done) | (rw [if_neg (by omega), if_neg (by omega), if_neg (by omega), if_neg (by omega), if_neg (by omega), if_neg (by omega), if_neg (by omega), if_neg (by omega), if_neg (by omega), if_neg (by omega), if_neg (by omega), if_pos (by omega)]; done) | (rw [if_neg (by omega), if_neg (by omega), if_neg (by omega), if_neg (by omega), if_neg (by omega), if_neg (by omega), if_neg (by omega), if_neg (by omega), if_neg (by omega), if_neg (by omega), if_neg (by omega), if_neg (by omega)]; done)
  · refine am_tableIn (t := 112) (off := 111) (by omega) (by omega) (by rw [e1]; rfl) dsw_X9_has_1 (by decide) ?_
    refine am_aload_n (q := 113) rfl (am_tab tk_X9_has 26 rfl) rfl ?_
    refine am_getR (q := 116) (a := 0) (k := 9) (n := 17) (j := 4) (r := some (32)) (Ls_0 hL) (by decide) rfl (Lr_0_4 hL) (by decide) (Or.inl kf_X9_38) (am_tab tk_X9_has 27 rfl) rfl ?_
    refine am_getR (q := 119) (a := 32) (k := 1) (n := 11) (j := 6) (r := some (34)) (Ls_32 hL) (by decide) rfl (Lr_32_6 hL) (by decide) (Or.inr kf_X9_147) (am_tab tk_X9_has 28 rfl) rfl ?_
    refine am_callSr (q := 122) (me2 := M_X9_countBits) (As := [am_r 34]) (rest := []) (c_countBits_34 σ hL (fun d hd => by rw [hC.F.2.2.2.2.1 d hd]; exact hC.G.R.told d hd)) ⟨rfl, rfl⟩ ⟨Or.inl km_X9_150, kc_X9_countBits, kn_X9, kd_X9_countBits, ⟨(Nat.le_of_ble_eq_true rfl), (Nat.le_of_ble_eq_true rfl)⟩, ⟨(Nat.le_of_ble_eq_true rfl), (Nat.le_of_ble_eq_true rfl)⟩, (Nat.le_of_ble_eq_true rfl)⟩ ki_X9_countBits rfl (am_tab tk_X9_has 29 rfl) rfl ?_
    rintro r τ ⟨hr9, hτ⟩
    rw [show sumN (fun d => bc (σ.2.1 34 d)) 91 = stM σ 20 from sumN_sh (f := fun d => bc (σ.2.1 34 d)) (by show bc (σ.2.1 34 0) = 0; rw [show σ.2.1 34 0 = 0 from (hC.F.2.2.2.2.1 0 (by decide)).trans hZ.1]; exact bc0) 90 (fun d hd => by show bc (σ.2.1 34 (d + 1)) = bc (σ.2.1 96 (20 + 1 + d)); rw [show σ.2.1 34 (d + 1) = σ.2.1 96 (20 + 1 + d) from (hC.F.2.2.2.2.1 (d + 1) (by omega)).trans (by rw [show 20 + (d + 1) = 20 + 1 + d by omega])])] at hr9
    rw [hr9, hτ]
    refine am_st (st2 := [am_i (stM σ 20)]) rfl ?_
    refine am_iret (Or.inl rfl) (Nat.le_of_ble_eq_true rfl) (Nat.le_of_ble_eq_true rfl) (am_tab tk_X9_has 30 rfl) ?_
    refine hQ _ _ ?_
    refine ⟨congrArg (fun z => some (am_i z)) ?_, rfl⟩
    unfold hasM
    first | (rw [if_pos (by omega)]; done) | (rw [if_neg (by omega), if_pos (by omega)]; done) | (rw [if_neg (by omega), if_neg (by omega), if_pos (by omega)]; done) | (rw [if_neg (by omega), if_neg (by omega), if_neg (by omega), if_pos (by omega)]; done) | (rw [if_neg (by omega), if_neg (by omega), if_neg (by omega), if_neg (by omega), if_pos (by omega)]; done) | (rw [if_neg (by omega), if_neg (by omega), if_neg (by omega), if_neg (by omega), if_neg (by omega), if_pos (by omega)]; done) | (rw [if_neg (by omega), if_neg (by omega), if_neg (by omega), if_neg (by omega), if_neg (by omega), if_neg (by omega), if_pos (by omega)]; done) | (rw [if_neg (by omega), if_neg (by omega), if_neg (by omega), if_neg (by omega), if_neg (by omega), if_neg (by omega), if_neg (by omega), if_pos (by omega)]; done) | (rw [if_neg (by omega), if_neg (by omega), if_neg (by omega), if_neg (by omega), if_neg (by omega), if_neg (by omega), if_neg (by omega), if_neg (by omega), if_pos (by omega)]; done) | (rw [if_neg (by omega), if_neg (by omega), if_neg (by omega), if_neg (by omega), if_neg (by omega), if_neg (by omega), if_neg (by omega), if_neg (by omega), if_neg (by omega), if_pos (by omega)]; done) | (rw [if_neg (by omega), if_neg (by omega), if_neg (by omega), if_neg (by omega), if_neg (by omega), if_neg (by omega), if_neg (by omega), if_neg (by omega), if_neg (by omega), if_neg (by omega), if_pos (by omega)]; done) | (rw [if_neg (by omega), if_neg (by omega), if_neg (by omega), if_neg (by omega), if_neg (by omega), if_neg (by omega), if_neg (by omega), if_neg (by omega), if_neg (by omega), if_neg (by omega), if_neg (by omega), if_pos (by omega)]; done) | (rw [if_neg (by omega), if_neg (by omega), if_neg (by omega), if_neg (by omega), if_neg (by omega), if_neg (by omega), if_neg (by omega), if_neg (by omega), if_neg (by omega), if_neg (by omega), if_neg (by omega), if_neg (by omega)]; done)
  · refine am_tableIn (t := 123) (off := 122) (by omega) (by omega) (by rw [e1]; rfl) dsw_X9_has_1 (by decide) ?_
    refine am_aload_n (q := 124) rfl (am_tab tk_X9_has 31 rfl) rfl ?_
    refine am_getR (q := 127) (a := 0) (k := 9) (n := 17) (j := 4) (r := some (32)) (Ls_0 hL) (by decide) rfl (Lr_0_4 hL) (by decide) (Or.inl kf_X9_38) (am_tab tk_X9_has 32 rfl) rfl ?_
    refine am_getR (q := 130) (a := 32) (k := 1) (n := 11) (j := 7) (r := some (35)) (Ls_32 hL) (by decide) rfl (Lr_32_7 hL) (by decide) (Or.inr kf_X9_154) (am_tab tk_X9_has 33 rfl) rfl ?_
    refine am_callSr (q := 133) (me2 := M_X9_countBits) (As := [am_r 35]) (rest := []) (c_countBits_35 σ hL (fun d hd => by rw [hC.F.2.2.2.2.2 d hd]; exact hC.G.R.brib d hd)) ⟨rfl, rfl⟩ ⟨Or.inl km_X9_150, kc_X9_countBits, kn_X9, kd_X9_countBits, ⟨(Nat.le_of_ble_eq_true rfl), (Nat.le_of_ble_eq_true rfl)⟩, ⟨(Nat.le_of_ble_eq_true rfl), (Nat.le_of_ble_eq_true rfl)⟩, (Nat.le_of_ble_eq_true rfl)⟩ ki_X9_countBits rfl (am_tab tk_X9_has 34 rfl) rfl ?_
    rintro r τ ⟨hr9, hτ⟩
    rw [show sumN (fun d => bc (σ.2.1 35 d)) 91 = stM σ 111 from sumN_sh (f := fun d => bc (σ.2.1 35 d)) (by show bc (σ.2.1 35 0) = 0; rw [show σ.2.1 35 0 = 0 from (hC.F.2.2.2.2.2 0 (by decide)).trans hZ.2.1]; exact bc0) 90 (fun d hd => by show bc (σ.2.1 35 (d + 1)) = bc (σ.2.1 96 (111 + 1 + d)); rw [show σ.2.1 35 (d + 1) = σ.2.1 96 (111 + 1 + d) from (hC.F.2.2.2.2.2 (d + 1) (by omega)).trans (by rw [show 111 + (d + 1) = 111 + 1 + d by omega])])] at hr9
    rw [hr9, hτ]
    refine am_st (st2 := [am_i (stM σ 111)]) rfl ?_
    refine am_iret (Or.inl rfl) (Nat.le_of_ble_eq_true rfl) (Nat.le_of_ble_eq_true rfl) (am_tab tk_X9_has 35 rfl) ?_
    refine hQ _ _ ?_
    refine ⟨congrArg (fun z => some (am_i z)) ?_, rfl⟩
    unfold hasM
    first | (rw [if_pos (by omega)]; done) | (rw [if_neg (by omega), if_pos (by omega)]; done) | (rw [if_neg (by omega), if_neg (by omega), if_pos (by omega)]; done) | (rw [if_neg (by omega), if_neg (by omega), if_neg (by omega), if_pos (by omega)]; done) | (rw [if_neg (by omega), if_neg (by omega), if_neg (by omega), if_neg (by omega), if_pos (by omega)]; done) | (rw [if_neg (by omega), if_neg (by omega), if_neg (by omega), if_neg (by omega), if_neg (by omega), if_pos (by omega)]; done) | (rw [if_neg (by omega), if_neg (by omega), if_neg (by omega), if_neg (by omega), if_neg (by omega), if_neg (by omega), if_pos (by omega)]; done) | (rw [if_neg (by omega), if_neg (by omega), if_neg (by omega), if_neg (by omega), if_neg (by omega), if_neg (by omega), if_neg (by omega), if_pos (by omega)]; done) | (rw [if_neg (by omega), if_neg (by omega), if_neg (by omega), if_neg (by omega), if_neg (by omega), if_neg (by omega), if_neg (by omega), if_neg (by omega), if_pos (by omega)]; done) | (rw [if_neg (by omega), if_neg (by omega), if_neg (by omega), if_neg (by omega), if_neg (by omega), if_neg (by omega), if_neg (by omega), if_neg (by omega), if_neg (by omega), if_pos (by omega)]; done) | (rw [if_neg (by omega), if_neg (by omega), if_neg (by omega), if_neg (by omega), if_neg (by omega), if_neg (by omega), if_neg (by omega), if_neg (by omega), if_neg (by omega), if_neg (by omega), if_pos (by omega)]; done) | (rw [if_neg (by omega), if_neg (by omega), if_neg (by omega), if_neg (by omega), if_neg (by omega), if_neg (by omega), if_neg (by omega), if_neg (by omega), if_neg (by omega), if_neg (by omega), if_neg (by omega), if_pos (by omega)]; done) | (rw [if_neg (by omega), if_neg (by omega), if_neg (by omega), if_neg (by omega), if_neg (by omega), if_neg (by omega), if_neg (by omega), if_neg (by omega), if_neg (by omega), if_neg (by omega), if_neg (by omega), if_neg (by omega)]; done)
  · refine am_tableIn (t := 134) (off := 133) (by omega) (by omega) (by rw [e1]; rfl) dsw_X9_has_1 (by decide) ?_
    refine am_aload_n (q := 135) rfl (am_tab tk_X9_has 36 rfl) rfl ?_
    refine am_getR (q := 138) (a := 0) (k := 9) (n := 17) (j := 4) (r := some (32)) (Ls_0 hL) (by decide) rfl (Lr_0_4 hL) (by decide) (Or.inl kf_X9_38) (am_tab tk_X9_has 37 rfl) rfl ?_
    refine am_getI (q := 141) (a := 32) (k := 1) (n := 11) (j := 3) (x := (σ.2.1 96 3)) (Ls_32 hL) (by decide) rfl hC.F.1.2.2.2 (by decide) (Or.inr kf_X9_157) (am_tab tk_X9_has 38 rfl) rfl ?_
    refine am_iret (Or.inl rfl) (Nat.le_of_ble_eq_true rfl) (Nat.le_of_ble_eq_true rfl) (am_tab tk_X9_has 39 rfl) ?_
    refine hQ _ _ ?_
    refine ⟨congrArg (fun z => some (am_i z)) ?_, rfl⟩
    unfold hasM
    first | (rw [if_pos (by omega)]; done) | (rw [if_neg (by omega), if_pos (by omega)]; done) | (rw [if_neg (by omega), if_neg (by omega), if_pos (by omega)]; done) | (rw [if_neg (by omega), if_neg (by omega), if_neg (by omega), if_pos (by omega)]; done) | (rw [if_neg (by omega), if_neg (by omega), if_neg (by omega), if_neg (by omega), if_pos (by omega)]; done) | (rw [if_neg (by omega), if_neg (by omega), if_neg (by omega), if_neg (by omega), if_neg (by omega), if_pos (by omega)]; done) | (rw [if_neg (by omega), if_neg (by omega), if_neg (by omega), if_neg (by omega), if_neg (by omega), if_neg (by omega), if_pos (by omega)]; done) | (rw [if_neg (by omega), if_neg (by omega), if_neg (by omega), if_neg (by omega), if_neg (by omega), if_neg (by omega), if_neg (by omega), if_pos (by omega)]; done) | (rw [if_neg (by omega), if_neg (by omega), if_neg (by omega), if_neg (by omega), if_neg (by omega), if_neg (by omega), if_neg (by omega), if_neg (by omega), if_pos (by omega)]; done) | (rw [if_neg (by omega), if_neg (by omega), if_neg (by omega), if_neg (by omega), if_neg (by omega), if_neg (by omega), if_neg (by omega), if_neg (by omega), if_neg (by omega), if_pos (by omega)]; done) | (rw [if_neg (by omega), if_neg (by omega), if_neg (by omega), if_neg (by omega), if_neg (by omega), if_neg (by omega), if_neg (by omega), if_neg (by omega), if_neg (by omega), if_neg (by omega), if_pos (by omega)]; done) | (rw [if_neg (by omega), if_neg (by omega), if_neg (by omega), if_neg (by omega), if_neg (by omega), if_neg (by omega), if_neg (by omega), if_neg (by omega), if_neg (by omega), if_neg (by omega), if_neg (by omega), if_pos (by omega)]; done) | (rw [if_neg (by omega), if_neg (by omega), if_neg (by omega), if_neg (by omega), if_neg (by omega), if_neg (by omega), if_neg (by omega), if_neg (by omega), if_neg (by omega), if_neg (by omega), if_neg (by omega), if_neg (by omega)]; done)
  · refine am_tableIn (t := 142) (off := 141) (by omega) (by omega) (by rw [e1]; rfl) dsw_X9_has_1 (by decide) ?_
    refine am_aload_n (q := 143) rfl (am_tab tk_X9_has 40 rfl) rfl ?_
    refine am_getR (q := 146) (a := 0) (k := 9) (n := 17) (j := 4) (r := some (32)) (Ls_0 hL) (by decide) rfl (Lr_0_4 hL) (by decide) (Or.inl kf_X9_38) (am_tab tk_X9_has 41 rfl) rfl ?_
    refine am_getI (q := 149) (a := 32) (k := 1) (n := 11) (j := 10) (x := (σ.2.1 96 202)) (Ls_32 hL) (by decide) rfl hR.2.1 (by decide) (Or.inr kf_X9_160) (am_tab tk_X9_has 42 rfl) rfl ?_
    refine am_iret (Or.inl rfl) (Nat.le_of_ble_eq_true rfl) (Nat.le_of_ble_eq_true rfl) (am_tab tk_X9_has 43 rfl) ?_
    refine hQ _ _ ?_
    refine ⟨congrArg (fun z => some (am_i z)) ?_, rfl⟩
    unfold hasM
    first | (rw [if_pos (by omega)]; done) | (rw [if_neg (by omega), if_pos (by omega)]; done) | (rw [if_neg (by omega), if_neg (by omega), if_pos (by omega)]; done) | (rw [if_neg (by omega), if_neg (by omega), if_neg (by omega), if_pos (by omega)]; done) | (rw [if_neg (by omega), if_neg (by omega), if_neg (by omega), if_neg (by omega), if_pos (by omega)]; done) | (rw [if_neg (by omega), if_neg (by omega), if_neg (by omega), if_neg (by omega), if_neg (by omega), if_pos (by omega)]; done) | (rw [if_neg (by omega), if_neg (by omega), if_neg (by omega), if_neg (by omega), if_neg (by omega), if_neg (by omega), if_pos (by omega)]; done) | (rw [if_neg (by omega), if_neg (by omega), if_neg (by omega), if_neg (by omega), if_neg (by omega), if_neg (by omega), if_neg (by omega), if_pos (by omega)]; done) | (rw [if_neg (by omega), if_neg (by omega), if_neg (by omega), if_neg (by omega), if_neg (by omega), if_neg (by omega), if_neg (by omega), if_neg (by omega), if_pos (by omega)]; done) | (rw [if_neg (by omega), if_neg (by omega), if_neg (by omega), if_neg (by omega), if_neg (by omega), if_neg (by omega), if_neg (by omega), if_neg (by omega), if_neg (by omega), if_pos (by omega)]; done) | (rw [if_neg (by omega), if_neg (by omega), if_neg (by omega), if_neg (by omega), if_neg (by omega), if_neg (by omega), if_neg (by omega), if_neg (by omega), if_neg (by omega), if_neg (by omega), if_pos (by omega)]; done) | (rw [if_neg (by omega), if_neg (by omega), if_neg (by omega), if_neg (by omega), if_neg (by omega), if_neg (by omega), if_neg (by omega), if_neg (by omega), if_neg (by omega), if_neg (by omega), if_neg (by omega), if_pos (by omega)]; done) | (rw [if_neg (by omega), if_neg (by omega), if_neg (by omega), if_neg (by omega), if_neg (by omega), if_neg (by omega), if_neg (by omega), if_neg (by omega), if_neg (by omega), if_neg (by omega), if_neg (by omega), if_neg (by omega)]; done)
  · refine am_tableIn (t := 150) (off := 149) (by omega) (by omega) (by rw [e1]; rfl) dsw_X9_has_1 (by decide) ?_
    refine am_aload_n (q := 151) rfl (am_tab tk_X9_has 44 rfl) rfl ?_
    refine am_getI (q := 154) (a := 0) (k := 9) (n := 17) (j := 11) (x := (σ.2.1 55 65)) (Ls_0 hL) (by decide) rfl hS.2.1 (by decide) (Or.inl kf_X9_114) (am_tab tk_X9_has 45 rfl) rfl ?_
    refine am_iret (Or.inl rfl) (Nat.le_of_ble_eq_true rfl) (Nat.le_of_ble_eq_true rfl) (am_tab tk_X9_has 46 rfl) ?_
    refine hQ _ _ ?_
    refine ⟨congrArg (fun z => some (am_i z)) ?_, rfl⟩
    unfold hasM
    first | (rw [if_pos (by omega)]; done) | (rw [if_neg (by omega), if_pos (by omega)]; done) | (rw [if_neg (by omega), if_neg (by omega), if_pos (by omega)]; done) | (rw [if_neg (by omega), if_neg (by omega), if_neg (by omega), if_pos (by omega)]; done) | (rw [if_neg (by omega), if_neg (by omega), if_neg (by omega), if_neg (by omega), if_pos (by omega)]; done) | (rw [if_neg (by omega), if_neg (by omega), if_neg (by omega), if_neg (by omega), if_neg (by omega), if_pos (by omega)]; done) | (rw [if_neg (by omega), if_neg (by omega), if_neg (by omega), if_neg (by omega), if_neg (by omega), if_neg (by omega), if_pos (by omega)]; done) | (rw [if_neg (by omega), if_neg (by omega), if_neg (by omega), if_neg (by omega), if_neg (by omega), if_neg (by omega), if_neg (by omega), if_pos (by omega)]; done) | (rw [if_neg (by omega), if_neg (by omega), if_neg (by omega), if_neg (by omega), if_neg (by omega), if_neg (by omega), if_neg (by omega), if_neg (by omega), if_pos (by omega)]; done) | (rw [if_neg (by omega), if_neg (by omega), if_neg (by omega), if_neg (by omega), if_neg (by omega), if_neg (by omega), if_neg (by omega), if_neg (by omega), if_neg (by omega), if_pos (by omega)]; done) | (rw [if_neg (by omega), if_neg (by omega), if_neg (by omega), if_neg (by omega), if_neg (by omega), if_neg (by omega), if_neg (by omega), if_neg (by omega), if_neg (by omega), if_neg (by omega), if_pos (by omega)]; done) | (rw [if_neg (by omega), if_neg (by omega), if_neg (by omega), if_neg (by omega), if_neg (by omega), if_neg (by omega), if_neg (by omega), if_neg (by omega), if_neg (by omega), if_neg (by omega), if_neg (by omega), if_pos (by omega)]; done) | (rw [if_neg (by omega), if_neg (by omega), if_neg (by omega), if_neg (by omega), if_neg (by omega), if_neg (by omega), if_neg (by omega), if_neg (by omega), if_neg (by omega), if_neg (by omega), if_neg (by omega), if_neg (by omega)]; done)
  · refine am_tableIn (t := 155) (off := 154) (by omega) (by omega) (by rw [e1]; rfl) dsw_X9_has_1 (by decide) ?_
    refine am_aload_n (q := 156) rfl (am_tab tk_X9_has 47 rfl) rfl ?_
    refine am_getR (q := 159) (a := 0) (k := 9) (n := 17) (j := 6) (r := some (42)) (Ls_0 hL) (by decide) rfl (Lr_0_6 hL) (by decide) (Or.inl kf_X9_48) (am_tab tk_X9_has 48 rfl) rfl ?_
    refine am_getI (q := 162) (a := 42) (k := 2) (n := 3) (j := 2) (x := (σ.2.1 55 69)) (Ls_42 hL) (by decide) rfl hU (by decide) (Or.inr kf_X9_163) (am_tab tk_X9_has 49 rfl) rfl ?_
    refine am_iret (Or.inl rfl) (Nat.le_of_ble_eq_true rfl) (Nat.le_of_ble_eq_true rfl) (am_tab tk_X9_has 50 rfl) ?_
    refine hQ _ _ ?_
    refine ⟨congrArg (fun z => some (am_i z)) ?_, rfl⟩
    unfold hasM
    first | (rw [if_pos (by omega)]; done) | (rw [if_neg (by omega), if_pos (by omega)]; done) | (rw [if_neg (by omega), if_neg (by omega), if_pos (by omega)]; done) | (rw [if_neg (by omega), if_neg (by omega), if_neg (by omega), if_pos (by omega)]; done) | (rw [if_neg (by omega), if_neg (by omega), if_neg (by omega), if_neg (by omega), if_pos (by omega)]; done) | (rw [if_neg (by omega), if_neg (by omega), if_neg (by omega), if_neg (by omega), if_neg (by omega), if_pos (by omega)]; done) | (rw [if_neg (by omega), if_neg (by omega), if_neg (by omega), if_neg (by omega), if_neg (by omega), if_neg (by omega), if_pos (by omega)]; done) | (rw [if_neg (by omega), if_neg (by omega), if_neg (by omega), if_neg (by omega), if_neg (by omega), if_neg (by omega), if_neg (by omega), if_pos (by omega)]; done) | (rw [if_neg (by omega), if_neg (by omega), if_neg (by omega), if_neg (by omega), if_neg (by omega), if_neg (by omega), if_neg (by omega), if_neg (by omega), if_pos (by omega)]; done) | (rw [if_neg (by omega), if_neg (by omega), if_neg (by omega), if_neg (by omega), if_neg (by omega), if_neg (by omega), if_neg (by omega), if_neg (by omega), if_neg (by omega), if_pos (by omega)]; done) | (rw [if_neg (by omega), if_neg (by omega), if_neg (by omega), if_neg (by omega), if_neg (by omega), if_neg (by omega), if_neg (by omega), if_neg (by omega), if_neg (by omega), if_neg (by omega), if_pos (by omega)]; done) | (rw [if_neg (by omega), if_neg (by omega), if_neg (by omega), if_neg (by omega), if_neg (by omega), if_neg (by omega), if_neg (by omega), if_neg (by omega), if_neg (by omega), if_neg (by omega), if_neg (by omega), if_pos (by omega)]; done) | (rw [if_neg (by omega), if_neg (by omega), if_neg (by omega), if_neg (by omega), if_neg (by omega), if_neg (by omega), if_neg (by omega), if_neg (by omega), if_neg (by omega), if_neg (by omega), if_neg (by omega), if_neg (by omega)]; done)
  · refine am_tableOut (t := 163) e1 dsw_X9_has_1 (by decide) ?_
    refine am_iconst (q := 164) (n := (-1)) (by decide) (am_tab tk_X9_has 51 rfl) rfl ?_
    refine am_iret (Or.inl rfl) (Nat.le_of_ble_eq_true rfl) (Nat.le_of_ble_eq_true rfl) (am_tab tk_X9_has 52 rfl) ?_
    refine hQ _ _ ?_
    refine ⟨congrArg (fun z => some (am_i z)) ?_, rfl⟩
    unfold hasM
    first | (rw [if_pos (by omega)]; done) | (rw [if_neg (by omega), if_pos (by omega)]; done) | (rw [if_neg (by omega), if_neg (by omega), if_pos (by omega)]; done) | (rw [if_neg (by omega), if_neg (by omega), if_neg (by omega), if_pos (by omega)]; done) | (rw [if_neg (by omega), if_neg (by omega), if_neg (by omega), if_neg (by omega), if_pos (by omega)]; done) | (rw [if_neg (by omega), if_neg (by omega), if_neg (by omega), if_neg (by omega), if_neg (by omega), if_pos (by omega)]; done) | (rw [if_neg (by omega), if_neg (by omega), if_neg (by omega), if_neg (by omega), if_neg (by omega), if_neg (by omega), if_pos (by omega)]; done) | (rw [if_neg (by omega), if_neg (by omega), if_neg (by omega), if_neg (by omega), if_neg (by omega), if_neg (by omega), if_neg (by omega), if_pos (by omega)]; done) | (rw [if_neg (by omega), if_neg (by omega), if_neg (by omega), if_neg (by omega), if_neg (by omega), if_neg (by omega), if_neg (by omega), if_neg (by omega), if_pos (by omega)]; done) | (rw [if_neg (by omega), if_neg (by omega), if_neg (by omega), if_neg (by omega), if_neg (by omega), if_neg (by omega), if_neg (by omega), if_neg (by omega), if_neg (by omega), if_pos (by omega)]; done) | (rw [if_neg (by omega), if_neg (by omega), if_neg (by omega), if_neg (by omega), if_neg (by omega), if_neg (by omega), if_neg (by omega), if_neg (by omega), if_neg (by omega), if_neg (by omega), if_pos (by omega)]; done) | (rw [if_neg (by omega), if_neg (by omega), if_neg (by omega), if_neg (by omega), if_neg (by omega), if_neg (by omega), if_neg (by omega), if_neg (by omega), if_neg (by omega), if_neg (by omega), if_neg (by omega), if_pos (by omega)]; done) | (rw [if_neg (by omega), if_neg (by omega), if_neg (by omega), if_neg (by omega), if_neg (by omega), if_neg (by omega), if_neg (by omega), if_neg (by omega), if_neg (by omega), if_neg (by omega), if_neg (by omega), if_neg (by omega)]; done)
theorem c_kept_15 (σ : am_H) (hC : CI 15 σ) (k : Int) (w : Int) (hR : RWr 32 σ (fun j => σ.2.1 96 j)) (hO : ROK (fun j => σ.2.1 96 j)) : am_met M_X9_kept [am_r 0, am_i k, am_i w] σ (fun r σ' => r = some (am_i (if (0 ≤ k ∧ k ≤ σ.2.1 96 202 - 1) ∧ (0 ≤ w ∧ w ≤ 3) then σ.2.1 96 (203 + 4 * k + w).toNat else -1)) ∧ σ' = σ) := by
  refine am_qq (fun Q hQ => ?_)
  refine am_enter (show plainFor yX9_kept = true by decide +kernel) rfl (Nat.le_of_ble_eq_true rfl) (fun _ _ _ => trivial) ?_
  have hL := hC.G.L
  have hkm := hC.G.R.kept
  refine am_iload_n (q := 1) rfl (am_tab tk_X9_kept 0 rfl) rfl ?_
  refine am_if_lt (q := 4) (t := 15) (am_tab tk_X9_kept 1 rfl) (by decide) rfl (fun h1 => ?_) (fun h1 => ?_)
  · refine am_iconst (q := 16) (n := (-1)) (by decide) (am_tab tk_X9_kept 7 rfl) rfl ?_
    refine am_iret (Or.inl rfl) (Nat.le_of_ble_eq_true rfl) (Nat.le_of_ble_eq_true rfl) (am_tab tk_X9_kept 8 rfl) ?_
    refine hQ _ _ ?_
    refine ⟨congrArg (fun z => some (am_i z)) ?_, rfl⟩
    rw [if_neg (by omega)]
  · refine am_iload_n (q := 5) rfl (am_tab tk_X9_kept 2 rfl) rfl ?_
    refine am_aload_n (q := 6) rfl (am_tab tk_X9_kept 3 rfl) rfl ?_
    refine am_getR (q := 9) (a := 0) (k := 9) (n := 17) (j := 4) (r := some (32)) (Ls_0 hL) (by decide) rfl (Lr_0_4 hL) (by decide) (Or.inl kf_X9_38) (am_tab tk_X9_kept 4 rfl) rfl ?_
    refine am_getI (q := 12) (a := 32) (k := 1) (n := 11) (j := 10) (x := (σ.2.1 96 202)) (Ls_32 hL) (by decide) rfl hR.2.1 (by decide) (Or.inr kf_X9_160) (am_tab tk_X9_kept 5 rfl) rfl ?_
    refine am_icmp_lt (q := 15) (t := 17) (am_tab tk_X9_kept 6 rfl) (by decide) rfl (fun h12 => ?_) (fun h12 => ?_)
    · obtain ⟨q, rfl⟩ := toN (show 0 ≤ k by omega)
      have hkq : (q : Int) < (fun j => σ.2.1 96 j) 202 := by show (q : Int) < σ.2.1 96 202; omega
      have hok := hO q hkq
      have hdec := row_dec hok.1 hok.2.1 hok.2.2.1 hok.2.2.2
      refine am_aload_n (q := 18) rfl (am_tab tk_X9_kept 9 rfl) rfl ?_
      refine am_getR (q := 21) (a := 0) (k := 9) (n := 17) (j := 4) (r := some (32)) (Ls_0 hL) (by decide) rfl (Lr_0_4 hL) (by decide) (Or.inl kf_X9_38) (am_tab tk_X9_kept 10 rfl) rfl ?_
      refine am_iload_n (q := 22) rfl (am_tab tk_X9_kept 11 rfl) rfl ?_
      refine am_callV0 (q := 25) (me2 := M_X1_rowAt) (b := 32) (kb := 1) (nb := 11) (As := [am_i ((q : Int))]) (rest := []) (out := [am_i ((rwV (fun j => σ.2.1 96 j) q))]) (c_rowAt σ hL q (fun j => σ.2.1 96 j) hR hkq hkm.2) ⟨rfl, rfl⟩ (Ls_32 hL) (by decide) ⟨Or.inr km_X9_204, kc_X1_rowAt, kn_X1, kd_X1_rowAt, ⟨(Nat.le_of_ble_eq_true rfl), (Nat.le_of_ble_eq_true rfl)⟩, ⟨(Nat.le_of_ble_eq_true rfl), (Nat.le_of_ble_eq_true rfl)⟩, (Nat.le_of_ble_eq_true rfl)⟩ ki_X1_rowAt ks_X1_rowAt rfl rfl (am_tab tk_X9_kept 12 rfl) rfl ?_
      refine am_istore_n (q := 26) (by decide) (ls2 := [(3, am_i ((rwV (fun j => σ.2.1 96 j) q))), (0, am_r 0), (1, am_i ((q : Int))), (2, am_i w)]) rfl (am_tab tk_X9_kept 13 rfl) rfl ?_
      refine am_iload_n (q := 27) rfl (am_tab tk_X9_kept 14 rfl) rfl ?_
      rcases (show w = 0 ∨ w = 1 ∨ w = 2 ∨ w = 3 ∨ (w < 0 ∨ 3 < w) by omega) with e27 | e27 | e27 | e27 | e27
      · refine am_tableIn (t := 56) (off := 29) (by omega) (by omega) (by rw [e27]; rfl) dsw_X9_kept_27 (by decide) ?_
        refine am_iload_n (q := 57) rfl (am_tab tk_X9_kept 16 rfl) rfl ?_
        refine am_callS0 (q := 60) (me2 := M_X1_rowYear) (As := [am_i ((rwV (fun j => σ.2.1 96 j) q))]) (rest := []) (out := [am_i (Int.tdiv (rwV (fun j => σ.2.1 96 j) q) 4096)]) (c_X1_rowYear σ (rwV (fun j => σ.2.1 96 j) q) hdec.1) ⟨rfl, rfl⟩ ⟨Or.inr km_X9_207, kc_X1_rowYear, kn_X1, kd_X1_rowYear, ⟨(Nat.le_of_ble_eq_true rfl), (Nat.le_of_ble_eq_true rfl)⟩, ⟨(Nat.le_of_ble_eq_true rfl), (Nat.le_of_ble_eq_true rfl)⟩, (Nat.le_of_ble_eq_true rfl)⟩ ki_X1_rowYear rfl rfl (am_tab tk_X9_kept 17 rfl) rfl ?_
        refine am_iret (Or.inl rfl) (Nat.le_of_ble_eq_true rfl) (Nat.le_of_ble_eq_true rfl) (am_tab tk_X9_kept 18 rfl) ?_
        refine hQ _ _ ?_
        refine ⟨congrArg (fun z => some (am_i z)) ?_, rfl⟩
        rw [if_pos (by omega), show (203 + 4 * (q : Int) + w).toNat = 203 + 4 * q + w.toNat by omega]
        subst e27
        first | exact hdec.2.1 | exact hdec.2.2.1.trans (by congr 1; omega) | exact hdec.2.2.2.1.trans (by congr 1; omega) | exact hdec.2.2.2.2.trans (by congr 1; omega)
      · refine am_tableIn (t := 61) (off := 34) (by omega) (by omega) (by rw [e27]; rfl) dsw_X9_kept_27 (by decide) ?_
        refine am_iload_n (q := 62) rfl (am_tab tk_X9_kept 19 rfl) rfl ?_
        refine am_callS0 (q := 65) (me2 := M_X1_rowDay) (As := [am_i ((rwV (fun j => σ.2.1 96 j) q))]) (rest := []) (out := [am_i ((Int.tdiv (rwV (fun j => σ.2.1 96 j) q) 32).tmod 128)]) (c_X1_rowDay σ (rwV (fun j => σ.2.1 96 j) q) hdec.1) ⟨rfl, rfl⟩ ⟨Or.inr km_X9_210, kc_X1_rowDay, kn_X1, kd_X1_rowDay, ⟨(Nat.le_of_ble_eq_true rfl), (Nat.le_of_ble_eq_true rfl)⟩, ⟨(Nat.le_of_ble_eq_true rfl), (Nat.le_of_ble_eq_true rfl)⟩, (Nat.le_of_ble_eq_true rfl)⟩ ki_X1_rowDay rfl rfl (am_tab tk_X9_kept 20 rfl) rfl ?_
        refine am_iret (Or.inl rfl) (Nat.le_of_ble_eq_true rfl) (Nat.le_of_ble_eq_true rfl) (am_tab tk_X9_kept 21 rfl) ?_
        refine hQ _ _ ?_
        refine ⟨congrArg (fun z => some (am_i z)) ?_, rfl⟩
        rw [if_pos (by omega), show (203 + 4 * (q : Int) + w).toNat = 203 + 4 * q + w.toNat by omega]
        subst e27
        first | exact hdec.2.1 | exact hdec.2.2.1.trans (by congr 1; omega) | exact hdec.2.2.2.1.trans (by congr 1; omega) | exact hdec.2.2.2.2.trans (by congr 1; omega)
      · refine am_tableIn (t := 66) (off := 39) (by omega) (by omega) (by rw [e27]; rfl) dsw_X9_kept_27 (by decide) ?_
        refine am_iload_n (q := 67) rfl (am_tab tk_X9_kept 22 rfl) rfl ?_
        refine am_callS0 (q := 70) (me2 := M_X1_rowThinkers) (As := [am_i ((rwV (fun j => σ.2.1 96 j) q))]) (rest := []) (out := [am_i ((Int.tdiv (rwV (fun j => σ.2.1 96 j) q) 2).tmod 16)]) (c_X1_rowThinkers σ (rwV (fun j => σ.2.1 96 j) q) hdec.1) ⟨rfl, rfl⟩ ⟨Or.inr km_X9_213, kc_X1_rowThinkers, kn_X1, kd_X1_rowThinkers, ⟨(Nat.le_of_ble_eq_true rfl), (Nat.le_of_ble_eq_true rfl)⟩, ⟨(Nat.le_of_ble_eq_true rfl), (Nat.le_of_ble_eq_true rfl)⟩, (Nat.le_of_ble_eq_true rfl)⟩ ki_X1_rowThinkers rfl rfl (am_tab tk_X9_kept 23 rfl) rfl ?_
        refine am_iret (Or.inl rfl) (Nat.le_of_ble_eq_true rfl) (Nat.le_of_ble_eq_true rfl) (am_tab tk_X9_kept 24 rfl) ?_
        refine hQ _ _ ?_
        refine ⟨congrArg (fun z => some (am_i z)) ?_, rfl⟩
        rw [if_pos (by omega), show (203 + 4 * (q : Int) + w).toNat = 203 + 4 * q + w.toNat by omega]
        subst e27
        first | exact hdec.2.1 | exact hdec.2.2.1.trans (by congr 1; omega) | exact hdec.2.2.2.1.trans (by congr 1; omega) | exact hdec.2.2.2.2.trans (by congr 1; omega)
      · refine am_tableIn (t := 71) (off := 44) (by omega) (by omega) (by rw [e27]; rfl) dsw_X9_kept_27 (by decide) ?_
        refine am_iload_n (q := 72) rfl (am_tab tk_X9_kept 25 rfl) rfl ?_
        refine am_callS0 (q := 75) (me2 := M_X1_rowFeast) (As := [am_i ((rwV (fun j => σ.2.1 96 j) q))]) (rest := []) (out := [am_i (Int.tmod (rwV (fun j => σ.2.1 96 j) q) 2)]) (c_X1_rowFeast σ (rwV (fun j => σ.2.1 96 j) q) hdec.1) ⟨rfl, rfl⟩ ⟨Or.inr km_X9_216, kc_X1_rowFeast, kn_X1, kd_X1_rowFeast, ⟨(Nat.le_of_ble_eq_true rfl), (Nat.le_of_ble_eq_true rfl)⟩, ⟨(Nat.le_of_ble_eq_true rfl), (Nat.le_of_ble_eq_true rfl)⟩, (Nat.le_of_ble_eq_true rfl)⟩ ki_X1_rowFeast rfl rfl (am_tab tk_X9_kept 26 rfl) rfl ?_
        refine am_iret (Or.inl rfl) (Nat.le_of_ble_eq_true rfl) (Nat.le_of_ble_eq_true rfl) (am_tab tk_X9_kept 27 rfl) ?_
        refine hQ _ _ ?_
        refine ⟨congrArg (fun z => some (am_i z)) ?_, rfl⟩
        rw [if_pos (by omega), show (203 + 4 * (q : Int) + w).toNat = 203 + 4 * q + w.toNat by omega]
        subst e27
        first | exact hdec.2.1 | exact hdec.2.2.1.trans (by congr 1; omega) | exact hdec.2.2.2.1.trans (by congr 1; omega) | exact hdec.2.2.2.2.trans (by congr 1; omega)
      · refine am_tableOut (t := 76) e27 dsw_X9_kept_27 (by decide) ?_
        refine am_iconst (q := 77) (n := (-1)) (by decide) (am_tab tk_X9_kept 28 rfl) rfl ?_
        refine am_iret (Or.inl rfl) (Nat.le_of_ble_eq_true rfl) (Nat.le_of_ble_eq_true rfl) (am_tab tk_X9_kept 29 rfl) ?_
        refine hQ _ _ ?_
        refine ⟨congrArg (fun z => some (am_i z)) ?_, rfl⟩
        rw [if_neg (by omega)]
    · refine am_iconst (q := 16) (n := (-1)) (by decide) (am_tab tk_X9_kept 7 rfl) rfl ?_
      refine am_iret (Or.inl rfl) (Nat.le_of_ble_eq_true rfl) (Nat.le_of_ble_eq_true rfl) (am_tab tk_X9_kept 8 rfl) ?_
      refine hQ _ _ ?_
      refine ⟨congrArg (fun z => some (am_i z)) ?_, rfl⟩
      rw [if_neg (by omega)]
theorem c_day9_15 (σ : am_H) (hC : CI 15 σ) (d : Int) (w : Int)  : am_met M_X9_day [am_r 0, am_i d, am_i w] σ (fun r σ' => r = some (am_i (dayM σ d w)) ∧ σ' = σ) := by
  refine am_qq (fun Q hQ => ?_)
  refine am_enter (show plainFor yX9_day = true by decide +kernel) rfl (Nat.le_of_ble_eq_true rfl) (fun _ _ _ => trivial) ?_
  have hL := hC.G.L
  have hYY := hC.G.R.Y
  refine am_aload_n (q := 1) rfl (am_tab tk_X9_day 0 rfl) rfl ?_
  refine am_iload_n (q := 2) rfl (am_tab tk_X9_day 1 rfl) rfl ?_
  refine am_callV0 (q := 5) (me2 := M_X9_isDay) (b := 0) (kb := 9) (nb := 17) (As := [am_i d]) (rest := []) (out := [am_i (if 1 ≤ d ∧ d ≤ σ.2.1 85 9 then 1 else 0)]) (c_isDay_15 σ hC d) ⟨rfl, rfl⟩ (Ls_0 hL) (by decide) ⟨Or.inl km_X9_198, kc_X9_isDay, kn_X9, kd_X9_isDay, ⟨(Nat.le_of_ble_eq_true rfl), (Nat.le_of_ble_eq_true rfl)⟩, ⟨(Nat.le_of_ble_eq_true rfl), (Nat.le_of_ble_eq_true rfl)⟩, (Nat.le_of_ble_eq_true rfl)⟩ ki_X9_isDay ks_X9_isDay rfl rfl (am_tab tk_X9_day 2 rfl) rfl ?_
  refine am_if_ne (q := 8) (t := 10) (am_tab tk_X9_day 3 rfl) (by decide) rfl (fun h5 => ?_) (fun h5 => ?_)
  · replace h5 := b01n h5
    refine am_iload_n (q := 11) rfl (am_tab tk_X9_day 6 rfl) rfl ?_
    rcases (show w = 0 ∨ w = 1 ∨ w = 2 ∨ (w < 0 ∨ 2 < w) by omega) with e11 | e11 | e11 | e11
    · refine am_tableIn (t := 36) (off := 25) (by omega) (by omega) (by rw [e11]; rfl) dsw_X9_day_11 (by decide) ?_
      refine am_aload_n (q := 37) rfl (am_tab tk_X9_day 8 rfl) rfl ?_
      refine am_getR (q := 40) (a := 0) (k := 9) (n := 17) (j := 4) (r := some (32)) (Ls_0 hL) (by decide) rfl (Lr_0_4 hL) (by decide) (Or.inl kf_X9_38) (am_tab tk_X9_day 9 rfl) rfl ?_
      refine am_getR (q := 43) (a := 32) (k := 1) (n := 11) (j := 6) (r := some (34)) (Ls_32 hL) (by decide) rfl (Lr_32_6 hL) (by decide) (Or.inr kf_X9_147) (am_tab tk_X9_day 10 rfl) rfl ?_
      refine am_iload_n (q := 44) rfl (am_tab tk_X9_day 11 rfl) rfl ?_
      refine am_iald (q := 45) (a := 34) (n := 91) (x := (σ.2.1 96 (20 + d).toNat)) (Ls_34 hL) (by omega) (by omega) (by rw [show (20 + d).toNat = 20 + d.toNat by omega]; exact hC.F.2.2.2.2.1 _ (by omega)) (am_tab tk_X9_day 12 rfl) rfl ?_
      refine am_iret (Or.inl rfl) (Nat.le_of_ble_eq_true rfl) (Nat.le_of_ble_eq_true rfl) (am_tab tk_X9_day 13 rfl) ?_
      refine hQ _ _ ?_
      refine ⟨congrArg (fun z => some (am_i z)) ?_, rfl⟩
      unfold dayM
      rw [if_pos h5]
      first | rw [if_pos (show w = 0 by omega)] | rw [if_neg (show ¬ w = 0 by omega), if_pos (show w = 1 by omega)] | rw [if_neg (show ¬ w = 0 by omega), if_neg (show ¬ w = 1 by omega), if_pos (show w = 2 by omega)] | rw [if_neg (show ¬ w = 0 by omega), if_neg (show ¬ w = 1 by omega), if_neg (show ¬ w = 2 by omega)]
    · refine am_tableIn (t := 46) (off := 35) (by omega) (by omega) (by rw [e11]; rfl) dsw_X9_day_11 (by decide) ?_
      refine am_aload_n (q := 47) rfl (am_tab tk_X9_day 14 rfl) rfl ?_
      refine am_getR (q := 50) (a := 0) (k := 9) (n := 17) (j := 4) (r := some (32)) (Ls_0 hL) (by decide) rfl (Lr_0_4 hL) (by decide) (Or.inl kf_X9_38) (am_tab tk_X9_day 15 rfl) rfl ?_
      refine am_getR (q := 53) (a := 32) (k := 1) (n := 11) (j := 7) (r := some (35)) (Ls_32 hL) (by decide) rfl (Lr_32_7 hL) (by decide) (Or.inr kf_X9_154) (am_tab tk_X9_day 16 rfl) rfl ?_
      refine am_iload_n (q := 54) rfl (am_tab tk_X9_day 17 rfl) rfl ?_
      refine am_iald (q := 55) (a := 35) (n := 91) (x := (σ.2.1 96 (111 + d).toNat)) (Ls_35 hL) (by omega) (by omega) (by rw [show (111 + d).toNat = 111 + d.toNat by omega]; exact hC.F.2.2.2.2.2 _ (by omega)) (am_tab tk_X9_day 18 rfl) rfl ?_
      refine am_iret (Or.inl rfl) (Nat.le_of_ble_eq_true rfl) (Nat.le_of_ble_eq_true rfl) (am_tab tk_X9_day 19 rfl) ?_
      refine hQ _ _ ?_
      refine ⟨congrArg (fun z => some (am_i z)) ?_, rfl⟩
      unfold dayM
      rw [if_pos h5]
      first | rw [if_pos (show w = 0 by omega)] | rw [if_neg (show ¬ w = 0 by omega), if_pos (show w = 1 by omega)] | rw [if_neg (show ¬ w = 0 by omega), if_neg (show ¬ w = 1 by omega), if_pos (show w = 2 by omega)] | rw [if_neg (show ¬ w = 0 by omega), if_neg (show ¬ w = 1 by omega), if_neg (show ¬ w = 2 by omega)]
    · refine am_tableIn (t := 56) (off := 45) (by omega) (by omega) (by rw [e11]; rfl) dsw_X9_day_11 (by decide) ?_
      refine am_aload_n (q := 57) rfl (am_tab tk_X9_day 20 rfl) rfl ?_
      refine am_getR (q := 60) (a := 0) (k := 9) (n := 17) (j := 2) (r := some (15)) (Ls_0 hL) (by decide) rfl hC.t (by decide) (Or.inl kf_X9_19) (am_tab tk_X9_day 21 rfl) rfl ?_
      refine am_getR (q := 63) (a := 15) (k := 8) (n := 17) (j := 14) (r := some (22)) (Ls_15 hL) (by decide) rfl (Lr_15_14 hL) (by decide) (Or.inr kf_X9_201) (am_tab tk_X9_day 22 rfl) rfl ?_
      refine am_iload_n (q := 64) rfl (am_tab tk_X9_day 23 rfl) rfl ?_
      refine am_iald (q := 65) (a := 22) (n := 91) (x := (if frM σ d = true then 1 else 0)) (Ls_22 hL) (by omega) (by omega) (by have h9 := hC.W.frost d.toNat (by omega) (by omega) (by omega); rw [show ((d.toNat : Nat) : Int) = d by omega] at h9; exact h9) (am_tab tk_X9_day 24 rfl) rfl ?_
      refine am_iret (Or.inl rfl) (Nat.le_of_ble_eq_true rfl) (Nat.le_of_ble_eq_true rfl) (am_tab tk_X9_day 25 rfl) ?_
      refine hQ _ _ ?_
      refine ⟨congrArg (fun z => some (am_i z)) ?_, rfl⟩
      unfold dayM
      rw [if_pos h5]
      first | rw [if_pos (show w = 0 by omega)] | rw [if_neg (show ¬ w = 0 by omega), if_pos (show w = 1 by omega)] | rw [if_neg (show ¬ w = 0 by omega), if_neg (show ¬ w = 1 by omega), if_pos (show w = 2 by omega)] | rw [if_neg (show ¬ w = 0 by omega), if_neg (show ¬ w = 1 by omega), if_neg (show ¬ w = 2 by omega)]
    · refine am_tableOut (t := 66) e11 dsw_X9_day_11 (by decide) ?_
      refine am_iconst (q := 67) (n := (-1)) (by decide) (am_tab tk_X9_day 26 rfl) rfl ?_
      refine am_iret (Or.inl rfl) (Nat.le_of_ble_eq_true rfl) (Nat.le_of_ble_eq_true rfl) (am_tab tk_X9_day 27 rfl) ?_
      refine hQ _ _ ?_
      refine ⟨congrArg (fun z => some (am_i z)) ?_, rfl⟩
      unfold dayM
      rw [if_pos h5]
      first | rw [if_pos (show w = 0 by omega)] | rw [if_neg (show ¬ w = 0 by omega), if_pos (show w = 1 by omega)] | rw [if_neg (show ¬ w = 0 by omega), if_neg (show ¬ w = 1 by omega), if_pos (show w = 2 by omega)] | rw [if_neg (show ¬ w = 0 by omega), if_neg (show ¬ w = 1 by omega), if_neg (show ¬ w = 2 by omega)]
  · replace h5 := b01z h5
    refine am_iconst (q := 9) (n := (-1)) (by decide) (am_tab tk_X9_day 4 rfl) rfl ?_
    refine am_iret (Or.inl rfl) (Nat.le_of_ble_eq_true rfl) (Nat.le_of_ble_eq_true rfl) (am_tab tk_X9_day 5 rfl) ?_
    refine hQ _ _ ?_
    refine ⟨congrArg (fun z => some (am_i z)) ?_, rfl⟩
    unfold dayM
    rw [if_neg h5]
theorem c_daysToldOff_15 (σ : am_H) (hC : CI 15 σ) (p : Nat) (hp8 : p < 8) (hZ : ZR (σ.2.1 85 9) (fun j => σ.2.1 96 j)) : am_met M_X9_daysToldOff [am_r 0, am_i ((p : Int))] σ (fun r σ' => r = some (am_i (sumN (fun d => tb (σ.2.1 96 (21 + d)) p) 90)) ∧ σ' = σ) := by
  refine am_qq (fun Q hQ => ?_)
  refine am_enter (show plainFor yX9_daysToldOff = true by decide +kernel) rfl (Nat.le_of_ble_eq_true rfl) (fun _ _ _ => trivial) ?_
  have hL := hC.G.L
  have hYY := hC.G.R.Y
  refine am_iconst (q := 1) (n := 0) (by decide) (am_tab tk_X9_daysToldOff 0 rfl) rfl ?_
  refine am_istore_n (q := 2) (by decide) (ls2 := [(2, am_i 0), (0, am_r 0), (1, am_i ((p : Int)))]) rfl (am_tab tk_X9_daysToldOff 1 rfl) rfl ?_
  refine am_iconst (q := 3) (n := 1) (by decide) (am_tab tk_X9_daysToldOff 2 rfl) rfl ?_
  refine am_istore_n (q := 4) (by decide) (ls2 := [(3, am_i 1), (2, am_i 0), (0, am_r 0), (1, am_i ((p : Int)))]) rfl (am_tab tk_X9_daysToldOff 3 rfl) rfl ?_
  have L4 : ∀ (n4 : Nat) (d : Nat), 90 - d < n4 → (d : Int) ≤ σ.2.1 85 9 → am_wp M_X9_daysToldOff Q 0 0 4 [(3, am_i (((d : Int) + 1))), (2, am_i ((sumN (fun d => tb (σ.2.1 96 (21 + d)) p) d))), (0, am_r 0), (1, am_i ((p : Int)))] [] σ := by
    intro n4
    induction n4 with
    | zero => intro d hn4; exact absurd hn4 (Nat.not_lt_zero _)
    | succ n4 ih4 =>
      intro d hn4 hd
      refine am_iload_n (q := 5) rfl (am_tab tk_X9_daysToldOff 4 rfl) rfl ?_
      refine am_aload_n (q := 6) rfl (am_tab tk_X9_daysToldOff 5 rfl) rfl ?_
      refine am_getR (q := 9) (a := 0) (k := 9) (n := 17) (j := 2) (r := some (15)) (Ls_0 hL) (by decide) rfl hC.t (by decide) (Or.inl kf_X9_19) (am_tab tk_X9_daysToldOff 6 rfl) rfl ?_
      refine am_getI (q := 12) (a := 15) (k := 8) (n := 17) (j := 0) (x := (σ.2.1 85 9)) (Ls_15 hL) (by decide) rfl hC.W.days (by decide) (Or.inr kf_X9_123) (am_tab tk_X9_daysToldOff 7 rfl) rfl ?_
      refine am_icmp_gt (q := 15) (t := 37) (am_tab tk_X9_daysToldOff 8 rfl) (by decide) rfl (fun h12 => ?_) (fun h12 => ?_)
      · refine am_iload_n (q := 38) rfl (am_tab tk_X9_daysToldOff 21 rfl) rfl ?_
        refine am_iret (Or.inl rfl) (Nat.le_of_ble_eq_true rfl) (Nat.le_of_ble_eq_true rfl) (am_tab tk_X9_daysToldOff 22 rfl) ?_
        refine hQ _ _ ?_
        refine ⟨congrArg (fun z => some (am_i z)) ?_, rfl⟩
        have h9 := sumN_cut (g := fun d => tb (σ.2.1 96 (21 + d)) p) (m := d) (90 - d) (fun e h1 h2 => by show tb (σ.2.1 96 (21 + e)) p = 0; rw [show σ.2.1 96 (21 + e) = 0 from (show 20 + (e + 1) = 21 + e by omega) ▸ hZ.2.2 (e + 1) (by omega) (by omega)]; exact tb0 _)
        rw [show d + (90 - d) = 90 by omega] at h9
        exact h9.symm
      · have hsr := sumN_rng (g := fun d => tb (σ.2.1 96 (21 + d)) p) (B := 1) d (fun i _ => by have := tb_01 (σ.2.1 96 (21 + i)) p; omega)
        have htd : 0 ≤ σ.2.1 96 (21 + d) ∧ σ.2.1 96 (21 + d) < 256 := by rw [show 21 + d = 20 + (d + 1) by omega]; exact hC.G.R.told _ (by omega)
        have htb := tb_01 (σ.2.1 96 (21 + d)) p
        refine am_iload_n (q := 16) rfl (am_tab tk_X9_daysToldOff 9 rfl) rfl ?_
        refine am_aload_n (q := 17) rfl (am_tab tk_X9_daysToldOff 10 rfl) rfl ?_
        refine am_getR (q := 20) (a := 0) (k := 9) (n := 17) (j := 4) (r := some (32)) (Ls_0 hL) (by decide) rfl (Lr_0_4 hL) (by decide) (Or.inl kf_X9_38) (am_tab tk_X9_daysToldOff 11 rfl) rfl ?_
        refine am_getR (q := 23) (a := 32) (k := 1) (n := 11) (j := 6) (r := some (34)) (Ls_32 hL) (by decide) rfl (Lr_32_6 hL) (by decide) (Or.inr kf_X9_147) (am_tab tk_X9_daysToldOff 12 rfl) rfl ?_
        refine am_iload_n (q := 24) rfl (am_tab tk_X9_daysToldOff 13 rfl) rfl ?_
        refine am_iald (q := 25) (a := 34) (n := 91) (x := (σ.2.1 96 (21 + d))) (Ls_34 hL) (by omega) (by omega) (by rw [show Int.toNat ((d : Int) + 1) = d + 1 by omega]; exact (hC.F.2.2.2.2.1 (d + 1) (by omega)).trans (by rw [show 20 + (d + 1) = 21 + d by omega])) (am_tab tk_X9_daysToldOff 14 rfl) rfl ?_
        refine am_iload_n (q := 26) rfl (am_tab tk_X9_daysToldOff 15 rfl) rfl ?_
        refine am_callS0 (q := 29) (me2 := M_X9_bit) (As := [am_i ((σ.2.1 96 (21 + d))), am_i ((p : Int))]) (rest := [am_i ((sumN (fun d => tb (σ.2.1 96 (21 + d)) p) d))]) (out := [am_i (tb (σ.2.1 96 (21 + d)) (p : Int)), am_i ((sumN (fun d => tb (σ.2.1 96 (21 + d)) p) d))]) (c_bit σ (σ.2.1 96 (21 + d)) (p : Int) (htd) (by omega)) ⟨rfl, rfl⟩ ⟨Or.inl km_X9_185, kc_X9_bit, kn_X9, kd_X9_bit, ⟨(Nat.le_of_ble_eq_true rfl), (Nat.le_of_ble_eq_true rfl)⟩, ⟨(Nat.le_of_ble_eq_true rfl), (Nat.le_of_ble_eq_true rfl)⟩, (Nat.le_of_ble_eq_true rfl)⟩ ki_X9_bit rfl rfl (am_tab tk_X9_daysToldOff 16 rfl) rfl ?_
        refine am_iadd (q := 30) (by omega) (am_tab tk_X9_daysToldOff 17 rfl) rfl ?_
        refine am_istore_n (q := 31) (by decide) (ls2 := [(2, am_i (((sumN (fun d => tb (σ.2.1 96 (21 + d)) p) d) + (tb (σ.2.1 96 (21 + d)) (p : Int))))), (3, am_i (((d : Int) + 1))), (0, am_r 0), (1, am_i ((p : Int)))]) rfl (am_tab tk_X9_daysToldOff 18 rfl) rfl ?_
        refine am_iinc (q := 34) rfl (by omega) (by decide) (ls2 := [(3, am_i ((((d : Int) + 1) + 1))), (2, am_i (((sumN (fun d => tb (σ.2.1 96 (21 + d)) p) d) + (tb (σ.2.1 96 (21 + d)) (p : Int))))), (0, am_r 0), (1, am_i ((p : Int)))]) rfl (am_tab tk_X9_daysToldOff 19 rfl) rfl ?_
        refine am_goto (t := 4) (am_tab tk_X9_daysToldOff 20 rfl) (by decide) ?_
        exact am_less (by intro q hq; simp only [List.mem_cons, List.not_mem_nil, or_false] at hq; rcases hq with rfl | rfl | rfl | rfl <;> simp [sumN]) (ih4 (d + 1) (by omega) (by omega))
  refine am_less (by intro q hq; simp only [List.mem_cons, List.not_mem_nil, or_false] at hq; rcases hq with rfl | rfl | rfl | rfl <;> simp [sumN]) (L4 (_ + 1) 0 (by exact Nat.lt_succ_self _) (by omega))
theorem c_person_15 (σ : am_H) (hC : CI 15 σ) (p : Int) (w : Int) (hZ : ZR (σ.2.1 85 9) (fun j => σ.2.1 96 j)) : am_met M_X9_person [am_r 0, am_i p, am_i w] σ (fun r σ' => r = some (am_i (persM σ p w)) ∧ σ' = σ) := by
  refine am_qq (fun Q hQ => ?_)
  refine am_enter (show plainFor yX9_person = true by decide +kernel) rfl (Nat.le_of_ble_eq_true rfl) (fun _ _ _ => trivial) ?_
  have hL := hC.G.L
  have hPP := hC.G.R.P
  refine am_aload_n (q := 1) rfl (am_tab tk_X9_person 0 rfl) rfl ?_
  refine am_iload_n (q := 2) rfl (am_tab tk_X9_person 1 rfl) rfl ?_
  refine am_callV0 (q := 5) (me2 := M_X9_isPerson) (b := 0) (kb := 9) (nb := 17) (As := [am_i p]) (rest := []) (out := [am_i (if 0 ≤ p ∧ p < σ.2.1 85 5 then 1 else 0)]) (c_isPerson_15 σ hC p) ⟨rfl, rfl⟩ (Ls_0 hL) (by decide) ⟨Or.inl km_X9_166, kc_X9_isPerson, kn_X9, kd_X9_isPerson, ⟨(Nat.le_of_ble_eq_true rfl), (Nat.le_of_ble_eq_true rfl)⟩, ⟨(Nat.le_of_ble_eq_true rfl), (Nat.le_of_ble_eq_true rfl)⟩, (Nat.le_of_ble_eq_true rfl)⟩ ki_X9_isPerson ks_X9_isPerson rfl rfl (am_tab tk_X9_person 2 rfl) rfl ?_
  refine am_if_ne (q := 8) (t := 10) (am_tab tk_X9_person 3 rfl) (by decide) rfl (fun h5 => ?_) (fun h5 => ?_)
  · replace h5 := b01n h5
    obtain ⟨q, rfl⟩ := toN h5.1
    have hqp : q < pN σ := by unfold pN; omega
    have h8 : pN σ ≤ 8 := by unfold pN; omega
    have hrb : σ.2.1 20 q = mkS (fun r => decide (tb (σ.2.1 89 (8 + r)) (q : Int) = 1)) (pN σ) := by
      have h9 := hC.W.rby q hqp
      refine mkS_ext h9.1 h8 (fun r hr => ?_)
      rw [h9.2 r hr]
      simp
    refine am_iload_n (q := 11) rfl (am_tab tk_X9_person 6 rfl) rfl ?_
    rcases (show w = 0 ∨ w = 1 ∨ w = 2 ∨ w = 3 ∨ w = 4 ∨ w = 5 ∨ w = 6 ∨ (w < 0 ∨ 6 < w) by omega) with e11 | e11 | e11 | e11 | e11 | e11 | e11 | e11
    · refine am_tableIn (t := 52) (off := 41) (by omega) (by omega) (by rw [e11]; rfl) dsw_X9_person_11 (by decide) ?_
      refine am_aload_n (q := 53) rfl (am_tab tk_X9_person 8 rfl) rfl ?_
      refine am_getR (q := 56) (a := 0) (k := 9) (n := 17) (j := 2) (r := some (15)) (Ls_0 hL) (by decide) rfl hC.t (by decide) (Or.inl kf_X9_19) (am_tab tk_X9_person 9 rfl) rfl ?_
      refine am_getR (q := 59) (a := 15) (k := 8) (n := 17) (j := 9) (r := some (17)) (Ls_15 hL) (by decide) rfl (Lr_15_9 hL) (by decide) (Or.inr kf_X9_173) (am_tab tk_X9_person 10 rfl) rfl ?_
      refine am_iload_n (q := 60) rfl (am_tab tk_X9_person 11 rfl) rfl ?_
      refine am_iald (q := 61) (a := 17) (n := 8) (x := (σ.2.1 87 (8 + q))) (Ls_17 hL) (by omega) (by omega) (by rw [show Int.toNat (q : Int) = q by omega]; exact hC.W.minds q hqp) (am_tab tk_X9_person 12 rfl) rfl ?_
      refine am_iret (Or.inl rfl) (Nat.le_of_ble_eq_true rfl) (Nat.le_of_ble_eq_true rfl) (am_tab tk_X9_person 13 rfl) ?_
      refine hQ _ _ ?_
      refine ⟨congrArg (fun z => some (am_i z)) ?_, rfl⟩
      unfold persM
      rw [if_pos (show 0 ≤ (q : Int) ∧ (q : Int) ≤ σ.2.1 85 5 - 1 by omega), show (8 + (q : Int)).toNat = 8 + q by omega, show (4 + (q : Int)).toNat = 4 + q by omega, show (12 + (q : Int)).toNat = 12 + q by omega]
      first | rw [if_pos (show w = 0 by omega)] | rw [if_neg (show ¬ w = 0 by omega), if_pos (show w = 1 by omega)] | rw [if_neg (show ¬ w = 0 by omega), if_neg (show ¬ w = 1 by omega), if_pos (show w = 2 by omega)] | rw [if_neg (show ¬ w = 0 by omega), if_neg (show ¬ w = 1 by omega), if_neg (show ¬ w = 2 by omega), if_pos (show w = 3 by omega)] | rw [if_neg (show ¬ w = 0 by omega), if_neg (show ¬ w = 1 by omega), if_neg (show ¬ w = 2 by omega), if_neg (show ¬ w = 3 by omega), if_pos (show w = 4 by omega)] | rw [if_neg (show ¬ w = 0 by omega), if_neg (show ¬ w = 1 by omega), if_neg (show ¬ w = 2 by omega), if_neg (show ¬ w = 3 by omega), if_neg (show ¬ w = 4 by omega), if_pos (show w = 5 by omega)] | rw [if_neg (show ¬ w = 0 by omega), if_neg (show ¬ w = 1 by omega), if_neg (show ¬ w = 2 by omega), if_neg (show ¬ w = 3 by omega), if_neg (show ¬ w = 4 by omega), if_neg (show ¬ w = 5 by omega), if_pos (show w = 6 by omega)] | rw [if_neg (show ¬ w = 0 by omega), if_neg (show ¬ w = 1 by omega), if_neg (show ¬ w = 2 by omega), if_neg (show ¬ w = 3 by omega), if_neg (show ¬ w = 4 by omega), if_neg (show ¬ w = 5 by omega), if_neg (show ¬ w = 6 by omega)]
    · refine am_tableIn (t := 62) (off := 51) (by omega) (by omega) (by rw [e11]; rfl) dsw_X9_person_11 (by decide) ?_
      refine am_aload_n (q := 63) rfl (am_tab tk_X9_person 14 rfl) rfl ?_
      refine am_getR (q := 66) (a := 0) (k := 9) (n := 17) (j := 2) (r := some (15)) (Ls_0 hL) (by decide) rfl hC.t (by decide) (Or.inl kf_X9_19) (am_tab tk_X9_person 15 rfl) rfl ?_
      refine am_getR (q := 69) (a := 15) (k := 8) (n := 17) (j := 10) (r := some (18)) (Ls_15 hL) (by decide) rfl (Lr_15_10 hL) (by decide) (Or.inr kf_X9_176) (am_tab tk_X9_person 16 rfl) rfl ?_
      refine am_iload_n (q := 70) rfl (am_tab tk_X9_person 17 rfl) rfl ?_
      refine am_iald (q := 71) (a := 18) (n := 8) (x := (σ.2.1 88 (8 + q))) (Ls_18 hL) (by omega) (by omega) (by rw [show Int.toNat (q : Int) = q by omega]; exact hC.W.asks q hqp) (am_tab tk_X9_person 18 rfl) rfl ?_
      refine am_iret (Or.inl rfl) (Nat.le_of_ble_eq_true rfl) (Nat.le_of_ble_eq_true rfl) (am_tab tk_X9_person 19 rfl) ?_
      refine hQ _ _ ?_
      refine ⟨congrArg (fun z => some (am_i z)) ?_, rfl⟩
      unfold persM
      rw [if_pos (show 0 ≤ (q : Int) ∧ (q : Int) ≤ σ.2.1 85 5 - 1 by omega), show (8 + (q : Int)).toNat = 8 + q by omega, show (4 + (q : Int)).toNat = 4 + q by omega, show (12 + (q : Int)).toNat = 12 + q by omega]
      first | rw [if_pos (show w = 0 by omega)] | rw [if_neg (show ¬ w = 0 by omega), if_pos (show w = 1 by omega)] | rw [if_neg (show ¬ w = 0 by omega), if_neg (show ¬ w = 1 by omega), if_pos (show w = 2 by omega)] | rw [if_neg (show ¬ w = 0 by omega), if_neg (show ¬ w = 1 by omega), if_neg (show ¬ w = 2 by omega), if_pos (show w = 3 by omega)] | rw [if_neg (show ¬ w = 0 by omega), if_neg (show ¬ w = 1 by omega), if_neg (show ¬ w = 2 by omega), if_neg (show ¬ w = 3 by omega), if_pos (show w = 4 by omega)] | rw [if_neg (show ¬ w = 0 by omega), if_neg (show ¬ w = 1 by omega), if_neg (show ¬ w = 2 by omega), if_neg (show ¬ w = 3 by omega), if_neg (show ¬ w = 4 by omega), if_pos (show w = 5 by omega)] | rw [if_neg (show ¬ w = 0 by omega), if_neg (show ¬ w = 1 by omega), if_neg (show ¬ w = 2 by omega), if_neg (show ¬ w = 3 by omega), if_neg (show ¬ w = 4 by omega), if_neg (show ¬ w = 5 by omega), if_pos (show w = 6 by omega)] | rw [if_neg (show ¬ w = 0 by omega), if_neg (show ¬ w = 1 by omega), if_neg (show ¬ w = 2 by omega), if_neg (show ¬ w = 3 by omega), if_neg (show ¬ w = 4 by omega), if_neg (show ¬ w = 5 by omega), if_neg (show ¬ w = 6 by omega)]
    · refine am_tableIn (t := 72) (off := 61) (by omega) (by omega) (by rw [e11]; rfl) dsw_X9_person_11 (by decide) ?_
      refine am_aload_n (q := 73) rfl (am_tab tk_X9_person 20 rfl) rfl ?_
      refine am_getR (q := 76) (a := 0) (k := 9) (n := 17) (j := 4) (r := some (32)) (Ls_0 hL) (by decide) rfl (Lr_0_4 hL) (by decide) (Or.inl kf_X9_38) (am_tab tk_X9_person 21 rfl) rfl ?_
      refine am_getR (q := 79) (a := 32) (k := 1) (n := 11) (j := 5) (r := some (33)) (Ls_32 hL) (by decide) rfl (Lr_32_5 hL) (by decide) (Or.inr kf_X9_179) (am_tab tk_X9_person 22 rfl) rfl ?_
      refine am_iload_n (q := 80) rfl (am_tab tk_X9_person 23 rfl) rfl ?_
      refine am_iald (q := 81) (a := 33) (n := 8) (x := (σ.2.1 96 (4 + q))) (Ls_33 hL) (by omega) (by omega) (by rw [show Int.toNat (q : Int) = q by omega]; exact hC.F.2.2.2.1 q (by omega)) (am_tab tk_X9_person 24 rfl) rfl ?_
      refine am_iret (Or.inl rfl) (Nat.le_of_ble_eq_true rfl) (Nat.le_of_ble_eq_true rfl) (am_tab tk_X9_person 25 rfl) ?_
      refine hQ _ _ ?_
      refine ⟨congrArg (fun z => some (am_i z)) ?_, rfl⟩
      unfold persM
      rw [if_pos (show 0 ≤ (q : Int) ∧ (q : Int) ≤ σ.2.1 85 5 - 1 by omega), show (8 + (q : Int)).toNat = 8 + q by omega, show (4 + (q : Int)).toNat = 4 + q by omega, show (12 + (q : Int)).toNat = 12 + q by omega]
      first | rw [if_pos (show w = 0 by omega)] | rw [if_neg (show ¬ w = 0 by omega), if_pos (show w = 1 by omega)] | rw [if_neg (show ¬ w = 0 by omega), if_neg (show ¬ w = 1 by omega), if_pos (show w = 2 by omega)] | rw [if_neg (show ¬ w = 0 by omega), if_neg (show ¬ w = 1 by omega), if_neg (show ¬ w = 2 by omega), if_pos (show w = 3 by omega)] | rw [if_neg (show ¬ w = 0 by omega), if_neg (show ¬ w = 1 by omega), if_neg (show ¬ w = 2 by omega), if_neg (show ¬ w = 3 by omega), if_pos (show w = 4 by omega)] | rw [if_neg (show ¬ w = 0 by omega), if_neg (show ¬ w = 1 by omega), if_neg (show ¬ w = 2 by omega), if_neg (show ¬ w = 3 by omega), if_neg (show ¬ w = 4 by omega), if_pos (show w = 5 by omega)] | rw [if_neg (show ¬ w = 0 by omega), if_neg (show ¬ w = 1 by omega), if_neg (show ¬ w = 2 by omega), if_neg (show ¬ w = 3 by omega), if_neg (show ¬ w = 4 by omega), if_neg (show ¬ w = 5 by omega), if_pos (show w = 6 by omega)] | rw [if_neg (show ¬ w = 0 by omega), if_neg (show ¬ w = 1 by omega), if_neg (show ¬ w = 2 by omega), if_neg (show ¬ w = 3 by omega), if_neg (show ¬ w = 4 by omega), if_neg (show ¬ w = 5 by omega), if_neg (show ¬ w = 6 by omega)]
    · refine am_tableIn (t := 82) (off := 71) (by omega) (by omega) (by rw [e11]; rfl) dsw_X9_person_11 (by decide) ?_
      refine am_aload_n (q := 83) rfl (am_tab tk_X9_person 26 rfl) rfl ?_
      refine am_getR (q := 86) (a := 0) (k := 9) (n := 17) (j := 4) (r := some (32)) (Ls_0 hL) (by decide) rfl (Lr_0_4 hL) (by decide) (Or.inl kf_X9_38) (am_tab tk_X9_person 27 rfl) rfl ?_
      refine am_getI (q := 89) (a := 32) (k := 1) (n := 11) (j := 4) (x := (σ.2.1 32 4)) (Ls_32 hL) (by decide) rfl rfl (by decide) (Or.inr kf_X9_182) (am_tab tk_X9_person 28 rfl) rfl ?_
      refine am_iload_n (q := 90) rfl (am_tab tk_X9_person 29 rfl) rfl ?_
      refine am_callSr (q := 93) (me2 := M_X9_bit) (As := [am_i ((σ.2.1 32 4)), am_i ((q : Int))]) (rest := []) (c_bit σ (σ.2.1 32 4) (q : Int) hC.F.2.1 (by omega)) ⟨rfl, rfl⟩ ⟨Or.inl km_X9_185, kc_X9_bit, kn_X9, kd_X9_bit, ⟨(Nat.le_of_ble_eq_true rfl), (Nat.le_of_ble_eq_true rfl)⟩, ⟨(Nat.le_of_ble_eq_true rfl), (Nat.le_of_ble_eq_true rfl)⟩, (Nat.le_of_ble_eq_true rfl)⟩ ki_X9_bit rfl (am_tab tk_X9_person 30 rfl) rfl ?_
      rintro r τ ⟨hr9, hτ⟩
      rw [show tb (σ.2.1 32 4) (q : Int) = σ.2.1 96 (12 + q) from hC.F.2.2.1 q (by omega)] at hr9
      rw [hr9, hτ]
      refine am_st (st2 := [am_i ((σ.2.1 96 (12 + q)))]) rfl ?_
      refine am_iret (Or.inl rfl) (Nat.le_of_ble_eq_true rfl) (Nat.le_of_ble_eq_true rfl) (am_tab tk_X9_person 31 rfl) ?_
      refine hQ _ _ ?_
      refine ⟨congrArg (fun z => some (am_i z)) ?_, rfl⟩
      unfold persM
      rw [if_pos (show 0 ≤ (q : Int) ∧ (q : Int) ≤ σ.2.1 85 5 - 1 by omega), show (8 + (q : Int)).toNat = 8 + q by omega, show (4 + (q : Int)).toNat = 4 + q by omega, show (12 + (q : Int)).toNat = 12 + q by omega]
      first | rw [if_pos (show w = 0 by omega)] | rw [if_neg (show ¬ w = 0 by omega), if_pos (show w = 1 by omega)] | rw [if_neg (show ¬ w = 0 by omega), if_neg (show ¬ w = 1 by omega), if_pos (show w = 2 by omega)] | rw [if_neg (show ¬ w = 0 by omega), if_neg (show ¬ w = 1 by omega), if_neg (show ¬ w = 2 by omega), if_pos (show w = 3 by omega)] | rw [if_neg (show ¬ w = 0 by omega), if_neg (show ¬ w = 1 by omega), if_neg (show ¬ w = 2 by omega), if_neg (show ¬ w = 3 by omega), if_pos (show w = 4 by omega)] | rw [if_neg (show ¬ w = 0 by omega), if_neg (show ¬ w = 1 by omega), if_neg (show ¬ w = 2 by omega), if_neg (show ¬ w = 3 by omega), if_neg (show ¬ w = 4 by omega), if_pos (show w = 5 by omega)] | rw [if_neg (show ¬ w = 0 by omega), if_neg (show ¬ w = 1 by omega), if_neg (show ¬ w = 2 by omega), if_neg (show ¬ w = 3 by omega), if_neg (show ¬ w = 4 by omega), if_neg (show ¬ w = 5 by omega), if_pos (show w = 6 by omega)] | rw [if_neg (show ¬ w = 0 by omega), if_neg (show ¬ w = 1 by omega), if_neg (show ¬ w = 2 by omega), if_neg (show ¬ w = 3 by omega), if_neg (show ¬ w = 4 by omega), if_neg (show ¬ w = 5 by omega), if_neg (show ¬ w = 6 by omega)]
    · refine am_tableIn (t := 94) (off := 83) (by omega) (by omega) (by rw [e11]; rfl) dsw_X9_person_11 (by decide) ?_
      refine am_aload_n (q := 95) rfl (am_tab tk_X9_person 32 rfl) rfl ?_
      refine am_getR (q := 98) (a := 0) (k := 9) (n := 17) (j := 2) (r := some (15)) (Ls_0 hL) (by decide) rfl hC.t (by decide) (Or.inl kf_X9_19) (am_tab tk_X9_person 33 rfl) rfl ?_
      refine am_getR (q := 101) (a := 15) (k := 8) (n := 17) (j := 11) (r := some (19)) (Ls_15 hL) (by decide) rfl (Lr_15_11 hL) (by decide) (Or.inr kf_X9_189) (am_tab tk_X9_person 34 rfl) rfl ?_
      refine am_iload_n (q := 102) rfl (am_tab tk_X9_person 35 rfl) rfl ?_
      refine am_iald (q := 103) (a := 19) (n := 8) (x := (σ.2.1 89 (8 + q))) (Ls_19 hL) (by omega) (by omega) (by rw [show Int.toNat (q : Int) = q by omega]; exact hC.W.rems q hqp) (am_tab tk_X9_person 36 rfl) rfl ?_
      refine am_iret (Or.inl rfl) (Nat.le_of_ble_eq_true rfl) (Nat.le_of_ble_eq_true rfl) (am_tab tk_X9_person 37 rfl) ?_
      refine hQ _ _ ?_
      refine ⟨congrArg (fun z => some (am_i z)) ?_, rfl⟩
      unfold persM
      rw [if_pos (show 0 ≤ (q : Int) ∧ (q : Int) ≤ σ.2.1 85 5 - 1 by omega), show (8 + (q : Int)).toNat = 8 + q by omega, show (4 + (q : Int)).toNat = 4 + q by omega, show (12 + (q : Int)).toNat = 12 + q by omega]
      first | rw [if_pos (show w = 0 by omega)] | rw [if_neg (show ¬ w = 0 by omega), if_pos (show w = 1 by omega)] | rw [if_neg (show ¬ w = 0 by omega), if_neg (show ¬ w = 1 by omega), if_pos (show w = 2 by omega)] | rw [if_neg (show ¬ w = 0 by omega), if_neg (show ¬ w = 1 by omega), if_neg (show ¬ w = 2 by omega), if_pos (show w = 3 by omega)] | rw [if_neg (show ¬ w = 0 by omega), if_neg (show ¬ w = 1 by omega), if_neg (show ¬ w = 2 by omega), if_neg (show ¬ w = 3 by omega), if_pos (show w = 4 by omega)] | rw [if_neg (show ¬ w = 0 by omega), if_neg (show ¬ w = 1 by omega), if_neg (show ¬ w = 2 by omega), if_neg (show ¬ w = 3 by omega), if_neg (show ¬ w = 4 by omega), if_pos (show w = 5 by omega)] | rw [if_neg (show ¬ w = 0 by omega), if_neg (show ¬ w = 1 by omega), if_neg (show ¬ w = 2 by omega), if_neg (show ¬ w = 3 by omega), if_neg (show ¬ w = 4 by omega), if_neg (show ¬ w = 5 by omega), if_pos (show w = 6 by omega)] | rw [if_neg (show ¬ w = 0 by omega), if_neg (show ¬ w = 1 by omega), if_neg (show ¬ w = 2 by omega), if_neg (show ¬ w = 3 by omega), if_neg (show ¬ w = 4 by omega), if_neg (show ¬ w = 5 by omega), if_neg (show ¬ w = 6 by omega)]
    · refine am_tableIn (t := 104) (off := 93) (by omega) (by omega) (by rw [e11]; rfl) dsw_X9_person_11 (by decide) ?_
      refine am_aload_n (q := 105) rfl (am_tab tk_X9_person 38 rfl) rfl ?_
      refine am_getR (q := 108) (a := 0) (k := 9) (n := 17) (j := 2) (r := some (15)) (Ls_0 hL) (by decide) rfl hC.t (by decide) (Or.inl kf_X9_19) (am_tab tk_X9_person 39 rfl) rfl ?_
      refine am_getR (q := 111) (a := 15) (k := 8) (n := 17) (j := 12) (r := some (20)) (Ls_15 hL) (by decide) rfl (Lr_15_12 hL) (by decide) (Or.inr kf_X9_192) (am_tab tk_X9_person 40 rfl) rfl ?_
      refine am_iload_n (q := 112) rfl (am_tab tk_X9_person 41 rfl) rfl ?_
      refine am_iald (q := 113) (a := 20) (n := 8) (x := (mkS (fun r => decide (tb (σ.2.1 89 (8 + r)) (q : Int) = 1)) (pN σ))) (Ls_20 hL) (by omega) (by omega) (by rw [show Int.toNat (q : Int) = q by omega]; exact hrb) (am_tab tk_X9_person 42 rfl) rfl ?_
      refine am_iret (Or.inl rfl) (Nat.le_of_ble_eq_true rfl) (Nat.le_of_ble_eq_true rfl) (am_tab tk_X9_person 43 rfl) ?_
      refine hQ _ _ ?_
      refine ⟨congrArg (fun z => some (am_i z)) ?_, rfl⟩
      unfold persM
      rw [if_pos (show 0 ≤ (q : Int) ∧ (q : Int) ≤ σ.2.1 85 5 - 1 by omega), show (8 + (q : Int)).toNat = 8 + q by omega, show (4 + (q : Int)).toNat = 4 + q by omega, show (12 + (q : Int)).toNat = 12 + q by omega]
      first | rw [if_pos (show w = 0 by omega)] | rw [if_neg (show ¬ w = 0 by omega), if_pos (show w = 1 by omega)] | rw [if_neg (show ¬ w = 0 by omega), if_neg (show ¬ w = 1 by omega), if_pos (show w = 2 by omega)] | rw [if_neg (show ¬ w = 0 by omega), if_neg (show ¬ w = 1 by omega), if_neg (show ¬ w = 2 by omega), if_pos (show w = 3 by omega)] | rw [if_neg (show ¬ w = 0 by omega), if_neg (show ¬ w = 1 by omega), if_neg (show ¬ w = 2 by omega), if_neg (show ¬ w = 3 by omega), if_pos (show w = 4 by omega)] | rw [if_neg (show ¬ w = 0 by omega), if_neg (show ¬ w = 1 by omega), if_neg (show ¬ w = 2 by omega), if_neg (show ¬ w = 3 by omega), if_neg (show ¬ w = 4 by omega), if_pos (show w = 5 by omega)] | rw [if_neg (show ¬ w = 0 by omega), if_neg (show ¬ w = 1 by omega), if_neg (show ¬ w = 2 by omega), if_neg (show ¬ w = 3 by omega), if_neg (show ¬ w = 4 by omega), if_neg (show ¬ w = 5 by omega), if_pos (show w = 6 by omega)] | rw [if_neg (show ¬ w = 0 by omega), if_neg (show ¬ w = 1 by omega), if_neg (show ¬ w = 2 by omega), if_neg (show ¬ w = 3 by omega), if_neg (show ¬ w = 4 by omega), if_neg (show ¬ w = 5 by omega), if_neg (show ¬ w = 6 by omega)]
    · refine am_tableIn (t := 114) (off := 103) (by omega) (by omega) (by rw [e11]; rfl) dsw_X9_person_11 (by decide) ?_
      refine am_aload_n (q := 115) rfl (am_tab tk_X9_person 44 rfl) rfl ?_
      refine am_iload_n (q := 116) rfl (am_tab tk_X9_person 45 rfl) rfl ?_
      refine am_callV0 (q := 119) (me2 := M_X9_daysToldOff) (b := 0) (kb := 9) (nb := 17) (As := [am_i ((q : Int))]) (rest := []) (out := [am_i (sumN (fun d => tb (σ.2.1 96 (21 + d)) (q : Int)) 90)]) (c_daysToldOff_15 σ hC q (by omega) hZ) ⟨rfl, rfl⟩ (Ls_0 hL) (by decide) ⟨Or.inl km_X9_195, kc_X9_daysToldOff, kn_X9, kd_X9_daysToldOff, ⟨(Nat.le_of_ble_eq_true rfl), (Nat.le_of_ble_eq_true rfl)⟩, ⟨(Nat.le_of_ble_eq_true rfl), (Nat.le_of_ble_eq_true rfl)⟩, (Nat.le_of_ble_eq_true rfl)⟩ ki_X9_daysToldOff ks_X9_daysToldOff rfl rfl (am_tab tk_X9_person 46 rfl) rfl ?_
      refine am_iret (Or.inl rfl) (Nat.le_of_ble_eq_true rfl) (Nat.le_of_ble_eq_true rfl) (am_tab tk_X9_person 47 rfl) ?_
      refine hQ _ _ ?_
      refine ⟨congrArg (fun z => some (am_i z)) ?_, rfl⟩
      unfold persM
      rw [if_pos (show 0 ≤ (q : Int) ∧ (q : Int) ≤ σ.2.1 85 5 - 1 by omega), show (8 + (q : Int)).toNat = 8 + q by omega, show (4 + (q : Int)).toNat = 4 + q by omega, show (12 + (q : Int)).toNat = 12 + q by omega]
      first | rw [if_pos (show w = 0 by omega)] | rw [if_neg (show ¬ w = 0 by omega), if_pos (show w = 1 by omega)] | rw [if_neg (show ¬ w = 0 by omega), if_neg (show ¬ w = 1 by omega), if_pos (show w = 2 by omega)] | rw [if_neg (show ¬ w = 0 by omega), if_neg (show ¬ w = 1 by omega), if_neg (show ¬ w = 2 by omega), if_pos (show w = 3 by omega)] | rw [if_neg (show ¬ w = 0 by omega), if_neg (show ¬ w = 1 by omega), if_neg (show ¬ w = 2 by omega), if_neg (show ¬ w = 3 by omega), if_pos (show w = 4 by omega)] | rw [if_neg (show ¬ w = 0 by omega), if_neg (show ¬ w = 1 by omega), if_neg (show ¬ w = 2 by omega), if_neg (show ¬ w = 3 by omega), if_neg (show ¬ w = 4 by omega), if_pos (show w = 5 by omega)] | rw [if_neg (show ¬ w = 0 by omega), if_neg (show ¬ w = 1 by omega), if_neg (show ¬ w = 2 by omega), if_neg (show ¬ w = 3 by omega), if_neg (show ¬ w = 4 by omega), if_neg (show ¬ w = 5 by omega), if_pos (show w = 6 by omega)] | rw [if_neg (show ¬ w = 0 by omega), if_neg (show ¬ w = 1 by omega), if_neg (show ¬ w = 2 by omega), if_neg (show ¬ w = 3 by omega), if_neg (show ¬ w = 4 by omega), if_neg (show ¬ w = 5 by omega), if_neg (show ¬ w = 6 by omega)]
    · refine am_tableOut (t := 120) e11 dsw_X9_person_11 (by decide) ?_
      refine am_iconst (q := 121) (n := (-1)) (by decide) (am_tab tk_X9_person 48 rfl) rfl ?_
      refine am_iret (Or.inl rfl) (Nat.le_of_ble_eq_true rfl) (Nat.le_of_ble_eq_true rfl) (am_tab tk_X9_person 49 rfl) ?_
      refine hQ _ _ ?_
      refine ⟨congrArg (fun z => some (am_i z)) ?_, rfl⟩
      unfold persM
      rw [if_pos (show 0 ≤ (q : Int) ∧ (q : Int) ≤ σ.2.1 85 5 - 1 by omega), show (8 + (q : Int)).toNat = 8 + q by omega, show (4 + (q : Int)).toNat = 4 + q by omega, show (12 + (q : Int)).toNat = 12 + q by omega]
      first | rw [if_pos (show w = 0 by omega)] | rw [if_neg (show ¬ w = 0 by omega), if_pos (show w = 1 by omega)] | rw [if_neg (show ¬ w = 0 by omega), if_neg (show ¬ w = 1 by omega), if_pos (show w = 2 by omega)] | rw [if_neg (show ¬ w = 0 by omega), if_neg (show ¬ w = 1 by omega), if_neg (show ¬ w = 2 by omega), if_pos (show w = 3 by omega)] | rw [if_neg (show ¬ w = 0 by omega), if_neg (show ¬ w = 1 by omega), if_neg (show ¬ w = 2 by omega), if_neg (show ¬ w = 3 by omega), if_pos (show w = 4 by omega)] | rw [if_neg (show ¬ w = 0 by omega), if_neg (show ¬ w = 1 by omega), if_neg (show ¬ w = 2 by omega), if_neg (show ¬ w = 3 by omega), if_neg (show ¬ w = 4 by omega), if_pos (show w = 5 by omega)] | rw [if_neg (show ¬ w = 0 by omega), if_neg (show ¬ w = 1 by omega), if_neg (show ¬ w = 2 by omega), if_neg (show ¬ w = 3 by omega), if_neg (show ¬ w = 4 by omega), if_neg (show ¬ w = 5 by omega), if_pos (show w = 6 by omega)] | rw [if_neg (show ¬ w = 0 by omega), if_neg (show ¬ w = 1 by omega), if_neg (show ¬ w = 2 by omega), if_neg (show ¬ w = 3 by omega), if_neg (show ¬ w = 4 by omega), if_neg (show ¬ w = 5 by omega), if_neg (show ¬ w = 6 by omega)]
  · replace h5 := b01z h5
    refine am_iconst (q := 9) (n := (-1)) (by decide) (am_tab tk_X9_person 4 rfl) rfl ?_
    refine am_iret (Or.inl rfl) (Nat.le_of_ble_eq_true rfl) (Nat.le_of_ble_eq_true rfl) (am_tab tk_X9_person 5 rfl) ?_
    refine hQ _ _ ?_
    refine ⟨congrArg (fun z => some (am_i z)) ?_, rfl⟩
    unfold persM
    rw [if_neg (by omega)]
