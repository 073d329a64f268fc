theorem c_bit (σ : am_H) (x k : Int) : am_met M_X9_bit [am_i x, am_i k] σ (fun r σ' => r = some (am_i (ao_and (ao_shr x k) 1)) ∧ σ' = σ) := by
  refine am_enter (by decide +kernel) rfl (Nat.le_of_ble_eq_true rfl) (fun _ _ _ => trivial) ?_
  refine am_iload_n (q := 1) rfl (am_tab tk_X9_bit 0 rfl) rfl ?_
  refine am_iload_n (q := 2) rfl (am_tab tk_X9_bit 1 rfl) rfl ?_
  refine am_ishr (q := 3) (am_tab tk_X9_bit 2 rfl) rfl ?_
  refine am_iconst (q := 4) (n := 1) (by decide) (am_tab tk_X9_bit 3 rfl) rfl ?_
  refine am_iand (q := 5) (am_tab tk_X9_bit 4 rfl) rfl ?_
  refine am_iret (Or.inl rfl) (by decide) (by decide) (am_tab tk_X9_bit 5 rfl) ?_
  exact ⟨rfl, rfl⟩
theorem c_daysLeft (σ : am_H) (a t : Nat) (y d n : Int) (ha : σ.1[a]? = some (1, 11)) (ht : σ.1[t]? = some (8, 17)) (hy : σ.2.1 a 0 = y) (hd : σ.2.1 a 1 = d) (hn : σ.2.1 t 0 = n) (h1 : 1 ≤ y ∧ y ≤ 999) (h2 : 0 ≤ d ∧ d ≤ 90) (h3 : 0 ≤ n ∧ n ≤ 90) : am_met M_X1_daysLeft [am_r a, am_r t] σ (fun r σ' => r = some (am_i ((999 - y) * n + n - d)) ∧ σ' = σ) := by
  refine am_enter (by decide +kernel) rfl (Nat.le_of_ble_eq_true rfl) (fun _ _ _ => trivial) ?_
  have hm : 0 ≤ (999 - y) * n := Int.mul_nonneg (by omega) (by omega)
  have hm2 : (999 - y) * n ≤ 998 * 90 := Int.mul_le_mul (by omega) (by omega) (by omega) (by omega)
  refine am_sipush (q := 3) (n := 999) (by decide) rfl (am_tab tk_X1_daysLeft 0 rfl) rfl ?_
  refine am_aload_n (q := 4) rfl (am_tab tk_X1_daysLeft 1 rfl) rfl ?_
  refine am_getI (q := 7) (a := a) (k := 1) (n := 11) (j := 0) (x := y) ha (by decide) rfl hy (by decide) (Or.inl kf_X1_9) (am_tab tk_X1_daysLeft 2 rfl) rfl ?_
  refine am_isub (q := 8) (by omega) (am_tab tk_X1_daysLeft 3 rfl) rfl ?_
  refine am_aload_n (q := 9) rfl (am_tab tk_X1_daysLeft 4 rfl) rfl ?_
  refine am_getI (q := 12) (a := t) (k := 8) (n := 17) (j := 0) (x := n) ht (by decide) rfl hn (by decide) (Or.inr kf_X1_61) (am_tab tk_X1_daysLeft 5 rfl) rfl ?_
  refine am_imul (q := 13) (by omega) (am_tab tk_X1_daysLeft 6 rfl) rfl ?_
  refine am_aload_n (q := 14) rfl (am_tab tk_X1_daysLeft 7 rfl) rfl ?_
  refine am_getI (q := 17) (a := t) (k := 8) (n := 17) (j := 0) (x := n) ht (by decide) rfl hn (by decide) (Or.inr kf_X1_61) (am_tab tk_X1_daysLeft 8 rfl) rfl ?_
  refine am_iadd (q := 18) (by omega) (am_tab tk_X1_daysLeft 9 rfl) rfl ?_
  refine am_aload_n (q := 19) rfl (am_tab tk_X1_daysLeft 10 rfl) rfl ?_
  refine am_getI (q := 22) (a := a) (k := 1) (n := 11) (j := 1) (x := d) ha (by decide) rfl hd (by decide) (Or.inl kf_X1_28) (am_tab tk_X1_daysLeft 11 rfl) rfl ?_
  refine am_isub (q := 23) (by omega) (am_tab tk_X1_daysLeft 12 rfl) rfl ?_
  refine am_iret (Or.inl rfl) (by decide) (by decide) (am_tab tk_X1_daysLeft 13 rfl) ?_
  exact ⟨rfl, rfl⟩
