def mkS (f : Nat → Bool) : Nat → Int
  | 0 => 0
  | n + 1 => mkS f n + if f n then 2 ^ n else 0
theorem mkS_rng (f : Nat → Bool) : ∀ n, 0 ≤ mkS f n ∧ mkS f n < 2 ^ n
  | 0 => ⟨Int.le_refl _, by show (0 : Int) < 1; omega⟩
  | n + 1 => by
    obtain ⟨h1, h2⟩ := mkS_rng f n
    have h3 : (2 : Int) ^ (n + 1) = 2 ^ n + 2 ^ n := by rw [Int.pow_succ]; omega
    unfold mkS
    split <;> omega
theorem pow8 : ∀ n, n ≤ 8 → (2 : Int) ^ n ≤ 256 := by decide
theorem mkS_256 (f : Nat → Bool) {n : Nat} (hn : n ≤ 8) : 0 ≤ mkS f n ∧ mkS f n < 256 := by
  have h1 := mkS_rng f n
  have h2 := pow8 n hn
  omega
theorem mkS_tb (f : Nat → Bool) : ∀ n, n ≤ 8 → ∀ q : Nat, q < 8 → tb (mkS f n) q = if q < n ∧ f q = true then 1 else 0
  | 0, _, q, hq => by simp [mkS, tb]
  | n + 1, hn, q, hq => by
    have ih := mkS_tb f n (by omega) q hq
    have hr := mkS_rng f n
    unfold mkS
    by_cases hf : f n = true
    · rw [if_pos hf]
      have h1 := (or_eq (s := mkS f n) (p := (n : Int)) ⟨by omega, by omega⟩ (by simpa using hr)).2 (q : Int) (by omega) (by omega)
      simp only [Int.toNat_natCast] at h1
      rw [h1, ih]
      by_cases hqn : q = n
      · subst hqn; simp [hf]
      · have : ¬ ((q : Int) = (n : Int)) := by omega
        rw [if_neg this]
        by_cases hfq : f q = true
        · simp [hfq, show (q < n + 1) ↔ (q < n) by omega]
        · simp [hfq]
    · rw [if_neg hf, Int.add_zero, ih]
      by_cases hqn : q = n
      · subst hqn; simp [hf]
      · by_cases hfq : f q = true
        · simp [hfq, show (q < n + 1) ↔ (q < n) by omega]
        · simp [hfq]
theorem mkS_or (f : Nat → Bool) {n : Nat} (hn : n < 8) (hf : f n = true) : ao_or (mkS f n) (ao_shl 1 (n : Int)) = mkS f (n + 1) := by
  have hr := mkS_rng f n
  rw [(or_eq (s := mkS f n) (p := (n : Int)) ⟨by omega, by omega⟩ (by simpa using hr)).1]
  simp [mkS, hf]
theorem mkS_no (f : Nat → Bool) {n : Nat} (hf : ¬ f n = true) : mkS f n = mkS f (n + 1) := by simp [mkS, hf]
theorem bits_all : (List.range 256).all (fun s => decide ((s ≠ 0 → 0 ≤ ao_and (s : Nat) ((s : Nat) - 1) ∧ ao_and (s : Nat) ((s : Nat) - 1) < 256 ∧ bc (ao_and (s : Nat) ((s : Nat) - 1)) = bc (s : Nat) - 1) ∧ (bc (s : Nat) = 0 → s = 0) ∧ 0 ≤ bc (s : Nat) ∧ bc (s : Nat) ≤ 8 ∧ (s = 0 → bc (s : Nat) = 0))) = true := by decide +kernel
theorem bits_get {s : Int} (hs : 0 ≤ s ∧ s < 256) : (s ≠ 0 → 0 ≤ ao_and s (s - 1) ∧ ao_and s (s - 1) < 256 ∧ bc (ao_and s (s - 1)) = bc s - 1) ∧ (bc s = 0 → s = 0) ∧ 0 ≤ bc s ∧ bc s ≤ 8 ∧ (s = 0 → bc s = 0) := by
  obtain ⟨a, rfl⟩ : ∃ n : Nat, s = n := ⟨s.toNat, by omega⟩
  have h := of_decide_eq_true (List.all_eq_true.mp bits_all a (List.mem_range.mpr (by omega)))
  refine ⟨fun h1 => h.1 (by omega), fun h1 => by have := h.2.1 h1; omega, h.2.2.1, h.2.2.2.1, fun h1 => h.2.2.2.2 (by omega)⟩
theorem bits_loop (σ : am_H) (x : Int) (hx8 : bc x ≤ 8) : ∀ (m : Nat) (s n : Int), 0 ≤ s ∧ s < 256 → bc s = m → 0 ≤ n ∧ n ≤ 8 → n + bc s = bc x → am_wp M_X10_bits (fun r σ' => r = some (am_i (bc x)) ∧ σ' = σ) 0 0 4 [(2, am_i s), (1, am_i n), (0, am_i x)] [] σ := by
  intro m
  induction m with
  | zero =>
    intro s n hs hm hn hT
    have hb := bits_get hs
    refine am_iload_n (q := 5) rfl (am_tab tk_X10_bits 4 rfl) rfl ?_
    refine am_if_eq (q := 8) (t := 20) (am_tab tk_X10_bits 5 rfl) (by decide) rfl (fun h5 => ?_) (fun h5 => ?_)
    · refine am_iload_n (q := 21) rfl (am_tab tk_X10_bits 14 rfl) rfl ?_
      refine am_iret (Or.inl rfl) (Nat.le_of_ble_eq_true rfl) (Nat.le_of_ble_eq_true rfl) (am_tab tk_X10_bits 15 rfl) ?_
      exact ⟨by rw [show n = bc x by omega], rfl⟩
    · exact absurd (hb.2.1 (by omega)) h5
  | succ m ih =>
    intro s n hs hm hn hT
    have hb := bits_get hs
    refine am_iload_n (q := 5) rfl (am_tab tk_X10_bits 4 rfl) rfl ?_
    refine am_if_eq (q := 8) (t := 20) (am_tab tk_X10_bits 5 rfl) (by decide) rfl (fun h5 => ?_) (fun h5 => ?_)
    · exact absurd (hb.2.2.2.2 h5) (by omega)
    · refine am_iinc (q := 11) rfl (by omega) (by decide) (ls2 := [(1, am_i ((n + 1))), (2, am_i s), (0, am_i x)]) rfl (am_tab tk_X10_bits 6 rfl) rfl ?_
      refine am_iload_n (q := 12) rfl (am_tab tk_X10_bits 7 rfl) rfl ?_
      refine am_iload_n (q := 13) rfl (am_tab tk_X10_bits 8 rfl) rfl ?_
      refine am_iconst (q := 14) (n := 1) (by decide) (am_tab tk_X10_bits 9 rfl) rfl ?_
      refine am_isub (q := 15) (by omega) (am_tab tk_X10_bits 10 rfl) rfl ?_
      refine am_iand (q := 16) (am_tab tk_X10_bits 11 rfl) rfl ?_
      refine am_istore_n (q := 17) (by decide) (ls2 := [(2, am_i ((ao_and s (s - 1)))), (1, am_i ((n + 1))), (0, am_i x)]) rfl (am_tab tk_X10_bits 12 rfl) rfl ?_
      refine am_goto (t := 4) (am_tab tk_X10_bits 13 rfl) (by decide) ?_
      exact ih _ _ ⟨(hb.1 h5).1, (hb.1 h5).2.1⟩ (by rw [(hb.1 h5).2.2]; omega) (by have := hb.2.2.1; omega) (by rw [(hb.1 h5).2.2]; omega)
theorem c_X10_bits (σ : am_H) (hL : lay σ) (x : Int) (hx : 0 ≤ x ∧ x < 256) : am_met M_X10_bits [am_i x] σ (fun r σ' => r = some (am_i (bc x)) ∧ σ' = σ) := by
  refine am_enter (show plainFor yX10_bits = true by decide +kernel) rfl (Nat.le_of_ble_eq_true rfl) (fun _ _ _ => trivial) ?_
  refine am_iconst (q := 1) (n := 0) (by decide) (am_tab tk_X10_bits 0 rfl) rfl ?_
  refine am_istore_n (q := 2) (by decide) (ls2 := [(1, am_i 0), (0, am_i x)]) rfl (am_tab tk_X10_bits 1 rfl) rfl ?_
  refine am_iload_n (q := 3) rfl (am_tab tk_X10_bits 2 rfl) rfl ?_
  refine am_istore_n (q := 4) (by decide) (ls2 := [(2, am_i x), (1, am_i 0), (0, am_i x)]) rfl (am_tab tk_X10_bits 3 rfl) rfl ?_
  have hb := bits_get hx
  exact bits_loop σ x hb.2.2.2.1 (bc x).toNat x 0 hx (by omega) (by omega) (by omega)
theorem tn12 (k : Nat) (i : Nat) : ((k : Int) + (i : Int)).toNat = k + i := by omega
theorem living_loop (σ : am_H) (hL : lay σ) (N : Nat) (hN : σ.2.1 85 5 = N) (h8 : N ≤ 8) : ∀ m i : Nat, i + m = N → am_wp M_X10_living (fun r σ' => r = some (am_i (mkS (fun p => decide (¬ σ.2.1 96 (12 + p) = 1)) N)) ∧ σ' = σ) 0 0 4 [(2, am_i ((i : Int))), (1, am_i (mkS (fun p => decide (¬ σ.2.1 96 (12 + p) = 1)) i)), (0, am_r 55)] [] σ := by
  intro m
  induction m with
  | zero =>
    intro i hi
    refine am_iload_n (q := 5) rfl (am_tab tk_X10_living 4 rfl) rfl ?_
    refine am_aload_n (q := 6) rfl (am_tab tk_X10_living 5 rfl) rfl ?_
    refine am_callV0 (q := 9) (me2 := M_X10_peopleMany) (b := 55) (kb := 10) (nb := 108) (As := []) (rest := [am_i ((i : Int))]) (out := [am_i (σ.2.1 85 5), am_i ((i : Int))]) (c_X10_peopleMany σ hL  ) ⟨rfl, rfl⟩ (Ls_55 hL) (by decide) ⟨Or.inl km_X10_394, kc_X10_peopleMany, kn_X10, kd_X10_peopleMany, ⟨(Nat.le_of_ble_eq_true rfl), (Nat.le_of_ble_eq_true rfl)⟩, ⟨(Nat.le_of_ble_eq_true rfl), (Nat.le_of_ble_eq_true rfl)⟩, (Nat.le_of_ble_eq_true rfl)⟩ ki_X10_peopleMany ks_X10_peopleMany rfl rfl (am_tab tk_X10_living 6 rfl) rfl ?_
    refine am_icmp_ge (q := 12) (t := 32) (am_tab tk_X10_living 7 rfl) (by decide) rfl (fun h9 => ?_) (fun h9 => ?_)
    · refine am_iload_n (q := 33) rfl (am_tab tk_X10_living 20 rfl) rfl ?_
      refine am_iret (Or.inl rfl) (Nat.le_of_ble_eq_true rfl) (Nat.le_of_ble_eq_true rfl) (am_tab tk_X10_living 21 rfl) ?_
      exact ⟨by rw [show i = N by omega], rfl⟩
    · exact absurd h9 (by omega)
  | succ m ih =>
    intro i hi
    have e1 : ((12 : Int) + (i : Int)).toNat = 12 + i := by omega
    refine am_iload_n (q := 5) rfl (am_tab tk_X10_living 4 rfl) rfl ?_
    refine am_aload_n (q := 6) rfl (am_tab tk_X10_living 5 rfl) rfl ?_
    refine am_callV0 (q := 9) (me2 := M_X10_peopleMany) (b := 55) (kb := 10) (nb := 108) (As := []) (rest := [am_i ((i : Int))]) (out := [am_i (σ.2.1 85 5), am_i ((i : Int))]) (c_X10_peopleMany σ hL  ) ⟨rfl, rfl⟩ (Ls_55 hL) (by decide) ⟨Or.inl km_X10_394, kc_X10_peopleMany, kn_X10, kd_X10_peopleMany, ⟨(Nat.le_of_ble_eq_true rfl), (Nat.le_of_ble_eq_true rfl)⟩, ⟨(Nat.le_of_ble_eq_true rfl), (Nat.le_of_ble_eq_true rfl)⟩, (Nat.le_of_ble_eq_true rfl)⟩ ki_X10_peopleMany ks_X10_peopleMany rfl rfl (am_tab tk_X10_living 6 rfl) rfl ?_
    refine am_icmp_ge (q := 12) (t := 32) (am_tab tk_X10_living 7 rfl) (by decide) rfl (fun h9 => ?_) (fun h9 => ?_)
    · exact absurd h9 (by omega)
    · refine am_aload_n (q := 13) rfl (am_tab tk_X10_living 8 rfl) rfl ?_
      refine am_iload_n (q := 14) rfl (am_tab tk_X10_living 9 rfl) rfl ?_
      refine am_callV0 (q := 17) (me2 := M_X10_isDead) (b := 55) (kb := 10) (nb := 108) (As := [am_i ((i : Int))]) (rest := []) (out := [am_i (if σ.2.1 96 (12 + (i : Int)).toNat = 1 then 1 else 0)]) (c_X10_isDead σ hL (i : Int) (by omega)) ⟨rfl, rfl⟩ (Ls_55 hL) (by decide) ⟨Or.inl km_X10_400, kc_X10_isDead, kn_X10, kd_X10_isDead, ⟨(Nat.le_of_ble_eq_true rfl), (Nat.le_of_ble_eq_true rfl)⟩, ⟨(Nat.le_of_ble_eq_true rfl), (Nat.le_of_ble_eq_true rfl)⟩, (Nat.le_of_ble_eq_true rfl)⟩ ki_X10_isDead ks_X10_isDead rfl rfl (am_tab tk_X10_living 10 rfl) rfl ?_
      refine am_if_ne (q := 20) (t := 26) (am_tab tk_X10_living 11 rfl) (by decide) rfl (fun h17 => ?_) (fun h17 => ?_)
      · refine am_iinc (q := 29) rfl (by omega) (by decide) (ls2 := [(2, am_i (((i : Int) + 1))), (1, am_i (mkS (fun p => decide (¬ σ.2.1 96 (12 + p) = 1)) i)), (0, am_r 55)]) rfl (am_tab tk_X10_living 18 rfl) rfl ?_
        refine am_goto (t := 4) (am_tab tk_X10_living 19 rfl) (by decide) ?_
        first
          | (rw [mkS_or (fun p => decide (¬ σ.2.1 96 (12 + p) = 1)) (n := i) (by omega) (by rw [e1] at h17; simp at h17 ⊢; omega)]; exact ih (i + 1) (by omega))
          | (rw [mkS_no (fun p => decide (¬ σ.2.1 96 (12 + p) = 1)) (n := i) (by rw [e1] at h17; simp at h17 ⊢; omega)]; exact ih (i + 1) (by omega))
      · refine am_iload_n (q := 21) rfl (am_tab tk_X10_living 12 rfl) rfl ?_
        refine am_iconst (q := 22) (n := 1) (by decide) (am_tab tk_X10_living 13 rfl) rfl ?_
        refine am_iload_n (q := 23) rfl (am_tab tk_X10_living 14 rfl) rfl ?_
        refine am_ishl (q := 24) (am_tab tk_X10_living 15 rfl) rfl ?_
        refine am_ior (q := 25) (am_tab tk_X10_living 16 rfl) rfl ?_
        refine am_istore_n (q := 26) (by decide) (ls2 := [(1, am_i ((ao_or (mkS (fun p => decide (¬ σ.2.1 96 (12 + p) = 1)) i) ((ao_shl 1 (i : Int)))))), (2, am_i ((i : Int))), (0, am_r 55)]) rfl (am_tab tk_X10_living 17 rfl) rfl ?_
        refine am_iinc (q := 29) rfl (by omega) (by decide) (ls2 := [(2, am_i (((i : Int) + 1))), (1, am_i ((ao_or (mkS (fun p => decide (¬ σ.2.1 96 (12 + p) = 1)) i) ((ao_shl 1 (i : Int)))))), (0, am_r 55)]) rfl (am_tab tk_X10_living 18 rfl) rfl ?_
        refine am_goto (t := 4) (am_tab tk_X10_living 19 rfl) (by decide) ?_
        first
          | (rw [mkS_or (fun p => decide (¬ σ.2.1 96 (12 + p) = 1)) (n := i) (by omega) (by rw [e1] at h17; simp at h17 ⊢; omega)]; exact ih (i + 1) (by omega))
          | (rw [mkS_no (fun p => decide (¬ σ.2.1 96 (12 + p) = 1)) (n := i) (by rw [e1] at h17; simp at h17 ⊢; omega)]; exact ih (i + 1) (by omega))
theorem c_X10_living (σ : am_H) (hL : lay σ)  (N : Nat) (hN : σ.2.1 85 5 = N) (h8 : N ≤ 8) : am_met M_X10_living [am_r 55] σ (fun r σ' => r = some (am_i (mkS (fun p => decide (¬ σ.2.1 96 (12 + p) = 1)) N)) ∧ σ' = σ) := by
  refine am_enter (show plainFor yX10_living = true by decide +kernel) rfl (Nat.le_of_ble_eq_true rfl) (fun _ _ _ => trivial) ?_
  refine am_iconst (q := 1) (n := 0) (by decide) (am_tab tk_X10_living 0 rfl) rfl ?_
  refine am_istore_n (q := 2) (by decide) (ls2 := [(1, am_i 0), (0, am_r 55)]) rfl (am_tab tk_X10_living 1 rfl) rfl ?_
  refine am_iconst (q := 3) (n := 0) (by decide) (am_tab tk_X10_living 2 rfl) rfl ?_
  refine am_istore_n (q := 4) (by decide) (ls2 := [(2, am_i 0), (1, am_i 0), (0, am_r 55)]) rfl (am_tab tk_X10_living 3 rfl) rfl ?_
  exact living_loop σ hL N hN h8 N 0 (by omega)
