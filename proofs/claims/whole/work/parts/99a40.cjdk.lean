theorem sB_all {l : List Int32} (h : ∀ x ∈ l, 0 ≤ x.toInt ∧ x.toInt < 128) (k : Nat) : 0 ≤ (l.getD k 0).toInt ∧ (l.getD k 0).toInt < 128 := by
  rw [List.getD_eq_getElem?_getD]
  cases e : l[k]? with
  | none => exact ⟨by decide, by decide⟩
  | some x => exact h x (List.mem_of_getElem? e)
theorem sB_r {i : Nat} (hi : i < 2) (k : Nat) : 0 ≤ sB i k ∧ sB i k < 128 := by
  rcases (show i = 0 ∨ i = 1 by omega) with rfl | rfl
  · exact sB_all (l := am_byt.getD 0 []) (by decide +kernel) k
  · exact sB_all (l := am_byt.getD 1 []) (by decide +kernel) k
theorem i2c_f : ∀ n : Fin 128, ao_i2c (ao_and (n.val : Int) 255) = (n.val : Int) := by decide +kernel
theorem i2c_b {x : Int} (h : 0 ≤ x ∧ x < 128) : x = ao_i2c (ao_and x 255) := by
  have h9 := i2c_f ⟨x.toNat, by omega⟩
  have e : ((x.toNat : Nat) : Int) = x := by omega
  simp only [e] at h9
  exact h9.symm
theorem i2c_g : ∀ n : Fin 256, ao_i2c (n.val : Int) = (n.val : Int) := by decide +kernel
theorem i2c_id {x : Int} (h : 0 ≤ x ∧ x < 256) : x = ao_i2c x := by
  have h9 := i2c_g ⟨x.toNat, by omega⟩
  have e : ((x.toNat : Nat) : Int) = x := by omega
  simp only [e] at h9
  exact h9.symm
theorem i2b_f : ∀ n : Fin 256, ao_i2b (n.val : Int) = if n.val < 128 then (n.val : Int) else (n.val : Int) - 256 := by decide +kernel
theorem i2b_v {x : Int} (h : 0 ≤ x ∧ x < 256) : ao_i2b x = if x < 128 then x else x - 256 := by
  have h9 := i2b_f ⟨x.toNat, by omega⟩
  have e : ((x.toNat : Nat) : Int) = x := by omega
  simp only [e] at h9
  rw [h9]
  split <;> split <;> omega
theorem sN_r {i : Nat} (hi : i < 2) : (sN i : Int) = 264 ∨ (sN i : Int) = 13 := by
  rcases (show i = 0 ∨ i = 1 by omega) with rfl | rfl
  · exact Or.inl rfl
  · exact Or.inr rfl
theorem shr_0 {i : Nat} (hi : i < 2) : ao_shr (sN i : Int) 0 = (sN i : Int) := by
  rcases (show i = 0 ∨ i = 1 by omega) with rfl | rfl <;> decide +kernel
theorem c_isLatin1 (σ : am_H) (i : Nat) (hi : i < 2) : am_met M_J0_isLatin1_aae02 [am_s i] σ (fun r σ' => r = some (am_i 1) ∧ σ' = σ) := by
  refine am_qq (fun Q hQ => ?_)
  refine am_enter (show plainFor yJ0_isLatin1_aae02 = true by decide +kernel) rfl (Nat.le_of_ble_eq_true rfl) (fun _ _ _ => trivial) ?_
  refine am_getsC (q := 3) rfl (am_tab tk_J0_isLatin1_aae02 0 rfl) rfl ?_
  refine am_if_eq (q := 6) (t := 17) (am_tab tk_J0_isLatin1_aae02 1 rfl) (by decide) rfl (fun h3 => ?_) (fun h3 => ?_)
  · exact absurd h3 (by decide)
  · refine am_aloads_n (q := 7) rfl (am_tab tk_J0_isLatin1_aae02 2 rfl) rfl ?_
    refine am_coder (q := 10) (i := i) (by omega) rfl (am_tab tk_J0_isLatin1_aae02 3 rfl) rfl ?_
    refine am_if_ne (q := 13) (t := 17) (am_tab tk_J0_isLatin1_aae02 4 rfl) (by decide) rfl (fun h10 => ?_) (fun h10 => ?_)
    · exact absurd h10 (by decide)
    · refine am_iconst (q := 14) (n := 1) (by decide) (am_tab tk_J0_isLatin1_aae02 5 rfl) rfl ?_
      refine am_goto (t := 18) (am_tab tk_J0_isLatin1_aae02 6 rfl) (by decide) ?_
      refine am_iret (Or.inr ⟨rfl, by first | exact Or.inl rfl | exact Or.inr rfl | omega⟩) (Nat.le_of_ble_eq_true rfl) (Nat.le_of_ble_eq_true rfl) (am_tab tk_J0_isLatin1_aae02 8 rfl) ?_
      refine hQ _ _ ?_
      exact ⟨rfl, rfl⟩
theorem c_coder (σ : am_H) (i : Nat) (hi : i < 2) : am_met M_J0_coder_7d493 [am_s i] σ (fun r σ' => r = some (am_i 0) ∧ σ' = σ) := by
  refine am_qq (fun Q hQ => ?_)
  refine am_enter (show plainFor yJ0_coder_7d493 = true by decide +kernel) rfl (Nat.le_of_ble_eq_true rfl) (fun _ _ _ => trivial) ?_
  refine am_getsC (q := 3) rfl (am_tab tk_J0_coder_7d493 0 rfl) rfl ?_
  refine am_if_eq (q := 6) (t := 13) (am_tab tk_J0_coder_7d493 1 rfl) (by decide) rfl (fun h3 => ?_) (fun h3 => ?_)
  · exact absurd h3 (by decide)
  · refine am_aloads_n (q := 7) rfl (am_tab tk_J0_coder_7d493 2 rfl) rfl ?_
    refine am_coder (q := 10) (i := i) (by omega) rfl (am_tab tk_J0_coder_7d493 3 rfl) rfl ?_
    refine am_goto (t := 14) (am_tab tk_J0_coder_7d493 4 rfl) (by decide) ?_
    refine am_bret rfl (by omega) (Nat.le_of_ble_eq_true rfl) (Nat.le_of_ble_eq_true rfl) (am_tab tk_J0_coder_7d493 6 rfl) ?_
    refine hQ _ _ ?_
    exact ⟨rfl, rfl⟩
theorem c_checkIndexN (σ : am_H) (k : Int) (n : Int) (h0 : 0 ≤ k) (h1 : k < n) : am_met M_J3_checkIndex_8e157 [am_i k, am_i n, am_o (none)] σ (fun r σ' => r = some (am_i k) ∧ σ' = σ) := by
  refine am_qq (fun Q hQ => ?_)
  refine am_enter (show plainFor yJ3_checkIndex_8e157 = true by decide +kernel) rfl (Nat.le_of_ble_eq_true rfl) (fun _ _ _ => trivial) ?_
  refine am_iload_n (q := 1) rfl (am_tab tk_J3_checkIndex_8e157 0 rfl) rfl ?_
  refine am_if_lt (q := 4) (t := 9) (am_tab tk_J3_checkIndex_8e157 1 rfl) (by decide) rfl (fun h1 => ?_) (fun h1 => ?_)
  · omega
  · refine am_iload_n (q := 5) rfl (am_tab tk_J3_checkIndex_8e157 2 rfl) rfl ?_
    refine am_iload_n (q := 6) rfl (am_tab tk_J3_checkIndex_8e157 3 rfl) rfl ?_
    refine am_icmp_lt (q := 9) (t := 16) (am_tab tk_J3_checkIndex_8e157 4 rfl) (by decide) rfl (fun h6 => ?_) (fun h6 => ?_)
    · refine am_iload_n (q := 17) rfl (am_tab tk_J3_checkIndex_8e157 10 rfl) rfl ?_
      refine am_iret (Or.inl rfl) (Nat.le_of_ble_eq_true rfl) (Nat.le_of_ble_eq_true rfl) (am_tab tk_J3_checkIndex_8e157 11 rfl) ?_
      refine hQ _ _ ?_
      exact ⟨rfl, rfl⟩
    · omega
theorem c_checkIndexF (σ : am_H) (k : Int) (n : Int) (h0 : 0 ≤ k) (h1 : k < n) : am_met M_J3_checkIndex_8e157 [am_i k, am_i n, am_s 5] σ (fun r σ' => r = some (am_i k) ∧ σ' = σ) := by
  refine am_qq (fun Q hQ => ?_)
  refine am_enter (show plainFor yJ3_checkIndex_8e157 = true by decide +kernel) rfl (Nat.le_of_ble_eq_true rfl) (fun _ _ _ => trivial) ?_
  refine am_iload_n (q := 1) rfl (am_tab tk_J3_checkIndex_8e157 0 rfl) rfl ?_
  refine am_if_lt (q := 4) (t := 9) (am_tab tk_J3_checkIndex_8e157 1 rfl) (by decide) rfl (fun h1 => ?_) (fun h1 => ?_)
  · omega
  · refine am_iload_n (q := 5) rfl (am_tab tk_J3_checkIndex_8e157 2 rfl) rfl ?_
    refine am_iload_n (q := 6) rfl (am_tab tk_J3_checkIndex_8e157 3 rfl) rfl ?_
    refine am_icmp_lt (q := 9) (t := 16) (am_tab tk_J3_checkIndex_8e157 4 rfl) (by decide) rfl (fun h6 => ?_) (fun h6 => ?_)
    · refine am_iload_n (q := 17) rfl (am_tab tk_J3_checkIndex_8e157 10 rfl) rfl ?_
      refine am_iret (Or.inl rfl) (Nat.le_of_ble_eq_true rfl) (Nat.le_of_ble_eq_true rfl) (am_tab tk_J3_checkIndex_8e157 11 rfl) ?_
      refine hQ _ _ ?_
      exact ⟨rfl, rfl⟩
    · omega
theorem c_checkIndex3 (σ : am_H) (k n : Int) (z : am_V) (hz : z = am_o none ∨ z = am_s 5) (h0 : 0 ≤ k) (h1 : k < n) : am_met M_J3_checkIndex_8e157 [am_i k, am_i n, z] σ (fun r σ' => r = some (am_i k) ∧ σ' = σ) := by
  rcases hz with rfl | rfl
  · exact c_checkIndexN σ k n h0 h1
  · exact c_checkIndexF σ k n h0 h1
theorem c_checkIndex (σ : am_H) (k : Int) (n : Int) (h0 : 0 ≤ k) (h1 : k < n) : am_met M_J0_checkIndex_df160 [am_i k, am_i n] σ (fun r σ' => r = none ∧ σ' = σ) := by
  refine am_qq (fun Q hQ => ?_)
  refine am_enter (show plainFor yJ0_checkIndex_df160 = true by decide +kernel) rfl (Nat.le_of_ble_eq_true rfl) (fun _ _ _ => trivial) ?_
  refine am_iload_n (q := 1) rfl (am_tab tk_J0_checkIndex_df160 0 rfl) rfl ?_
  refine am_iload_n (q := 2) rfl (am_tab tk_J0_checkIndex_df160 1 rfl) rfl ?_
  refine am_getsF (q := 5) rfl (am_tab tk_J0_checkIndex_df160 2 rfl) rfl (fun v0 hv0 => ?_)
  refine am_callSr (q := 8) (me2 := M_J3_checkIndex_8e157) (As := [am_i k, am_i n, v0]) (rest := []) (c_checkIndex3 σ k n v0 hv0 h0 h1) ⟨rfl, rfl⟩ ⟨Or.inl km_J0_1059, kc_J3_checkIndex_8e157, kn_J3, kd_J3_checkIndex_8e157, ⟨(Nat.le_of_ble_eq_true rfl), (Nat.le_of_ble_eq_true rfl)⟩, ⟨(Nat.le_of_ble_eq_true rfl), (Nat.le_of_ble_eq_true rfl)⟩, (Nat.le_of_ble_eq_true rfl)⟩ ki_J3_checkIndex_8e157 rfl (am_tab tk_J0_checkIndex_df160 3 rfl) rfl ?_
  rintro r τ ⟨rfl, hτ9⟩
  rw [hτ9]
  refine am_pop (q := 9) rfl (am_tab tk_J0_checkIndex_df160 4 rfl) rfl ?_
  refine am_vret rfl (Nat.le_of_ble_eq_true rfl) (Nat.le_of_ble_eq_true rfl) (am_tab tk_J0_checkIndex_df160 5 rfl) ?_
  refine hQ _ _ ?_
  exact ⟨rfl, rfl⟩
theorem c_charAt1 (σ : am_H) (i : Nat) (k : Int) (hi : i < 2) (h0 : 0 ≤ k) (h1 : k < (sN i : Int)) : am_met M_J1_charAt_3b067 [am_s (3 + i), am_i k] σ (fun r σ' => r = some (am_i (sB i k.toNat)) ∧ σ' = σ) := by
  refine am_qq (fun Q hQ => ?_)
  refine am_enter (show plainFor yJ1_charAt_3b067 = true by decide +kernel) rfl (Nat.le_of_ble_eq_true rfl) (fun _ _ _ => trivial) ?_
  have hsb := sB_r hi k.toNat
  refine am_iload_n (q := 1) rfl (am_tab tk_J1_charAt_3b067 0 rfl) rfl ?_
  refine am_aloads_n (q := 2) rfl (am_tab tk_J1_charAt_3b067 1 rfl) rfl ?_
  refine am_blen (q := 3) (i := i) (by omega) (am_tab tk_J1_charAt_3b067 2 rfl) rfl ?_
  refine am_callSr (q := 6) (me2 := M_J0_checkIndex_df160) (As := [am_i k, am_i ((sN i : Int))]) (rest := []) (c_checkIndex σ k (sN i : Int) h0 h1) ⟨rfl, rfl⟩ ⟨Or.inl km_J1_9, kc_J0_checkIndex_df160, kn_J0, kd_J0_checkIndex_df160, ⟨(Nat.le_of_ble_eq_true rfl), (Nat.le_of_ble_eq_true rfl)⟩, ⟨(Nat.le_of_ble_eq_true rfl), (Nat.le_of_ble_eq_true rfl)⟩, (Nat.le_of_ble_eq_true rfl)⟩ ki_J0_checkIndex_df160 rfl (am_tab tk_J1_charAt_3b067 3 rfl) rfl ?_
  rintro r τ ⟨rfl, hτ9⟩
  rw [hτ9]
  refine am_aloads_n (q := 7) rfl (am_tab tk_J1_charAt_3b067 4 rfl) rfl ?_
  refine am_iload_n (q := 8) rfl (am_tab tk_J1_charAt_3b067 5 rfl) rfl ?_
  refine am_bald (q := 9) (i := i) (x := (sB i (Int.toNat k))) (by omega) (by omega) (by omega) rfl (am_tab tk_J1_charAt_3b067 6 rfl) rfl ?_
  refine am_sipush (q := 12) (n := 255) (by decide) rfl (am_tab tk_J1_charAt_3b067 7 rfl) rfl ?_
  refine am_iand (q := 13) (am_tab tk_J1_charAt_3b067 8 rfl) rfl ?_
  refine am_i2c (q := 14) (y := (sB i (Int.toNat k))) (i2c_b hsb) (am_tab tk_J1_charAt_3b067 9 rfl) rfl ?_
  refine am_cret rfl (by omega) (Nat.le_of_ble_eq_true rfl) (Nat.le_of_ble_eq_true rfl) (am_tab tk_J1_charAt_3b067 10 rfl) ?_
  refine hQ _ _ ?_
  exact ⟨rfl, rfl⟩
theorem c_charAt (σ : am_H) (i : Nat) (k : Int) (hi : i < 2) (h0 : 0 ≤ k) (h1 : k < (sN i : Int)) : am_met M_J0_charAt_5068e [am_s i, am_i k] σ (fun r σ' => r = some (am_i (sB i k.toNat)) ∧ σ' = σ) := by
  refine am_qq (fun Q hQ => ?_)
  refine am_enter (show plainFor yJ0_charAt_5068e = true by decide +kernel) rfl (Nat.le_of_ble_eq_true rfl) (fun _ _ _ => trivial) ?_
  have hsb := sB_r hi k.toNat
  refine am_aloads_n (q := 1) rfl (am_tab tk_J0_charAt_5068e 0 rfl) rfl ?_
  refine am_callVs (q := 4) (me2 := M_J0_isLatin1_aae02) (b := i) (As := []) (rest := []) (c_isLatin1 σ i hi) ⟨rfl, rfl⟩ (by omega) ⟨Or.inl km_J0_492, kc_J0_isLatin1_aae02, kn_J0, kd_J0_isLatin1_aae02, ⟨(Nat.le_of_ble_eq_true rfl), (Nat.le_of_ble_eq_true rfl)⟩, ⟨(Nat.le_of_ble_eq_true rfl), (Nat.le_of_ble_eq_true rfl)⟩, (Nat.le_of_ble_eq_true rfl)⟩ ki_J0_isLatin1_aae02 ks_J0_isLatin1_aae02 rfl (am_tab tk_J0_charAt_5068e 1 rfl) rfl ?_
  rintro r τ ⟨rfl, hτ9⟩
  rw [hτ9]
  refine am_if_eq (q := 7) (t := 16) (am_tab tk_J0_charAt_5068e 2 rfl) (by decide) rfl (fun h4 => ?_) (fun h4 => ?_)
  · exact absurd h4 (by decide)
  · refine am_aloads_n (q := 8) rfl (am_tab tk_J0_charAt_5068e 3 rfl) rfl ?_
    refine am_value (q := 11) (i := i) (by omega) rfl (am_tab tk_J0_charAt_5068e 4 rfl) rfl ?_
    refine am_iload_n (q := 12) rfl (am_tab tk_J0_charAt_5068e 5 rfl) rfl ?_
    refine am_callSr (q := 15) (me2 := M_J1_charAt_3b067) (As := [am_s (3 + i), am_i k]) (rest := []) (c_charAt1 σ i k hi h0 h1) ⟨rfl, rfl⟩ ⟨Or.inl km_J0_495, kc_J1_charAt_3b067, kn_J1, kd_J1_charAt_3b067, ⟨(Nat.le_of_ble_eq_true rfl), (Nat.le_of_ble_eq_true rfl)⟩, ⟨(Nat.le_of_ble_eq_true rfl), (Nat.le_of_ble_eq_true rfl)⟩, (Nat.le_of_ble_eq_true rfl)⟩ ki_J1_charAt_3b067 rfl (am_tab tk_J0_charAt_5068e 6 rfl) rfl ?_
    rintro r τ ⟨rfl, hτ9⟩
    rw [hτ9]
    refine am_cret rfl (by omega) (Nat.le_of_ble_eq_true rfl) (Nat.le_of_ble_eq_true rfl) (am_tab tk_J0_charAt_5068e 7 rfl) ?_
    refine hQ _ _ ?_
    exact ⟨rfl, rfl⟩
theorem c_canEncode (σ : am_H) (c : Int) (hc : 0 ≤ c ∧ c < 256) : am_met M_J1_canEncode_9a6ad [am_i c] σ (fun r σ' => r = some (am_i 1) ∧ σ' = σ) := by
  refine am_qq (fun Q hQ => ?_)
  refine am_enter (show plainFor yJ1_canEncode_9a6ad = true by decide +kernel) rfl (Nat.le_of_ble_eq_true rfl) (fun _ _ _ => trivial) ?_
  refine am_iload_n (q := 1) rfl (am_tab tk_J1_canEncode_9a6ad 0 rfl) rfl ?_
  refine am_if_lt (q := 4) (t := 15) (am_tab tk_J1_canEncode_9a6ad 1 rfl) (by decide) rfl (fun h1 => ?_) (fun h1 => ?_)
  · omega
  · refine am_iload_n (q := 5) rfl (am_tab tk_J1_canEncode_9a6ad 2 rfl) rfl ?_
    refine am_sipush (q := 8) (n := 255) (by decide) rfl (am_tab tk_J1_canEncode_9a6ad 3 rfl) rfl ?_
    refine am_icmp_gt (q := 11) (t := 15) (am_tab tk_J1_canEncode_9a6ad 4 rfl) (by decide) rfl (fun h8 => ?_) (fun h8 => ?_)
    · omega
    · refine am_iconst (q := 12) (n := 1) (by decide) (am_tab tk_J1_canEncode_9a6ad 5 rfl) rfl ?_
      refine am_goto (t := 16) (am_tab tk_J1_canEncode_9a6ad 6 rfl) (by decide) ?_
      refine am_iret (Or.inr ⟨rfl, by first | exact Or.inl rfl | exact Or.inr rfl | omega⟩) (Nat.le_of_ble_eq_true rfl) (Nat.le_of_ble_eq_true rfl) (am_tab tk_J1_canEncode_9a6ad 8 rfl) ?_
      refine hQ _ _ ?_
      exact ⟨rfl, rfl⟩
theorem c_slength (σ : am_H) (i : Nat) (hi : i < 2) : am_met M_J0_length_8abf5 [am_s i] σ (fun r σ' => r = some (am_i (sN i : Int)) ∧ σ' = σ) := by
  refine am_qq (fun Q hQ => ?_)
  refine am_enter (show plainFor yJ0_length_8abf5 = true by decide +kernel) rfl (Nat.le_of_ble_eq_true rfl) (fun _ _ _ => trivial) ?_
  refine am_aloads_n (q := 1) rfl (am_tab tk_J0_length_8abf5 0 rfl) rfl ?_
  refine am_value (q := 4) (i := i) (by omega) rfl (am_tab tk_J0_length_8abf5 1 rfl) rfl ?_
  refine am_blen (q := 5) (i := i) (by omega) (am_tab tk_J0_length_8abf5 2 rfl) rfl ?_
  refine am_aloads_n (q := 6) rfl (am_tab tk_J0_length_8abf5 3 rfl) rfl ?_
  refine am_callVs (q := 9) (me2 := M_J0_coder_7d493) (b := i) (As := []) (rest := [am_i ((sN i : Int))]) (c_coder σ i hi) ⟨rfl, rfl⟩ (by omega) ⟨Or.inl km_J0_335, kc_J0_coder_7d493, kn_J0, kd_J0_coder_7d493, ⟨(Nat.le_of_ble_eq_true rfl), (Nat.le_of_ble_eq_true rfl)⟩, ⟨(Nat.le_of_ble_eq_true rfl), (Nat.le_of_ble_eq_true rfl)⟩, (Nat.le_of_ble_eq_true rfl)⟩ ki_J0_coder_7d493 ks_J0_coder_7d493 rfl (am_tab tk_J0_length_8abf5 4 rfl) rfl ?_
  rintro r τ ⟨rfl, hτ9⟩
  rw [hτ9]
  refine am_ishr (q := 10) (am_tab tk_J0_length_8abf5 5 rfl) rfl ?_
  refine am_iret (Or.inl rfl) (Nat.le_of_ble_eq_true rfl) (Nat.le_of_ble_eq_true rfl) (am_tab tk_J0_length_8abf5 6 rfl) ?_
  refine hQ _ _ ?_
  refine ⟨?_, rfl⟩
  rw [shr_0 hi]
theorem c_ixChar (σ : am_H) (i : Nat) (c : Int) (hi : i < 2) : am_met M_J1_indexOfChar_4cfef [am_s (3 + i), am_i c, am_i 0, am_i ((sN i : Int))] σ (fun r σ' => σ' = σ ∧ ∃ v : Int, r = some (am_i v) ∧ (0 ≤ v ↔ ∃ t, t < sN i ∧ sB i t = ao_i2b c)) := by
  refine am_qq (fun Q hQ => ?_)
  refine am_enter (show plainFor yJ1_indexOfChar_4cfef = true by decide +kernel) rfl (Nat.le_of_ble_eq_true rfl) (fun _ _ _ => trivial) ?_
  have hsn := sN_r hi
  refine am_iload_n (q := 1) rfl (am_tab tk_J1_indexOfChar_4cfef 0 rfl) rfl ?_
  refine am_i2b (q := 2) (y := (ao_i2b c)) rfl (am_tab tk_J1_indexOfChar_4cfef 1 rfl) rfl ?_
  refine am_istore (q := 4) (by decide) (ls2 := [(4, am_i ((ao_i2b c))), (0, am_s (3 + i)), (1, am_i c), (2, am_i 0), (3, am_i ((sN i : Int)))]) rfl (am_tab tk_J1_indexOfChar_4cfef 2 rfl) rfl ?_
  refine am_iload_n (q := 5) rfl (am_tab tk_J1_indexOfChar_4cfef 3 rfl) rfl ?_
  refine am_istore (q := 7) (by decide) (ls2 := [(5, am_i 0), (4, am_i ((ao_i2b c))), (0, am_s (3 + i)), (1, am_i c), (2, am_i 0), (3, am_i ((sN i : Int)))]) rfl (am_tab tk_J1_indexOfChar_4cfef 4 rfl) rfl ?_
  have L7 : ∀ (n7 : Nat) (k : Nat), sN i - k < n7 → k ≤ sN i → (∀ t, t < k → ¬ sB i t = ao_i2b c) → am_wp M_J1_indexOfChar_4cfef Q 0 0 7 [(5, am_i ((k : Int))), (4, am_i ((ao_i2b c))), (3, am_i ((sN i : Int))), (0, am_s (3 + i))] [] σ := by
    intro n7
    induction n7 with
    | zero => intro k hn7; exact absurd hn7 (Nat.not_lt_zero _)
    | succ n7 ih7 =>
      intro k hn7 hk hno
      refine am_iload (q := 9) rfl (am_tab tk_J1_indexOfChar_4cfef 5 rfl) rfl ?_
      refine am_iload_n (q := 10) rfl (am_tab tk_J1_indexOfChar_4cfef 6 rfl) rfl ?_
      refine am_icmp_ge (q := 13) (t := 31) (am_tab tk_J1_indexOfChar_4cfef 7 rfl) (by decide) rfl (fun h10 => ?_) (fun h10 => ?_)
      · refine am_iconst (q := 32) (n := (-1)) (by decide) (am_tab tk_J1_indexOfChar_4cfef 17 rfl) rfl ?_
        refine am_iret (Or.inl rfl) (Nat.le_of_ble_eq_true rfl) (Nat.le_of_ble_eq_true rfl) (am_tab tk_J1_indexOfChar_4cfef 18 rfl) ?_
        refine hQ _ _ ?_
        refine ⟨rfl, -1, rfl, fun h => absurd h (by decide), fun h => ?_⟩
        obtain ⟨t, h8, h9⟩ := h
        exact absurd h9 (hno t (by omega))
      · refine am_aloads_n (q := 14) rfl (am_tab tk_J1_indexOfChar_4cfef 8 rfl) rfl ?_
        refine am_iload (q := 16) rfl (am_tab tk_J1_indexOfChar_4cfef 9 rfl) rfl ?_
        refine am_bald (q := 17) (i := i) (x := (sB i (Int.toNat (k : Int)))) (by omega) (by omega) (by omega) rfl (am_tab tk_J1_indexOfChar_4cfef 10 rfl) rfl ?_
        refine am_iload (q := 19) rfl (am_tab tk_J1_indexOfChar_4cfef 11 rfl) rfl ?_
        refine am_icmp_ne (q := 22) (t := 25) (am_tab tk_J1_indexOfChar_4cfef 12 rfl) (by decide) rfl (fun h19 => ?_) (fun h19 => ?_)
        · refine am_iinc (q := 28) rfl (by omega) (by decide) (ls2 := [(5, am_i (((k : Int) + 1))), (4, am_i ((ao_i2b c))), (3, am_i ((sN i : Int))), (0, am_s (3 + i))]) rfl (am_tab tk_J1_indexOfChar_4cfef 15 rfl) rfl ?_
          refine am_goto (t := 7) (am_tab tk_J1_indexOfChar_4cfef 16 rfl) (by decide) ?_
          exact am_less (by intro q hq; simp only [List.mem_cons, List.not_mem_nil, or_false] at hq; rcases hq with rfl | rfl | rfl | rfl <;> simp) (ih7 (k + 1) (by omega) (by omega) (fun t ht => (show t < k ∨ t = k by omega).elim (hno t) (fun e => by rw [e]; exact h19)))
        · refine am_iload (q := 24) rfl (am_tab tk_J1_indexOfChar_4cfef 13 rfl) rfl ?_
          refine am_iret (Or.inl rfl) (Nat.le_of_ble_eq_true rfl) (Nat.le_of_ble_eq_true rfl) (am_tab tk_J1_indexOfChar_4cfef 14 rfl) ?_
          refine hQ _ _ ?_
          refine ⟨rfl, (k : Int), rfl, fun _ => ⟨k, by omega, ?_⟩, fun _ => by omega⟩
          exact h19
  refine am_less (by intro q hq; simp only [List.mem_cons, List.not_mem_nil, or_false] at hq; rcases hq with rfl | rfl | rfl | rfl <;> simp) (L7 (_ + 1) 0 (by exact Nat.lt_succ_self _) (Nat.zero_le _) (fun t ht => absurd ht (Nat.not_lt_zero t)))
theorem c_ix1 (σ : am_H) (i : Nat) (c : Int) (hi : i < 2) (hc : 0 ≤ c ∧ c < 256) : am_met M_J1_indexOf_4cfef [am_s (3 + i), am_i c, am_i 0, am_i ((sN i : Int))] σ (fun r σ' => σ' = σ ∧ ∃ v : Int, r = some (am_i v) ∧ (0 ≤ v ↔ ∃ t, t < sN i ∧ sB i t = ao_i2b c)) := by
  refine am_qq (fun Q hQ => ?_)
  refine am_enter (show plainFor yJ1_indexOf_4cfef = true by decide +kernel) rfl (Nat.le_of_ble_eq_true rfl) (fun _ _ _ => trivial) ?_
  have hsn := sN_r hi
  refine am_iload_n (q := 1) rfl (am_tab tk_J1_indexOf_4cfef 0 rfl) rfl ?_
  refine am_callSr (q := 4) (me2 := M_J1_canEncode_9a6ad) (As := [am_i c]) (rest := []) (c_canEncode σ c hc) ⟨rfl, rfl⟩ ⟨Or.inl km_J1_88, kc_J1_canEncode_9a6ad, kn_J1, kd_J1_canEncode_9a6ad, ⟨(Nat.le_of_ble_eq_true rfl), (Nat.le_of_ble_eq_true rfl)⟩, ⟨(Nat.le_of_ble_eq_true rfl), (Nat.le_of_ble_eq_true rfl)⟩, (Nat.le_of_ble_eq_true rfl)⟩ ki_J1_canEncode_9a6ad rfl (am_tab tk_J1_indexOf_4cfef 1 rfl) rfl ?_
  rintro r τ ⟨rfl, hτ9⟩
  rw [hτ9]
  refine am_if_ne (q := 7) (t := 9) (am_tab tk_J1_indexOf_4cfef 2 rfl) (by decide) rfl (fun h4 => ?_) (fun h4 => ?_)
  · refine am_iload_n (q := 10) rfl (am_tab tk_J1_indexOf_4cfef 5 rfl) rfl ?_
    refine am_iconst (q := 11) (n := 0) (by decide) (am_tab tk_J1_indexOf_4cfef 6 rfl) rfl ?_
    refine am_callSr (q := 14) (me2 := M_J9_max_7cf53) (As := [am_i 0, am_i 0]) (rest := []) (c_max σ 0 0) ⟨rfl, rfl⟩ ⟨Or.inl km_J1_92, kc_J9_max_7cf53, kn_J9, kd_J9_max_7cf53, ⟨(Nat.le_of_ble_eq_true rfl), (Nat.le_of_ble_eq_true rfl)⟩, ⟨(Nat.le_of_ble_eq_true rfl), (Nat.le_of_ble_eq_true rfl)⟩, (Nat.le_of_ble_eq_true rfl)⟩ ki_J9_max_7cf53 rfl (am_tab tk_J1_indexOf_4cfef 7 rfl) rfl ?_
    rintro r τ ⟨rfl, hτ9⟩
    rw [hτ9, show max (0 : Int) 0 = 0 from rfl]
    refine am_istore_n (q := 15) (by decide) (ls2 := [(2, am_i 0), (0, am_s (3 + i)), (1, am_i c), (3, am_i ((sN i : Int)))]) rfl (am_tab tk_J1_indexOf_4cfef 8 rfl) rfl ?_
    refine am_iload_n (q := 16) rfl (am_tab tk_J1_indexOf_4cfef 9 rfl) rfl ?_
    refine am_aloads_n (q := 17) rfl (am_tab tk_J1_indexOf_4cfef 10 rfl) rfl ?_
    refine am_blen (q := 18) (i := i) (by omega) (am_tab tk_J1_indexOf_4cfef 11 rfl) rfl ?_
    refine am_callSr (q := 21) (me2 := M_J9_min_7cf53) (As := [am_i ((sN i : Int)), am_i ((sN i : Int))]) (rest := []) (c_min σ (sN i : Int) (sN i : Int)) ⟨rfl, rfl⟩ ⟨Or.inl km_J1_38, kc_J9_min_7cf53, kn_J9, kd_J9_min_7cf53, ⟨(Nat.le_of_ble_eq_true rfl), (Nat.le_of_ble_eq_true rfl)⟩, ⟨(Nat.le_of_ble_eq_true rfl), (Nat.le_of_ble_eq_true rfl)⟩, (Nat.le_of_ble_eq_true rfl)⟩ ki_J9_min_7cf53 rfl (am_tab tk_J1_indexOf_4cfef 12 rfl) rfl ?_
    rintro r τ ⟨rfl, hτ9⟩
    rw [hτ9, show min (sN i : Int) (sN i : Int) = (sN i : Int) by omega]
    refine am_istore_n (q := 22) (by decide) (ls2 := [(3, am_i ((sN i : Int))), (2, am_i 0), (0, am_s (3 + i)), (1, am_i c)]) rfl (am_tab tk_J1_indexOf_4cfef 13 rfl) rfl ?_
    refine am_iload_n (q := 23) rfl (am_tab tk_J1_indexOf_4cfef 14 rfl) rfl ?_
    refine am_iload_n (q := 24) rfl (am_tab tk_J1_indexOf_4cfef 15 rfl) rfl ?_
    refine am_icmp_lt (q := 27) (t := 29) (am_tab tk_J1_indexOf_4cfef 16 rfl) (by decide) rfl (fun h24 => ?_) (fun h24 => ?_)
    · refine am_aloads_n (q := 30) rfl (am_tab tk_J1_indexOf_4cfef 19 rfl) rfl ?_
      refine am_iload_n (q := 31) rfl (am_tab tk_J1_indexOf_4cfef 20 rfl) rfl ?_
      refine am_iload_n (q := 32) rfl (am_tab tk_J1_indexOf_4cfef 21 rfl) rfl ?_
      refine am_iload_n (q := 33) rfl (am_tab tk_J1_indexOf_4cfef 22 rfl) rfl ?_
      refine am_callSr (q := 36) (me2 := M_J1_indexOfChar_4cfef) (As := [am_s (3 + i), am_i c, am_i 0, am_i ((sN i : Int))]) (rest := []) (c_ixChar σ i c hi) ⟨rfl, rfl⟩ ⟨Or.inl km_J1_95, kc_J1_indexOfChar_4cfef, kn_J1, kd_J1_indexOfChar_4cfef, ⟨(Nat.le_of_ble_eq_true rfl), (Nat.le_of_ble_eq_true rfl)⟩, ⟨(Nat.le_of_ble_eq_true rfl), (Nat.le_of_ble_eq_true rfl)⟩, (Nat.le_of_ble_eq_true rfl)⟩ ki_J1_indexOfChar_4cfef rfl (am_tab tk_J1_indexOf_4cfef 23 rfl) rfl ?_
      rintro r τ ⟨hτ9, v9, rfl, hv9⟩
      rw [hτ9]
      refine am_iret (Or.inl rfl) (Nat.le_of_ble_eq_true rfl) (Nat.le_of_ble_eq_true rfl) (am_tab tk_J1_indexOf_4cfef 24 rfl) ?_
      refine hQ _ _ ?_
      exact ⟨rfl, v9, rfl, hv9⟩
    · omega
  · exact absurd h4 (by decide)
theorem c_ix2 (σ : am_H) (i : Nat) (c : Int) (hi : i < 2) (hc : 0 ≤ c ∧ c < 256) : am_met M_J0_indexOf_7cf53 [am_s i, am_i c, am_i 0] σ (fun r σ' => σ' = σ ∧ ∃ v : Int, r = some (am_i v) ∧ (0 ≤ v ↔ ∃ t, t < sN i ∧ sB i t = ao_i2b c)) := by
  refine am_qq (fun Q hQ => ?_)
  refine am_enter (show plainFor yJ0_indexOf_7cf53 = true by decide +kernel) rfl (Nat.le_of_ble_eq_true rfl) (fun _ _ _ => trivial) ?_
  refine am_aloads_n (q := 1) rfl (am_tab tk_J0_indexOf_7cf53 0 rfl) rfl ?_
  refine am_callVs (q := 4) (me2 := M_J0_isLatin1_aae02) (b := i) (As := []) (rest := []) (c_isLatin1 σ i hi) ⟨rfl, rfl⟩ (by omega) ⟨Or.inl km_J0_492, kc_J0_isLatin1_aae02, kn_J0, kd_J0_isLatin1_aae02, ⟨(Nat.le_of_ble_eq_true rfl), (Nat.le_of_ble_eq_true rfl)⟩, ⟨(Nat.le_of_ble_eq_true rfl), (Nat.le_of_ble_eq_true rfl)⟩, (Nat.le_of_ble_eq_true rfl)⟩ ki_J0_isLatin1_aae02 ks_J0_isLatin1_aae02 rfl (am_tab tk_J0_indexOf_7cf53 1 rfl) rfl ?_
  rintro r τ ⟨rfl, hτ9⟩
  rw [hτ9]
  refine am_if_eq (q := 7) (t := 23) (am_tab tk_J0_indexOf_7cf53 2 rfl) (by decide) rfl (fun h4 => ?_) (fun h4 => ?_)
  · exact absurd h4 (by decide)
  · refine am_aloads_n (q := 8) rfl (am_tab tk_J0_indexOf_7cf53 3 rfl) rfl ?_
    refine am_value (q := 11) (i := i) (by omega) rfl (am_tab tk_J0_indexOf_7cf53 4 rfl) rfl ?_
    refine am_iload_n (q := 12) rfl (am_tab tk_J0_indexOf_7cf53 5 rfl) rfl ?_
    refine am_iload_n (q := 13) rfl (am_tab tk_J0_indexOf_7cf53 6 rfl) rfl ?_
    refine am_aloads_n (q := 14) rfl (am_tab tk_J0_indexOf_7cf53 7 rfl) rfl ?_
    refine am_callVs (q := 17) (me2 := M_J0_length_8abf5) (b := i) (As := []) (rest := [am_i 0, am_i c, am_s (3 + i)]) (c_slength σ i hi) ⟨rfl, rfl⟩ (by omega) ⟨Or.inl km_J0_505, kc_J0_length_8abf5, kn_J0, kd_J0_length_8abf5, ⟨(Nat.le_of_ble_eq_true rfl), (Nat.le_of_ble_eq_true rfl)⟩, ⟨(Nat.le_of_ble_eq_true rfl), (Nat.le_of_ble_eq_true rfl)⟩, (Nat.le_of_ble_eq_true rfl)⟩ ki_J0_length_8abf5 ks_J0_length_8abf5 rfl (am_tab tk_J0_indexOf_7cf53 8 rfl) rfl ?_
    rintro r τ ⟨rfl, hτ9⟩
    rw [hτ9]
    refine am_callSr (q := 20) (me2 := M_J1_indexOf_4cfef) (As := [am_s (3 + i), am_i c, am_i 0, am_i ((sN i : Int))]) (rest := []) (c_ix1 σ i c hi hc) ⟨rfl, rfl⟩ ⟨Or.inl km_J0_637, kc_J1_indexOf_4cfef, kn_J1, kd_J1_indexOf_4cfef, ⟨(Nat.le_of_ble_eq_true rfl), (Nat.le_of_ble_eq_true rfl)⟩, ⟨(Nat.le_of_ble_eq_true rfl), (Nat.le_of_ble_eq_true rfl)⟩, (Nat.le_of_ble_eq_true rfl)⟩ ki_J1_indexOf_4cfef rfl (am_tab tk_J0_indexOf_7cf53 9 rfl) rfl ?_
    rintro r τ ⟨hτ9, v9, rfl, hv9⟩
    rw [hτ9]
    refine am_goto (t := 36) (am_tab tk_J0_indexOf_7cf53 10 rfl) (by decide) ?_
    refine am_iret (Or.inl rfl) (Nat.le_of_ble_eq_true rfl) (Nat.le_of_ble_eq_true rfl) (am_tab tk_J0_indexOf_7cf53 18 rfl) ?_
    refine hQ _ _ ?_
    exact ⟨rfl, v9, rfl, hv9⟩
theorem c_ix3 (σ : am_H) (i : Nat) (c : Int) (hi : i < 2) (hc : 0 ≤ c ∧ c < 256) : am_met M_J0_indexOf_0f7a4 [am_s i, am_i c] σ (fun r σ' => σ' = σ ∧ ∃ v : Int, r = some (am_i v) ∧ (0 ≤ v ↔ ∃ t, t < sN i ∧ sB i t = ao_i2b c)) := by
  refine am_qq (fun Q hQ => ?_)
  refine am_enter (show plainFor yJ0_indexOf_0f7a4 = true by decide +kernel) rfl (Nat.le_of_ble_eq_true rfl) (fun _ _ _ => trivial) ?_
  refine am_aloads_n (q := 1) rfl (am_tab tk_J0_indexOf_0f7a4 0 rfl) rfl ?_
  refine am_iload_n (q := 2) rfl (am_tab tk_J0_indexOf_0f7a4 1 rfl) rfl ?_
  refine am_iconst (q := 3) (n := 0) (by decide) (am_tab tk_J0_indexOf_0f7a4 2 rfl) rfl ?_
  refine am_callVs (q := 6) (me2 := M_J0_indexOf_7cf53) (b := i) (As := [am_i c, am_i 0]) (rest := []) (c_ix2 σ i c hi hc) ⟨rfl, rfl⟩ (by omega) ⟨Or.inl km_J0_633, kc_J0_indexOf_7cf53, kn_J0, kd_J0_indexOf_7cf53, ⟨(Nat.le_of_ble_eq_true rfl), (Nat.le_of_ble_eq_true rfl)⟩, ⟨(Nat.le_of_ble_eq_true rfl), (Nat.le_of_ble_eq_true rfl)⟩, (Nat.le_of_ble_eq_true rfl)⟩ ki_J0_indexOf_7cf53 ks_J0_indexOf_7cf53 rfl (am_tab tk_J0_indexOf_0f7a4 3 rfl) rfl ?_
  rintro r τ ⟨hτ9, v9, rfl, hv9⟩
  rw [hτ9]
  refine am_iret (Or.inl rfl) (Nat.le_of_ble_eq_true rfl) (Nat.le_of_ble_eq_true rfl) (am_tab tk_J0_indexOf_0f7a4 4 rfl) ?_
  refine hQ _ _ ?_
  exact ⟨rfl, v9, rfl, hv9⟩
/-- is it one of the signs -/
def isSg (c : Int) : Prop := c = 40 ∨ c = 41 ∨ c = 42 ∨ c = 43 ∨ c = 44 ∨ c = 45 ∨ c = 47 ∨ c = 59 ∨ c = 60 ∨ c = 61 ∨ c = 62 ∨ c = 91 ∨ c = 93
theorem sg_ix {c : Int} (hc : 0 ≤ c ∧ c < 256) : (∃ t, t < sN 1 ∧ sB 1 t = ao_i2b c) ↔ isSg c := by
  rw [i2b_v hc]
  have v : ∀ t : Fin 13, isSg (sB 1 t.val) := by unfold isSg; decide +kernel
  constructor
  · rintro ⟨t, h1, h2⟩
    have h3 := v ⟨t, h1⟩
    have h4 := sB_r (i := 1) (by decide) t
    simp only at h3
    rw [h2] at h3 h4
    split at h3
    · exact h3
    · rw [if_neg (by assumption)] at h4; omega
  · intro h
    have h5 : c < 128 := by unfold isSg at h; omega
    rw [if_pos h5]
    unfold isSg at h
    rcases h with h | h | h | h | h | h | h | h | h | h | h | h | h
    · exact ⟨0, by decide, by rw [h]; decide +kernel⟩
    · exact ⟨1, by decide, by rw [h]; decide +kernel⟩
    · exact ⟨2, by decide, by rw [h]; decide +kernel⟩
    · exact ⟨3, by decide, by rw [h]; decide +kernel⟩
    · exact ⟨4, by decide, by rw [h]; decide +kernel⟩
    · exact ⟨5, by decide, by rw [h]; decide +kernel⟩
    · exact ⟨6, by decide, by rw [h]; decide +kernel⟩
    · exact ⟨7, by decide, by rw [h]; decide +kernel⟩
    · exact ⟨8, by decide, by rw [h]; decide +kernel⟩
    · exact ⟨9, by decide, by rw [h]; decide +kernel⟩
    · exact ⟨10, by decide, by rw [h]; decide +kernel⟩
    · exact ⟨11, by decide, by rw [h]; decide +kernel⟩
    · exact ⟨12, by decide, by rw [h]; decide +kernel⟩
