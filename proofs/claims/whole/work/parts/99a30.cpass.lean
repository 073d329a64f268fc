theorem landk {v : Int} (k : Nat) (hk : k ≤ 31) (h0 : 0 ≤ v) (h1 : v < 9223372036854775808) : ao_land v (((2 ^ k - 1 : Nat)) : Int) = v % ((2 ^ k : Nat) : Int) := by
  obtain ⟨n, rfl⟩ : ∃ n : Nat, v = (n : Int) := ⟨v.toNat, by omega⟩
  have hp : 2 ^ k ≤ 2 ^ 31 := Nat.pow_le_pow_right (by decide) hk
  have hp1 : 0 < 2 ^ k := Nat.pow_pos (by decide)
  have e : (BitVec.ofInt 64 (n : Int) &&& BitVec.ofInt 64 (((2 ^ k - 1 : Nat)) : Int)).toNat = n % 2 ^ k := by
    rw [BitVec.toNat_and, BitVec.ofInt_natCast, BitVec.ofInt_natCast, BitVec.toNat_ofNat, BitVec.toNat_ofNat, Nat.mod_eq_of_lt (by omega), Nat.mod_eq_of_lt (by omega)]
    exact Nat.and_two_pow_sub_one_eq_mod n k
  have hm : n % 2 ^ k < 2 ^ k := Nat.mod_lt _ hp1
  show (BitVec.ofInt 64 (n : Int) &&& BitVec.ofInt 64 (((2 ^ k - 1 : Nat)) : Int)).toInt = _
  rw [BitVec.toInt_eq_toNat_of_lt (by rw [e]; omega), e]
  exact Int.natCast_emod n (2 ^ k)
theorem lshrk {v : Int} (k : Nat) (hk : k = 8 ∨ k = 32) (h0 : 0 ≤ v) (h1 : v < 9223372036854775808) : ao_lshr v (k : Int) = v / ((2 ^ k : Nat) : Int) := by
  obtain ⟨n, rfl⟩ : ∃ n : Nat, v = (n : Int) := ⟨v.toNat, by omega⟩
  have key : ∀ s : Nat, ((BitVec.ofInt 64 (n : Int)).sshiftRight s).toInt = ((n / 2 ^ s : Nat) : Int) := fun s => by
    rw [BitVec.toInt_sshiftRight, BitVec.ofInt_natCast, BitVec.toInt_ofNat']
    rw [Int.shiftRight_eq_div_pow]
    have : ((n : Int).bmod (2 ^ 64)) = (n : Int) := by
      apply Int.bmod_eq_of_le <;> omega
    rw [this]
    simp
  rcases hk with rfl | rfl
  · exact key 8
  · exact key 32
/-- a token's mark in the class: its value, place and kind -/
def MK (b : Nat → Int) (E : Nat) (cv : Nat → Int) (i : Nat) : Int := cv i * 4294967296 + (zP b E i : Int) * 256 + zK b E i
/-- the class's tokens: M ahead of the end -/
def TKc (b : Nat → Int) (E : Nat) (cv : Nat → Int) (M : Nat) (σ : am_H) : Prop := σ.2.1 30 2 = (M : Int) + 1 ∧ (M ≤ 1600 ∧ E ≤ 1600) ∧ (∀ i, i ≤ M → σ.2.1 31 i = MK b E cv i) ∧ (∀ i, i ≤ M → (0 ≤ zK b E i ∧ zK b E i < 256) ∧ (0 ≤ cv i ∧ cv i < 2147483648)) ∧ zK b E M = 6 ∧ (∀ i, i < M → ¬ zK b E i = 6)
/-- the class's reader, ahead of token i or at a fault -/
def RZ (b : Nat → Int) (E : Nat) (cv : Nat → Int) (σ : am_H) : Nat ⊕ (Int × Int) → Prop
  | .inl i => σ.2.1 27 3 = (i : Int) ∧ σ.2.1 27 4 = zK b E i ∧ σ.2.1 27 5 = (zP b E i : Int) ∧ σ.2.1 27 6 = cv i ∧ σ.2.1 27 8 = 0 ∧ σ.2.1 27 9 = -1
  | .inr e => σ.2.1 27 8 = e.1 ∧ ¬ e.1 = 0 ∧ σ.2.1 27 9 = e.2 ∧ σ.2.1 27 4 = 6
def W_rz (a j : Nat) : Prop := a = 27 ∧ ((3 ≤ j ∧ j ≤ 6) ∨ j = 8 ∨ j = 9)
theorem MK_dec {b : Nat → Int} {E : Nat} {cv : Nat → Int} {M i : Nat} {σ : am_H} (h : TKc b E cv M σ) (hi : i ≤ M) : (0 ≤ MK b E cv i ∧ MK b E cv i < 9223372036854775808) ∧ MK b E cv i % 256 = zK b E i ∧ MK b E cv i / 256 % 16777216 = (zP b E i : Int) ∧ MK b E cv i / 4294967296 = cv i := by
  have h1 := h.2.2.2.1 i hi
  have h2 := zP_rng b E i
  have h3 := h.2.1.2
  unfold MK
  refine ⟨⟨by omega, by omega⟩, by omega, by omega, by omega⟩
theorem c_rfail (b : Nat → Int) (E : Nat) (cv : Nat → Int) (σ : am_H) (hL : lay σ) (k : Int) (pl : Int) (h0 : σ.2.1 27 8 = 0) (hk : ¬ k = 0) : am_met M_X4_fail [am_r 27, am_i k, am_i pl] σ (fun r σ' => r = none ∧ RZ b E cv σ' (.inr (k, pl)) ∧ frw W_rz σ σ') := by
  refine am_qq (fun Q hQ => ?_)
  refine am_enter (show plainFor yX4_fail = true by decide +kernel) rfl (Nat.le_of_ble_eq_true rfl) (fun _ _ _ => trivial) ?_
  refine am_aload_n (q := 1) rfl (am_tab tk_X4_fail 0 rfl) rfl ?_
  refine am_getI (q := 4) (a := 27) (k := 4) (n := 13) (j := 8) (x := 0) (Ls_27 hL) (by decide) rfl h0 (by decide) (Or.inl kf_X4_62) (am_tab tk_X4_fail 1 rfl) rfl ?_
  refine am_if_ne (q := 7) (t := 17) (am_tab tk_X4_fail 2 rfl) (by decide) rfl (fun h4 => ?_) (fun h4 => ?_)
  · exact absurd h4 (by decide)
  · refine am_aload_n (q := 8) rfl (am_tab tk_X4_fail 3 rfl) rfl ?_
    refine am_iload_n (q := 9) rfl (am_tab tk_X4_fail 4 rfl) rfl ?_
    refine am_putI (q := 12) (k := 4) (n := 13) (j := 8) (Ls_27 hL) (by decide) rfl (by decide) (Or.inl ⟨kf_X4_62, rfl⟩) (am_tab tk_X4_fail 5 rfl) rfl ?_
    refine am_aload_n (q := 13) rfl (am_tab tk_X4_fail 6 rfl) rfl ?_
    refine am_iload_n (q := 14) rfl (am_tab tk_X4_fail 7 rfl) rfl ?_
    refine am_putI (q := 17) (k := 4) (n := 13) (j := 9) (Ls_27 hL) (by decide) rfl (by decide) (Or.inl ⟨kf_X4_87, rfl⟩) (am_tab tk_X4_fail 8 rfl) rfl ?_
    refine am_aload_n (q := 18) rfl (am_tab tk_X4_fail 9 rfl) rfl ?_
    refine am_bipush (q := 20) (n := 6) (by decide) rfl (am_tab tk_X4_fail 10 rfl) rfl ?_
    refine am_putI (q := 23) (k := 4) (n := 13) (j := 4) (Ls_27 hL) (by decide) rfl (by decide) (Or.inl ⟨kf_X4_45, rfl⟩) (am_tab tk_X4_fail 11 rfl) rfl ?_
    refine am_vret rfl (Nat.le_of_ble_eq_true rfl) (Nat.le_of_ble_eq_true rfl) (am_tab tk_X4_fail 12 rfl) ?_
    refine hQ _ _ ?_
    exact ⟨rfl, ⟨rfl, hk, rfl, rfl⟩, (((frw.refl W_rz σ).setN (by unfold W_rz; omega)).setN (by unfold W_rz; omega)).setN (by unfold W_rz; omega)⟩
theorem c_rfailB (b : Nat → Int) (E : Nat) (cv : Nat → Int) (σ : am_H) (hL : lay σ) (k : Int) (pl : Int) (e : Int × Int) (hB : RZ b E cv σ (.inr e)) : am_met M_X4_fail [am_r 27, am_i k, am_i pl] σ (fun r σ' => r = none ∧ RZ b E cv σ' (.inr e) ∧ frw W_rz σ σ') := by
  refine am_qq (fun Q hQ => ?_)
  refine am_enter (show plainFor yX4_fail = true by decide +kernel) rfl (Nat.le_of_ble_eq_true rfl) (fun _ _ _ => trivial) ?_
  refine am_aload_n (q := 1) rfl (am_tab tk_X4_fail 0 rfl) rfl ?_
  refine am_getI (q := 4) (a := 27) (k := 4) (n := 13) (j := 8) (x := e.1) (Ls_27 hL) (by decide) rfl hB.1 (by decide) (Or.inl kf_X4_62) (am_tab tk_X4_fail 1 rfl) rfl ?_
  refine am_if_ne (q := 7) (t := 17) (am_tab tk_X4_fail 2 rfl) (by decide) rfl (fun h4 => ?_) (fun h4 => ?_)
  · refine am_aload_n (q := 18) rfl (am_tab tk_X4_fail 9 rfl) rfl ?_
    refine am_bipush (q := 20) (n := 6) (by decide) rfl (am_tab tk_X4_fail 10 rfl) rfl ?_
    refine am_putI (q := 23) (k := 4) (n := 13) (j := 4) (Ls_27 hL) (by decide) rfl (by decide) (Or.inl ⟨kf_X4_45, rfl⟩) (am_tab tk_X4_fail 11 rfl) rfl ?_
    refine am_vret rfl (Nat.le_of_ble_eq_true rfl) (Nat.le_of_ble_eq_true rfl) (am_tab tk_X4_fail 12 rfl) ?_
    refine hQ _ _ ?_
    exact ⟨rfl, ⟨hB.1, hB.2.1, hB.2.2.1, rfl⟩, (frw.refl W_rz σ).setN (by unfold W_rz; omega)⟩
  · exact absurd h4 hB.2.1
theorem c_pass0 (b : Nat → Int) (E : Nat) (cv : Nat → Int) (σ : am_H) (hL : lay σ) (k : Int) (i : Nat) (hZ : RZ b E cv σ (.inl i)) (hk : ¬ k = 0) : am_met M_X4_pass [am_r 27, am_i 0, am_i k] σ (fun r σ' => r = none ∧ RZ b E cv σ' (.inr (k, (zP b E i : Int))) ∧ frw W_rz σ σ') := by
  refine am_qq (fun Q hQ => ?_)
  refine am_enter (show plainFor yX4_pass = true by decide +kernel) rfl (Nat.le_of_ble_eq_true rfl) (fun _ _ _ => trivial) ?_
  refine am_iload_n (q := 1) rfl (am_tab tk_X4_pass 0 rfl) rfl ?_
  refine am_if_ne (q := 4) (t := 54) (am_tab tk_X4_pass 1 rfl) (by decide) rfl (fun h1 => ?_) (fun h1 => ?_)
  · exact absurd h1 (by decide)
  · refine am_aload_n (q := 5) rfl (am_tab tk_X4_pass 2 rfl) rfl ?_
    refine am_aload_n (q := 6) rfl (am_tab tk_X4_pass 3 rfl) rfl ?_
    refine am_getI (q := 9) (a := 27) (k := 4) (n := 13) (j := 8) (x := 0) (Ls_27 hL) (by decide) rfl hZ.2.2.2.2.1 (by decide) (Or.inl kf_X4_62) (am_tab tk_X4_pass 4 rfl) rfl ?_
    refine am_if_ne (q := 12) (t := 19) (am_tab tk_X4_pass 5 rfl) (by decide) rfl (fun h9 => ?_) (fun h9 => ?_)
    · exact absurd h9 (by decide)
    · refine am_aload_n (q := 13) rfl (am_tab tk_X4_pass 6 rfl) rfl ?_
      refine am_getI (q := 16) (a := 27) (k := 4) (n := 13) (j := 5) (x := (zP b E i : Int)) (Ls_27 hL) (by decide) rfl hZ.2.2.1 (by decide) (Or.inl kf_X4_55) (am_tab tk_X4_pass 7 rfl) rfl ?_
      refine am_goto (t := 23) (am_tab tk_X4_pass 8 rfl) (by decide) ?_
      refine am_putI (q := 26) (k := 4) (n := 13) (j := 9) (Ls_27 hL) (by decide) rfl (by decide) (Or.inl ⟨kf_X4_87, rfl⟩) (am_tab tk_X4_pass 11 rfl) rfl ?_
      refine am_aload_n (q := 27) rfl (am_tab tk_X4_pass 12 rfl) rfl ?_
      refine am_aload_n (q := 28) rfl (am_tab tk_X4_pass 13 rfl) rfl ?_
      refine am_getI (q := 31) (a := 27) (k := 4) (n := 13) (j := 8) (x := 0) (Ls_27 hL) (by decide) rfl hZ.2.2.2.2.1 (by decide) (Or.inl kf_X4_62) (am_tab tk_X4_pass 14 rfl) rfl ?_
      refine am_if_ne (q := 34) (t := 38) (am_tab tk_X4_pass 15 rfl) (by decide) rfl (fun h31 => ?_) (fun h31 => ?_)
      · exact absurd h31 (by decide)
      · refine am_iload_n (q := 35) rfl (am_tab tk_X4_pass 16 rfl) rfl ?_
        refine am_goto (t := 42) (am_tab tk_X4_pass 17 rfl) (by decide) ?_
        refine am_putI (q := 45) (k := 4) (n := 13) (j := 8) (Ls_27 hL) (by decide) rfl (by decide) (Or.inl ⟨kf_X4_62, rfl⟩) (am_tab tk_X4_pass 20 rfl) rfl ?_
        refine am_aload_n (q := 46) rfl (am_tab tk_X4_pass 21 rfl) rfl ?_
        refine am_bipush (q := 48) (n := 6) (by decide) rfl (am_tab tk_X4_pass 22 rfl) rfl ?_
        refine am_putI (q := 51) (k := 4) (n := 13) (j := 4) (Ls_27 hL) (by decide) rfl (by decide) (Or.inl ⟨kf_X4_45, rfl⟩) (am_tab tk_X4_pass 23 rfl) rfl ?_
        refine am_goto (t := 125) (am_tab tk_X4_pass 24 rfl) (by decide) ?_
        refine am_vret rfl (Nat.le_of_ble_eq_true rfl) (Nat.le_of_ble_eq_true rfl) (am_tab tk_X4_pass 66 rfl) ?_
        refine hQ _ _ ?_
        exact ⟨rfl, ⟨rfl, hk, rfl, rfl⟩, (((frw.refl W_rz σ).setN (by unfold W_rz; omega)).setN (by unfold W_rz; omega)).setN (by unfold W_rz; omega)⟩
theorem c_passB (b : Nat → Int) (E : Nat) (cv : Nat → Int) (σ : am_H) (hL : lay σ) (k : Int) (e : Int × Int) (hB : RZ b E cv σ (.inr e)) : am_met M_X4_pass [am_r 27, am_i 0, am_i k] σ (fun r σ' => r = none ∧ RZ b E cv σ' (.inr e) ∧ frw W_rz σ σ') := by
  refine am_qq (fun Q hQ => ?_)
  refine am_enter (show plainFor yX4_pass = true by decide +kernel) rfl (Nat.le_of_ble_eq_true rfl) (fun _ _ _ => trivial) ?_
  refine am_iload_n (q := 1) rfl (am_tab tk_X4_pass 0 rfl) rfl ?_
  refine am_if_ne (q := 4) (t := 54) (am_tab tk_X4_pass 1 rfl) (by decide) rfl (fun h1 => ?_) (fun h1 => ?_)
  · exact absurd h1 (by decide)
  · refine am_aload_n (q := 5) rfl (am_tab tk_X4_pass 2 rfl) rfl ?_
    refine am_aload_n (q := 6) rfl (am_tab tk_X4_pass 3 rfl) rfl ?_
    refine am_getI (q := 9) (a := 27) (k := 4) (n := 13) (j := 8) (x := e.1) (Ls_27 hL) (by decide) rfl hB.1 (by decide) (Or.inl kf_X4_62) (am_tab tk_X4_pass 4 rfl) rfl ?_
    refine am_if_ne (q := 12) (t := 19) (am_tab tk_X4_pass 5 rfl) (by decide) rfl (fun h9 => ?_) (fun h9 => ?_)
    · refine am_aload_n (q := 20) rfl (am_tab tk_X4_pass 9 rfl) rfl ?_
      refine am_getI (q := 23) (a := 27) (k := 4) (n := 13) (j := 9) (x := e.2) (Ls_27 hL) (by decide) rfl hB.2.2.1 (by decide) (Or.inl kf_X4_87) (am_tab tk_X4_pass 10 rfl) rfl ?_
      refine am_putI (q := 26) (k := 4) (n := 13) (j := 9) (Ls_27 hL) (by decide) rfl (by decide) (Or.inl ⟨kf_X4_87, rfl⟩) (am_tab tk_X4_pass 11 rfl) rfl ?_
      refine am_aload_n (q := 27) rfl (am_tab tk_X4_pass 12 rfl) rfl ?_
      refine am_aload_n (q := 28) rfl (am_tab tk_X4_pass 13 rfl) rfl ?_
      refine am_getI (q := 31) (a := 27) (k := 4) (n := 13) (j := 8) (x := e.1) (Ls_27 hL) (by decide) rfl hB.1 (by decide) (Or.inl kf_X4_62) (am_tab tk_X4_pass 14 rfl) rfl ?_
      refine am_if_ne (q := 34) (t := 38) (am_tab tk_X4_pass 15 rfl) (by decide) rfl (fun h31 => ?_) (fun h31 => ?_)
      · refine am_aload_n (q := 39) rfl (am_tab tk_X4_pass 18 rfl) rfl ?_
        refine am_getI (q := 42) (a := 27) (k := 4) (n := 13) (j := 8) (x := e.1) (Ls_27 hL) (by decide) rfl hB.1 (by decide) (Or.inl kf_X4_62) (am_tab tk_X4_pass 19 rfl) rfl ?_
        refine am_putI (q := 45) (k := 4) (n := 13) (j := 8) (Ls_27 hL) (by decide) rfl (by decide) (Or.inl ⟨kf_X4_62, rfl⟩) (am_tab tk_X4_pass 20 rfl) rfl ?_
        refine am_aload_n (q := 46) rfl (am_tab tk_X4_pass 21 rfl) rfl ?_
        refine am_bipush (q := 48) (n := 6) (by decide) rfl (am_tab tk_X4_pass 22 rfl) rfl ?_
        refine am_putI (q := 51) (k := 4) (n := 13) (j := 4) (Ls_27 hL) (by decide) rfl (by decide) (Or.inl ⟨kf_X4_45, rfl⟩) (am_tab tk_X4_pass 23 rfl) rfl ?_
        refine am_goto (t := 125) (am_tab tk_X4_pass 24 rfl) (by decide) ?_
        refine am_vret rfl (Nat.le_of_ble_eq_true rfl) (Nat.le_of_ble_eq_true rfl) (am_tab tk_X4_pass 66 rfl) ?_
        refine hQ _ _ ?_
        exact ⟨rfl, ⟨rfl, hB.2.1, rfl, rfl⟩, (((frw.refl W_rz σ).setN (by unfold W_rz; omega)).setN (by unfold W_rz; omega)).setN (by unfold W_rz; omega)⟩
      · exact absurd h31 hB.2.1
    · exact absurd h9 hB.2.1
theorem c_pass1 (b : Nat → Int) (E : Nat) (cv : Nat → Int) (σ : am_H) (hL : lay σ) (k : Int) (M : Nat) (hT : TKc b E cv M σ) (i : Nat) (hZ : RZ b E cv σ (.inl i)) (h6 : ¬ zK b E i = 6) (hiM : i ≤ M) : am_met M_X4_pass [am_r 27, am_i 1, am_i k] σ (fun r σ' => r = none ∧ RZ b E cv σ' (.inl (i + 1)) ∧ frw W_rz σ σ') := by
  refine am_qq (fun Q hQ => ?_)
  refine am_enter (show plainFor yX4_pass = true by decide +kernel) rfl (Nat.le_of_ble_eq_true rfl) (fun _ _ _ => trivial) ?_
  have hlt : i < M := by
    by_cases h : i = M
    · rw [h] at h6; exact absurd hT.2.2.2.2.1 h6
    · omega
  have hdec := MK_dec hT (show i + 1 ≤ M by omega)
  have hM16 := hT.2.1.1
  have hr9 := hT.2.2.2.1 (i + 1) (by omega)
  have hzz := zP_rng b E (i + 1)
  have hE16 := hT.2.1.2
  refine am_iload_n (q := 1) rfl (am_tab tk_X4_pass 0 rfl) rfl ?_
  refine am_if_ne (q := 4) (t := 54) (am_tab tk_X4_pass 1 rfl) (by decide) rfl (fun h1 => ?_) (fun h1 => ?_)
  · refine am_aload_n (q := 55) rfl (am_tab tk_X4_pass 25 rfl) rfl ?_
    refine am_getI (q := 58) (a := 27) (k := 4) (n := 13) (j := 3) (x := (i : Int)) (Ls_27 hL) (by decide) rfl hZ.1 (by decide) (Or.inl kf_X4_90) (am_tab tk_X4_pass 26 rfl) rfl ?_
    refine am_iconst (q := 59) (n := 1) (by decide) (am_tab tk_X4_pass 27 rfl) rfl ?_
    refine am_iadd (q := 60) (by omega) (am_tab tk_X4_pass 28 rfl) rfl ?_
    refine am_aload_n (q := 61) rfl (am_tab tk_X4_pass 29 rfl) rfl ?_
    refine am_getR (q := 64) (a := 27) (k := 4) (n := 13) (j := 0) (r := some (30)) (Ls_27 hL) (by decide) rfl (Lr_27_0 hL) (by decide) (Or.inl kf_X4_25) (am_tab tk_X4_pass 30 rfl) rfl ?_
    refine am_getI (q := 67) (a := 30) (k := 7) (n := 3) (j := 2) (x := ((M : Int) + 1)) (Ls_30 hL) (by decide) rfl hT.1 (by decide) (Or.inr kf_X4_93) (am_tab tk_X4_pass 31 rfl) rfl ?_
    refine am_icmp_ge (q := 70) (t := 125) (am_tab tk_X4_pass 32 rfl) (by decide) rfl (fun h67 => ?_) (fun h67 => ?_)
    · exact absurd h67 (by omega)
    · refine am_aload_n (q := 71) rfl (am_tab tk_X4_pass 33 rfl) rfl ?_
      refine am_dup (q := 72) rfl (am_tab tk_X4_pass 34 rfl) rfl ?_
      refine am_getI (q := 75) (a := 27) (k := 4) (n := 13) (j := 3) (x := (i : Int)) (Ls_27 hL) (by decide) rfl hZ.1 (by decide) (Or.inl kf_X4_90) (am_tab tk_X4_pass 35 rfl) rfl ?_
      refine am_iconst (q := 76) (n := 1) (by decide) (am_tab tk_X4_pass 36 rfl) rfl ?_
      refine am_iadd (q := 77) (by omega) (am_tab tk_X4_pass 37 rfl) rfl ?_
      refine am_putI (q := 80) (k := 4) (n := 13) (j := 3) (Ls_27 hL) (by decide) rfl (by decide) (Or.inl ⟨kf_X4_90, rfl⟩) (am_tab tk_X4_pass 38 rfl) rfl ?_
      refine am_aload_n (q := 81) rfl (am_tab tk_X4_pass 39 rfl) rfl ?_
      refine am_getR (q := 84) (a := 27) (k := 4) (n := 13) (j := 0) (r := some (30)) (Ls_27 hL) (by decide) rfl (Lr_27_0 hL) (by decide) (Or.inl kf_X4_25) (am_tab tk_X4_pass 40 rfl) rfl ?_
      refine am_getR (q := 87) (a := 30) (k := 7) (n := 3) (j := 1) (r := some (31)) (Ls_30 hL) (by decide) rfl (Lr_30_1 hL) (by decide) (Or.inr kf_X4_96) (am_tab tk_X4_pass 41 rfl) rfl ?_
      refine am_aload_n (q := 88) rfl (am_tab tk_X4_pass 42 rfl) rfl ?_
      refine am_getI (q := 91) (a := 27) (k := 4) (n := 13) (j := 3) (x := ((i : Int) + 1)) (Ls_27 hL) (by decide) rfl rfl (by decide) (Or.inl kf_X4_90) (am_tab tk_X4_pass 43 rfl) rfl ?_
      refine am_lald (q := 92) (a := 31) (n := 1601) (x := (MK b E cv (i + 1))) (Ls_31 hL) (by omega) (by omega) (by rw [show Int.toNat ((i : Int) + 1) = i + 1 by omega]; exact hT.2.2.1 (i + 1) (by omega)) (am_tab tk_X4_pass 44 rfl) rfl ?_
      refine am_lstore_n (q := 93) (by decide) (ls2 := [(3, am_l ((MK b E cv (i + 1)))), (0, am_r 27), (1, am_i 1), (2, am_i k)]) rfl (am_tab tk_X4_pass 45 rfl) rfl ?_
      refine am_aload_n (q := 94) rfl (am_tab tk_X4_pass 46 rfl) rfl ?_
      refine am_lload_n (q := 95) rfl (am_tab tk_X4_pass 47 rfl) rfl ?_
      refine am_ldc2 (q := 98) (n := 255) (by decide) kk_X4_100 (am_tab tk_X4_pass 48 rfl) rfl ?_
      refine am_land (q := 99) (am_tab tk_X4_pass 49 rfl) rfl ?_
      refine am_l2i (q := 100) (y := (zK b E (i + 1))) (by rw [show ao_land (MK b E cv (i + 1)) 255 = (MK b E cv (i + 1)) % 256 from landk 8 (by decide) hdec.1.1 hdec.1.2, hdec.2.1]; exact (l2i_eq (by omega)).symm) (am_tab tk_X4_pass 50 rfl) rfl ?_
      refine am_putI (q := 103) (k := 4) (n := 13) (j := 4) (Ls_27 hL) (by decide) rfl (by decide) (Or.inl ⟨kf_X4_45, rfl⟩) (am_tab tk_X4_pass 51 rfl) rfl ?_
      refine am_aload_n (q := 104) rfl (am_tab tk_X4_pass 52 rfl) rfl ?_
      refine am_lload_n (q := 105) rfl (am_tab tk_X4_pass 53 rfl) rfl ?_
      refine am_bipush (q := 107) (n := 8) (by decide) rfl (am_tab tk_X4_pass 54 rfl) rfl ?_
      refine am_lshr (q := 108) (am_tab tk_X4_pass 55 rfl) rfl ?_
      refine am_ldc2 (q := 111) (n := 16777215) (by decide) kk_X4_102 (am_tab tk_X4_pass 56 rfl) rfl ?_
      refine am_land (q := 112) (am_tab tk_X4_pass 57 rfl) rfl ?_
      refine am_l2i (q := 113) (y := (zP b E (i + 1) : Int)) (by rw [show ao_lshr (MK b E cv (i + 1)) 8 = (MK b E cv (i + 1)) / 256 from lshrk 8 (Or.inl rfl) hdec.1.1 hdec.1.2, show ao_land ((MK b E cv (i + 1)) / 256) 16777215 = (MK b E cv (i + 1)) / 256 % 16777216 from landk 24 (by decide) (by omega) (by omega), hdec.2.2.1]; exact (l2i_eq (by omega)).symm) (am_tab tk_X4_pass 58 rfl) rfl ?_
      refine am_putI (q := 116) (k := 4) (n := 13) (j := 5) (Ls_27 hL) (by decide) rfl (by decide) (Or.inl ⟨kf_X4_55, rfl⟩) (am_tab tk_X4_pass 59 rfl) rfl ?_
      refine am_aload_n (q := 117) rfl (am_tab tk_X4_pass 60 rfl) rfl ?_
      refine am_lload_n (q := 118) rfl (am_tab tk_X4_pass 61 rfl) rfl ?_
      refine am_bipush (q := 120) (n := 32) (by decide) rfl (am_tab tk_X4_pass 62 rfl) rfl ?_
      refine am_lshr (q := 121) (am_tab tk_X4_pass 63 rfl) rfl ?_
      refine am_l2i (q := 122) (y := (cv (i + 1))) (by rw [show ao_lshr (MK b E cv (i + 1)) 32 = (MK b E cv (i + 1)) / 4294967296 from lshrk 32 (Or.inr rfl) hdec.1.1 hdec.1.2, hdec.2.2.2]; exact (l2i_eq (by omega)).symm) (am_tab tk_X4_pass 64 rfl) rfl ?_
      refine am_putI (q := 125) (k := 4) (n := 13) (j := 6) (Ls_27 hL) (by decide) rfl (by decide) (Or.inl ⟨kf_X4_104, rfl⟩) (am_tab tk_X4_pass 65 rfl) rfl ?_
      refine am_vret rfl (Nat.le_of_ble_eq_true rfl) (Nat.le_of_ble_eq_true rfl) (am_tab tk_X4_pass 66 rfl) ?_
      refine hQ _ _ ?_
      exact ⟨rfl, ⟨by show (i : Int) + 1 = _; omega, rfl, rfl, rfl, hZ.2.2.2.2.1, hZ.2.2.2.2.2⟩, ((((frw.refl W_rz σ).setN (by unfold W_rz; omega)).setN (by unfold W_rz; omega)).setN (by unfold W_rz; omega)).setN (by unfold W_rz; omega)⟩
  · exact absurd h1 (by decide)
