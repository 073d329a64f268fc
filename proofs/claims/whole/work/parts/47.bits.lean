theorem bv_small {x : BitVec 32} (h : x.toNat < 2147483648) : x.toInt = (x.toNat : Int) := BitVec.toInt_eq_toNat_of_lt (by omega)
theorem and_nat (a b : Nat) (ha : a < 2147483648) (hb : b < 2147483648) : ao_and (a : Int) (b : Int) = ((a &&& b : Nat) : Int) := by
  have h1 : (BitVec.ofNat 32 a &&& BitVec.ofNat 32 b).toNat = a &&& b := by
    rw [BitVec.toNat_and, BitVec.toNat_ofNat, BitVec.toNat_ofNat, Nat.mod_eq_of_lt (by omega), Nat.mod_eq_of_lt (by omega)]
  have h2 : a &&& b ≤ a := Nat.and_le_left
  show (BitVec.ofInt 32 (a : Int) &&& BitVec.ofInt 32 (b : Int)).toInt = _
  rw [BitVec.ofInt_natCast, BitVec.ofInt_natCast, bv_small (by rw [h1]; omega), h1]
theorem or_nat (a b : Nat) (ha : a < 1073741824) (hb : b < 1073741824) : ao_or (a : Int) (b : Int) = ((a ||| b : Nat) : Int) := by
  have h1 : (BitVec.ofNat 32 a ||| BitVec.ofNat 32 b).toNat = a ||| b := by
    rw [BitVec.toNat_or, BitVec.toNat_ofNat, BitVec.toNat_ofNat, Nat.mod_eq_of_lt (by omega), Nat.mod_eq_of_lt (by omega)]
  have h2 : a ||| b < 2 ^ 30 := Nat.or_lt_two_pow (by omega) (by omega)
  show (BitVec.ofInt 32 (a : Int) ||| BitVec.ofInt 32 (b : Int)).toInt = _
  rw [BitVec.ofInt_natCast, BitVec.ofInt_natCast, bv_small (by rw [h1]; omega), h1]
theorem xor_nat (a b : Nat) (ha : a < 1073741824) (hb : b < 1073741824) : ao_xor (a : Int) (b : Int) = ((a ^^^ b : Nat) : Int) := by
  have h1 : (BitVec.ofNat 32 a ^^^ BitVec.ofNat 32 b).toNat = a ^^^ b := by
    rw [BitVec.toNat_xor, BitVec.toNat_ofNat, BitVec.toNat_ofNat, Nat.mod_eq_of_lt (by omega), Nat.mod_eq_of_lt (by omega)]
  have h2 : a ^^^ b < 2 ^ 30 := Nat.xor_lt_two_pow (by omega) (by omega)
  show (BitVec.ofInt 32 (a : Int) ^^^ BitVec.ofInt 32 (b : Int)).toInt = _
  rw [BitVec.ofInt_natCast, BitVec.ofInt_natCast, bv_small (by rw [h1]; omega), h1]
theorem dif_nat (a b : Nat) (ha : a < 2147483648) (hb : b < 2147483648) : ao_and (a : Int) (ao_xor (b : Int) (-1)) = ((a &&& (b ^^^ 4294967295) : Nat) : Int) := by
  have h1 : (BitVec.ofNat 32 a &&& (BitVec.ofNat 32 b ^^^ BitVec.ofInt 32 (-1))).toNat = a &&& (b ^^^ 4294967295) := by
    rw [BitVec.toNat_and, BitVec.toNat_xor, BitVec.toNat_ofNat, BitVec.toNat_ofNat, Nat.mod_eq_of_lt (by omega), Nat.mod_eq_of_lt (by omega)]
    rfl
  have h2 : a &&& (b ^^^ 4294967295) ≤ a := Nat.and_le_left
  have h3 : Int32.ofInt (ao_xor (b : Int) (-1)) = Int32.ofInt (b : Int) ^^^ Int32.ofInt (-1) := by unfold ao_xor; rw [Int32.ofInt_toInt]
  unfold ao_and
  rw [h3]
  show (BitVec.ofInt 32 (a : Int) &&& (BitVec.ofInt 32 (b : Int) ^^^ BitVec.ofInt 32 (-1))).toInt = _
  rw [BitVec.ofInt_natCast, BitVec.ofInt_natCast, bv_small (by rw [h1]; omega), h1]
theorem tb_nat (a p : Nat) : tb (a : Int) (p : Int) = if a.testBit p = true then 1 else 0 := by
  unfold tb
  rw [Nat.testBit_eq_decide_div_mod_eq, Int.toNat_natCast]
  have h : ((a : Int) / 2 ^ p % 2) = ((a / 2 ^ p % 2 : Nat) : Int) := by simp
  rw [h]
  simp only [decide_eq_true_eq]
  split
  · omega
  · omega
theorem toN {s : Int} (h : 0 ≤ s) : ∃ n : Nat, s = (n : Int) := ⟨s.toNat, by omega⟩
theorem and_tb {s t : Int} (hs : 0 ≤ s ∧ s < 256) (ht : 0 ≤ t ∧ t < 256) : (0 ≤ ao_and s t ∧ ao_and s t < 256) ∧ ∀ p : Nat, tb (ao_and s t) p = if tb s p = 1 ∧ tb t p = 1 then 1 else 0 := by
  obtain ⟨a, rfl⟩ := toN hs.1
  obtain ⟨b, rfl⟩ := toN ht.1
  rw [and_nat a b (by omega) (by omega)]
  have h2 : a &&& b ≤ a := Nat.and_le_left
  refine ⟨by omega, fun p => ?_⟩
  rw [tb_nat, tb_nat, tb_nat, Nat.testBit_and]
  cases a.testBit p <;> cases b.testBit p <;> simp
theorem or_tb {s t : Int} (hs : 0 ≤ s ∧ s < 256) (ht : 0 ≤ t ∧ t < 256) : (0 ≤ ao_or s t ∧ ao_or s t < 256) ∧ ∀ p : Nat, tb (ao_or s t) p = if tb s p = 1 ∨ tb t p = 1 then 1 else 0 := by
  obtain ⟨a, rfl⟩ := toN hs.1
  obtain ⟨b, rfl⟩ := toN ht.1
  rw [or_nat a b (by omega) (by omega)]
  have h2 : a ||| b < 2 ^ 8 := Nat.or_lt_two_pow (by omega) (by omega)
  refine ⟨by omega, fun p => ?_⟩
  rw [tb_nat, tb_nat, tb_nat, Nat.testBit_or]
  cases a.testBit p <;> cases b.testBit p <;> simp
theorem xor_tb {s t : Int} (hs : 0 ≤ s ∧ s < 256) (ht : 0 ≤ t ∧ t < 256) : (0 ≤ ao_xor s t ∧ ao_xor s t < 256) ∧ ∀ p : Nat, tb (ao_xor s t) p = if tb s p = tb t p then 0 else 1 := by
  obtain ⟨a, rfl⟩ := toN hs.1
  obtain ⟨b, rfl⟩ := toN ht.1
  rw [xor_nat a b (by omega) (by omega)]
  have h2 : a ^^^ b < 2 ^ 8 := Nat.xor_lt_two_pow (by omega) (by omega)
  refine ⟨by omega, fun p => ?_⟩
  rw [tb_nat, tb_nat, tb_nat, Nat.testBit_xor]
  cases a.testBit p <;> cases b.testBit p <;> simp
theorem dif_tb {s t : Int} (hs : 0 ≤ s ∧ s < 256) (ht : 0 ≤ t ∧ t < 256) : (0 ≤ ao_and s (ao_xor t (-1)) ∧ ao_and s (ao_xor t (-1)) < 256) ∧ ∀ p : Nat, p < 8 → tb (ao_and s (ao_xor t (-1))) p = if tb s p = 1 ∧ ¬ tb t p = 1 then 1 else 0 := by
  obtain ⟨a, rfl⟩ := toN hs.1
  obtain ⟨b, rfl⟩ := toN ht.1
  rw [dif_nat a b (by omega) (by omega)]
  have h2 : a &&& (b ^^^ 4294967295) ≤ a := Nat.and_le_left
  refine ⟨by omega, fun p hp => ?_⟩
  have h3 : Nat.testBit 4294967295 p = true := by
    rcases (show p = 0 ∨ p = 1 ∨ p = 2 ∨ p = 3 ∨ p = 4 ∨ p = 5 ∨ p = 6 ∨ p = 7 by omega) with rfl | rfl | rfl | rfl | rfl | rfl | rfl | rfl <;> rfl
  rw [tb_nat, tb_nat, tb_nat, Nat.testBit_and, Nat.testBit_xor, h3]
  cases a.testBit p <;> cases b.testBit p <;> simp
theorem shl_pow : ∀ p : Nat, p < 8 → ao_shl 1 (p : Int) = 2 ^ p := by decide +kernel
theorem shl_rng (p : Nat) (hp : p < 8) : 0 ≤ ao_shl 1 (p : Int) ∧ ao_shl 1 (p : Int) < 256 := by
  rw [shl_pow p hp]
  have h1 := pow8 (p + 1) (by omega)
  have h2 := pow_pos8 p
  have h3 : (2 : Int) ^ (p + 1) = 2 ^ p * 2 := Int.pow_succ _ _
  omega
theorem shl_tb : ∀ p : Nat, p < 8 → ∀ q : Nat, q < 8 → tb (ao_shl 1 (p : Int)) (q : Int) = if q = p then 1 else 0 := by decide +kernel
theorem set_ext {s t : Int} (hs : 0 ≤ s ∧ s < 256) (ht : 0 ≤ t ∧ t < 256) (h : ∀ p : Nat, p < 8 → tb s p = tb t p) : s = t := by
  have h0 := h 0 (by decide)
  have h1 := h 1 (by decide)
  have h2 := h 2 (by decide)
  have h3 := h 3 (by decide)
  have h4 := h 4 (by decide)
  have h5 := h 5 (by decide)
  have h6 := h 6 (by decide)
  have h7 := h 7 (by decide)
  simp [tb] at h0 h1 h2 h3 h4 h5 h6 h7
  omega
