theorem lor_add {a y : Int} (k : Nat) (hk : k ≤ 40) (ha : 0 ≤ a) (hy : 0 ≤ y ∧ y < ((2 ^ k : Nat) : Int)) (hs : a * ((2 ^ k : Nat) : Int) + y < 9223372036854775808) : ao_lor (a * ((2 ^ k : Nat) : Int)) y = a * ((2 ^ k : Nat) : Int) + y := by
  obtain ⟨n, rfl⟩ : ∃ n : Nat, a = (n : Int) := ⟨a.toNat, by omega⟩
  obtain ⟨m, rfl⟩ : ∃ m : Nat, y = (m : Int) := ⟨y.toNat, by omega⟩
  have hm : m < 2 ^ k := by omega
  have hc : (n : Int) * ((2 ^ k : Nat) : Int) = ((2 ^ k * n : Nat) : Int) := by rw [Int.natCast_mul, Int.mul_comm]
  rw [hc] at hs ⊢
  have hs2 : 2 ^ k * n + m < 9223372036854775808 := by omega
  have e : (BitVec.ofInt 64 ((2 ^ k * n : Nat) : Int) ||| BitVec.ofInt 64 (m : Int)).toNat = 2 ^ k * n + m := by
    rw [BitVec.toNat_or, BitVec.ofInt_natCast, BitVec.ofInt_natCast, BitVec.toNat_ofNat, BitVec.toNat_ofNat, Nat.mod_eq_of_lt (by omega), Nat.mod_eq_of_lt (by omega)]
    exact (Nat.two_pow_add_eq_or_of_lt hm n).symm
  show (BitVec.ofInt 64 ((2 ^ k * n : Nat) : Int) ||| BitVec.ofInt 64 (m : Int)).toInt = _
  rw [BitVec.toInt_eq_toNat_of_lt (by rw [e]; omega), e]
  exact Int.natCast_add _ _
theorem or_add {a y : Int} (k : Nat) (hk : k ≤ 30) (ha : 0 ≤ a) (hy : 0 ≤ y ∧ y < ((2 ^ k : Nat) : Int)) (hs : a * ((2 ^ k : Nat) : Int) + y < 2147483648) : ao_or y (a * ((2 ^ k : Nat) : Int)) = y + a * ((2 ^ k : Nat) : Int) := by
  obtain ⟨n, rfl⟩ : ∃ n : Nat, a = (n : Int) := ⟨a.toNat, by omega⟩
  obtain ⟨m, rfl⟩ : ∃ m : Nat, y = (m : Int) := ⟨y.toNat, by omega⟩
  have hm : m < 2 ^ k := by omega
  have hc : (n : Int) * ((2 ^ k : Nat) : Int) = ((2 ^ k * n : Nat) : Int) := by rw [Int.natCast_mul, Int.mul_comm]
  rw [hc] at hs ⊢
  have hs2 : 2 ^ k * n + m < 2147483648 := by omega
  have e : (BitVec.ofInt 32 (m : Int) ||| BitVec.ofInt 32 ((2 ^ k * n : Nat) : Int)).toNat = m + 2 ^ k * n := by
    rw [BitVec.toNat_or, BitVec.ofInt_natCast, BitVec.ofInt_natCast, BitVec.toNat_ofNat, BitVec.toNat_ofNat, Nat.mod_eq_of_lt (by omega), Nat.mod_eq_of_lt (by omega), Nat.or_comm, Nat.add_comm]
    exact (Nat.two_pow_add_eq_or_of_lt hm n).symm
  show (BitVec.ofInt 32 (m : Int) ||| BitVec.ofInt 32 ((2 ^ k * n : Nat) : Int)).toInt = _
  rw [BitVec.toInt_eq_toNat_of_lt (by rw [e]; omega), e]
  exact Int.natCast_add _ _
theorem lshl_32 {v : Int} (h : 0 ≤ v ∧ v < 2147483648) : ao_lshl v 32 = v * 4294967296 := by
  obtain ⟨n, rfl⟩ : ∃ n : Nat, v = (n : Int) := ⟨v.toNat, by omega⟩
  show ((BitVec.ofInt 64 (n : Int)) <<< 32).toInt = _
  have e : ((BitVec.ofInt 64 (n : Int)) <<< 32).toNat = n * 4294967296 := by
    rw [BitVec.toNat_shiftLeft, BitVec.ofInt_natCast, BitVec.toNat_ofNat, Nat.mod_eq_of_lt (by omega), Nat.shiftLeft_eq, Nat.mod_eq_of_lt (by omega)]
  rw [BitVec.toInt_eq_toNat_of_lt (by rw [e]; omega), e]
  omega
theorem shl_k {v : Int} (k : Nat) (hk : k = 0 ∨ k = 5 ∨ k = 8 ∨ k = 10 ∨ k = 15 ∨ k = 20 ∨ k = 25) (h : 0 ≤ v) (hs : v * ((2 ^ k : Nat) : Int) < 2147483648) : ao_shl v (k : Int) = v * ((2 ^ k : Nat) : Int) := by
  obtain ⟨n, rfl⟩ : ∃ n : Nat, v = (n : Int) := ⟨v.toNat, by omega⟩
  have key : ∀ s : Nat, n * 2 ^ s < 2147483648 → ((BitVec.ofInt 32 (n : Int)) <<< s).toInt = (n : Int) * ((2 ^ s : Nat) : Int) := fun s hs => by
    have hp : 0 < 2 ^ s := Nat.pow_pos (by decide)
    have hn : n ≤ n * 2 ^ s := Nat.le_mul_of_pos_right n hp
    have e : ((BitVec.ofInt 32 (n : Int)) <<< s).toNat = n * 2 ^ s := by
      have hn2 : n % 2 ^ 32 = n := Nat.mod_eq_of_lt (by omega)
      rw [BitVec.toNat_shiftLeft, BitVec.ofInt_natCast, BitVec.toNat_ofNat, hn2, Nat.shiftLeft_eq, Nat.mod_eq_of_lt (by omega)]
    rw [BitVec.toInt_eq_toNat_of_lt (by rw [e]; omega), e, Int.natCast_mul]
  have hs2 : n * 2 ^ k < 2147483648 := by
    have : (n : Int) * ((2 ^ k : Nat) : Int) = ((n * 2 ^ k : Nat) : Int) := (Int.natCast_mul _ _).symm
    omega
  rcases hk with rfl | rfl | rfl | rfl | rfl | rfl | rfl
  · exact key 0 hs2
  · exact key 5 hs2
  · exact key 8 hs2
  · exact key 10 hs2
  · exact key 15 hs2
  · exact key 20 hs2
  · exact key 25 hs2
theorem mk_eq {v p k : Int} (hv : 0 ≤ v ∧ v < 2147483648) (hp : 0 ≤ p ∧ p ≤ 1600) (hk : 0 ≤ k ∧ k < 256) : ao_lor (ao_lor (ao_lshl v 32) (ao_shl p 8)) k = v * 4294967296 + p * 256 + k := by
  have e1 : ao_shl p 8 = p * 256 := shl_k 8 (by omega) hp.1 (by show p * 256 < _; omega)
  have e2 : ao_lor (v * 4294967296) (p * 256) = v * 4294967296 + p * 256 := lor_add 32 (by omega) hv.1 ⟨by omega, by show p * 256 < 4294967296; omega⟩ (by show v * 4294967296 + p * 256 < _; omega)
  have e3 : ao_lor ((v * 16777216 + p) * 256) k = (v * 16777216 + p) * 256 + k := lor_add 8 (by omega) (by omega) ⟨hk.1, by show k < 256; omega⟩ (by show (v * 16777216 + p) * 256 + k < _; omega)
  rw [lshl_32 hv, e1, e2, show v * 4294967296 + p * 256 = (v * 16777216 + p) * 256 by omega, e3]
/-- the class's tape: its bytes and length -/
def TP (b : Nat → Int) (E : Nat) (σ : am_H) : Prop := (∀ j, j < 1600 → σ.2.1 2 j = b j) ∧ σ.2.1 1 1 = (E : Int) ∧ E ≤ 1600 ∧ ∀ j, j < 1600 → 0 ≤ b j ∧ b j ≤ 255
theorem isL_iff {c : Int} : isL c = true ↔ 97 ≤ c ∧ c ≤ 122 := ⟨fun h => of_decide_eq_true h, fun h => decide_eq_true h⟩
theorem isDg_iff {c : Int} : isDg c = true ↔ 48 ≤ c ∧ c ≤ 57 := ⟨fun h => of_decide_eq_true h, fun h => decide_eq_true h⟩
def rF (b : Nat → Int) (E x : Nat) : Nat := if isL (b x) = true then rn isL b E x else rn isDg b E x
def ltV (b : Nat → Int) (x : Nat) : Nat → Int
  | 0 => 0
  | k + 1 => ltV b x k + (b (x + k) - 96) * ((2 ^ (5 * k) : Nat) : Int)
theorem ltV_r {b : Nat → Int} {x : Nat} : ∀ k, (∀ j, j < k → 97 ≤ b (x + j) ∧ b (x + j) ≤ 122) → 0 ≤ ltV b x k ∧ ltV b x k < ((2 ^ (5 * k) : Nat) : Int)
  | 0, _ => ⟨Int.le_refl 0, (by decide : (0 : Int) < 1)⟩
  | k + 1, h => by
    have ih := ltV_r k (fun j hj => h j (by omega))
    have hb := h k (by omega)
    unfold ltV
    have hp : ((2 ^ (5 * (k + 1)) : Nat) : Int) = 32 * ((2 ^ (5 * k) : Nat) : Int) := by
      rw [show 5 * (k + 1) = 5 * k + 5 by omega, Nat.pow_add, Int.natCast_mul, Int.mul_comm]; rfl
    rw [hp]
    have hp0 : 0 < ((2 ^ (5 * k) : Nat) : Int) := Int.natCast_pos.mpr (Nat.pow_pos (by decide))
    generalize ((2 ^ (5 * k) : Nat) : Int) = P at ih hp0
    have h1 : 0 ≤ (b (x + k) - 96) * P := Int.mul_nonneg (by omega) (by omega)
    have h2 : (b (x + k) - 96) * P ≤ 26 * P := Int.mul_le_mul_of_nonneg_right (by omega) (by omega)
    omega
theorem c_runFromL (b : Nat → Int) (E : Nat) (σ : am_H) (hL : lay σ) (hT : TP b E σ) (x : Nat) (hx : x < E) (hx1 : 97 ≤ b x ∧ b x ≤ 122) : am_met M_X7_runFrom [am_r 30, am_i ((x : Int))] σ (fun r σ' => r = some (am_i (rn isL b E x : Int)) ∧ σ' = σ) := by
  refine am_qq (fun Q hQ => ?_)
  refine am_enter (show plainFor yX7_runFrom = true by decide +kernel) rfl (Nat.le_of_ble_eq_true rfl) (fun _ _ _ => trivial) ?_
  have hE := hT.2.2.1
  refine am_iload_n (q := 1) rfl (am_tab tk_X7_runFrom 0 rfl) rfl ?_
  refine am_istore_n (q := 2) (by decide) (ls2 := [(2, am_i ((x : Int))), (0, am_r 30), (1, am_i ((x : Int)))]) rfl (am_tab tk_X7_runFrom 1 rfl) rfl ?_
  refine am_aload_n (q := 3) rfl (am_tab tk_X7_runFrom 2 rfl) rfl ?_
  refine am_getR (q := 6) (a := 30) (k := 7) (n := 3) (j := 0) (r := some (1)) (Ls_30 hL) (by decide) rfl (Lr_30_0 hL) (by decide) (Or.inl kf_X7_15) (am_tab tk_X7_runFrom 3 rfl) rfl ?_
  refine am_getR (q := 9) (a := 1) (k := 6) (n := 2) (j := 0) (r := some (2)) (Ls_1 hL) (by decide) rfl (Lr_1_0 hL) (by decide) (Or.inr kf_X7_28) (am_tab tk_X7_runFrom 4 rfl) rfl ?_
  refine am_iload_n (q := 10) rfl (am_tab tk_X7_runFrom 5 rfl) rfl ?_
  refine am_iald (q := 11) (a := 2) (n := 1600) (x := (b x)) (Ls_2 hL) (by omega) (by omega) (hT.1 x (by omega)) (am_tab tk_X7_runFrom 6 rfl) rfl ?_
  refine am_callS0 (q := 14) (me2 := M_X7_isLetter) (As := [am_i ((b x))]) (rest := []) (out := [am_i ((if 97 ≤ (b x) ∧ (b x) ≤ 122 then 1 else 0))]) (c_X7_isLetter σ (b x)) ⟨rfl, rfl⟩ ⟨Or.inl km_X7_36, kc_X7_isLetter, kn_X7, kd_X7_isLetter, ⟨(Nat.le_of_ble_eq_true rfl), (Nat.le_of_ble_eq_true rfl)⟩, ⟨(Nat.le_of_ble_eq_true rfl), (Nat.le_of_ble_eq_true rfl)⟩, (Nat.le_of_ble_eq_true rfl)⟩ ki_X7_isLetter rfl rfl (am_tab tk_X7_runFrom 7 rfl) rfl ?_
  refine am_istore_n (q := 15) (by decide) (ls2 := [(3, am_i ((if 97 ≤ (b x) ∧ (b x) ≤ 122 then 1 else 0))), (2, am_i ((x : Int))), (0, am_r 30), (1, am_i ((x : Int)))]) rfl (am_tab tk_X7_runFrom 8 rfl) rfl ?_
  have L15 : ∀ (n15 : Nat) (j : Nat), E - j < n15 → j ≤ E → rn isL b E j = rn isL b E x → am_wp M_X7_runFrom Q 0 0 15 [(3, am_i ((if 97 ≤ b x ∧ b x ≤ 122 then 1 else 0))), (2, am_i ((j : Int))), (1, am_i ((x : Int))), (0, am_r 30)] [] σ := by
    intro n15
    induction n15 with
    | zero => intro j hn15; exact absurd hn15 (Nat.not_lt_zero _)
    | succ n15 ih15 =>
      intro j hn15 hj1 hj2
      refine am_iload_n (q := 16) rfl (am_tab tk_X7_runFrom 9 rfl) rfl ?_
      refine am_aload_n (q := 17) rfl (am_tab tk_X7_runFrom 10 rfl) rfl ?_
      refine am_getR (q := 20) (a := 30) (k := 7) (n := 3) (j := 0) (r := some (1)) (Ls_30 hL) (by decide) rfl (Lr_30_0 hL) (by decide) (Or.inl kf_X7_15) (am_tab tk_X7_runFrom 11 rfl) rfl ?_
      refine am_getI (q := 23) (a := 1) (k := 6) (n := 2) (j := 1) (x := (E : Int)) (Ls_1 hL) (by decide) rfl hT.2.1 (by decide) (Or.inr kf_X7_23) (am_tab tk_X7_runFrom 12 rfl) rfl ?_
      refine am_icmp_ge (q := 26) (t := 69) (am_tab tk_X7_runFrom 13 rfl) (by decide) rfl (fun h23 => ?_) (fun h23 => ?_)
      · refine am_iload_n (q := 70) rfl (am_tab tk_X7_runFrom 33 rfl) rfl ?_
        refine am_iret (Or.inl rfl) (Nat.le_of_ble_eq_true rfl) (Nat.le_of_ble_eq_true rfl) (am_tab tk_X7_runFrom 34 rfl) ?_
        refine hQ _ _ ?_
        refine ⟨?_, rfl⟩
        rw [← hj2, rn_stop]
        rintro ⟨h8, h9⟩
        rw [isL_iff] at h9
        first | omega | exact absurd h9 h42
      · refine am_iload_n (q := 27) rfl (am_tab tk_X7_runFrom 14 rfl) rfl ?_
        refine am_if_eq (q := 30) (t := 48) (am_tab tk_X7_runFrom 15 rfl) (by decide) rfl (fun h27 => ?_) (fun h27 => ?_)
        · exact absurd hx1 (b01z h27)
        · replace h27 := b01n h27
          refine am_aload_n (q := 31) rfl (am_tab tk_X7_runFrom 16 rfl) rfl ?_
          refine am_getR (q := 34) (a := 30) (k := 7) (n := 3) (j := 0) (r := some (1)) (Ls_30 hL) (by decide) rfl (Lr_30_0 hL) (by decide) (Or.inl kf_X7_15) (am_tab tk_X7_runFrom 17 rfl) rfl ?_
          refine am_getR (q := 37) (a := 1) (k := 6) (n := 2) (j := 0) (r := some (2)) (Ls_1 hL) (by decide) rfl (Lr_1_0 hL) (by decide) (Or.inr kf_X7_28) (am_tab tk_X7_runFrom 18 rfl) rfl ?_
          refine am_iload_n (q := 38) rfl (am_tab tk_X7_runFrom 19 rfl) rfl ?_
          refine am_iald (q := 39) (a := 2) (n := 1600) (x := (b j)) (Ls_2 hL) (by omega) (by omega) (hT.1 j (by omega)) (am_tab tk_X7_runFrom 20 rfl) rfl ?_
          refine am_callS0 (q := 42) (me2 := M_X7_isLetter) (As := [am_i ((b j))]) (rest := []) (out := [am_i ((if 97 ≤ (b j) ∧ (b j) ≤ 122 then 1 else 0))]) (c_X7_isLetter σ (b j)) ⟨rfl, rfl⟩ ⟨Or.inl km_X7_36, kc_X7_isLetter, kn_X7, kd_X7_isLetter, ⟨(Nat.le_of_ble_eq_true rfl), (Nat.le_of_ble_eq_true rfl)⟩, ⟨(Nat.le_of_ble_eq_true rfl), (Nat.le_of_ble_eq_true rfl)⟩, (Nat.le_of_ble_eq_true rfl)⟩ ki_X7_isLetter rfl rfl (am_tab tk_X7_runFrom 21 rfl) rfl ?_
          refine am_if_eq (q := 45) (t := 69) (am_tab tk_X7_runFrom 22 rfl) (by decide) rfl (fun h42 => ?_) (fun h42 => ?_)
          · replace h42 := b01z h42
            refine am_iload_n (q := 70) rfl (am_tab tk_X7_runFrom 33 rfl) rfl ?_
            refine am_iret (Or.inl rfl) (Nat.le_of_ble_eq_true rfl) (Nat.le_of_ble_eq_true rfl) (am_tab tk_X7_runFrom 34 rfl) ?_
            refine hQ _ _ ?_
            refine ⟨?_, rfl⟩
            rw [← hj2, rn_stop]
            rintro ⟨h8, h9⟩
            rw [isL_iff] at h9
            first | omega | exact absurd h9 h42
          · replace h42 := b01n h42
            refine am_goto (t := 63) (am_tab tk_X7_runFrom 23 rfl) (by decide) ?_
            refine am_iinc (q := 66) rfl (by omega) (by decide) (ls2 := [(2, am_i (((j : Int) + 1))), (3, am_i ((if 97 ≤ b x ∧ b x ≤ 122 then 1 else 0))), (1, am_i ((x : Int))), (0, am_r 30)]) rfl (am_tab tk_X7_runFrom 31 rfl) rfl ?_
            refine am_goto (t := 15) (am_tab tk_X7_runFrom 32 rfl) (by decide) ?_
            exact am_less (by intro q hq; simp only [List.mem_cons, List.not_mem_nil, or_false] at hq; rcases hq with rfl | rfl | rfl | rfl <;> simp) (ih15 (j + 1) (by omega) (by omega) ((rn_step (by omega) (isL_iff.mpr h42)).symm.trans hj2))
  refine am_less (by intro q hq; simp only [List.mem_cons, List.not_mem_nil, or_false] at hq; rcases hq with rfl | rfl | rfl | rfl <;> simp) (L15 (_ + 1) x (by exact Nat.lt_succ_self _) (by omega) rfl)
theorem c_runFromD (b : Nat → Int) (E : Nat) (σ : am_H) (hL : lay σ) (hT : TP b E σ) (x : Nat) (hx : x < E) (hx1 : ¬ (97 ≤ b x ∧ b x ≤ 122)) : am_met M_X7_runFrom [am_r 30, am_i ((x : Int))] σ (fun r σ' => r = some (am_i (rn isDg b E x : Int)) ∧ σ' = σ) := by
  refine am_qq (fun Q hQ => ?_)
  refine am_enter (show plainFor yX7_runFrom = true by decide +kernel) rfl (Nat.le_of_ble_eq_true rfl) (fun _ _ _ => trivial) ?_
  have hE := hT.2.2.1
  refine am_iload_n (q := 1) rfl (am_tab tk_X7_runFrom 0 rfl) rfl ?_
  refine am_istore_n (q := 2) (by decide) (ls2 := [(2, am_i ((x : Int))), (0, am_r 30), (1, am_i ((x : Int)))]) rfl (am_tab tk_X7_runFrom 1 rfl) rfl ?_
  refine am_aload_n (q := 3) rfl (am_tab tk_X7_runFrom 2 rfl) rfl ?_
  refine am_getR (q := 6) (a := 30) (k := 7) (n := 3) (j := 0) (r := some (1)) (Ls_30 hL) (by decide) rfl (Lr_30_0 hL) (by decide) (Or.inl kf_X7_15) (am_tab tk_X7_runFrom 3 rfl) rfl ?_
  refine am_getR (q := 9) (a := 1) (k := 6) (n := 2) (j := 0) (r := some (2)) (Ls_1 hL) (by decide) rfl (Lr_1_0 hL) (by decide) (Or.inr kf_X7_28) (am_tab tk_X7_runFrom 4 rfl) rfl ?_
  refine am_iload_n (q := 10) rfl (am_tab tk_X7_runFrom 5 rfl) rfl ?_
  refine am_iald (q := 11) (a := 2) (n := 1600) (x := (b x)) (Ls_2 hL) (by omega) (by omega) (hT.1 x (by omega)) (am_tab tk_X7_runFrom 6 rfl) rfl ?_
  refine am_callS0 (q := 14) (me2 := M_X7_isLetter) (As := [am_i ((b x))]) (rest := []) (out := [am_i ((if 97 ≤ (b x) ∧ (b x) ≤ 122 then 1 else 0))]) (c_X7_isLetter σ (b x)) ⟨rfl, rfl⟩ ⟨Or.inl km_X7_36, kc_X7_isLetter, kn_X7, kd_X7_isLetter, ⟨(Nat.le_of_ble_eq_true rfl), (Nat.le_of_ble_eq_true rfl)⟩, ⟨(Nat.le_of_ble_eq_true rfl), (Nat.le_of_ble_eq_true rfl)⟩, (Nat.le_of_ble_eq_true rfl)⟩ ki_X7_isLetter rfl rfl (am_tab tk_X7_runFrom 7 rfl) rfl ?_
  refine am_istore_n (q := 15) (by decide) (ls2 := [(3, am_i ((if 97 ≤ (b x) ∧ (b x) ≤ 122 then 1 else 0))), (2, am_i ((x : Int))), (0, am_r 30), (1, am_i ((x : Int)))]) rfl (am_tab tk_X7_runFrom 8 rfl) rfl ?_
  have L15 : ∀ (n15 : Nat) (j : Nat), E - j < n15 → j ≤ E → rn isDg b E j = rn isDg b E x → am_wp M_X7_runFrom Q 0 0 15 [(3, am_i ((if 97 ≤ b x ∧ b x ≤ 122 then 1 else 0))), (2, am_i ((j : Int))), (1, am_i ((x : Int))), (0, am_r 30)] [] σ := by
    intro n15
    induction n15 with
    | zero => intro j hn15; exact absurd hn15 (Nat.not_lt_zero _)
    | succ n15 ih15 =>
      intro j hn15 hj1 hj2
      refine am_iload_n (q := 16) rfl (am_tab tk_X7_runFrom 9 rfl) rfl ?_
      refine am_aload_n (q := 17) rfl (am_tab tk_X7_runFrom 10 rfl) rfl ?_
      refine am_getR (q := 20) (a := 30) (k := 7) (n := 3) (j := 0) (r := some (1)) (Ls_30 hL) (by decide) rfl (Lr_30_0 hL) (by decide) (Or.inl kf_X7_15) (am_tab tk_X7_runFrom 11 rfl) rfl ?_
      refine am_getI (q := 23) (a := 1) (k := 6) (n := 2) (j := 1) (x := (E : Int)) (Ls_1 hL) (by decide) rfl hT.2.1 (by decide) (Or.inr kf_X7_23) (am_tab tk_X7_runFrom 12 rfl) rfl ?_
      refine am_icmp_ge (q := 26) (t := 69) (am_tab tk_X7_runFrom 13 rfl) (by decide) rfl (fun h23 => ?_) (fun h23 => ?_)
      · refine am_iload_n (q := 70) rfl (am_tab tk_X7_runFrom 33 rfl) rfl ?_
        refine am_iret (Or.inl rfl) (Nat.le_of_ble_eq_true rfl) (Nat.le_of_ble_eq_true rfl) (am_tab tk_X7_runFrom 34 rfl) ?_
        refine hQ _ _ ?_
        refine ⟨?_, rfl⟩
        rw [← hj2, rn_stop]
        rintro ⟨h8, h9⟩
        rw [isDg_iff] at h9
        first | omega | exact absurd h9 h60
      · refine am_iload_n (q := 27) rfl (am_tab tk_X7_runFrom 14 rfl) rfl ?_
        refine am_if_eq (q := 30) (t := 48) (am_tab tk_X7_runFrom 15 rfl) (by decide) rfl (fun h27 => ?_) (fun h27 => ?_)
        · replace h27 := b01z h27
          refine am_aload_n (q := 49) rfl (am_tab tk_X7_runFrom 24 rfl) rfl ?_
          refine am_getR (q := 52) (a := 30) (k := 7) (n := 3) (j := 0) (r := some (1)) (Ls_30 hL) (by decide) rfl (Lr_30_0 hL) (by decide) (Or.inl kf_X7_15) (am_tab tk_X7_runFrom 25 rfl) rfl ?_
          refine am_getR (q := 55) (a := 1) (k := 6) (n := 2) (j := 0) (r := some (2)) (Ls_1 hL) (by decide) rfl (Lr_1_0 hL) (by decide) (Or.inr kf_X7_28) (am_tab tk_X7_runFrom 26 rfl) rfl ?_
          refine am_iload_n (q := 56) rfl (am_tab tk_X7_runFrom 27 rfl) rfl ?_
          refine am_iald (q := 57) (a := 2) (n := 1600) (x := (b j)) (Ls_2 hL) (by omega) (by omega) (hT.1 j (by omega)) (am_tab tk_X7_runFrom 28 rfl) rfl ?_
          refine am_callS0 (q := 60) (me2 := M_X7_isDigit) (As := [am_i ((b j))]) (rest := []) (out := [am_i ((if 48 ≤ (b j) ∧ (b j) ≤ 57 then 1 else 0))]) (c_X7_isDigit σ (b j)) ⟨rfl, rfl⟩ ⟨Or.inl km_X7_66, kc_X7_isDigit, kn_X7, kd_X7_isDigit, ⟨(Nat.le_of_ble_eq_true rfl), (Nat.le_of_ble_eq_true rfl)⟩, ⟨(Nat.le_of_ble_eq_true rfl), (Nat.le_of_ble_eq_true rfl)⟩, (Nat.le_of_ble_eq_true rfl)⟩ ki_X7_isDigit rfl rfl (am_tab tk_X7_runFrom 29 rfl) rfl ?_
          refine am_if_eq (q := 63) (t := 69) (am_tab tk_X7_runFrom 30 rfl) (by decide) rfl (fun h60 => ?_) (fun h60 => ?_)
          · replace h60 := b01z h60
            refine am_iload_n (q := 70) rfl (am_tab tk_X7_runFrom 33 rfl) rfl ?_
            refine am_iret (Or.inl rfl) (Nat.le_of_ble_eq_true rfl) (Nat.le_of_ble_eq_true rfl) (am_tab tk_X7_runFrom 34 rfl) ?_
            refine hQ _ _ ?_
            refine ⟨?_, rfl⟩
            rw [← hj2, rn_stop]
            rintro ⟨h8, h9⟩
            rw [isDg_iff] at h9
            first | omega | exact absurd h9 h60
          · replace h60 := b01n h60
            refine am_iinc (q := 66) rfl (by omega) (by decide) (ls2 := [(2, am_i (((j : Int) + 1))), (3, am_i ((if 97 ≤ b x ∧ b x ≤ 122 then 1 else 0))), (1, am_i ((x : Int))), (0, am_r 30)]) rfl (am_tab tk_X7_runFrom 31 rfl) rfl ?_
            refine am_goto (t := 15) (am_tab tk_X7_runFrom 32 rfl) (by decide) ?_
            exact am_less (by intro q hq; simp only [List.mem_cons, List.not_mem_nil, or_false] at hq; rcases hq with rfl | rfl | rfl | rfl <;> simp) (ih15 (j + 1) (by omega) (by omega) ((rn_step (by omega) (isDg_iff.mpr h60)).symm.trans hj2))
        · exact absurd (b01n h27) hx1
  refine am_less (by intro q hq; simp only [List.mem_cons, List.not_mem_nil, or_false] at hq; rcases hq with rfl | rfl | rfl | rfl <;> simp) (L15 (_ + 1) x (by exact Nat.lt_succ_self _) (by omega) rfl)
theorem c_runFrom (b : Nat → Int) (E : Nat) (σ : am_H) (hL : lay σ) (hT : TP b E σ) (x : Nat) (hx : x < E) : am_met M_X7_runFrom [am_r 30, am_i (x : Int)] σ (fun r σ' => r = some (am_i (rF b E x : Int)) ∧ σ' = σ) := by
  unfold rF
  by_cases h : 97 ≤ b x ∧ b x ≤ 122
  · rw [if_pos (isL_iff.mpr h)]; exact c_runFromL b E σ hL hT x hx h
  · rw [if_neg (fun h2 => h (isL_iff.mp h2))]; exact c_runFromD b E σ hL hT x hx h
theorem c_numberOf (b : Nat → Int) (E : Nat) (σ : am_H) (hL : lay σ) (hT : TP b E σ) (x : Nat) (y : Nat) (hy : x < y ∧ y ≤ E) (hd : ∀ j, x ≤ j → j < y → 48 ≤ b j ∧ b j ≤ 57) : am_met M_X7_numberOf [am_r 30, am_i ((x : Int)), am_i ((y : Int))] σ (fun r σ' => r = some (am_i (nv b x (min (y - x) 4))) ∧ σ' = σ) := by
  refine am_qq (fun Q hQ => ?_)
  refine am_enter (show plainFor yX7_numberOf = true by decide +kernel) rfl (Nat.le_of_ble_eq_true rfl) (fun _ _ _ => trivial) ?_
  have hE := hT.2.2.1
  refine am_iconst (q := 1) (n := 0) (by decide) (am_tab tk_X7_numberOf 0 rfl) rfl ?_
  refine am_istore_n (q := 2) (by decide) (ls2 := [(3, am_i 0), (0, am_r 30), (1, am_i ((x : Int))), (2, am_i ((y : Int)))]) rfl (am_tab tk_X7_numberOf 1 rfl) rfl ?_
  refine am_iload_n (q := 3) rfl (am_tab tk_X7_numberOf 2 rfl) rfl ?_
  refine am_istore (q := 5) (by decide) (ls2 := [(4, am_i ((x : Int))), (3, am_i 0), (0, am_r 30), (1, am_i ((x : Int))), (2, am_i ((y : Int)))]) rfl (am_tab tk_X7_numberOf 3 rfl) rfl ?_
  have L5 : ∀ (n5 : Nat) (k : Nat), 4 - k < n5 → k ≤ 4 ∧ x + k ≤ y → (0 ≤ nv b x k ∧ nv b x k < (10 : Int) ^ k) → am_wp M_X7_numberOf Q 0 0 5 [(4, am_i (((x + k : Nat) : Int))), (3, am_i ((nv b x k))), (2, am_i ((y : Int))), (1, am_i ((x : Int))), (0, am_r 30)] [] σ := by
    intro n5
    induction n5 with
    | zero => intro k hn5; exact absurd hn5 (Nat.not_lt_zero _)
    | succ n5 ih5 =>
      intro k hn5 hk hn
      have hk4 : k = 0 ∨ k = 1 ∨ k = 2 ∨ k = 3 ∨ k = 4 := by omega
      have hn4 : nv b x k < 10000 := by rcases hk4 with rfl | rfl | rfl | rfl | rfl <;> simp at hn <;> omega
      refine am_iload (q := 7) rfl (am_tab tk_X7_numberOf 4 rfl) rfl ?_
      refine am_iload_n (q := 8) rfl (am_tab tk_X7_numberOf 5 rfl) rfl ?_
      refine am_icmp_ge (q := 11) (t := 44) (am_tab tk_X7_numberOf 6 rfl) (by decide) rfl (fun h8 => ?_) (fun h8 => ?_)
      · refine am_iload_n (q := 45) rfl (am_tab tk_X7_numberOf 26 rfl) rfl ?_
        refine am_iret (Or.inl rfl) (Nat.le_of_ble_eq_true rfl) (Nat.le_of_ble_eq_true rfl) (am_tab tk_X7_numberOf 27 rfl) ?_
        refine hQ _ _ ?_
        refine ⟨congrArg (fun z => some (am_i (nv b x z))) (show k = min (y - x) 4 by omega), rfl⟩
      · refine am_iload (q := 13) rfl (am_tab tk_X7_numberOf 7 rfl) rfl ?_
        refine am_iload_n (q := 14) rfl (am_tab tk_X7_numberOf 8 rfl) rfl ?_
        refine am_iconst (q := 15) (n := 4) (by decide) (am_tab tk_X7_numberOf 9 rfl) rfl ?_
        refine am_iadd (q := 16) (by omega) (am_tab tk_X7_numberOf 10 rfl) rfl ?_
        refine am_icmp_ge (q := 19) (t := 44) (am_tab tk_X7_numberOf 11 rfl) (by decide) rfl (fun h16 => ?_) (fun h16 => ?_)
        · refine am_iload_n (q := 45) rfl (am_tab tk_X7_numberOf 26 rfl) rfl ?_
          refine am_iret (Or.inl rfl) (Nat.le_of_ble_eq_true rfl) (Nat.le_of_ble_eq_true rfl) (am_tab tk_X7_numberOf 27 rfl) ?_
          refine hQ _ _ ?_
          refine ⟨congrArg (fun z => some (am_i (nv b x z))) (show k = min (y - x) 4 by omega), rfl⟩
        · refine am_bipush (q := 21) (n := 10) (by decide) rfl (am_tab tk_X7_numberOf 12 rfl) rfl ?_
          refine am_iload_n (q := 22) rfl (am_tab tk_X7_numberOf 13 rfl) rfl ?_
          refine am_imul (q := 23) (by omega) (am_tab tk_X7_numberOf 14 rfl) rfl ?_
          refine am_aload_n (q := 24) rfl (am_tab tk_X7_numberOf 15 rfl) rfl ?_
          refine am_getR (q := 27) (a := 30) (k := 7) (n := 3) (j := 0) (r := some (1)) (Ls_30 hL) (by decide) rfl (Lr_30_0 hL) (by decide) (Or.inl kf_X7_15) (am_tab tk_X7_numberOf 16 rfl) rfl ?_
          refine am_getR (q := 30) (a := 1) (k := 6) (n := 2) (j := 0) (r := some (2)) (Ls_1 hL) (by decide) rfl (Lr_1_0 hL) (by decide) (Or.inr kf_X7_28) (am_tab tk_X7_numberOf 17 rfl) rfl ?_
          have hdk := hd (x + k) (by omega) (by omega)
          refine am_iload (q := 32) rfl (am_tab tk_X7_numberOf 18 rfl) rfl ?_
          refine am_iald (q := 33) (a := 2) (n := 1600) (x := (b (x + k))) (Ls_2 hL) (by omega) (by omega) (hT.1 (x + k) (by omega)) (am_tab tk_X7_numberOf 19 rfl) rfl ?_
          refine am_iadd (q := 34) (by omega) (am_tab tk_X7_numberOf 20 rfl) rfl ?_
          refine am_bipush (q := 36) (n := 48) (by decide) rfl (am_tab tk_X7_numberOf 21 rfl) rfl ?_
          refine am_isub (q := 37) (by omega) (am_tab tk_X7_numberOf 22 rfl) rfl ?_
          refine am_istore_n (q := 38) (by decide) (ls2 := [(3, am_i ((((10 * (nv b x k)) + (b (x + k))) - 48))), (4, am_i (((x + k : Nat) : Int))), (2, am_i ((y : Int))), (1, am_i ((x : Int))), (0, am_r 30)]) rfl (am_tab tk_X7_numberOf 23 rfl) rfl ?_
          refine am_iinc (q := 41) rfl (by omega) (by decide) (ls2 := [(4, am_i ((((x + k : Nat) : Int) + 1))), (3, am_i ((((10 * (nv b x k)) + (b (x + k))) - 48))), (2, am_i ((y : Int))), (1, am_i ((x : Int))), (0, am_r 30)]) rfl (am_tab tk_X7_numberOf 24 rfl) rfl ?_
          refine am_goto (t := 5) (am_tab tk_X7_numberOf 25 rfl) (by decide) ?_
          have hdk := hd (x + k) (by omega) (by omega)
          have hnn : 0 ≤ nv b x (k + 1) ∧ nv b x (k + 1) < (10 : Int) ^ (k + 1) := by
            have e : nv b x (k + 1) = 10 * nv b x k + b (x + k) - 48 := rfl
            rw [Int.pow_succ]
            omega
          exact am_less (by intro q hq; simp only [List.mem_cons, List.not_mem_nil, or_false] at hq; rcases hq with rfl | rfl | rfl | rfl | rfl <;> simp [nv] <;> omega) (ih5 (k + 1) (by omega) (by omega) hnn)
  refine am_less (by intro q hq; simp only [List.mem_cons, List.not_mem_nil, or_false] at hq; rcases hq with rfl | rfl | rfl | rfl | rfl <;> simp [nv] <;> omega) (L5 (_ + 1) 0 (by exact Nat.lt_succ_self _) (by omega) (show 0 ≤ (0 : Int) ∧ (0 : Int) < (10 : Int) ^ 0 by decide))
