theorem xor_neg {x y : Int} (hx : -2147483648 ≤ x ∧ x < 2147483648) (hy : -2147483648 ≤ y ∧ y < 2147483648) : ao_xor x y < 0 ↔ ¬ (x < 0 ↔ y < 0) := by
  have h1 : (Int32.ofInt x).toInt = x := am_ti hx
  have h2 : (Int32.ofInt y).toInt = y := am_ti hy
  have m : ∀ z : BitVec 32, z.toInt < 0 ↔ z.msb = true := fun z => by rw [BitVec.msb_eq_toInt]; simp
  have e1 : x < 0 ↔ (Int32.ofInt x).toBitVec.msb = true := by
    rw [← m]
    show x < 0 ↔ (Int32.ofInt x).toInt < 0
    rw [h1]
  have e2 : y < 0 ↔ (Int32.ofInt y).toBitVec.msb = true := by
    rw [← m]
    show y < 0 ↔ (Int32.ofInt y).toInt < 0
    rw [h2]
  show ((Int32.ofInt x).toBitVec ^^^ (Int32.ofInt y).toBitVec).toInt < 0 ↔ _
  rw [m, BitVec.msb_xor, e1, e2]
  cases (Int32.ofInt x).toBitVec.msb <;> cases (Int32.ofInt y).toBitVec.msb <;> simp
def tz (x : Int) : Int := firstQ (fun k => decide (tb x k = 1)) 8
def tz_g (x : Int) : Bool :=
  let y := ao_and (ao_xor x (-1)) (x - 1)
  decide ((0 ≤ y ∧ y < 256) ∧ (y ≤ 0 → ao_and y 32 = tz x) ∧ (0 < y → y ≤ 16 → y ≤ 4 → 1 + ao_ushr y 1 = tz x) ∧ (0 < y → y ≤ 16 → ¬ y ≤ 4 → 3 + ao_ushr (ao_ushr y 2) 1 = tz x) ∧ (0 < y → ¬ y ≤ 16 → (ao_ushr y 4 ≤ 4 → 5 + ao_ushr (ao_ushr y 4) 1 = tz x) ∧ (¬ ao_ushr y 4 ≤ 4 → 7 + ao_ushr (ao_ushr (ao_ushr y 4) 2) 1 = tz x)) ∧ (0 ≤ tz x ∧ tz x ≤ 7))
theorem tz_all : (List.range 255).all (fun n => tz_g ((n + 1 : Nat) : Int)) = true := by decide +kernel
theorem tz_get {x : Int} (h : 1 ≤ x ∧ x < 256) : ∃ y : Int, y = ao_and (ao_xor x (-1)) (x - 1) ∧ ((0 ≤ y ∧ y < 256) ∧ (y ≤ 0 → ao_and y 32 = tz x) ∧ (0 < y → y ≤ 16 → y ≤ 4 → 1 + ao_ushr y 1 = tz x) ∧ (0 < y → y ≤ 16 → ¬ y ≤ 4 → 3 + ao_ushr (ao_ushr y 2) 1 = tz x) ∧ (0 < y → ¬ y ≤ 16 → (ao_ushr y 4 ≤ 4 → 5 + ao_ushr (ao_ushr y 4) 1 = tz x) ∧ (¬ ao_ushr y 4 ≤ 4 → 7 + ao_ushr (ao_ushr (ao_ushr y 4) 2) 1 = tz x)) ∧ (0 ≤ tz x ∧ tz x ≤ 7)) := by
  obtain ⟨n, rfl⟩ : ∃ n : Nat, x = ((n + 1 : Nat) : Int) := ⟨x.toNat - 1, by omega⟩
  have h2 := List.all_eq_true.mp tz_all n (List.mem_range.mpr (by omega))
  exact ⟨_, rfl, of_decide_eq_true h2⟩
theorem c_tz (σ : am_H) (x : Int) (hx : 1 ≤ x ∧ x < 256) : am_met M_J6_numberOfTrailingZeros_0f7a4 [am_i x] σ (fun r σ' => r = some (am_i (tz x)) ∧ σ' = σ) := by
  refine am_qq (fun Q hQ => ?_)
  refine am_enter (show plainFor yJ6_numberOfTrailingZeros_0f7a4 = true by decide +kernel) rfl (Nat.le_of_ble_eq_true rfl) (fun _ _ _ => trivial) ?_
  obtain ⟨y, hy, hr, t1, t2, t3, t4, t5⟩ := tz_get hx
  refine am_iload_n (q := 1) rfl (am_tab tk_J6_numberOfTrailingZeros_0f7a4 0 rfl) rfl ?_
  refine am_iconst (q := 2) (n := (-1)) (by decide) (am_tab tk_J6_numberOfTrailingZeros_0f7a4 1 rfl) rfl ?_
  refine am_ixor (q := 3) (am_tab tk_J6_numberOfTrailingZeros_0f7a4 2 rfl) rfl ?_
  refine am_iload_n (q := 4) rfl (am_tab tk_J6_numberOfTrailingZeros_0f7a4 3 rfl) rfl ?_
  refine am_iconst (q := 5) (n := 1) (by decide) (am_tab tk_J6_numberOfTrailingZeros_0f7a4 4 rfl) rfl ?_
  refine am_isub (q := 6) (by omega) (am_tab tk_J6_numberOfTrailingZeros_0f7a4 5 rfl) rfl ?_
  refine am_iand (q := 7) (am_tab tk_J6_numberOfTrailingZeros_0f7a4 6 rfl) rfl ?_
  refine am_istore_n (q := 8) (by decide) (ls2 := [(0, am_i ((ao_and (ao_xor x (-1)) (x - 1))))]) rfl (am_tab tk_J6_numberOfTrailingZeros_0f7a4 7 rfl) rfl ?_
  rw [← hy]
  refine am_iload_n (q := 9) rfl (am_tab tk_J6_numberOfTrailingZeros_0f7a4 8 rfl) rfl ?_
  refine am_if_gt (q := 12) (t := 17) (am_tab tk_J6_numberOfTrailingZeros_0f7a4 9 rfl) (by decide) rfl (fun h9 => ?_) (fun h9 => ?_)
  · refine am_iconst (q := 18) (n := 1) (by decide) (am_tab tk_J6_numberOfTrailingZeros_0f7a4 14 rfl) rfl ?_
    refine am_istore_n (q := 19) (by decide) (ls2 := [(1, am_i 1), (0, am_i y)]) rfl (am_tab tk_J6_numberOfTrailingZeros_0f7a4 15 rfl) rfl ?_
    refine am_iload_n (q := 20) rfl (am_tab tk_J6_numberOfTrailingZeros_0f7a4 16 rfl) rfl ?_
    refine am_ldcw (q := 23) (n := 65536) (by decide) kk_J6_264 (am_tab tk_J6_numberOfTrailingZeros_0f7a4 17 rfl) rfl ?_
    refine am_icmp_le (q := 26) (t := 34) (am_tab tk_J6_numberOfTrailingZeros_0f7a4 18 rfl) (by decide) rfl (fun h23 => ?_) (fun h23 => ?_)
    · refine am_iload_n (q := 35) rfl (am_tab tk_J6_numberOfTrailingZeros_0f7a4 24 rfl) rfl ?_
      refine am_sipush (q := 38) (n := 256) (by decide) rfl (am_tab tk_J6_numberOfTrailingZeros_0f7a4 25 rfl) rfl ?_
      refine am_icmp_le (q := 41) (t := 49) (am_tab tk_J6_numberOfTrailingZeros_0f7a4 26 rfl) (by decide) rfl (fun h38 => ?_) (fun h38 => ?_)
      · refine am_iload_n (q := 50) rfl (am_tab tk_J6_numberOfTrailingZeros_0f7a4 32 rfl) rfl ?_
        refine am_bipush (q := 52) (n := 16) (by decide) rfl (am_tab tk_J6_numberOfTrailingZeros_0f7a4 33 rfl) rfl ?_
        refine am_icmp_le (q := 55) (t := 62) (am_tab tk_J6_numberOfTrailingZeros_0f7a4 34 rfl) (by decide) rfl (fun h52 => ?_) (fun h52 => ?_)
        · refine am_iload_n (q := 63) rfl (am_tab tk_J6_numberOfTrailingZeros_0f7a4 40 rfl) rfl ?_
          refine am_iconst (q := 64) (n := 4) (by decide) (am_tab tk_J6_numberOfTrailingZeros_0f7a4 41 rfl) rfl ?_
          refine am_icmp_le (q := 67) (t := 74) (am_tab tk_J6_numberOfTrailingZeros_0f7a4 42 rfl) (by decide) rfl (fun h64 => ?_) (fun h64 => ?_)
          · refine am_iload_n (q := 75) rfl (am_tab tk_J6_numberOfTrailingZeros_0f7a4 48 rfl) rfl ?_
            refine am_iload_n (q := 76) rfl (am_tab tk_J6_numberOfTrailingZeros_0f7a4 49 rfl) rfl ?_
            refine am_iconst (q := 77) (n := 1) (by decide) (am_tab tk_J6_numberOfTrailingZeros_0f7a4 50 rfl) rfl ?_
            refine am_iushr (q := 78) (am_tab tk_J6_numberOfTrailingZeros_0f7a4 51 rfl) rfl ?_
            refine am_iadd (q := 79) (by first | (have h9 := t2 (by omega) (by omega) (by omega); omega) | (have h9 := t3 (by omega) (by omega) (by omega); omega) | (have h9 := (t4 (by omega) (by omega)).1 (by omega); omega) | (have h9 := (t4 (by omega) (by omega)).2 (by omega); omega)) (am_tab tk_J6_numberOfTrailingZeros_0f7a4 52 rfl) rfl ?_
            refine am_iret (Or.inl rfl) (Nat.le_of_ble_eq_true rfl) (Nat.le_of_ble_eq_true rfl) (am_tab tk_J6_numberOfTrailingZeros_0f7a4 53 rfl) ?_
            refine hQ _ _ ?_
            refine ⟨congrArg (fun z => some (am_i z)) ?_, rfl⟩
            first | exact t1 (by omega) | (have h9 := t2 (by omega) (by omega) (by omega); omega) | (have h9 := t3 (by omega) (by omega) (by omega); omega) | (have h9 := (t4 (by omega) (by omega)).1 (by omega); omega) | (have h9 := (t4 (by omega) (by omega)).2 (by omega); omega)
          · refine am_iinc (q := 70) rfl (by omega) (by decide) (ls2 := [(1, am_i ((1 + 2))), (0, am_i y)]) rfl (am_tab tk_J6_numberOfTrailingZeros_0f7a4 43 rfl) rfl ?_
            refine am_iload_n (q := 71) rfl (am_tab tk_J6_numberOfTrailingZeros_0f7a4 44 rfl) rfl ?_
            refine am_iconst (q := 72) (n := 2) (by decide) (am_tab tk_J6_numberOfTrailingZeros_0f7a4 45 rfl) rfl ?_
            refine am_iushr (q := 73) (am_tab tk_J6_numberOfTrailingZeros_0f7a4 46 rfl) rfl ?_
            refine am_istore_n (q := 74) (by decide) (ls2 := [(0, am_i ((ao_ushr y 2))), (1, am_i ((1 + 2)))]) rfl (am_tab tk_J6_numberOfTrailingZeros_0f7a4 47 rfl) rfl ?_
            refine am_iload_n (q := 75) rfl (am_tab tk_J6_numberOfTrailingZeros_0f7a4 48 rfl) rfl ?_
            refine am_iload_n (q := 76) rfl (am_tab tk_J6_numberOfTrailingZeros_0f7a4 49 rfl) rfl ?_
            refine am_iconst (q := 77) (n := 1) (by decide) (am_tab tk_J6_numberOfTrailingZeros_0f7a4 50 rfl) rfl ?_
            refine am_iushr (q := 78) (am_tab tk_J6_numberOfTrailingZeros_0f7a4 51 rfl) rfl ?_
            refine am_iadd (q := 79) (by first | (have h9 := t2 (by omega) (by omega) (by omega); omega) | (have h9 := t3 (by omega) (by omega) (by omega); omega) | (have h9 := (t4 (by omega) (by omega)).1 (by omega); omega) | (have h9 := (t4 (by omega) (by omega)).2 (by omega); omega)) (am_tab tk_J6_numberOfTrailingZeros_0f7a4 52 rfl) rfl ?_
            refine am_iret (Or.inl rfl) (Nat.le_of_ble_eq_true rfl) (Nat.le_of_ble_eq_true rfl) (am_tab tk_J6_numberOfTrailingZeros_0f7a4 53 rfl) ?_
            refine hQ _ _ ?_
            refine ⟨congrArg (fun z => some (am_i z)) ?_, rfl⟩
            first | exact t1 (by omega) | (have h9 := t2 (by omega) (by omega) (by omega); omega) | (have h9 := t3 (by omega) (by omega) (by omega); omega) | (have h9 := (t4 (by omega) (by omega)).1 (by omega); omega) | (have h9 := (t4 (by omega) (by omega)).2 (by omega); omega)
        · refine am_iinc (q := 58) rfl (by omega) (by decide) (ls2 := [(1, am_i ((1 + 4))), (0, am_i y)]) rfl (am_tab tk_J6_numberOfTrailingZeros_0f7a4 35 rfl) rfl ?_
          refine am_iload_n (q := 59) rfl (am_tab tk_J6_numberOfTrailingZeros_0f7a4 36 rfl) rfl ?_
          refine am_iconst (q := 60) (n := 4) (by decide) (am_tab tk_J6_numberOfTrailingZeros_0f7a4 37 rfl) rfl ?_
          refine am_iushr (q := 61) (am_tab tk_J6_numberOfTrailingZeros_0f7a4 38 rfl) rfl ?_
          refine am_istore_n (q := 62) (by decide) (ls2 := [(0, am_i ((ao_ushr y 4))), (1, am_i ((1 + 4)))]) rfl (am_tab tk_J6_numberOfTrailingZeros_0f7a4 39 rfl) rfl ?_
          refine am_iload_n (q := 63) rfl (am_tab tk_J6_numberOfTrailingZeros_0f7a4 40 rfl) rfl ?_
          refine am_iconst (q := 64) (n := 4) (by decide) (am_tab tk_J6_numberOfTrailingZeros_0f7a4 41 rfl) rfl ?_
          refine am_icmp_le (q := 67) (t := 74) (am_tab tk_J6_numberOfTrailingZeros_0f7a4 42 rfl) (by decide) rfl (fun h64 => ?_) (fun h64 => ?_)
          · refine am_iload_n (q := 75) rfl (am_tab tk_J6_numberOfTrailingZeros_0f7a4 48 rfl) rfl ?_
            refine am_iload_n (q := 76) rfl (am_tab tk_J6_numberOfTrailingZeros_0f7a4 49 rfl) rfl ?_
            refine am_iconst (q := 77) (n := 1) (by decide) (am_tab tk_J6_numberOfTrailingZeros_0f7a4 50 rfl) rfl ?_
            refine am_iushr (q := 78) (am_tab tk_J6_numberOfTrailingZeros_0f7a4 51 rfl) rfl ?_
            refine am_iadd (q := 79) (by first | (have h9 := t2 (by omega) (by omega) (by omega); omega) | (have h9 := t3 (by omega) (by omega) (by omega); omega) | (have h9 := (t4 (by omega) (by omega)).1 (by omega); omega) | (have h9 := (t4 (by omega) (by omega)).2 (by omega); omega)) (am_tab tk_J6_numberOfTrailingZeros_0f7a4 52 rfl) rfl ?_
            refine am_iret (Or.inl rfl) (Nat.le_of_ble_eq_true rfl) (Nat.le_of_ble_eq_true rfl) (am_tab tk_J6_numberOfTrailingZeros_0f7a4 53 rfl) ?_
            refine hQ _ _ ?_
            refine ⟨congrArg (fun z => some (am_i z)) ?_, rfl⟩
            first | exact t1 (by omega) | (have h9 := t2 (by omega) (by omega) (by omega); omega) | (have h9 := t3 (by omega) (by omega) (by omega); omega) | (have h9 := (t4 (by omega) (by omega)).1 (by omega); omega) | (have h9 := (t4 (by omega) (by omega)).2 (by omega); omega)
          · refine am_iinc (q := 70) rfl (by omega) (by decide) (ls2 := [(1, am_i (((1 + 4) + 2))), (0, am_i ((ao_ushr y 4)))]) rfl (am_tab tk_J6_numberOfTrailingZeros_0f7a4 43 rfl) rfl ?_
            refine am_iload_n (q := 71) rfl (am_tab tk_J6_numberOfTrailingZeros_0f7a4 44 rfl) rfl ?_
            refine am_iconst (q := 72) (n := 2) (by decide) (am_tab tk_J6_numberOfTrailingZeros_0f7a4 45 rfl) rfl ?_
            refine am_iushr (q := 73) (am_tab tk_J6_numberOfTrailingZeros_0f7a4 46 rfl) rfl ?_
            refine am_istore_n (q := 74) (by decide) (ls2 := [(0, am_i ((ao_ushr (ao_ushr y 4) 2))), (1, am_i (((1 + 4) + 2)))]) rfl (am_tab tk_J6_numberOfTrailingZeros_0f7a4 47 rfl) rfl ?_
            refine am_iload_n (q := 75) rfl (am_tab tk_J6_numberOfTrailingZeros_0f7a4 48 rfl) rfl ?_
            refine am_iload_n (q := 76) rfl (am_tab tk_J6_numberOfTrailingZeros_0f7a4 49 rfl) rfl ?_
            refine am_iconst (q := 77) (n := 1) (by decide) (am_tab tk_J6_numberOfTrailingZeros_0f7a4 50 rfl) rfl ?_
            refine am_iushr (q := 78) (am_tab tk_J6_numberOfTrailingZeros_0f7a4 51 rfl) rfl ?_
            refine am_iadd (q := 79) (by first | (have h9 := t2 (by omega) (by omega) (by omega); omega) | (have h9 := t3 (by omega) (by omega) (by omega); omega) | (have h9 := (t4 (by omega) (by omega)).1 (by omega); omega) | (have h9 := (t4 (by omega) (by omega)).2 (by omega); omega)) (am_tab tk_J6_numberOfTrailingZeros_0f7a4 52 rfl) rfl ?_
            refine am_iret (Or.inl rfl) (Nat.le_of_ble_eq_true rfl) (Nat.le_of_ble_eq_true rfl) (am_tab tk_J6_numberOfTrailingZeros_0f7a4 53 rfl) ?_
            refine hQ _ _ ?_
            refine ⟨congrArg (fun z => some (am_i z)) ?_, rfl⟩
            first | exact t1 (by omega) | (have h9 := t2 (by omega) (by omega) (by omega); omega) | (have h9 := t3 (by omega) (by omega) (by omega); omega) | (have h9 := (t4 (by omega) (by omega)).1 (by omega); omega) | (have h9 := (t4 (by omega) (by omega)).2 (by omega); omega)
      · exact absurd h38 (by omega)
    · exact absurd h23 (by omega)
  · refine am_iload_n (q := 13) rfl (am_tab tk_J6_numberOfTrailingZeros_0f7a4 10 rfl) rfl ?_
    refine am_bipush (q := 15) (n := 32) (by decide) rfl (am_tab tk_J6_numberOfTrailingZeros_0f7a4 11 rfl) rfl ?_
    refine am_iand (q := 16) (am_tab tk_J6_numberOfTrailingZeros_0f7a4 12 rfl) rfl ?_
    refine am_iret (Or.inl rfl) (Nat.le_of_ble_eq_true rfl) (Nat.le_of_ble_eq_true rfl) (am_tab tk_J6_numberOfTrailingZeros_0f7a4 13 rfl) ?_
    refine hQ _ _ ?_
    refine ⟨congrArg (fun z => some (am_i z)) ?_, rfl⟩
    first | exact t1 (by omega) | (have h9 := t2 (by omega) (by omega) (by omega); omega) | (have h9 := t3 (by omega) (by omega) (by omega); omega) | (have h9 := (t4 (by omega) (by omega)).1 (by omega); omega) | (have h9 := (t4 (by omega) (by omega)).2 (by omega); omega)
theorem c_floorDiv (σ : am_H) (x : Int) (y : Int) (hx : -1000000 ≤ x ∧ x ≤ 1000000) (hy : -1000000 ≤ y ∧ y ≤ 1000000) (h0 : ¬ y = 0) : am_met M_J9_floorDiv_7cf53 [am_i x, am_i y] σ (fun r σ' => r = some (am_i (flr x y)) ∧ σ' = σ) := by
  refine am_qq (fun Q hQ => ?_)
  refine am_enter (show plainFor yJ9_floorDiv_7cf53 = true by decide +kernel) rfl (Nat.le_of_ble_eq_true rfl) (fun _ _ _ => trivial) ?_
  have hq := Int.mul_tdiv_add_tmod x y
  have hm : (x.tmod y).natAbs ≤ x.natAbs := by rw [Int.natAbs_tmod]; exact Nat.mod_le _ _
  have hd : (x.tdiv y).natAbs ≤ x.natAbs := by rw [Int.natAbs_tdiv]; exact Nat.div_le_self _ _
  have hc : x.tdiv y * y = y * x.tdiv y := Int.mul_comm _ _
  have hxr := xor_neg (x := x) (y := y) (by omega) (by omega)
  refine am_iload_n (q := 1) rfl (am_tab tk_J9_floorDiv_7cf53 0 rfl) rfl ?_
  refine am_iload_n (q := 2) rfl (am_tab tk_J9_floorDiv_7cf53 1 rfl) rfl ?_
  refine am_idiv (q := 3) (by omega) (by omega) (am_tab tk_J9_floorDiv_7cf53 2 rfl) rfl ?_
  refine am_istore_n (q := 4) (by decide) (ls2 := [(2, am_i ((Int.tdiv x y))), (0, am_i x), (1, am_i y)]) rfl (am_tab tk_J9_floorDiv_7cf53 3 rfl) rfl ?_
  refine am_iload_n (q := 5) rfl (am_tab tk_J9_floorDiv_7cf53 4 rfl) rfl ?_
  refine am_iload_n (q := 6) rfl (am_tab tk_J9_floorDiv_7cf53 5 rfl) rfl ?_
  refine am_ixor (q := 7) (am_tab tk_J9_floorDiv_7cf53 6 rfl) rfl ?_
  refine am_if_ge (q := 10) (t := 21) (am_tab tk_J9_floorDiv_7cf53 7 rfl) (by decide) rfl (fun h7 => ?_) (fun h7 => ?_)
  · refine am_iload_n (q := 22) rfl (am_tab tk_J9_floorDiv_7cf53 17 rfl) rfl ?_
    refine am_iret (Or.inl rfl) (Nat.le_of_ble_eq_true rfl) (Nat.le_of_ble_eq_true rfl) (am_tab tk_J9_floorDiv_7cf53 18 rfl) ?_
    refine hQ _ _ ?_
    refine ⟨congrArg (fun z => some (am_i z)) ?_, rfl⟩
    unfold flr
    rw [if_neg h0]
    rw [if_neg (fun h => absurd (hxr.mpr h.2) (by omega))]
  · refine am_iload_n (q := 11) rfl (am_tab tk_J9_floorDiv_7cf53 8 rfl) rfl ?_
    refine am_iload_n (q := 12) rfl (am_tab tk_J9_floorDiv_7cf53 9 rfl) rfl ?_
    refine am_imul (q := 13) (by rw [hc]; omega) (am_tab tk_J9_floorDiv_7cf53 10 rfl) rfl ?_
    refine am_iload_n (q := 14) rfl (am_tab tk_J9_floorDiv_7cf53 11 rfl) rfl ?_
    refine am_icmp_eq (q := 17) (t := 21) (am_tab tk_J9_floorDiv_7cf53 12 rfl) (by decide) rfl (fun h14 => ?_) (fun h14 => ?_)
    · refine am_iload_n (q := 22) rfl (am_tab tk_J9_floorDiv_7cf53 17 rfl) rfl ?_
      refine am_iret (Or.inl rfl) (Nat.le_of_ble_eq_true rfl) (Nat.le_of_ble_eq_true rfl) (am_tab tk_J9_floorDiv_7cf53 18 rfl) ?_
      refine hQ _ _ ?_
      refine ⟨congrArg (fun z => some (am_i z)) ?_, rfl⟩
      unfold flr
      rw [if_neg h0]
      rw [if_neg (fun h => h.1 (by omega))]
    · refine am_iload_n (q := 18) rfl (am_tab tk_J9_floorDiv_7cf53 13 rfl) rfl ?_
      refine am_iconst (q := 19) (n := 1) (by decide) (am_tab tk_J9_floorDiv_7cf53 14 rfl) rfl ?_
      refine am_isub (q := 20) (by omega) (am_tab tk_J9_floorDiv_7cf53 15 rfl) rfl ?_
      refine am_iret (Or.inl rfl) (Nat.le_of_ble_eq_true rfl) (Nat.le_of_ble_eq_true rfl) (am_tab tk_J9_floorDiv_7cf53 16 rfl) ?_
      refine hQ _ _ ?_
      refine ⟨congrArg (fun z => some (am_i z)) ?_, rfl⟩
      unfold flr
      rw [if_neg h0]
      rw [if_pos ⟨by omega, hxr.mp (by omega)⟩]
theorem c_X9_bit (σ : am_H) (s : Int) (q : Int)  : am_met M_X9_bit [am_i s, am_i q] σ (fun r σ' => r = some (am_i (ao_and (ao_shr s q) 1)) ∧ σ' = σ) := by
  refine am_qq (fun Q hQ => ?_)
  refine am_enter (show plainFor yX9_bit = true by decide +kernel) rfl (Nat.le_of_ble_eq_true rfl) (fun _ _ _ => trivial) ?_
  refine am_iload_n (q := 1) rfl (am_tab tk_X9_bit 0 rfl) rfl ?_
  refine am_iload_n (q := 2) rfl (am_tab tk_X9_bit 1 rfl) rfl ?_
  refine am_ishr (q := 3) (am_tab tk_X9_bit 2 rfl) rfl ?_
  refine am_iconst (q := 4) (n := 1) (by decide) (am_tab tk_X9_bit 3 rfl) rfl ?_
  refine am_iand (q := 5) (am_tab tk_X9_bit 4 rfl) rfl ?_
  refine am_iret (Or.inl rfl) (Nat.le_of_ble_eq_true rfl) (Nat.le_of_ble_eq_true rfl) (am_tab tk_X9_bit 5 rfl) ?_
  refine hQ _ _ ?_
  exact ⟨rfl, rfl⟩
theorem c_X1_rowYear (σ : am_H) (x : Int) (hx : 0 ≤ x ∧ x < 2147483648) : am_met M_X1_rowYear [am_i x] σ (fun r σ' => r = some (am_i (x.tdiv 4096)) ∧ σ' = σ) := by
  refine am_qq (fun Q hQ => ?_)
  refine am_enter (show plainFor yX1_rowYear = true by decide +kernel) rfl (Nat.le_of_ble_eq_true rfl) (fun _ _ _ => trivial) ?_
  refine am_iload_n (q := 1) rfl (am_tab tk_X1_rowYear 0 rfl) rfl ?_
  refine am_sipush (q := 4) (n := 4096) (by decide) rfl (am_tab tk_X1_rowYear 1 rfl) rfl ?_
  refine am_idiv (q := 5) (by omega) (by omega) (am_tab tk_X1_rowYear 2 rfl) rfl ?_
  refine am_iret (Or.inl rfl) (Nat.le_of_ble_eq_true rfl) (Nat.le_of_ble_eq_true rfl) (am_tab tk_X1_rowYear 3 rfl) ?_
  refine hQ _ _ ?_
  exact ⟨rfl, rfl⟩
theorem c_X1_rowDay (σ : am_H) (x : Int) (hx : 0 ≤ x ∧ x < 2147483648) : am_met M_X1_rowDay [am_i x] σ (fun r σ' => r = some (am_i ((x.tdiv 32).tmod 128)) ∧ σ' = σ) := by
  refine am_qq (fun Q hQ => ?_)
  refine am_enter (show plainFor yX1_rowDay = true by decide +kernel) rfl (Nat.le_of_ble_eq_true rfl) (fun _ _ _ => trivial) ?_
  refine am_iload_n (q := 1) rfl (am_tab tk_X1_rowDay 0 rfl) rfl ?_
  refine am_bipush (q := 3) (n := 32) (by decide) rfl (am_tab tk_X1_rowDay 1 rfl) rfl ?_
  refine am_idiv (q := 4) (by omega) (by omega) (am_tab tk_X1_rowDay 2 rfl) rfl ?_
  refine am_sipush (q := 7) (n := 128) (by decide) rfl (am_tab tk_X1_rowDay 3 rfl) rfl ?_
  refine am_irem (q := 8) (by have := Int.tdiv_nonneg (b := 32) hx.1 (by decide); omega) (by have := Int.tdiv_nonneg (b := 32) hx.1 (by decide); omega) (am_tab tk_X1_rowDay 4 rfl) rfl ?_
  refine am_iret (Or.inl rfl) (Nat.le_of_ble_eq_true rfl) (Nat.le_of_ble_eq_true rfl) (am_tab tk_X1_rowDay 5 rfl) ?_
  refine hQ _ _ ?_
  exact ⟨rfl, rfl⟩
theorem c_X1_rowThinkers (σ : am_H) (x : Int) (hx : 0 ≤ x ∧ x < 2147483648) : am_met M_X1_rowThinkers [am_i x] σ (fun r σ' => r = some (am_i ((x.tdiv 2).tmod 16)) ∧ σ' = σ) := by
  refine am_qq (fun Q hQ => ?_)
  refine am_enter (show plainFor yX1_rowThinkers = true by decide +kernel) rfl (Nat.le_of_ble_eq_true rfl) (fun _ _ _ => trivial) ?_
  refine am_iload_n (q := 1) rfl (am_tab tk_X1_rowThinkers 0 rfl) rfl ?_
  refine am_iconst (q := 2) (n := 2) (by decide) (am_tab tk_X1_rowThinkers 1 rfl) rfl ?_
  refine am_idiv (q := 3) (by omega) (by omega) (am_tab tk_X1_rowThinkers 2 rfl) rfl ?_
  refine am_bipush (q := 5) (n := 16) (by decide) rfl (am_tab tk_X1_rowThinkers 3 rfl) rfl ?_
  refine am_irem (q := 6) (by have := Int.tdiv_nonneg (b := 2) hx.1 (by decide); omega) (by have := Int.tdiv_nonneg (b := 2) hx.1 (by decide); omega) (am_tab tk_X1_rowThinkers 4 rfl) rfl ?_
  refine am_iret (Or.inl rfl) (Nat.le_of_ble_eq_true rfl) (Nat.le_of_ble_eq_true rfl) (am_tab tk_X1_rowThinkers 5 rfl) ?_
  refine hQ _ _ ?_
  exact ⟨rfl, rfl⟩
theorem c_X1_rowFeast (σ : am_H) (x : Int) (hx : 0 ≤ x ∧ x < 2147483648) : am_met M_X1_rowFeast [am_i x] σ (fun r σ' => r = some (am_i (x.tmod 2)) ∧ σ' = σ) := by
  refine am_qq (fun Q hQ => ?_)
  refine am_enter (show plainFor yX1_rowFeast = true by decide +kernel) rfl (Nat.le_of_ble_eq_true rfl) (fun _ _ _ => trivial) ?_
  refine am_iload_n (q := 1) rfl (am_tab tk_X1_rowFeast 0 rfl) rfl ?_
  refine am_iconst (q := 2) (n := 2) (by decide) (am_tab tk_X1_rowFeast 1 rfl) rfl ?_
  refine am_irem (q := 3) (by omega) (by omega) (am_tab tk_X1_rowFeast 2 rfl) rfl ?_
  refine am_iret (Or.inl rfl) (Nat.le_of_ble_eq_true rfl) (Nat.le_of_ble_eq_true rfl) (am_tab tk_X1_rowFeast 3 rfl) ?_
  refine hQ _ _ ?_
  exact ⟨rfl, rfl⟩
theorem c_X7_isLetter (σ : am_H) (c : Int)  : am_met M_X7_isLetter [am_i c] σ (fun r σ' => r = some (am_i (if 97 ≤ c ∧ c ≤ 122 then 1 else 0)) ∧ σ' = σ) := by
  refine am_qq (fun Q hQ => ?_)
  refine am_enter (show plainFor yX7_isLetter = true by decide +kernel) rfl (Nat.le_of_ble_eq_true rfl) (fun _ _ _ => trivial) ?_
  refine am_iload_n (q := 1) rfl (am_tab tk_X7_isLetter 0 rfl) rfl ?_
  refine am_bipush (q := 3) (n := 97) (by decide) rfl (am_tab tk_X7_isLetter 1 rfl) rfl ?_
  refine am_icmp_lt (q := 6) (t := 16) (am_tab tk_X7_isLetter 2 rfl) (by decide) rfl (fun h3 => ?_) (fun h3 => ?_)
  · refine am_iconst (q := 17) (n := 0) (by decide) (am_tab tk_X7_isLetter 8 rfl) rfl ?_
    refine am_iret (Or.inr ⟨rfl, by first | exact Or.inl rfl | exact Or.inr rfl | omega⟩) (Nat.le_of_ble_eq_true rfl) (Nat.le_of_ble_eq_true rfl) (am_tab tk_X7_isLetter 9 rfl) ?_
    refine hQ _ _ ?_
    refine ⟨congrArg (fun z => some (am_i z)) ?_, rfl⟩
    first | rw [if_pos (by omega)] | rw [if_neg (by omega)]
  · refine am_iload_n (q := 7) rfl (am_tab tk_X7_isLetter 3 rfl) rfl ?_
    refine am_bipush (q := 9) (n := 122) (by decide) rfl (am_tab tk_X7_isLetter 4 rfl) rfl ?_
    refine am_icmp_gt (q := 12) (t := 16) (am_tab tk_X7_isLetter 5 rfl) (by decide) rfl (fun h9 => ?_) (fun h9 => ?_)
    · refine am_iconst (q := 17) (n := 0) (by decide) (am_tab tk_X7_isLetter 8 rfl) rfl ?_
      refine am_iret (Or.inr ⟨rfl, by first | exact Or.inl rfl | exact Or.inr rfl | omega⟩) (Nat.le_of_ble_eq_true rfl) (Nat.le_of_ble_eq_true rfl) (am_tab tk_X7_isLetter 9 rfl) ?_
      refine hQ _ _ ?_
      refine ⟨congrArg (fun z => some (am_i z)) ?_, rfl⟩
      first | rw [if_pos (by omega)] | rw [if_neg (by omega)]
    · refine am_iconst (q := 13) (n := 1) (by decide) (am_tab tk_X7_isLetter 6 rfl) rfl ?_
      refine am_goto (t := 17) (am_tab tk_X7_isLetter 7 rfl) (by decide) ?_
      refine am_iret (Or.inr ⟨rfl, by first | exact Or.inl rfl | exact Or.inr rfl | omega⟩) (Nat.le_of_ble_eq_true rfl) (Nat.le_of_ble_eq_true rfl) (am_tab tk_X7_isLetter 9 rfl) ?_
      refine hQ _ _ ?_
      refine ⟨congrArg (fun z => some (am_i z)) ?_, rfl⟩
      first | rw [if_pos (by omega)] | rw [if_neg (by omega)]
theorem c_X7_isDigit (σ : am_H) (c : Int)  : am_met M_X7_isDigit [am_i c] σ (fun r σ' => r = some (am_i (if 48 ≤ c ∧ c ≤ 57 then 1 else 0)) ∧ σ' = σ) := by
  refine am_qq (fun Q hQ => ?_)
  refine am_enter (show plainFor yX7_isDigit = true by decide +kernel) rfl (Nat.le_of_ble_eq_true rfl) (fun _ _ _ => trivial) ?_
  refine am_iload_n (q := 1) rfl (am_tab tk_X7_isDigit 0 rfl) rfl ?_
  refine am_bipush (q := 3) (n := 48) (by decide) rfl (am_tab tk_X7_isDigit 1 rfl) rfl ?_
  refine am_icmp_lt (q := 6) (t := 16) (am_tab tk_X7_isDigit 2 rfl) (by decide) rfl (fun h3 => ?_) (fun h3 => ?_)
  · refine am_iconst (q := 17) (n := 0) (by decide) (am_tab tk_X7_isDigit 8 rfl) rfl ?_
    refine am_iret (Or.inr ⟨rfl, by first | exact Or.inl rfl | exact Or.inr rfl | omega⟩) (Nat.le_of_ble_eq_true rfl) (Nat.le_of_ble_eq_true rfl) (am_tab tk_X7_isDigit 9 rfl) ?_
    refine hQ _ _ ?_
    refine ⟨congrArg (fun z => some (am_i z)) ?_, rfl⟩
    first | rw [if_pos (by omega)] | rw [if_neg (by omega)]
  · refine am_iload_n (q := 7) rfl (am_tab tk_X7_isDigit 3 rfl) rfl ?_
    refine am_bipush (q := 9) (n := 57) (by decide) rfl (am_tab tk_X7_isDigit 4 rfl) rfl ?_
    refine am_icmp_gt (q := 12) (t := 16) (am_tab tk_X7_isDigit 5 rfl) (by decide) rfl (fun h9 => ?_) (fun h9 => ?_)
    · refine am_iconst (q := 17) (n := 0) (by decide) (am_tab tk_X7_isDigit 8 rfl) rfl ?_
      refine am_iret (Or.inr ⟨rfl, by first | exact Or.inl rfl | exact Or.inr rfl | omega⟩) (Nat.le_of_ble_eq_true rfl) (Nat.le_of_ble_eq_true rfl) (am_tab tk_X7_isDigit 9 rfl) ?_
      refine hQ _ _ ?_
      refine ⟨congrArg (fun z => some (am_i z)) ?_, rfl⟩
      first | rw [if_pos (by omega)] | rw [if_neg (by omega)]
    · refine am_iconst (q := 13) (n := 1) (by decide) (am_tab tk_X7_isDigit 6 rfl) rfl ?_
      refine am_goto (t := 17) (am_tab tk_X7_isDigit 7 rfl) (by decide) ?_
      refine am_iret (Or.inr ⟨rfl, by first | exact Or.inl rfl | exact Or.inr rfl | omega⟩) (Nat.le_of_ble_eq_true rfl) (Nat.le_of_ble_eq_true rfl) (am_tab tk_X7_isDigit 9 rfl) ?_
      refine hQ _ _ ?_
      refine ⟨congrArg (fun z => some (am_i z)) ?_, rfl⟩
      first | rw [if_pos (by omega)] | rw [if_neg (by omega)]
theorem c_X4_isSumSign (σ : am_H) (c : Int)  : am_met M_X4_isSumSign [am_i c] σ (fun r σ' => r = some (am_i (if c = 43 ∨ c = 45 ∨ c = 42 ∨ c = 47 then 1 else 0)) ∧ σ' = σ) := by
  refine am_qq (fun Q hQ => ?_)
  refine am_enter (show plainFor yX4_isSumSign = true by decide +kernel) rfl (Nat.le_of_ble_eq_true rfl) (fun _ _ _ => trivial) ?_
  refine am_iload_n (q := 1) rfl (am_tab tk_X4_isSumSign 0 rfl) rfl ?_
  refine am_bipush (q := 3) (n := 43) (by decide) rfl (am_tab tk_X4_isSumSign 1 rfl) rfl ?_
  refine am_icmp_eq (q := 6) (t := 24) (am_tab tk_X4_isSumSign 2 rfl) (by decide) rfl (fun h3 => ?_) (fun h3 => ?_)
  · refine am_iconst (q := 25) (n := 1) (by decide) (am_tab tk_X4_isSumSign 12 rfl) rfl ?_
    refine am_goto (t := 29) (am_tab tk_X4_isSumSign 13 rfl) (by decide) ?_
    refine am_iret (Or.inr ⟨rfl, by first | exact Or.inl rfl | exact Or.inr rfl | omega⟩) (Nat.le_of_ble_eq_true rfl) (Nat.le_of_ble_eq_true rfl) (am_tab tk_X4_isSumSign 15 rfl) ?_
    refine hQ _ _ ?_
    refine ⟨congrArg (fun z => some (am_i z)) ?_, rfl⟩
    first | rw [if_pos (by omega)] | rw [if_neg (by omega)]
  · refine am_iload_n (q := 7) rfl (am_tab tk_X4_isSumSign 3 rfl) rfl ?_
    refine am_bipush (q := 9) (n := 45) (by decide) rfl (am_tab tk_X4_isSumSign 4 rfl) rfl ?_
    refine am_icmp_eq (q := 12) (t := 24) (am_tab tk_X4_isSumSign 5 rfl) (by decide) rfl (fun h9 => ?_) (fun h9 => ?_)
    · refine am_iconst (q := 25) (n := 1) (by decide) (am_tab tk_X4_isSumSign 12 rfl) rfl ?_
      refine am_goto (t := 29) (am_tab tk_X4_isSumSign 13 rfl) (by decide) ?_
      refine am_iret (Or.inr ⟨rfl, by first | exact Or.inl rfl | exact Or.inr rfl | omega⟩) (Nat.le_of_ble_eq_true rfl) (Nat.le_of_ble_eq_true rfl) (am_tab tk_X4_isSumSign 15 rfl) ?_
      refine hQ _ _ ?_
      refine ⟨congrArg (fun z => some (am_i z)) ?_, rfl⟩
      first | rw [if_pos (by omega)] | rw [if_neg (by omega)]
    · refine am_iload_n (q := 13) rfl (am_tab tk_X4_isSumSign 6 rfl) rfl ?_
      refine am_bipush (q := 15) (n := 42) (by decide) rfl (am_tab tk_X4_isSumSign 7 rfl) rfl ?_
      refine am_icmp_eq (q := 18) (t := 24) (am_tab tk_X4_isSumSign 8 rfl) (by decide) rfl (fun h15 => ?_) (fun h15 => ?_)
      · refine am_iconst (q := 25) (n := 1) (by decide) (am_tab tk_X4_isSumSign 12 rfl) rfl ?_
        refine am_goto (t := 29) (am_tab tk_X4_isSumSign 13 rfl) (by decide) ?_
        refine am_iret (Or.inr ⟨rfl, by first | exact Or.inl rfl | exact Or.inr rfl | omega⟩) (Nat.le_of_ble_eq_true rfl) (Nat.le_of_ble_eq_true rfl) (am_tab tk_X4_isSumSign 15 rfl) ?_
        refine hQ _ _ ?_
        refine ⟨congrArg (fun z => some (am_i z)) ?_, rfl⟩
        first | rw [if_pos (by omega)] | rw [if_neg (by omega)]
      · refine am_iload_n (q := 19) rfl (am_tab tk_X4_isSumSign 9 rfl) rfl ?_
        refine am_bipush (q := 21) (n := 47) (by decide) rfl (am_tab tk_X4_isSumSign 10 rfl) rfl ?_
        refine am_icmp_ne (q := 24) (t := 28) (am_tab tk_X4_isSumSign 11 rfl) (by decide) rfl (fun h21 => ?_) (fun h21 => ?_)
        · refine am_iconst (q := 29) (n := 0) (by decide) (am_tab tk_X4_isSumSign 14 rfl) rfl ?_
          refine am_iret (Or.inr ⟨rfl, by first | exact Or.inl rfl | exact Or.inr rfl | omega⟩) (Nat.le_of_ble_eq_true rfl) (Nat.le_of_ble_eq_true rfl) (am_tab tk_X4_isSumSign 15 rfl) ?_
          refine hQ _ _ ?_
          refine ⟨congrArg (fun z => some (am_i z)) ?_, rfl⟩
          first | rw [if_pos (by omega)] | rw [if_neg (by omega)]
        · refine am_iconst (q := 25) (n := 1) (by decide) (am_tab tk_X4_isSumSign 12 rfl) rfl ?_
          refine am_goto (t := 29) (am_tab tk_X4_isSumSign 13 rfl) (by decide) ?_
          refine am_iret (Or.inr ⟨rfl, by first | exact Or.inl rfl | exact Or.inr rfl | omega⟩) (Nat.le_of_ble_eq_true rfl) (Nat.le_of_ble_eq_true rfl) (am_tab tk_X4_isSumSign 15 rfl) ?_
          refine hQ _ _ ?_
          refine ⟨congrArg (fun z => some (am_i z)) ?_, rfl⟩
          first | rw [if_pos (by omega)] | rw [if_neg (by omega)]
theorem c_X5_partAt (σ : am_H) (hL : lay σ) (x : Int) (hx : 0 ≤ x ∧ x < 34) : am_met M_X5_partAt [am_r 45, am_i x] σ (fun r σ' => r = some (am_i (σ.2.1 45 x.toNat)) ∧ σ' = σ) := by
  refine am_qq (fun Q hQ => ?_)
  refine am_enter (show plainFor yX5_partAt = true by decide +kernel) rfl (Nat.le_of_ble_eq_true rfl) (fun _ _ _ => trivial) ?_
  refine am_iload_n (q := 1) rfl (am_tab tk_X5_partAt 0 rfl) rfl ?_
  refine am_if_lt (q := 4) (t := 16) (am_tab tk_X5_partAt 1 rfl) (by decide) rfl (fun h1 => ?_) (fun h1 => ?_)
  · exact absurd h1 (by omega)
  · refine am_iload_n (q := 5) rfl (am_tab tk_X5_partAt 2 rfl) rfl ?_
    refine am_aload_n (q := 6) rfl (am_tab tk_X5_partAt 3 rfl) rfl ?_
    refine am_alen (q := 7) (a := 45) (k := 11) (n := 34) (Ls_45 hL) (by decide) (by decide) (am_tab tk_X5_partAt 4 rfl) rfl ?_
    refine am_icmp_ge (q := 10) (t := 16) (am_tab tk_X5_partAt 5 rfl) (by decide) rfl (fun h7 => ?_) (fun h7 => ?_)
    · exact absurd h7 (by omega)
    · refine am_aload_n (q := 11) rfl (am_tab tk_X5_partAt 6 rfl) rfl ?_
      refine am_iload_n (q := 12) rfl (am_tab tk_X5_partAt 7 rfl) rfl ?_
      refine am_iald (q := 13) (a := 45) (n := 34) (x := (σ.2.1 45 (Int.toNat x))) (Ls_45 hL) (by omega) (by omega) rfl (am_tab tk_X5_partAt 8 rfl) rfl ?_
      refine am_goto (t := 17) (am_tab tk_X5_partAt 9 rfl) (by decide) ?_
      refine am_iret (Or.inl rfl) (Nat.le_of_ble_eq_true rfl) (Nat.le_of_ble_eq_true rfl) (am_tab tk_X5_partAt 11 rfl) ?_
      refine hQ _ _ ?_
      exact ⟨rfl, rfl⟩
theorem c_X5_isRemindedBy (σ : am_H) (hL : lay σ) (x : Int)  : am_met M_X5_isRemindedBy [am_i x, am_r 45] σ (fun r σ' => r = some (am_i (if 0 ≤ x ∧ x < 8 then ao_and (ao_shr (σ.2.1 45 33) x) 1 else 0)) ∧ σ' = σ) := by
  refine am_qq (fun Q hQ => ?_)
  refine am_enter (show plainFor yX5_isRemindedBy = true by decide +kernel) rfl (Nat.le_of_ble_eq_true rfl) (fun _ _ _ => trivial) ?_
  refine am_iload_n (q := 1) rfl (am_tab tk_X5_isRemindedBy 0 rfl) rfl ?_
  refine am_if_lt (q := 4) (t := 21) (am_tab tk_X5_isRemindedBy 1 rfl) (by decide) rfl (fun h1 => ?_) (fun h1 => ?_)
  · refine am_iconst (q := 22) (n := 0) (by decide) (am_tab tk_X5_isRemindedBy 11 rfl) rfl ?_
    refine am_istore_n (q := 23) (by decide) (ls2 := [(2, am_i 0), (0, am_i x), (1, am_r 45)]) rfl (am_tab tk_X5_isRemindedBy 12 rfl) rfl ?_
    refine am_iload_n (q := 24) rfl (am_tab tk_X5_isRemindedBy 13 rfl) rfl ?_
    refine am_if_eq (q := 27) (t := 38) (am_tab tk_X5_isRemindedBy 14 rfl) (by decide) rfl (fun h24 => ?_) (fun h24 => ?_)
    · refine am_iconst (q := 39) (n := 0) (by decide) (am_tab tk_X5_isRemindedBy 23 rfl) rfl ?_
      refine am_iret (Or.inl rfl) (Nat.le_of_ble_eq_true rfl) (Nat.le_of_ble_eq_true rfl) (am_tab tk_X5_isRemindedBy 24 rfl) ?_
      refine hQ _ _ ?_
      refine ⟨congrArg (fun z => some (am_i z)) ?_, rfl⟩
      first | rw [if_pos (by omega)] | rw [if_neg (by omega)]
    · exact absurd h24 (by decide)
  · refine am_iload_n (q := 5) rfl (am_tab tk_X5_isRemindedBy 2 rfl) rfl ?_
    refine am_bipush (q := 7) (n := 8) (by decide) rfl (am_tab tk_X5_isRemindedBy 3 rfl) rfl ?_
    refine am_icmp_ge (q := 10) (t := 21) (am_tab tk_X5_isRemindedBy 4 rfl) (by decide) rfl (fun h7 => ?_) (fun h7 => ?_)
    · refine am_iconst (q := 22) (n := 0) (by decide) (am_tab tk_X5_isRemindedBy 11 rfl) rfl ?_
      refine am_istore_n (q := 23) (by decide) (ls2 := [(2, am_i 0), (0, am_i x), (1, am_r 45)]) rfl (am_tab tk_X5_isRemindedBy 12 rfl) rfl ?_
      refine am_iload_n (q := 24) rfl (am_tab tk_X5_isRemindedBy 13 rfl) rfl ?_
      refine am_if_eq (q := 27) (t := 38) (am_tab tk_X5_isRemindedBy 14 rfl) (by decide) rfl (fun h24 => ?_) (fun h24 => ?_)
      · refine am_iconst (q := 39) (n := 0) (by decide) (am_tab tk_X5_isRemindedBy 23 rfl) rfl ?_
        refine am_iret (Or.inl rfl) (Nat.le_of_ble_eq_true rfl) (Nat.le_of_ble_eq_true rfl) (am_tab tk_X5_isRemindedBy 24 rfl) ?_
        refine hQ _ _ ?_
        refine ⟨congrArg (fun z => some (am_i z)) ?_, rfl⟩
        first | rw [if_pos (by omega)] | rw [if_neg (by omega)]
      · exact absurd h24 (by decide)
    · refine am_aload_n (q := 11) rfl (am_tab tk_X5_isRemindedBy 5 rfl) rfl ?_
      refine am_alen (q := 12) (a := 45) (k := 11) (n := 34) (Ls_45 hL) (by decide) (by decide) (am_tab tk_X5_isRemindedBy 6 rfl) rfl ?_
      refine am_bipush (q := 14) (n := 33) (by decide) rfl (am_tab tk_X5_isRemindedBy 7 rfl) rfl ?_
      refine am_icmp_le (q := 17) (t := 21) (am_tab tk_X5_isRemindedBy 8 rfl) (by decide) rfl (fun h14 => ?_) (fun h14 => ?_)
      · exact absurd h14 (by decide)
      · refine am_iconst (q := 18) (n := 1) (by decide) (am_tab tk_X5_isRemindedBy 9 rfl) rfl ?_
        refine am_goto (t := 22) (am_tab tk_X5_isRemindedBy 10 rfl) (by decide) ?_
        refine am_istore_n (q := 23) (by decide) (ls2 := [(2, am_i 1), (0, am_i x), (1, am_r 45)]) rfl (am_tab tk_X5_isRemindedBy 12 rfl) rfl ?_
        refine am_iload_n (q := 24) rfl (am_tab tk_X5_isRemindedBy 13 rfl) rfl ?_
        refine am_if_eq (q := 27) (t := 38) (am_tab tk_X5_isRemindedBy 14 rfl) (by decide) rfl (fun h24 => ?_) (fun h24 => ?_)
        · exact absurd h24 (by decide)
        · refine am_aload_n (q := 28) rfl (am_tab tk_X5_isRemindedBy 15 rfl) rfl ?_
          refine am_bipush (q := 30) (n := 33) (by decide) rfl (am_tab tk_X5_isRemindedBy 16 rfl) rfl ?_
          refine am_iald (q := 31) (a := 45) (n := 34) (x := (σ.2.1 45 33)) (Ls_45 hL) (by omega) (by omega) rfl (am_tab tk_X5_isRemindedBy 17 rfl) rfl ?_
          refine am_iload_n (q := 32) rfl (am_tab tk_X5_isRemindedBy 18 rfl) rfl ?_
          refine am_ishr (q := 33) (am_tab tk_X5_isRemindedBy 19 rfl) rfl ?_
          refine am_iconst (q := 34) (n := 1) (by decide) (am_tab tk_X5_isRemindedBy 20 rfl) rfl ?_
          refine am_iand (q := 35) (am_tab tk_X5_isRemindedBy 21 rfl) rfl ?_
          refine am_goto (t := 39) (am_tab tk_X5_isRemindedBy 22 rfl) (by decide) ?_
          refine am_iret (Or.inl rfl) (Nat.le_of_ble_eq_true rfl) (Nat.le_of_ble_eq_true rfl) (am_tab tk_X5_isRemindedBy 24 rfl) ?_
          refine hQ _ _ ?_
          refine ⟨congrArg (fun z => some (am_i z)) ?_, rfl⟩
          first | rw [if_pos (by omega)] | rw [if_neg (by omega)]
