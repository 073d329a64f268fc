/-- the class's codes for the model's -/
def dd (v : Int) : Int := if v = 1 then 43 else if v = 2 then 45 else if v = 3 then 42 else if v = 4 then 47 else if v = 5 then 153 else if v = 6 then 154 else if v = 7 then 60 else if v = 8 then 62 else if v = 9 then 61 else if v = 10 then 150 else if v = 11 then 149 else if v = 12 then 151 else 0
def rwP (k : Int) : Int := if k = 0 then 13 else if k = 1 then 4 else if k = 2 then 15 else if k = 3 then 2 else if k = 4 then 16 else if k = 5 then 14 else if k = 6 then 7 else if k = 7 then 17 else if k = 8 then 18 else if k = 9 then 19 else if k = 10 then 9 else 0
def kap (v : Int) : Int := if 1000 ≤ v then v - 1000 else if v = 13 then 1 else if v = 60 then 20148 else if 40 ≤ v then 10000 + rwP (v - 40) else 20000 + dd v
def jnC (d x y : Int) : Int := if d = 43 then clp (x + y) else if d = 45 then clp (x - y) else if d = 42 then clp (x * y) else if d = 47 then flr x y else if d = 153 then (if x < y then x else y) else if d = 154 then (if y < x then x else y) else if d = 60 then (if x < y then 1 else 0) else if d = 62 then (if y < x then 1 else 0) else if d = 61 then (if x = y then 1 else 0) else if d = 150 then x * y else if d = 149 then (if 0 < x + y then 1 else 0) else 0
theorem rwP_rng (k : Int) : 0 ≤ rwP k ∧ rwP k ≤ 19 := by
  unfold rwP
  repeat' split
  all_goals omega
theorem dd_rng (v : Int) : 0 ≤ dd v ∧ dd v ≤ 154 := by
  unfold dd
  repeat' split
  all_goals omega
theorem jnC_dd {v : Int} (hv : 1 ≤ v ∧ v ≤ 11) (x y : Int) : jnC (dd v) x y = jn v x y := by
  rcases (show v = 1 ∨ v = 2 ∨ v = 3 ∨ v = 4 ∨ v = 5 ∨ v = 6 ∨ v = 7 ∨ v = 8 ∨ v = 9 ∨ v = 10 ∨ v = 11 by omega) with rfl | rfl | rfl | rfl | rfl | rfl | rfl | rfl | rfl | rfl | rfl <;> rfl
theorem dd_mem {v : Int} (hv : 1 ≤ v ∧ v ≤ 11) : dd v = 43 ∨ dd v = 45 ∨ dd v = 42 ∨ dd v = 47 ∨ dd v = 153 ∨ dd v = 154 ∨ dd v = 60 ∨ dd v = 62 ∨ dd v = 61 ∨ dd v = 150 ∨ dd v = 149 := by
  rcases (show v = 1 ∨ v = 2 ∨ v = 3 ∨ v = 4 ∨ v = 5 ∨ v = 6 ∨ v = 7 ∨ v = 8 ∨ v = 9 ∨ v = 10 ∨ v = 11 by omega) with rfl | rfl | rfl | rfl | rfl | rfl | rfl | rfl | rfl | rfl | rfl <;> decide
theorem dd_ao {v : Int} (hv : 1 ≤ v ∧ v ≤ 11) (h : dd v = 149 ∨ dd v = 150) : v = 10 ∨ v = 11 := by
  revert h
  rcases (show v = 1 ∨ v = 2 ∨ v = 3 ∨ v = 4 ∨ v = 5 ∨ v = 6 ∨ v = 7 ∨ v = 8 ∨ v = 9 ∨ v = 10 ∨ v = 11 by omega) with rfl | rfl | rfl | rfl | rfl | rfl | rfl | rfl | rfl | rfl | rfl <;> decide
theorem clp_mm (z : Int) : max (-1000000) (min 1000000 z) = clp z := by
  unfold clp
  split
  · omega
  · split <;> omega
theorem clp_id {z : Int} (h : -1000000 ≤ z ∧ z ≤ 1000000) : clp z = z := by
  unfold clp
  rw [if_neg (by omega), if_neg (by omega)]
theorem mul_rng {x y : Int} (hx : -1000000 ≤ x ∧ x ≤ 1000000) (hy : -1000000 ≤ y ∧ y ≤ 1000000) : -1000000000000 ≤ x * y ∧ x * y ≤ 1000000000000 := by
  have h : (x * y).natAbs ≤ 1000000 * 1000000 := by rw [Int.natAbs_mul]; exact Nat.mul_le_mul (by omega) (by omega)
  omega
theorem c_X5_pairUp (σ : am_H) (d : Int) (x : Int) (y : Int) (hx : -1000000 ≤ x ∧ x ≤ 1000000) (hy : -1000000 ≤ y ∧ y ≤ 1000000) (hd : d = 43 ∨ d = 45 ∨ d = 42 ∨ d = 47 ∨ d = 153 ∨ d = 154 ∨ d = 60 ∨ d = 62 ∨ d = 61 ∨ d = 150 ∨ d = 149) (hb : d = 149 ∨ d = 150 → (x = 0 ∨ x = 1) ∧ (y = 0 ∨ y = 1)) : am_met M_X5_pairUp [am_i d, am_i x, am_i y] σ (fun r σ' => r = some (am_i (jnC d x y)) ∧ σ' = σ) := by
  refine am_qq (fun Q hQ => ?_)
  refine am_enter (show plainFor yX5_pairUp = true by decide +kernel) rfl (Nat.le_of_ble_eq_true rfl) (fun _ _ _ => trivial) ?_
  refine am_lconst0 (q := 1) (am_tab tk_X5_pairUp 0 rfl) rfl ?_
  refine am_lstore_n (q := 2) (by decide) (ls2 := [(3, am_l 0), (0, am_i d), (1, am_i x), (2, am_i y)]) rfl (am_tab tk_X5_pairUp 1 rfl) rfl ?_
  have L223 : ∀ (n223 : Nat) (z : Int), 0 < n223 → clp z = jnC d x y → (-2000000000000 ≤ z ∧ z ≤ 2000000000000) → am_wp M_X5_pairUp Q 0 0 223 [(3, am_l z), (0, am_i d), (1, am_i x), (2, am_i y)] [] σ := by
    intro n223
    induction n223 with
    | zero => intro z hn223; exact absurd hn223 (Nat.not_lt_zero _)
    | succ n223 ih223 =>
      intro z hn223 hz hzr
      refine am_ldc2 (q := 226) (n := (-1000000)) (by decide) kk_X5_49 (am_tab tk_X5_pairUp 83 rfl) rfl ?_
      refine am_ldc2 (q := 229) (n := 1000000) (by decide) kk_X5_51 (am_tab tk_X5_pairUp 84 rfl) rfl ?_
      refine am_lload_n (q := 230) rfl (am_tab tk_X5_pairUp 85 rfl) rfl ?_
      refine am_callS0 (q := 233) (me2 := M_J9_min_f86c9) (As := [am_l 1000000, am_l z]) (rest := [am_l ((-1000000))]) (out := [am_l (min 1000000 z), am_l ((-1000000))]) (c_minl σ 1000000 z) ⟨rfl, rfl⟩ ⟨Or.inl km_X5_53, kc_J9_min_f86c9, kn_J9, kd_J9_min_f86c9, ⟨(Nat.le_of_ble_eq_true rfl), (Nat.le_of_ble_eq_true rfl)⟩, ⟨(Nat.le_of_ble_eq_true rfl), (Nat.le_of_ble_eq_true rfl)⟩, (Nat.le_of_ble_eq_true rfl)⟩ ki_J9_min_f86c9 rfl rfl (am_tab tk_X5_pairUp 86 rfl) rfl ?_
      refine am_callS0 (q := 236) (me2 := M_J9_max_f86c9) (As := [am_l ((-1000000)), am_l (min 1000000 z)]) (rest := []) (out := [am_l (max (-1000000) (min 1000000 z))]) (c_maxl σ (-1000000) (min 1000000 z)) ⟨rfl, rfl⟩ ⟨Or.inl km_X5_56, kc_J9_max_f86c9, kn_J9, kd_J9_max_f86c9, ⟨(Nat.le_of_ble_eq_true rfl), (Nat.le_of_ble_eq_true rfl)⟩, ⟨(Nat.le_of_ble_eq_true rfl), (Nat.le_of_ble_eq_true rfl)⟩, (Nat.le_of_ble_eq_true rfl)⟩ ki_J9_max_f86c9 rfl rfl (am_tab tk_X5_pairUp 87 rfl) rfl ?_
      refine am_l2i (q := 237) (y := (clp z)) (by rw [clp_mm]; exact (l2i_eq (by have := clp_rng z; omega)).symm) (am_tab tk_X5_pairUp 88 rfl) rfl ?_
      refine am_iret (Or.inl rfl) (Nat.le_of_ble_eq_true rfl) (Nat.le_of_ble_eq_true rfl) (am_tab tk_X5_pairUp 89 rfl) ?_
      refine hQ _ _ ?_
      rw [hz]
      exact ⟨rfl, rfl⟩
  refine am_iload_n (q := 3) rfl (am_tab tk_X5_pairUp 2 rfl) rfl ?_
  rcases (show d = 42 ∨ d = 43 ∨ d = 45 ∨ d = 47 ∨ d = 60 ∨ d = 61 ∨ d = 62 ∨ d = 149 ∨ d = 150 ∨ d = 153 ∨ d = 154 ∨ (d ≠ 42 ∧ d ≠ 43 ∧ d ≠ 45 ∧ d ≠ 47 ∧ d ≠ 60 ∧ d ≠ 61 ∧ d ≠ 62 ∧ d ≠ 149 ∧ d ≠ 150 ∧ d ≠ 153 ∧ d ≠ 154) by omega) with e3 | e3 | e3 | e3 | e3 | e3 | e3 | e3 | e3 | e3 | e3 | e3
  · refine am_lookup (t := 118) (off := 115) (by decide) (by rw [e3]; rfl) dsw_X5_pairUp_3 (by decide) ?_
    refine am_iload_n (q := 119) rfl (am_tab tk_X5_pairUp 18 rfl) rfl ?_
    refine am_i2l (q := 120) (am_tab tk_X5_pairUp 19 rfl) rfl ?_
    refine am_iload_n (q := 121) rfl (am_tab tk_X5_pairUp 20 rfl) rfl ?_
    refine am_i2l (q := 122) (am_tab tk_X5_pairUp 21 rfl) rfl ?_
    refine am_lmul (q := 123) (by have := mul_rng hx hy; omega) (am_tab tk_X5_pairUp 22 rfl) rfl ?_
    refine am_lstore_n (q := 124) (by decide) (ls2 := [(3, am_l ((x * y))), (0, am_i d), (1, am_i x), (2, am_i y)]) rfl (am_tab tk_X5_pairUp 23 rfl) rfl ?_
    refine am_goto (t := 223) (am_tab tk_X5_pairUp 24 rfl) (by decide) ?_
    refine am_less (by intro q hq; simp only [List.mem_cons, List.not_mem_nil, or_false] at hq; rcases hq with rfl | rfl | rfl | rfl <;> simp) (L223 (_ + 1) (x * y) (by exact Nat.lt_succ_self _) (by rw [e3]; unfold jnC; rw [if_neg (by decide), if_neg (by decide), if_pos rfl]) (mul_rng hx hy |>.imp (by omega) (by omega)))
  · refine am_lookup (t := 100) (off := 97) (by decide) (by rw [e3]; rfl) dsw_X5_pairUp_3 (by decide) ?_
    refine am_iload_n (q := 101) rfl (am_tab tk_X5_pairUp 4 rfl) rfl ?_
    refine am_i2l (q := 102) (am_tab tk_X5_pairUp 5 rfl) rfl ?_
    refine am_iload_n (q := 103) rfl (am_tab tk_X5_pairUp 6 rfl) rfl ?_
    refine am_i2l (q := 104) (am_tab tk_X5_pairUp 7 rfl) rfl ?_
    refine am_ladd (q := 105) (by omega) (am_tab tk_X5_pairUp 8 rfl) rfl ?_
    refine am_lstore_n (q := 106) (by decide) (ls2 := [(3, am_l ((x + y))), (0, am_i d), (1, am_i x), (2, am_i y)]) rfl (am_tab tk_X5_pairUp 9 rfl) rfl ?_
    refine am_goto (t := 223) (am_tab tk_X5_pairUp 10 rfl) (by decide) ?_
    refine am_less (by intro q hq; simp only [List.mem_cons, List.not_mem_nil, or_false] at hq; rcases hq with rfl | rfl | rfl | rfl <;> simp) (L223 (_ + 1) (x + y) (by exact Nat.lt_succ_self _) (by rw [e3]; unfold jnC; rw [if_pos rfl]) (by omega))
  · refine am_lookup (t := 109) (off := 106) (by decide) (by rw [e3]; rfl) dsw_X5_pairUp_3 (by decide) ?_
    refine am_iload_n (q := 110) rfl (am_tab tk_X5_pairUp 11 rfl) rfl ?_
    refine am_i2l (q := 111) (am_tab tk_X5_pairUp 12 rfl) rfl ?_
    refine am_iload_n (q := 112) rfl (am_tab tk_X5_pairUp 13 rfl) rfl ?_
    refine am_i2l (q := 113) (am_tab tk_X5_pairUp 14 rfl) rfl ?_
    refine am_lsub (q := 114) (by omega) (am_tab tk_X5_pairUp 15 rfl) rfl ?_
    refine am_lstore_n (q := 115) (by decide) (ls2 := [(3, am_l ((x - y))), (0, am_i d), (1, am_i x), (2, am_i y)]) rfl (am_tab tk_X5_pairUp 16 rfl) rfl ?_
    refine am_goto (t := 223) (am_tab tk_X5_pairUp 17 rfl) (by decide) ?_
    refine am_less (by intro q hq; simp only [List.mem_cons, List.not_mem_nil, or_false] at hq; rcases hq with rfl | rfl | rfl | rfl <;> simp) (L223 (_ + 1) (x - y) (by exact Nat.lt_succ_self _) (by rw [e3]; unfold jnC; rw [if_neg (by decide), if_pos rfl]) (by omega))
  · refine am_lookup (t := 127) (off := 124) (by decide) (by rw [e3]; rfl) dsw_X5_pairUp_3 (by decide) ?_
    refine am_iload_n (q := 128) rfl (am_tab tk_X5_pairUp 25 rfl) rfl ?_
    refine am_if_ne (q := 131) (t := 135) (am_tab tk_X5_pairUp 26 rfl) (by decide) rfl (fun h128 => ?_) (fun h128 => ?_)
    · refine am_iload_n (q := 136) rfl (am_tab tk_X5_pairUp 29 rfl) rfl ?_
      refine am_iload_n (q := 137) rfl (am_tab tk_X5_pairUp 30 rfl) rfl ?_
      refine am_callS0 (q := 140) (me2 := M_J9_floorDiv_7cf53) (As := [am_i x, am_i y]) (rest := []) (out := [am_i (flr x y)]) (c_floorDiv σ x y hx hy h128) ⟨rfl, rfl⟩ ⟨Or.inl km_X5_43, kc_J9_floorDiv_7cf53, kn_J9, kd_J9_floorDiv_7cf53, ⟨(Nat.le_of_ble_eq_true rfl), (Nat.le_of_ble_eq_true rfl)⟩, ⟨(Nat.le_of_ble_eq_true rfl), (Nat.le_of_ble_eq_true rfl)⟩, (Nat.le_of_ble_eq_true rfl)⟩ ki_J9_floorDiv_7cf53 rfl rfl (am_tab tk_X5_pairUp 31 rfl) rfl ?_
      refine am_i2l (q := 141) (am_tab tk_X5_pairUp 32 rfl) rfl ?_
      refine am_lstore_n (q := 142) (by decide) (ls2 := [(3, am_l (flr x y)), (0, am_i d), (1, am_i x), (2, am_i y)]) rfl (am_tab tk_X5_pairUp 33 rfl) rfl ?_
      refine am_goto (t := 223) (am_tab tk_X5_pairUp 34 rfl) (by decide) ?_
      refine am_less (by intro q hq; simp only [List.mem_cons, List.not_mem_nil, or_false] at hq; rcases hq with rfl | rfl | rfl | rfl <;> simp) (L223 (_ + 1) (flr x y) (by exact Nat.lt_succ_self _) (by rw [e3]; unfold jnC; rw [if_neg (by decide), if_neg (by decide), if_neg (by decide), if_pos rfl]; exact clp_id (flr_rng hx)) (by have := flr_rng (b := y) hx; omega))
    · refine am_lconst0 (q := 132) (am_tab tk_X5_pairUp 27 rfl) rfl ?_
      refine am_goto (t := 141) (am_tab tk_X5_pairUp 28 rfl) (by decide) ?_
      refine am_lstore_n (q := 142) (by decide) (ls2 := [(3, am_l 0), (0, am_i d), (1, am_i x), (2, am_i y)]) rfl (am_tab tk_X5_pairUp 33 rfl) rfl ?_
      refine am_goto (t := 223) (am_tab tk_X5_pairUp 34 rfl) (by decide) ?_
      refine am_less (by intro q hq; simp only [List.mem_cons, List.not_mem_nil, or_false] at hq; rcases hq with rfl | rfl | rfl | rfl <;> simp) (L223 (_ + 1) 0 (by exact Nat.lt_succ_self _) (by rw [e3]; unfold jnC; rw [if_neg (by decide), if_neg (by decide), if_neg (by decide), if_pos rfl]; unfold flr; rw [if_pos h128]; rfl) (by omega))
  · refine am_lookup (t := 145) (off := 142) (by decide) (by rw [e3]; rfl) dsw_X5_pairUp_3 (by decide) ?_
    refine am_iload_n (q := 146) rfl (am_tab tk_X5_pairUp 35 rfl) rfl ?_
    refine am_iload_n (q := 147) rfl (am_tab tk_X5_pairUp 36 rfl) rfl ?_
    refine am_icmp_ge (q := 150) (t := 154) (am_tab tk_X5_pairUp 37 rfl) (by decide) rfl (fun h147 => ?_) (fun h147 => ?_)
    · refine am_lconst0 (q := 155) (am_tab tk_X5_pairUp 40 rfl) rfl ?_
      refine am_lstore_n (q := 156) (by decide) (ls2 := [(3, am_l 0), (0, am_i d), (1, am_i x), (2, am_i y)]) rfl (am_tab tk_X5_pairUp 41 rfl) rfl ?_
      refine am_goto (t := 223) (am_tab tk_X5_pairUp 42 rfl) (by decide) ?_
      refine am_less (by intro q hq; simp only [List.mem_cons, List.not_mem_nil, or_false] at hq; rcases hq with rfl | rfl | rfl | rfl <;> simp) (L223 (_ + 1) 0 (by exact Nat.lt_succ_self _) (by rw [e3]; unfold jnC; rw [if_neg (by decide), if_neg (by decide), if_neg (by decide), if_neg (by decide), if_neg (by decide), if_neg (by decide), if_pos rfl]; first | (rw [if_pos (by omega)]; rfl) | (rw [if_neg (by omega)]; rfl)) (by omega))
    · refine am_lconst1 (q := 151) (am_tab tk_X5_pairUp 38 rfl) rfl ?_
      refine am_goto (t := 155) (am_tab tk_X5_pairUp 39 rfl) (by decide) ?_
      refine am_lstore_n (q := 156) (by decide) (ls2 := [(3, am_l 1), (0, am_i d), (1, am_i x), (2, am_i y)]) rfl (am_tab tk_X5_pairUp 41 rfl) rfl ?_
      refine am_goto (t := 223) (am_tab tk_X5_pairUp 42 rfl) (by decide) ?_
      refine am_less (by intro q hq; simp only [List.mem_cons, List.not_mem_nil, or_false] at hq; rcases hq with rfl | rfl | rfl | rfl <;> simp) (L223 (_ + 1) 1 (by exact Nat.lt_succ_self _) (by rw [e3]; unfold jnC; rw [if_neg (by decide), if_neg (by decide), if_neg (by decide), if_neg (by decide), if_neg (by decide), if_neg (by decide), if_pos rfl]; first | (rw [if_pos (by omega)]; rfl) | (rw [if_neg (by omega)]; rfl)) (by omega))
  · refine am_lookup (t := 173) (off := 170) (by decide) (by rw [e3]; rfl) dsw_X5_pairUp_3 (by decide) ?_
    refine am_iload_n (q := 174) rfl (am_tab tk_X5_pairUp 51 rfl) rfl ?_
    refine am_iload_n (q := 175) rfl (am_tab tk_X5_pairUp 52 rfl) rfl ?_
    refine am_icmp_ne (q := 178) (t := 182) (am_tab tk_X5_pairUp 53 rfl) (by decide) rfl (fun h175 => ?_) (fun h175 => ?_)
    · refine am_lconst0 (q := 183) (am_tab tk_X5_pairUp 56 rfl) rfl ?_
      refine am_lstore_n (q := 184) (by decide) (ls2 := [(3, am_l 0), (0, am_i d), (1, am_i x), (2, am_i y)]) rfl (am_tab tk_X5_pairUp 57 rfl) rfl ?_
      refine am_goto (t := 223) (am_tab tk_X5_pairUp 58 rfl) (by decide) ?_
      refine am_less (by intro q hq; simp only [List.mem_cons, List.not_mem_nil, or_false] at hq; rcases hq with rfl | rfl | rfl | rfl <;> simp) (L223 (_ + 1) 0 (by exact Nat.lt_succ_self _) (by rw [e3]; unfold jnC; rw [if_neg (by decide), if_neg (by decide), if_neg (by decide), if_neg (by decide), if_neg (by decide), if_neg (by decide), if_neg (by decide), if_neg (by decide), if_pos rfl]; first | (rw [if_pos (by omega)]; rfl) | (rw [if_neg (by omega)]; rfl)) (by omega))
    · refine am_lconst1 (q := 179) (am_tab tk_X5_pairUp 54 rfl) rfl ?_
      refine am_goto (t := 183) (am_tab tk_X5_pairUp 55 rfl) (by decide) ?_
      refine am_lstore_n (q := 184) (by decide) (ls2 := [(3, am_l 1), (0, am_i d), (1, am_i x), (2, am_i y)]) rfl (am_tab tk_X5_pairUp 57 rfl) rfl ?_
      refine am_goto (t := 223) (am_tab tk_X5_pairUp 58 rfl) (by decide) ?_
      refine am_less (by intro q hq; simp only [List.mem_cons, List.not_mem_nil, or_false] at hq; rcases hq with rfl | rfl | rfl | rfl <;> simp) (L223 (_ + 1) 1 (by exact Nat.lt_succ_self _) (by rw [e3]; unfold jnC; rw [if_neg (by decide), if_neg (by decide), if_neg (by decide), if_neg (by decide), if_neg (by decide), if_neg (by decide), if_neg (by decide), if_neg (by decide), if_pos rfl]; first | (rw [if_pos (by omega)]; rfl) | (rw [if_neg (by omega)]; rfl)) (by omega))
  · refine am_lookup (t := 159) (off := 156) (by decide) (by rw [e3]; rfl) dsw_X5_pairUp_3 (by decide) ?_
    refine am_iload_n (q := 160) rfl (am_tab tk_X5_pairUp 43 rfl) rfl ?_
    refine am_iload_n (q := 161) rfl (am_tab tk_X5_pairUp 44 rfl) rfl ?_
    refine am_icmp_le (q := 164) (t := 168) (am_tab tk_X5_pairUp 45 rfl) (by decide) rfl (fun h161 => ?_) (fun h161 => ?_)
    · refine am_lconst0 (q := 169) (am_tab tk_X5_pairUp 48 rfl) rfl ?_
      refine am_lstore_n (q := 170) (by decide) (ls2 := [(3, am_l 0), (0, am_i d), (1, am_i x), (2, am_i y)]) rfl (am_tab tk_X5_pairUp 49 rfl) rfl ?_
      refine am_goto (t := 223) (am_tab tk_X5_pairUp 50 rfl) (by decide) ?_
      refine am_less (by intro q hq; simp only [List.mem_cons, List.not_mem_nil, or_false] at hq; rcases hq with rfl | rfl | rfl | rfl <;> simp) (L223 (_ + 1) 0 (by exact Nat.lt_succ_self _) (by rw [e3]; unfold jnC; rw [if_neg (by decide), if_neg (by decide), if_neg (by decide), if_neg (by decide), if_neg (by decide), if_neg (by decide), if_neg (by decide), if_pos rfl]; first | (rw [if_pos (by omega)]; rfl) | (rw [if_neg (by omega)]; rfl)) (by omega))
    · refine am_lconst1 (q := 165) (am_tab tk_X5_pairUp 46 rfl) rfl ?_
      refine am_goto (t := 169) (am_tab tk_X5_pairUp 47 rfl) (by decide) ?_
      refine am_lstore_n (q := 170) (by decide) (ls2 := [(3, am_l 1), (0, am_i d), (1, am_i x), (2, am_i y)]) rfl (am_tab tk_X5_pairUp 49 rfl) rfl ?_
      refine am_goto (t := 223) (am_tab tk_X5_pairUp 50 rfl) (by decide) ?_
      refine am_less (by intro q hq; simp only [List.mem_cons, List.not_mem_nil, or_false] at hq; rcases hq with rfl | rfl | rfl | rfl <;> simp) (L223 (_ + 1) 1 (by exact Nat.lt_succ_self _) (by rw [e3]; unfold jnC; rw [if_neg (by decide), if_neg (by decide), if_neg (by decide), if_neg (by decide), if_neg (by decide), if_neg (by decide), if_neg (by decide), if_pos rfl]; first | (rw [if_pos (by omega)]; rfl) | (rw [if_neg (by omega)]; rfl)) (by omega))
  · refine am_lookup (t := 195) (off := 192) (by decide) (by rw [e3]; rfl) dsw_X5_pairUp_3 (by decide) ?_
    refine am_iload_n (q := 196) rfl (am_tab tk_X5_pairUp 65 rfl) rfl ?_
    refine am_iload_n (q := 197) rfl (am_tab tk_X5_pairUp 66 rfl) rfl ?_
    refine am_ior (q := 198) (am_tab tk_X5_pairUp 67 rfl) rfl ?_
    refine am_i2l (q := 199) (am_tab tk_X5_pairUp 68 rfl) rfl ?_
    refine am_lstore_n (q := 200) (by decide) (ls2 := [(3, am_l ((ao_or x y))), (0, am_i d), (1, am_i x), (2, am_i y)]) rfl (am_tab tk_X5_pairUp 69 rfl) rfl ?_
    refine am_goto (t := 223) (am_tab tk_X5_pairUp 70 rfl) (by decide) ?_
    refine am_less (by intro q hq; simp only [List.mem_cons, List.not_mem_nil, or_false] at hq; rcases hq with rfl | rfl | rfl | rfl <;> simp) (L223 (_ + 1) (ao_or x y) (by exact Nat.lt_succ_self _) (by rw [e3]; unfold jnC; rw [if_neg (by decide), if_neg (by decide), if_neg (by decide), if_neg (by decide), if_neg (by decide), if_neg (by decide), if_neg (by decide), if_neg (by decide), if_neg (by decide), if_neg (by decide), if_pos rfl]; rcases (hb (by omega)).1 with h | h <;> rcases (hb (by omega)).2 with g | g <;> rw [h, g] <;> decide) (by rcases (hb (by omega)).1 with h | h <;> rcases (hb (by omega)).2 with g | g <;> rw [h, g] <;> decide))
  · refine am_lookup (t := 187) (off := 184) (by decide) (by rw [e3]; rfl) dsw_X5_pairUp_3 (by decide) ?_
    refine am_iload_n (q := 188) rfl (am_tab tk_X5_pairUp 59 rfl) rfl ?_
    refine am_iload_n (q := 189) rfl (am_tab tk_X5_pairUp 60 rfl) rfl ?_
    refine am_iand (q := 190) (am_tab tk_X5_pairUp 61 rfl) rfl ?_
    refine am_i2l (q := 191) (am_tab tk_X5_pairUp 62 rfl) rfl ?_
    refine am_lstore_n (q := 192) (by decide) (ls2 := [(3, am_l ((ao_and x y))), (0, am_i d), (1, am_i x), (2, am_i y)]) rfl (am_tab tk_X5_pairUp 63 rfl) rfl ?_
    refine am_goto (t := 223) (am_tab tk_X5_pairUp 64 rfl) (by decide) ?_
    refine am_less (by intro q hq; simp only [List.mem_cons, List.not_mem_nil, or_false] at hq; rcases hq with rfl | rfl | rfl | rfl <;> simp) (L223 (_ + 1) (ao_and x y) (by exact Nat.lt_succ_self _) (by rw [e3]; unfold jnC; rw [if_neg (by decide), if_neg (by decide), if_neg (by decide), if_neg (by decide), if_neg (by decide), if_neg (by decide), if_neg (by decide), if_neg (by decide), if_neg (by decide), if_pos rfl]; rcases (hb (by omega)).1 with h | h <;> rcases (hb (by omega)).2 with g | g <;> rw [h, g] <;> decide) (by rcases (hb (by omega)).1 with h | h <;> rcases (hb (by omega)).2 with g | g <;> rw [h, g] <;> decide))
  · refine am_lookup (t := 203) (off := 200) (by decide) (by rw [e3]; rfl) dsw_X5_pairUp_3 (by decide) ?_
    refine am_iload_n (q := 204) rfl (am_tab tk_X5_pairUp 71 rfl) rfl ?_
    refine am_iload_n (q := 205) rfl (am_tab tk_X5_pairUp 72 rfl) rfl ?_
    refine am_callS0 (q := 208) (me2 := M_J9_min_7cf53) (As := [am_i x, am_i y]) (rest := []) (out := [am_i (min x y)]) (c_min σ x y) ⟨rfl, rfl⟩ ⟨Or.inl km_X5_46, kc_J9_min_7cf53, kn_J9, kd_J9_min_7cf53, ⟨(Nat.le_of_ble_eq_true rfl), (Nat.le_of_ble_eq_true rfl)⟩, ⟨(Nat.le_of_ble_eq_true rfl), (Nat.le_of_ble_eq_true rfl)⟩, (Nat.le_of_ble_eq_true rfl)⟩ ki_J9_min_7cf53 rfl rfl (am_tab tk_X5_pairUp 73 rfl) rfl ?_
    refine am_i2l (q := 209) (am_tab tk_X5_pairUp 74 rfl) rfl ?_
    refine am_lstore_n (q := 210) (by decide) (ls2 := [(3, am_l (min x y)), (0, am_i d), (1, am_i x), (2, am_i y)]) rfl (am_tab tk_X5_pairUp 75 rfl) rfl ?_
    refine am_goto (t := 223) (am_tab tk_X5_pairUp 76 rfl) (by decide) ?_
    refine am_less (by intro q hq; simp only [List.mem_cons, List.not_mem_nil, or_false] at hq; rcases hq with rfl | rfl | rfl | rfl <;> simp) (L223 (_ + 1) (min x y) (by exact Nat.lt_succ_self _) (by rw [e3]; unfold jnC; rw [if_neg (by decide), if_neg (by decide), if_neg (by decide), if_neg (by decide), if_pos rfl]; rw [clp_id (by omega)]; split <;> omega) (by omega))
  · refine am_lookup (t := 213) (off := 210) (by decide) (by rw [e3]; rfl) dsw_X5_pairUp_3 (by decide) ?_
    refine am_iload_n (q := 214) rfl (am_tab tk_X5_pairUp 77 rfl) rfl ?_
    refine am_iload_n (q := 215) rfl (am_tab tk_X5_pairUp 78 rfl) rfl ?_
    refine am_callS0 (q := 218) (me2 := M_J9_max_7cf53) (As := [am_i x, am_i y]) (rest := []) (out := [am_i (max x y)]) (c_max σ x y) ⟨rfl, rfl⟩ ⟨Or.inl km_X5_9, kc_J9_max_7cf53, kn_J9, kd_J9_max_7cf53, ⟨(Nat.le_of_ble_eq_true rfl), (Nat.le_of_ble_eq_true rfl)⟩, ⟨(Nat.le_of_ble_eq_true rfl), (Nat.le_of_ble_eq_true rfl)⟩, (Nat.le_of_ble_eq_true rfl)⟩ ki_J9_max_7cf53 rfl rfl (am_tab tk_X5_pairUp 79 rfl) rfl ?_
    refine am_i2l (q := 219) (am_tab tk_X5_pairUp 80 rfl) rfl ?_
    refine am_lstore_n (q := 220) (by decide) (ls2 := [(3, am_l (max x y)), (0, am_i d), (1, am_i x), (2, am_i y)]) rfl (am_tab tk_X5_pairUp 81 rfl) rfl ?_
    refine am_goto (t := 223) (am_tab tk_X5_pairUp 82 rfl) (by decide) ?_
    refine am_less (by intro q hq; simp only [List.mem_cons, List.not_mem_nil, or_false] at hq; rcases hq with rfl | rfl | rfl | rfl <;> simp) (L223 (_ + 1) (max x y) (by exact Nat.lt_succ_self _) (by rw [e3]; unfold jnC; rw [if_neg (by decide), if_neg (by decide), if_neg (by decide), if_neg (by decide), if_neg (by decide), if_pos rfl]; rw [clp_id (by omega)]; split <;> omega) (by omega))
  · omega
