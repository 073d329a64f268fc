/-- what these ask together -/
def coM (σ : am_H) (set : Int) : Int := sumN (fun p => if tb set p = 1 then σ.2.1 88 (8 + p) else 0) (pN σ)
theorem coM_rng {σ : am_H} (hR : MR σ) (set : Int) : 0 ≤ coM σ set ∧ coM σ set ≤ 800 := by
  have h8 := pN_8 hR
  have h := sumN_rng (g := fun p => if tb set p = 1 then σ.2.1 88 (8 + p) else 0) (B := 99) (pN σ) (fun i hi => by
    have := hR.ask i (by omega)
    split <;> omega)
  unfold coM
  omega
theorem c_cost2 (σ : am_H) (hG : GD σ) {n : Nat} (S : am_H) (hD : DS σ n S) (set : Int) (hset : 0 ≤ set ∧ set < 256) : am_met M_X10_costOf [am_r 55, am_i set] S (fun r τ => r = some (am_i (coM σ set)) ∧ τ = S) := by
  have e88 : ∀ j, S.2.1 88 j = σ.2.1 88 j := fun j => hD.1.2.2 88 j (by unfold W_ah; omega)
  have h := c_X10_costOf S hD.2.2.1.L set (pN σ) ((hD.1.2.2 85 5 (by unfold W_ah; omega)).trans (pN_eq hG.R)) (pN_8 hG.R) hset (fun q hq => by rw [e88]; exact hG.R.ask q (by have := pN_8 hG.R; omega))
  simp only [e88] at h
  exact h
def cosM (σ : am_H) (n : Int) : Int := if (1 ≤ n ∧ n ≤ 120) ∧ n ≤ dlM σ then coM σ (sfD (itS (n.toNat - 1) σ)) else -1
theorem c_X10_costs (σ : am_H) (hG : GD σ) (n : Int)  : am_met M_X10_costs [am_r 55, am_i n] σ (fun r σ' => r = some (am_i (cosM σ n)) ∧ PQ σ σ') := by
  refine am_qq (fun Q hQ => ?_)
  refine am_enter (show plainFor yX10_costs = true by decide +kernel) rfl (Nat.le_of_ble_eq_true rfl) (fun _ _ _ => trivial) ?_
  have hL := hG.L
  have hD90 : 0 ≤ σ.2.1 96 1 ∧ σ.2.1 96 1 ≤ 90 := ⟨hG.R.day.1, by have := hG.R.day; have := hG.R.Y; omega⟩
  refine am_aload_n (q := 1) rfl (am_tab tk_X10_costs 0 rfl) rfl ?_
  refine am_iload_n (q := 2) rfl (am_tab tk_X10_costs 1 rfl) rfl ?_
  refine am_callV0 (q := 5) (me2 := M_X10_isAhead) (b := 55) (kb := 10) (nb := 108) (As := [am_i n]) (rest := []) (out := [am_i (if (1 ≤ n ∧ n ≤ 120) ∧ n ≤ dlM σ then 1 else 0)]) (c_X10_isAhead σ hG.L n hG.R.year hD90 hG.R.Y) ⟨rfl, rfl⟩ (Ls_55 hL) (by decide) ⟨Or.inl km_X10_509, kc_X10_isAhead, kn_X10, kd_X10_isAhead, ⟨(Nat.le_of_ble_eq_true rfl), (Nat.le_of_ble_eq_true rfl)⟩, ⟨(Nat.le_of_ble_eq_true rfl), (Nat.le_of_ble_eq_true rfl)⟩, (Nat.le_of_ble_eq_true rfl)⟩ ki_X10_isAhead ks_X10_isAhead rfl rfl (am_tab tk_X10_costs 2 rfl) rfl ?_
  refine am_if_ne (q := 8) (t := 10) (am_tab tk_X10_costs 3 rfl) (by decide) rfl (fun h5 => ?_) (fun h5 => ?_)
  · replace h5 := b01n h5
    refine am_aload_n (q := 11) rfl (am_tab tk_X10_costs 6 rfl) rfl ?_
    refine am_callVr (q := 14) (me2 := M_X10_putsAside) (b := 55) (kb := 10) (nb := 108) (As := []) (rest := []) (c_aside σ hG) ⟨rfl, rfl⟩ (Ls_55 hL) (by decide) ⟨Or.inl km_X10_514, kc_X10_putsAside, kn_X10, kd_X10_putsAside, ⟨(Nat.le_of_ble_eq_true rfl), (Nat.le_of_ble_eq_true rfl)⟩, ⟨(Nat.le_of_ble_eq_true rfl), (Nat.le_of_ble_eq_true rfl)⟩, (Nat.le_of_ble_eq_true rfl)⟩ ki_X10_putsAside ks_X10_putsAside rfl (am_tab tk_X10_costs 7 rfl) rfl ?_
    rintro r S0 ⟨rfl, hD0⟩
    refine am_st (st2 := []) rfl ?_
    refine am_aload_n (q := 15) rfl (am_tab tk_X10_costs 8 rfl) rfl ?_
    refine am_iload_n (q := 16) rfl (am_tab tk_X10_costs 9 rfl) rfl ?_
    refine am_callVr (q := 19) (me2 := M_X10_daysGo) (b := 55) (kb := 10) (nb := 108) (As := [am_i n]) (rest := []) (c_X10_daysGo σ hG S0 hD0 n (n.toNat) (by omega) (by omega) (by omega)) ⟨rfl, rfl⟩ (Ls_55 hD0.2.2.1.L) (by decide) ⟨Or.inl km_X10_517, kc_X10_daysGo, kn_X10, kd_X10_daysGo, ⟨(Nat.le_of_ble_eq_true rfl), (Nat.le_of_ble_eq_true rfl)⟩, ⟨(Nat.le_of_ble_eq_true rfl), (Nat.le_of_ble_eq_true rfl)⟩, (Nat.le_of_ble_eq_true rfl)⟩ ki_X10_daysGo ks_X10_daysGo rfl (am_tab tk_X10_costs 10 rfl) rfl ?_
    rintro r S1 ⟨rfl, hD1, hLD1⟩
    replace hLD1 := hLD1 (n.toNat - 1) (by omega)
    refine am_st (st2 := []) rfl ?_
    refine am_aload_n (q := 20) rfl (am_tab tk_X10_costs 11 rfl) rfl ?_
    refine am_aload_n (q := 21) rfl (am_tab tk_X10_costs 12 rfl) rfl ?_
    refine am_getI (q := 24) (a := 55) (k := 10) (n := 108) (j := 60) (x := (sfD (itS (n.toNat - 1) σ))) (Ls_55 hD1.2.2.1.L) (by decide) rfl hLD1.1 (by decide) (Or.inl kf_X10_455) (am_tab tk_X10_costs 13 rfl) rfl ?_
    refine am_callV0 (q := 27) (me2 := M_X10_costOf) (b := 55) (kb := 10) (nb := 108) (As := [am_i ((sfD (itS (n.toNat - 1) σ)))]) (rest := []) (out := [am_i (coM σ (sfD (itS (n.toNat - 1) σ)))]) (c_cost2 σ hG S1 hD1 (sfD (itS (n.toNat - 1) σ)) (sfD_rng (itS_GD hG _ (by omega)).1 (itS_cc hG (by omega)))) ⟨rfl, rfl⟩ (Ls_55 hD1.2.2.1.L) (by decide) ⟨Or.inl km_X10_528, kc_X10_costOf, kn_X10, kd_X10_costOf, ⟨(Nat.le_of_ble_eq_true rfl), (Nat.le_of_ble_eq_true rfl)⟩, ⟨(Nat.le_of_ble_eq_true rfl), (Nat.le_of_ble_eq_true rfl)⟩, (Nat.le_of_ble_eq_true rfl)⟩ ki_X10_costOf ks_X10_costOf rfl rfl (am_tab tk_X10_costs 14 rfl) rfl ?_
    refine am_istore_n (q := 28) (by decide) (ls2 := [(2, am_i (coM σ (sfD (itS (n.toNat - 1) σ)))), (0, am_r 55), (1, am_i n)]) rfl (am_tab tk_X10_costs 15 rfl) rfl ?_
    refine am_aload_n (q := 29) rfl (am_tab tk_X10_costs 16 rfl) rfl ?_
    refine am_callVr (q := 32) (me2 := M_X10_takesBack) (b := 55) (kb := 10) (nb := 108) (As := []) (rest := []) (c_back σ hG (n.toNat) (by omega) S1 hD1) ⟨rfl, rfl⟩ (Ls_55 hD1.2.2.1.L) (by decide) ⟨Or.inl km_X10_520, kc_X10_takesBack, kn_X10, kd_X10_takesBack, ⟨(Nat.le_of_ble_eq_true rfl), (Nat.le_of_ble_eq_true rfl)⟩, ⟨(Nat.le_of_ble_eq_true rfl), (Nat.le_of_ble_eq_true rfl)⟩, (Nat.le_of_ble_eq_true rfl)⟩ ki_X10_takesBack ks_X10_takesBack rfl (am_tab tk_X10_costs 17 rfl) rfl ?_
    rintro r S9 ⟨rfl, hP9⟩
    refine am_st (st2 := []) rfl ?_
    refine am_iload_n (q := 33) rfl (am_tab tk_X10_costs 18 rfl) rfl ?_
    refine am_iret (Or.inl rfl) (Nat.le_of_ble_eq_true rfl) (Nat.le_of_ble_eq_true rfl) (am_tab tk_X10_costs 19 rfl) ?_
    refine hQ _ _ ?_
    refine ⟨congrArg (fun z => some (am_i z)) ?_, hP9⟩
    unfold cosM
    rw [if_pos (by omega)]
  · replace h5 := b01z h5
    refine am_iconst (q := 9) (n := (-1)) (by decide) (am_tab tk_X10_costs 4 rfl) rfl ?_
    refine am_iret (Or.inl rfl) (Nat.le_of_ble_eq_true rfl) (Nat.le_of_ble_eq_true rfl) (am_tab tk_X10_costs 5 rfl) ?_
    refine hQ _ _ ?_
    refine ⟨congrArg (fun z => some (am_i z)) ?_, PQ.refl hG⟩
    unfold cosM
    rw [if_neg (by omega)]
def dv : Nat → Int → Int
  | 0, v => v
  | n + 1, v => (dv n v).tdiv 100
theorem dv_rng {v : Int} (h : 0 ≤ v) : ∀ n, 0 ≤ dv n v ∧ 100 ^ n * dv n v ≤ v
  | 0 => ⟨h, by show 1 * v ≤ v; omega⟩
  | n + 1 => by
    have ih := dv_rng h n
    have e : dv (n + 1) v = dv n v / 100 := Int.tdiv_eq_ediv_of_nonneg ih.1
    have h1 : 100 * (dv n v / 100) ≤ dv n v := by omega
    rw [e]
    refine ⟨by omega, ?_⟩
    rw [Int.pow_succ, Int.mul_assoc]
    exact Int.le_trans (Int.mul_le_mul_of_nonneg_left h1 (Int.pow_nonneg (by omega))) ih.2
theorem p100 {s : Int} (h : 0 ≤ s ∧ s ≤ 100) : ∀ i : Nat, 0 ≤ s ^ i ∧ s ^ i ≤ 100 ^ i
  | 0 => by simp
  | i + 1 => by
    have ih := p100 h i
    rw [Int.pow_succ, Int.pow_succ]
    exact ⟨Int.mul_nonneg ih.1 h.1, Int.mul_le_mul ih.2 h.2 h.1 (Int.pow_nonneg (by omega))⟩
theorem c100 : ∀ i : Nat, i ≤ 8 → (100 : Int) ^ i ≤ 10000000000000000 := by decide
theorem q100 : ∀ i : Nat, i ≤ 3 → (100 : Int) ^ i ≤ 1000000 := by decide
theorem r100 {s : Int} (h : 0 ≤ s ∧ s ≤ 100) (k m : Nat) : 0 ≤ s ^ k * 100 ^ m ∧ s ^ k * 100 ^ m ≤ 100 ^ (k + m) := by
  have h1 := p100 h k
  have h2 : (0 : Int) ≤ 100 ^ m := Int.pow_nonneg (by omega)
  rw [Int.pow_add]
  exact ⟨Int.mul_nonneg h1.1 h2, Int.mul_le_mul_of_nonneg_right h1.2 h2⟩
/-- so many forget, each with s of a hundred: in millionths -/
def slV (s : Int) (k : Nat) : Int := dv (k - 3) (s ^ k * 100 ^ (3 - k))
theorem slV_rng {s : Int} (h : 0 ≤ s ∧ s ≤ 100) : ∀ {k : Nat}, k ≤ 8 → 0 ≤ slV s k ∧ slV s k ≤ 1000000 := by
  intro k hk
  have h1 := r100 h k (3 - k)
  have h2 := dv_rng h1.1 (k - 3)
  unfold slV
  refine ⟨h2.1, ?_⟩
  have h3 := Int.le_trans h2.2 h1.2
  generalize dv (k - 3) (s ^ k * 100 ^ (3 - k)) = D at *
  rcases (show k = 0 ∨ k = 1 ∨ k = 2 ∨ k = 3 ∨ k = 4 ∨ k = 5 ∨ k = 6 ∨ k = 7 ∨ k = 8 by omega) with rfl | rfl | rfl | rfl | rfl | rfl | rfl | rfl | rfl <;> simp at h3 <;> omega
def slpM (σ : am_H) (n : Int) : Int := if (1 ≤ n ∧ n ≤ 120) ∧ n ≤ dlM σ then slV (σ.2.1 92 2) (bc (sfD (itS (n.toNat - 1) σ))).toNat else -1
theorem c_X10_slips (σ : am_H) (hG : GD σ) (n : Int)  : am_met M_X10_slips [am_r 55, am_i n] σ (fun r σ' => r = some (am_i (slpM σ n)) ∧ PQ σ σ') := by
  refine am_qq (fun Q hQ => ?_)
  refine am_enter (show plainFor yX10_slips = true by decide +kernel) rfl (Nat.le_of_ble_eq_true rfl) (fun _ _ _ => trivial) ?_
  have hL := hG.L
  have hD90 : 0 ≤ σ.2.1 96 1 ∧ σ.2.1 96 1 ≤ 90 := ⟨hG.R.day.1, by have := hG.R.day; have := hG.R.Y; omega⟩
  have hsl := hG.R.slip
  refine am_aload_n (q := 1) rfl (am_tab tk_X10_slips 0 rfl) rfl ?_
  refine am_iload_n (q := 2) rfl (am_tab tk_X10_slips 1 rfl) rfl ?_
  refine am_callV0 (q := 5) (me2 := M_X10_isAhead) (b := 55) (kb := 10) (nb := 108) (As := [am_i n]) (rest := []) (out := [am_i (if (1 ≤ n ∧ n ≤ 120) ∧ n ≤ dlM σ then 1 else 0)]) (c_X10_isAhead σ hG.L n hG.R.year hD90 hG.R.Y) ⟨rfl, rfl⟩ (Ls_55 hL) (by decide) ⟨Or.inl km_X10_509, kc_X10_isAhead, kn_X10, kd_X10_isAhead, ⟨(Nat.le_of_ble_eq_true rfl), (Nat.le_of_ble_eq_true rfl)⟩, ⟨(Nat.le_of_ble_eq_true rfl), (Nat.le_of_ble_eq_true rfl)⟩, (Nat.le_of_ble_eq_true rfl)⟩ ki_X10_isAhead ks_X10_isAhead rfl rfl (am_tab tk_X10_slips 2 rfl) rfl ?_
  refine am_if_ne (q := 8) (t := 10) (am_tab tk_X10_slips 3 rfl) (by decide) rfl (fun h5 => ?_) (fun h5 => ?_)
  · replace h5 := b01n h5
    refine am_aload_n (q := 11) rfl (am_tab tk_X10_slips 6 rfl) rfl ?_
    refine am_callVr (q := 14) (me2 := M_X10_putsAside) (b := 55) (kb := 10) (nb := 108) (As := []) (rest := []) (c_aside σ hG) ⟨rfl, rfl⟩ (Ls_55 hL) (by decide) ⟨Or.inl km_X10_514, kc_X10_putsAside, kn_X10, kd_X10_putsAside, ⟨(Nat.le_of_ble_eq_true rfl), (Nat.le_of_ble_eq_true rfl)⟩, ⟨(Nat.le_of_ble_eq_true rfl), (Nat.le_of_ble_eq_true rfl)⟩, (Nat.le_of_ble_eq_true rfl)⟩ ki_X10_putsAside ks_X10_putsAside rfl (am_tab tk_X10_slips 7 rfl) rfl ?_
    rintro r S0 ⟨rfl, hD0⟩
    refine am_st (st2 := []) rfl ?_
    refine am_aload_n (q := 15) rfl (am_tab tk_X10_slips 8 rfl) rfl ?_
    refine am_iload_n (q := 16) rfl (am_tab tk_X10_slips 9 rfl) rfl ?_
    refine am_callVr (q := 19) (me2 := M_X10_daysGo) (b := 55) (kb := 10) (nb := 108) (As := [am_i n]) (rest := []) (c_X10_daysGo σ hG S0 hD0 n (n.toNat) (by omega) (by omega) (by omega)) ⟨rfl, rfl⟩ (Ls_55 hD0.2.2.1.L) (by decide) ⟨Or.inl km_X10_517, kc_X10_daysGo, kn_X10, kd_X10_daysGo, ⟨(Nat.le_of_ble_eq_true rfl), (Nat.le_of_ble_eq_true rfl)⟩, ⟨(Nat.le_of_ble_eq_true rfl), (Nat.le_of_ble_eq_true rfl)⟩, (Nat.le_of_ble_eq_true rfl)⟩ ki_X10_daysGo ks_X10_daysGo rfl (am_tab tk_X10_slips 10 rfl) rfl ?_
    rintro r S1 ⟨rfl, hD1, hLD1⟩
    replace hLD1 := hLD1 (n.toNat - 1) (by omega)
    refine am_st (st2 := []) rfl ?_
    refine am_aload_n (q := 20) rfl (am_tab tk_X10_slips 11 rfl) rfl ?_
    refine am_getI (q := 23) (a := 55) (k := 10) (n := 108) (j := 60) (x := (sfD (itS (n.toNat - 1) σ))) (Ls_55 hD1.2.2.1.L) (by decide) rfl hLD1.1 (by decide) (Or.inl kf_X10_455) (am_tab tk_X10_slips 12 rfl) rfl ?_
    refine am_callS0 (q := 26) (me2 := M_X10_bits) (As := [am_i ((sfD (itS (n.toNat - 1) σ)))]) (rest := []) (out := [am_i (bc (sfD (itS (n.toNat - 1) σ)))]) (c_X10_bits S1 hD1.2.2.1.L (sfD (itS (n.toNat - 1) σ)) (sfD_rng (itS_GD hG _ (by omega)).1 (itS_cc hG (by omega)))) ⟨rfl, rfl⟩ ⟨Or.inl km_X10_473, kc_X10_bits, kn_X10, kd_X10_bits, ⟨(Nat.le_of_ble_eq_true rfl), (Nat.le_of_ble_eq_true rfl)⟩, ⟨(Nat.le_of_ble_eq_true rfl), (Nat.le_of_ble_eq_true rfl)⟩, (Nat.le_of_ble_eq_true rfl)⟩ ki_X10_bits rfl rfl (am_tab tk_X10_slips 13 rfl) rfl ?_
    refine am_istore_n (q := 27) (by decide) (ls2 := [(2, am_i (bc (sfD (itS (n.toNat - 1) σ)))), (0, am_r 55), (1, am_i n)]) rfl (am_tab tk_X10_slips 14 rfl) rfl ?_
    refine am_aload_n (q := 28) rfl (am_tab tk_X10_slips 15 rfl) rfl ?_
    refine am_callVr (q := 31) (me2 := M_X10_takesBack) (b := 55) (kb := 10) (nb := 108) (As := []) (rest := []) (c_back σ hG (n.toNat) (by omega) S1 hD1) ⟨rfl, rfl⟩ (Ls_55 hD1.2.2.1.L) (by decide) ⟨Or.inl km_X10_520, kc_X10_takesBack, kn_X10, kd_X10_takesBack, ⟨(Nat.le_of_ble_eq_true rfl), (Nat.le_of_ble_eq_true rfl)⟩, ⟨(Nat.le_of_ble_eq_true rfl), (Nat.le_of_ble_eq_true rfl)⟩, (Nat.le_of_ble_eq_true rfl)⟩ ki_X10_takesBack ks_X10_takesBack rfl (am_tab tk_X10_slips 16 rfl) rfl ?_
    rintro r S9 ⟨rfl, hP9⟩
    refine am_st (st2 := []) rfl ?_
    refine am_lconst1 (q := 32) (am_tab tk_X10_slips 17 rfl) rfl ?_
    refine am_lstore_n (q := 33) (by decide) (ls2 := [(3, am_l 1), (2, am_i (bc (sfD (itS (n.toNat - 1) σ)))), (0, am_r 55), (1, am_i n)]) rfl (am_tab tk_X10_slips 18 rfl) rfl ?_
    refine am_iconst (q := 34) (n := 0) (by decide) (am_tab tk_X10_slips 19 rfl) rfl ?_
    refine am_istore (q := 36) (by decide) (ls2 := [(5, am_i 0), (3, am_l 1), (2, am_i (bc (sfD (itS (n.toNat - 1) σ)))), (0, am_r 55), (1, am_i n)]) rfl (am_tab tk_X10_slips 20 rfl) rfl ?_
    have hK := bits_get (sfD_rng (itS_GD hG (n.toNat - 1) (by omega)).1 (itS_cc hG (by omega)))
    obtain ⟨K, hKe⟩ : ∃ K : Nat, bc (sfD (itS (n.toNat - 1) σ)) = (K : Int) := ⟨(bc (sfD (itS (n.toNat - 1) σ))).toNat, by omega⟩
    have L36 : ∀ (n36 : Nat) (i : Nat), K - i < n36 → i ≤ K → am_wp M_X10_slips Q 0 0 36 [(5, am_i ((i : Int))), (3, am_l ((σ.2.1 92 2) ^ i)), (2, am_i (bc (sfD (itS (n.toNat - 1) σ)))), (0, am_r 55), (1, am_i n)] [] S9 := by
      intro n36
      induction n36 with
      | zero => intro i hn36; exact absurd hn36 (Nat.not_lt_zero _)
      | succ n36 ih36 =>
        intro i hn36 hi
        have hp := p100 hsl i
        have hp1 := p100 hsl (i + 1)
        have ep : (σ.2.1 92 2) ^ (i + 1) = (σ.2.1 92 2) ^ i * (σ.2.1 92 2) := Int.pow_succ _ _
        refine am_iload (q := 38) rfl (am_tab tk_X10_slips 21 rfl) rfl ?_
        refine am_iload_n (q := 39) rfl (am_tab tk_X10_slips 22 rfl) rfl ?_
        refine am_icmp_ge (q := 42) (t := 58) (am_tab tk_X10_slips 23 rfl) (by decide) rfl (fun h39 => ?_) (fun h39 => ?_)
        · refine am_iload_n (q := 59) rfl (am_tab tk_X10_slips 34 rfl) rfl ?_
          refine am_istore (q := 61) (by decide) (ls2 := [(5, am_i (bc (sfD (itS (n.toNat - 1) σ)))), (3, am_l ((σ.2.1 92 2) ^ i)), (2, am_i (bc (sfD (itS (n.toNat - 1) σ)))), (0, am_r 55), (1, am_i n)]) rfl (am_tab tk_X10_slips 35 rfl) rfl ?_
          have L61 : ∀ (n61 : Nat) (i : Nat), 3 - i < n61 → K ≤ i → i ≤ 3 ∨ i = K → am_wp M_X10_slips Q 0 0 61 [(5, am_i ((i : Int))), (3, am_l ((σ.2.1 92 2) ^ K * 100 ^ (i - K))), (2, am_i (bc (sfD (itS (n.toNat - 1) σ)))), (0, am_r 55), (1, am_i n)] [] S9 := by
            intro n61
            induction n61 with
            | zero => intro i hn61; exact absurd hn61 (Nat.not_lt_zero _)
            | succ n61 ih61 =>
              intro i hn61 hi hi3
              have hq := r100 hsl K (i - K)
              refine am_iload (q := 63) rfl (am_tab tk_X10_slips 36 rfl) rfl ?_
              refine am_iconst (q := 64) (n := 3) (by decide) (am_tab tk_X10_slips 37 rfl) rfl ?_
              refine am_icmp_ge (q := 67) (t := 79) (am_tab tk_X10_slips 38 rfl) (by decide) rfl (fun h64 => ?_) (fun h64 => ?_)
              · refine am_iconst (q := 80) (n := 3) (by decide) (am_tab tk_X10_slips 45 rfl) rfl ?_
                refine am_istore (q := 82) (by decide) (ls2 := [(5, am_i 3), (3, am_l ((σ.2.1 92 2) ^ K * 100 ^ (i - K))), (2, am_i (bc (sfD (itS (n.toNat - 1) σ)))), (0, am_r 55), (1, am_i n)]) rfl (am_tab tk_X10_slips 46 rfl) rfl ?_
                have L82 : ∀ (n82 : Nat) (j : Nat), K - j < n82 → 3 ≤ j → j ≤ K ∨ j = 3 → am_wp M_X10_slips Q 0 0 82 [(5, am_i ((j : Int))), (3, am_l (dv (j - 3) ((σ.2.1 92 2) ^ K * 100 ^ (3 - K)))), (2, am_i (bc (sfD (itS (n.toNat - 1) σ)))), (0, am_r 55), (1, am_i n)] [] S9 := by
                  intro n82
                  induction n82 with
                  | zero => intro j hn82; exact absurd hn82 (Nat.not_lt_zero _)
                  | succ n82 ih82 =>
                    intro j hn82 hj hj2
                    have hq2 := r100 hsl K (3 - K)
                    have hdv := dv_rng hq2.1 (j - 3)
                    refine am_iload (q := 84) rfl (am_tab tk_X10_slips 47 rfl) rfl ?_
                    refine am_iload_n (q := 85) rfl (am_tab tk_X10_slips 48 rfl) rfl ?_
                    refine am_icmp_ge (q := 88) (t := 100) (am_tab tk_X10_slips 49 rfl) (by decide) rfl (fun h85 => ?_) (fun h85 => ?_)
                    · refine am_lload_n (q := 101) rfl (am_tab tk_X10_slips 56 rfl) rfl ?_
                      refine am_l2i (q := 102) (y := slV (σ.2.1 92 2) K) (by unfold slV; rw [show j - 3 = K - 3 by omega]; have h9 := slV_rng hsl (k := K) (by omega); unfold slV at h9; exact (l2i_eq (x := dv (K - 3) (σ.2.1 92 2 ^ K * 100 ^ (3 - K))) (by omega)).symm) (am_tab tk_X10_slips 57 rfl) rfl ?_
                      refine am_iret (Or.inl rfl) (Nat.le_of_ble_eq_true rfl) (Nat.le_of_ble_eq_true rfl) (am_tab tk_X10_slips 58 rfl) ?_
                      refine hQ _ _ ?_
                      refine ⟨congrArg (fun z => some (am_i z)) ?_, hP9⟩
                      unfold slpM
                      rw [if_pos (by omega), hKe, Int.toNat_natCast]
                    · refine am_lload_n (q := 89) rfl (am_tab tk_X10_slips 50 rfl) rfl ?_
                      refine am_ldc2 (q := 92) (n := 100) (by decide) kk_X10_526 (am_tab tk_X10_slips 51 rfl) rfl ?_
                      refine am_ldiv (q := 93) (by omega) (by omega) (am_tab tk_X10_slips 52 rfl) rfl ?_
                      refine am_lstore_n (q := 94) (by decide) (ls2 := [(3, am_l ((Int.tdiv (dv (j - 3) ((σ.2.1 92 2) ^ K * 100 ^ (3 - K))) 100))), (5, am_i ((j : Int))), (2, am_i (bc (sfD (itS (n.toNat - 1) σ)))), (0, am_r 55), (1, am_i n)]) rfl (am_tab tk_X10_slips 53 rfl) rfl ?_
                      refine am_iinc (q := 97) rfl (by omega) (by decide) (ls2 := [(5, am_i (((j : Int) + 1))), (3, am_l ((Int.tdiv (dv (j - 3) ((σ.2.1 92 2) ^ K * 100 ^ (3 - K))) 100))), (2, am_i (bc (sfD (itS (n.toNat - 1) σ)))), (0, am_r 55), (1, am_i n)]) rfl (am_tab tk_X10_slips 54 rfl) rfl ?_
                      refine am_goto (t := 82) (am_tab tk_X10_slips 55 rfl) (by decide) ?_
                      rw [show Int.tdiv (dv (j - 3) ((σ.2.1 92 2) ^ K * 100 ^ (3 - K))) 100 = dv (j + 1 - 3) ((σ.2.1 92 2) ^ K * 100 ^ (3 - K)) by rw [show j + 1 - 3 = j - 3 + 1 by omega]; rfl]
                      exact am_less (by intro q hq; simp only [List.mem_cons, List.not_mem_nil, or_false] at hq; rcases hq with rfl | rfl | rfl | rfl | rfl <;> simp) (ih82 (j + 1) (by omega) (by omega) (by omega))
                have e3 : i - K = 3 - K := by omega
                rw [e3]
                refine am_less (by intro q hq; simp only [List.mem_cons, List.not_mem_nil, or_false] at hq; rcases hq with rfl | rfl | rfl | rfl | rfl <;> simp [dv]) (L82 (_ + 1) 3 (by exact Nat.lt_succ_self _) (by omega) (by omega))
              · refine am_lload_n (q := 68) rfl (am_tab tk_X10_slips 39 rfl) rfl ?_
                refine am_ldc2 (q := 71) (n := 100) (by decide) kk_X10_526 (am_tab tk_X10_slips 40 rfl) rfl ?_
                refine am_lmul (q := 72) (by have := q100 (K + (i - K)) (by omega); omega) (am_tab tk_X10_slips 41 rfl) rfl ?_
                refine am_lstore_n (q := 73) (by decide) (ls2 := [(3, am_l ((((σ.2.1 92 2) ^ K * 100 ^ (i - K)) * 100))), (5, am_i ((i : Int))), (2, am_i (bc (sfD (itS (n.toNat - 1) σ)))), (0, am_r 55), (1, am_i n)]) rfl (am_tab tk_X10_slips 42 rfl) rfl ?_
                refine am_iinc (q := 76) rfl (by omega) (by decide) (ls2 := [(5, am_i (((i : Int) + 1))), (3, am_l ((((σ.2.1 92 2) ^ K * 100 ^ (i - K)) * 100))), (2, am_i (bc (sfD (itS (n.toNat - 1) σ)))), (0, am_r 55), (1, am_i n)]) rfl (am_tab tk_X10_slips 43 rfl) rfl ?_
                refine am_goto (t := 61) (am_tab tk_X10_slips 44 rfl) (by decide) ?_
                rw [show ((σ.2.1 92 2) ^ K * 100 ^ (i - K)) * 100 = (σ.2.1 92 2) ^ K * 100 ^ (i + 1 - K) by rw [show i + 1 - K = i - K + 1 by omega, Int.pow_succ, Int.mul_assoc]]
                exact am_less (by intro q hq; simp only [List.mem_cons, List.not_mem_nil, or_false] at hq; rcases hq with rfl | rfl | rfl | rfl | rfl <;> simp) (ih61 (i + 1) (by omega) (by omega) (by omega))
          have eK : i = K := by omega
          refine am_less (by intro q hq; simp only [List.mem_cons, List.not_mem_nil, or_false] at hq; rcases hq with rfl | rfl | rfl | rfl | rfl <;> simp [hKe, eK]) (L61 (_ + 1) K (by exact Nat.lt_succ_self _) (by omega) (by omega))
        · refine am_lload_n (q := 43) rfl (am_tab tk_X10_slips 24 rfl) rfl ?_
          refine am_aload_n (q := 44) rfl (am_tab tk_X10_slips 25 rfl) rfl ?_
          refine am_getR (q := 47) (a := 55) (k := 10) (n := 108) (j := 46) (r := some (92)) (Ls_55 hP9.2.L) (by decide) rfl (Lr_55_46 hP9.2.L) (by decide) (Or.inl kf_X10_124) (am_tab tk_X10_slips 26 rfl) rfl ?_
          refine am_iconst (q := 48) (n := 2) (by decide) (am_tab tk_X10_slips 27 rfl) rfl ?_
          refine am_iald (q := 49) (a := 92) (n := 4) (x := (σ.2.1 92 2)) (Ls_92 hP9.2.L) (by omega) (by omega) (hP9.1.2.2 92 2 (by unfold W_pub; omega)) (am_tab tk_X10_slips 28 rfl) rfl ?_
          refine am_i2l (q := 50) (am_tab tk_X10_slips 29 rfl) rfl ?_
          refine am_lmul (q := 51) (by rw [← ep]; have := c100 (i + 1) (by omega); omega) (am_tab tk_X10_slips 30 rfl) rfl ?_
          refine am_lstore_n (q := 52) (by decide) (ls2 := [(3, am_l ((((σ.2.1 92 2) ^ i) * (σ.2.1 92 2)))), (5, am_i ((i : Int))), (2, am_i (bc (sfD (itS (n.toNat - 1) σ)))), (0, am_r 55), (1, am_i n)]) rfl (am_tab tk_X10_slips 31 rfl) rfl ?_
          refine am_iinc (q := 55) rfl (by omega) (by decide) (ls2 := [(5, am_i (((i : Int) + 1))), (3, am_l ((((σ.2.1 92 2) ^ i) * (σ.2.1 92 2)))), (2, am_i (bc (sfD (itS (n.toNat - 1) σ)))), (0, am_r 55), (1, am_i n)]) rfl (am_tab tk_X10_slips 32 rfl) rfl ?_
          refine am_goto (t := 36) (am_tab tk_X10_slips 33 rfl) (by decide) ?_
          rw [← ep]
          exact am_less (by intro q hq; simp only [List.mem_cons, List.not_mem_nil, or_false] at hq; rcases hq with rfl | rfl | rfl | rfl | rfl <;> simp) (ih36 (i + 1) (by omega) (by omega))
    refine am_less (by intro q hq; simp only [List.mem_cons, List.not_mem_nil, or_false] at hq; rcases hq with rfl | rfl | rfl | rfl | rfl <;> simp) (L36 (_ + 1) 0 (by exact Nat.lt_succ_self _) (by omega))
  · replace h5 := b01z h5
    refine am_iconst (q := 9) (n := (-1)) (by decide) (am_tab tk_X10_slips 4 rfl) rfl ?_
    refine am_iret (Or.inl rfl) (Nat.le_of_ble_eq_true rfl) (Nat.le_of_ble_eq_true rfl) (am_tab tk_X10_slips 5 rfl) ?_
    refine hQ _ _ ?_
    refine ⟨congrArg (fun z => some (am_i z)) ?_, PQ.refl hG⟩
    unfold slpM
    rw [if_neg (by omega)]
