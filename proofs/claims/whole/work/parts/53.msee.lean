def nzF : Nat → Int → Int
  | 0, _ => 0
  | f + 1, z => if 0 < z then nzF f (z.tdiv 27) + 1 else 0
def dq : Nat → Int → Int
  | 0, v => v
  | m + 1, v => (dq m v).tdiv 27
theorem nzF_rng : ∀ (f : Nat) (z : Int), 0 ≤ nzF f z ∧ nzF f z ≤ f
  | 0, _ => by unfold nzF; omega
  | f + 1, z => by
    have := nzF_rng f (z.tdiv 27)
    unfold nzF
    split <;> omega
theorem dq_rng {v : Int} (h : 0 ≤ v ∧ v < 387420489) : ∀ m, 0 ≤ dq m v ∧ dq m v < 387420489
  | 0 => h
  | m + 1 => by
    have ih := dq_rng h m
    have e : dq (m + 1) v = dq m v / 27 := Int.tdiv_eq_ediv_of_nonneg ih.1
    omega
/-- letter k of a name, told by the model's number of it -/
def ltM (v k : Int) : Int := if nzF 6 v ≤ k then 0 else (dq (nzF 6 v - 1 - k).toNat v).tmod 27
def letM (σ : am_H) (p k : Int) : Int := if (0 ≤ p ∧ p ≤ σ.2.1 85 5 - 1) ∧ (0 ≤ k ∧ k ≤ 5) then ltM (σ.2.1 86 (Int.toNat (8 + p))) k else -1
theorem c_X10_letter (σ : am_H) (hG : GD σ) (p : Int) (k : Int) (hnm : (∀ q : Nat, q < 8 → 0 ≤ σ.2.1 86 (8 + q) ∧ σ.2.1 86 (8 + q) < 387420489)) : am_met M_X10_letter [am_r 55, am_i p, am_i k] σ (fun r σ' => r = some (am_i (letM σ p k)) ∧ σ' = σ) := by
  refine am_qq (fun Q hQ => ?_)
  refine am_enter (show plainFor yX10_letter = true by decide +kernel) rfl (Nat.le_of_ble_eq_true rfl) (fun _ _ _ => trivial) ?_
  have hL := hG.L
  have hP := hG.R.P
  refine am_aload_n (q := 1) rfl (am_tab tk_X10_letter 0 rfl) rfl ?_
  refine am_iload_n (q := 2) rfl (am_tab tk_X10_letter 1 rfl) rfl ?_
  refine am_callV0 (q := 5) (me2 := M_X10_isPerson) (b := 55) (kb := 10) (nb := 108) (As := [am_i p]) (rest := []) (out := [am_i (if 0 ≤ p ∧ p ≤ σ.2.1 85 5 - 1 then 1 else 0)]) (c_X10_isPerson σ hL p hP) ⟨rfl, rfl⟩ (Ls_55 hL) (by decide) ⟨Or.inl km_X10_490, kc_X10_isPerson, kn_X10, kd_X10_isPerson, ⟨(Nat.le_of_ble_eq_true rfl), (Nat.le_of_ble_eq_true rfl)⟩, ⟨(Nat.le_of_ble_eq_true rfl), (Nat.le_of_ble_eq_true rfl)⟩, (Nat.le_of_ble_eq_true rfl)⟩ ki_X10_isPerson ks_X10_isPerson rfl rfl (am_tab tk_X10_letter 2 rfl) rfl ?_
  refine am_if_eq (q := 8) (t := 20) (am_tab tk_X10_letter 3 rfl) (by decide) rfl (fun h5 => ?_) (fun h5 => ?_)
  · replace h5 := b01z h5
    refine am_iconst (q := 21) (n := (-1)) (by decide) (am_tab tk_X10_letter 10 rfl) rfl ?_
    refine am_iret (Or.inl rfl) (Nat.le_of_ble_eq_true rfl) (Nat.le_of_ble_eq_true rfl) (am_tab tk_X10_letter 11 rfl) ?_
    refine hQ _ _ ?_
    refine ⟨congrArg (fun z => some (am_i z)) ?_, rfl⟩
    unfold letM
    rw [if_neg (by intro hx; first | exact absurd hx.1 (by assumption) | exact absurd hx.2 (by assumption))]
  · replace h5 := b01n h5
    refine am_iload_n (q := 9) rfl (am_tab tk_X10_letter 4 rfl) rfl ?_
    refine am_i2l (q := 10) (am_tab tk_X10_letter 5 rfl) rfl ?_
    refine am_lconst0 (q := 11) (am_tab tk_X10_letter 6 rfl) rfl ?_
    refine am_ldc2 (q := 14) (n := 5) (by decide) kk_X10_493 (am_tab tk_X10_letter 7 rfl) rfl ?_
    refine am_callS0 (q := 17) (me2 := M_X10_isIn) (As := [am_l k, am_l 0, am_l 5]) (rest := []) (out := [am_i (if 0 ≤ k ∧ k ≤ 5 then 1 else 0)]) (c_X10_isIn σ hL k 0 5 ) ⟨rfl, rfl⟩ ⟨Or.inl km_X10_291, kc_X10_isIn, kn_X10, kd_X10_isIn, ⟨(Nat.le_of_ble_eq_true rfl), (Nat.le_of_ble_eq_true rfl)⟩, ⟨(Nat.le_of_ble_eq_true rfl), (Nat.le_of_ble_eq_true rfl)⟩, (Nat.le_of_ble_eq_true rfl)⟩ ki_X10_isIn rfl rfl (am_tab tk_X10_letter 8 rfl) rfl ?_
    refine am_if_ne (q := 20) (t := 22) (am_tab tk_X10_letter 9 rfl) (by decide) rfl (fun h17 => ?_) (fun h17 => ?_)
    · replace h17 := b01n h17
      refine am_aload_n (q := 23) rfl (am_tab tk_X10_letter 12 rfl) rfl ?_
      refine am_getR (q := 26) (a := 55) (k := 10) (n := 108) (j := 40) (r := some (86)) (Ls_55 hL) (by decide) rfl (Lr_55_40 hL) (by decide) (Or.inl kf_X10_105) (am_tab tk_X10_letter 13 rfl) rfl ?_
      refine am_bipush (q := 28) (n := 8) (by decide) rfl (am_tab tk_X10_letter 14 rfl) rfl ?_
      refine am_iload_n (q := 29) rfl (am_tab tk_X10_letter 15 rfl) rfl ?_
      refine am_iadd (q := 30) (by omega) (am_tab tk_X10_letter 16 rfl) rfl ?_
      refine am_lald (q := 31) (a := 86) (n := 16) (x := (σ.2.1 86 (Int.toNat (8 + p)))) (Ls_86 hL) (by omega) (by omega) rfl (am_tab tk_X10_letter 17 rfl) rfl ?_
      refine am_lstore_n (q := 32) (by decide) (ls2 := [(3, am_l ((σ.2.1 86 (Int.toNat (8 + p))))), (0, am_r 55), (1, am_i p), (2, am_i k)]) rfl (am_tab tk_X10_letter 18 rfl) rfl ?_
      have hv : 0 ≤ (σ.2.1 86 (Int.toNat (8 + p))) ∧ (σ.2.1 86 (Int.toNat (8 + p))) < 387420489 := by
        have h9 := hnm p.toNat (by omega)
        rw [show 8 + p.toNat = Int.toNat (8 + p) by omega] at h9
        exact h9
      have hnr := nzF_rng 6 (σ.2.1 86 (Int.toNat (8 + p)))
      refine am_iconst (q := 33) (n := 0) (by decide) (am_tab tk_X10_letter 19 rfl) rfl ?_
      refine am_istore (q := 35) (by decide) (ls2 := [(5, am_i 0), (3, am_l ((σ.2.1 86 (Int.toNat (8 + p))))), (0, am_r 55), (1, am_i p), (2, am_i k)]) rfl (am_tab tk_X10_letter 20 rfl) rfl ?_
      refine am_lload_n (q := 36) rfl (am_tab tk_X10_letter 21 rfl) rfl ?_
      refine am_lstore (q := 38) (by decide) (ls2 := [(6, am_l ((σ.2.1 86 (Int.toNat (8 + p))))), (5, am_i 0), (3, am_l ((σ.2.1 86 (Int.toNat (8 + p))))), (0, am_r 55), (1, am_i p), (2, am_i k)]) rfl (am_tab tk_X10_letter 22 rfl) rfl ?_
      have L38 : ∀ (n38 : Nat) (f : Nat) (z : Int) (n : Int), f < n38 → 0 ≤ z → z < 27 ^ f → 0 ≤ n → n + f = 6 → n + nzF f z = nzF 6 (σ.2.1 86 (Int.toNat (8 + p))) → am_wp M_X10_letter Q 0 0 38 [(6, am_l z), (5, am_i n), (3, am_l ((σ.2.1 86 (Int.toNat (8 + p))))), (0, am_r 55), (1, am_i p), (2, am_i k)] [] σ := by
        intro n38
        induction n38 with
        | zero => intro f z n hn38; exact absurd hn38 (Nat.not_lt_zero _)
        | succ n38 ih38 =>
          intro f z n hn38 hz hz27 hn hnf hs0
          have hdz : Int.tdiv z 27 = z / 27 := Int.tdiv_eq_ediv_of_nonneg hz
          refine am_lload (q := 40) rfl (am_tab tk_X10_letter 23 rfl) rfl ?_
          refine am_lconst0 (q := 41) (am_tab tk_X10_letter 24 rfl) rfl ?_
          refine am_lcmp (q := 42) (am_tab tk_X10_letter 25 rfl) rfl ?_
          refine am_if_le (q := 45) (t := 59) (am_tab tk_X10_letter 26 rfl) (by decide) rfl (fun h42 => ?_) (fun h42 => ?_)
          · rw [ao_cmp_le] at h42
            refine am_iload_n (q := 60) rfl (am_tab tk_X10_letter 33 rfl) rfl ?_
            refine am_iload (q := 62) rfl (am_tab tk_X10_letter 34 rfl) rfl ?_
            refine am_icmp_lt (q := 65) (t := 67) (am_tab tk_X10_letter 35 rfl) (by decide) rfl (fun h62 => ?_) (fun h62 => ?_)
            · refine am_iload (q := 69) rfl (am_tab tk_X10_letter 38 rfl) rfl ?_
              refine am_iconst (q := 70) (n := 1) (by decide) (am_tab tk_X10_letter 39 rfl) rfl ?_
              refine am_isub (q := 71) (by omega) (am_tab tk_X10_letter 40 rfl) rfl ?_
              refine am_istore (q := 73) (by decide) (ls2 := [(6, am_i ((n - 1))), (5, am_i n), (3, am_l ((σ.2.1 86 (Int.toNat (8 + p))))), (0, am_r 55), (1, am_i p), (2, am_i k)]) rfl (am_tab tk_X10_letter 41 rfl) rfl ?_
              have hnn : n = nzF 6 (σ.2.1 86 (Int.toNat (8 + p))) := by
                have h9 : nzF f z = 0 := by
                  cases f with
                  | zero => rfl
                  | succ f => show (if 0 < z then _ else _) = _; rw [if_neg (by omega)]
                omega
              have L73 : ∀ (n73 : Nat) (m : Nat), 6 - m < n73 → k ≤ n - 1 - (m : Int) → am_wp M_X10_letter Q 0 0 73 [(6, am_i ((n - 1 - (m : Int)))), (3, am_l (dq m (σ.2.1 86 (Int.toNat (8 + p))))), (5, am_i n), (0, am_r 55), (1, am_i p), (2, am_i k)] [] σ := by
                intro n73
                induction n73 with
                | zero => intro m hn73; exact absurd hn73 (Nat.not_lt_zero _)
                | succ n73 ih73 =>
                  intro m hn73 hm
                  have hdq := dq_rng hv m
                  refine am_iload (q := 75) rfl (am_tab tk_X10_letter 42 rfl) rfl ?_
                  refine am_iload_n (q := 76) rfl (am_tab tk_X10_letter 43 rfl) rfl ?_
                  refine am_icmp_le (q := 79) (t := 91) (am_tab tk_X10_letter 44 rfl) (by decide) rfl (fun h76 => ?_) (fun h76 => ?_)
                  · refine am_lload_n (q := 92) rfl (am_tab tk_X10_letter 51 rfl) rfl ?_
                    refine am_ldc2 (q := 95) (n := 27) (by decide) kk_X10_302 (am_tab tk_X10_letter 52 rfl) rfl ?_
                    refine am_lrem (q := 96) (by omega) (by omega) (am_tab tk_X10_letter 53 rfl) rfl ?_
                    refine am_l2i (q := 97) (y := Int.tmod (dq m (σ.2.1 86 (Int.toNat (8 + p)))) 27) (l2i_eq (by have h1 := Int.tmod_nonneg (a := dq m (σ.2.1 86 (Int.toNat (8 + p)))) 27 hdq.1; have h2 := Int.tmod_lt_of_pos (dq m (σ.2.1 86 (Int.toNat (8 + p)))) (b := 27) (by omega); omega)).symm (am_tab tk_X10_letter 54 rfl) rfl ?_
                    refine am_iret (Or.inl rfl) (Nat.le_of_ble_eq_true rfl) (Nat.le_of_ble_eq_true rfl) (am_tab tk_X10_letter 55 rfl) ?_
                    refine hQ _ _ ?_
                    refine ⟨congrArg (fun z => some (am_i z)) ?_, rfl⟩
                    unfold letM
                    rw [if_pos ⟨h5, h17⟩]
                    unfold ltM
                    rw [if_neg (by omega), show (nzF 6 (σ.2.1 86 (Int.toNat (8 + p))) - 1 - k).toNat = m by omega]
                  · refine am_lload_n (q := 80) rfl (am_tab tk_X10_letter 45 rfl) rfl ?_
                    refine am_ldc2 (q := 83) (n := 27) (by decide) kk_X10_302 (am_tab tk_X10_letter 46 rfl) rfl ?_
                    refine am_ldiv (q := 84) (by omega) (by omega) (am_tab tk_X10_letter 47 rfl) rfl ?_
                    refine am_lstore_n (q := 85) (by decide) (ls2 := [(3, am_l ((Int.tdiv (dq m (σ.2.1 86 (Int.toNat (8 + p)))) 27))), (6, am_i ((n - 1 - (m : Int)))), (5, am_i n), (0, am_r 55), (1, am_i p), (2, am_i k)]) rfl (am_tab tk_X10_letter 48 rfl) rfl ?_
                    refine am_iinc (q := 88) rfl (by omega) (by decide) (ls2 := [(6, am_i (((n - 1 - (m : Int)) + (-1)))), (3, am_l ((Int.tdiv (dq m (σ.2.1 86 (Int.toNat (8 + p)))) 27))), (5, am_i n), (0, am_r 55), (1, am_i p), (2, am_i k)]) rfl (am_tab tk_X10_letter 49 rfl) rfl ?_
                    refine am_goto (t := 73) (am_tab tk_X10_letter 50 rfl) (by decide) ?_
                    rw [show (n - 1 - (m : Int)) + (-1) = n - 1 - ((m + 1 : Nat) : Int) by omega, show Int.tdiv (dq m (σ.2.1 86 (Int.toNat (8 + p)))) 27 = dq (m + 1) (σ.2.1 86 (Int.toNat (8 + p))) from rfl]
                    exact am_less (by intro q hq; simp only [List.mem_cons, List.not_mem_nil, or_false] at hq; rcases hq with rfl | rfl | rfl | rfl | rfl | rfl <;> simp) (ih73 (m + 1) (by omega) (by omega))
              refine am_less (by intro q hq; simp only [List.mem_cons, List.not_mem_nil, or_false] at hq; rcases hq with rfl | rfl | rfl | rfl | rfl | rfl <;> simp [dq]) (L73 (_ + 1) 0 (by exact Nat.lt_succ_self _) (by omega))
            · refine am_iconst (q := 66) (n := 0) (by decide) (am_tab tk_X10_letter 36 rfl) rfl ?_
              refine am_iret (Or.inl rfl) (Nat.le_of_ble_eq_true rfl) (Nat.le_of_ble_eq_true rfl) (am_tab tk_X10_letter 37 rfl) ?_
              refine hQ _ _ ?_
              refine ⟨congrArg (fun z => some (am_i z)) ?_, rfl⟩
              unfold letM
              rw [if_pos ⟨h5, h17⟩]
              unfold ltM
              have h9 : nzF f z = 0 := by
                cases f with
                | zero => rfl
                | succ f => show (if 0 < z then _ else _) = _; rw [if_neg (by omega)]
              rw [if_pos (by omega)]
          · rw [ao_cmp_le] at h42
            refine am_iinc (q := 48) rfl (by omega) (by decide) (ls2 := [(5, am_i ((n + 1))), (6, am_l z), (3, am_l ((σ.2.1 86 (Int.toNat (8 + p))))), (0, am_r 55), (1, am_i p), (2, am_i k)]) rfl (am_tab tk_X10_letter 27 rfl) rfl ?_
            refine am_lload (q := 50) rfl (am_tab tk_X10_letter 28 rfl) rfl ?_
            refine am_ldc2 (q := 53) (n := 27) (by decide) kk_X10_302 (am_tab tk_X10_letter 29 rfl) rfl ?_
            refine am_ldiv (q := 54) (by omega) (by omega) (am_tab tk_X10_letter 30 rfl) rfl ?_
            refine am_lstore (q := 56) (by decide) (ls2 := [(6, am_l ((Int.tdiv z 27))), (5, am_i ((n + 1))), (3, am_l ((σ.2.1 86 (Int.toNat (8 + p))))), (0, am_r 55), (1, am_i p), (2, am_i k)]) rfl (am_tab tk_X10_letter 31 rfl) rfl ?_
            refine am_goto (t := 38) (am_tab tk_X10_letter 32 rfl) (by decide) ?_
            have hf1 : 1 ≤ f := by
              rcases Nat.eq_zero_or_pos f with h9 | h9
              · rw [h9] at hz27; simp at hz27; omega
              · exact h9
            obtain ⟨g, hg⟩ : ∃ g, f = g + 1 := ⟨f - 1, by omega⟩
            have hz2 : Int.tdiv z 27 < 27 ^ (f - 1) := by
              rw [hg, show (27 : Int) ^ (g + 1) = 27 ^ g * 27 from Int.pow_succ _ _] at hz27
              rw [hdz, hg, Nat.add_sub_cancel]
              omega
            have hs1 : nzF f z = nzF (f - 1) (Int.tdiv z 27) + 1 := by
              rw [hg, Nat.add_sub_cancel]
              show (if 0 < z then _ else _) = _
              rw [if_pos (by omega)]
            exact am_less (by intro q hq; simp only [List.mem_cons, List.not_mem_nil, or_false] at hq; rcases hq with rfl | rfl | rfl | rfl | rfl | rfl <;> simp) (ih38 (f - 1) (Int.tdiv z 27) (n + 1) (by omega) (by omega) hz2 (by omega) (by omega) (by omega))
      refine am_less (by intro q hq; simp only [List.mem_cons, List.not_mem_nil, or_false] at hq; rcases hq with rfl | rfl | rfl | rfl | rfl | rfl <;> simp) (L38 (_ + 1) 6 (σ.2.1 86 (Int.toNat (8 + p))) 0 (by exact Nat.lt_succ_self _) (by omega) (by simp; omega) (by omega) (by omega) (by omega))
    · replace h17 := b01z h17
      refine am_iconst (q := 21) (n := (-1)) (by decide) (am_tab tk_X10_letter 10 rfl) rfl ?_
      refine am_iret (Or.inl rfl) (Nat.le_of_ble_eq_true rfl) (Nat.le_of_ble_eq_true rfl) (am_tab tk_X10_letter 11 rfl) ?_
      refine hQ _ _ ?_
      refine ⟨congrArg (fun z => some (am_i z)) ?_, rfl⟩
      unfold letM
      rw [if_neg (by intro hx; first | exact absurd hx.1 (by assumption) | exact absurd hx.2 (by assumption))]
/-- the tape's ranges -/
def TPR (σ : am_H) : Prop := (0 ≤ σ.2.1 55 1 ∧ σ.2.1 55 1 ≤ 1600) ∧ (∀ j : Nat, j < 1600 → 0 ≤ σ.2.1 56 j ∧ σ.2.1 56 j ≤ 255)
def seB (σ : am_H) (k : Nat) : Bool := decide (¬ (((0 ≤ σ.2.1 56 (2 * k) ∧ σ.2.1 56 (2 * k) ≤ σ.2.1 85 5 - 1) ∧ ¬ σ.2.1 96 (12 + σ.2.1 56 (2 * k)).toNat = 1) ∧ σ.2.1 56 (2 * k + 1) < 2))
/-- the tape is what can be seen: n rows -/
def seC (σ : am_H) : Prop := (0 < σ.2.1 55 1 ∧ σ.2.1 55 1 % 2 = 0 ∧ σ.2.1 55 1 ≤ 16) ∧ anyB (seB σ) (σ.2.1 55 1 / 2).toNat = false
def seH (σ : am_H) : am_H := am_setN (am_setA (am_setN σ 55 1 0) 100 (fun j => if j < (σ.2.1 55 1).toNat then σ.2.1 56 j else σ.2.1 100 j)) 55 65 (σ.2.1 55 1 / 2)
theorem anyB_mem {g : Nat → Bool} : ∀ {n : Nat}, anyB g n = true → ∃ i, i < n ∧ g i = true
  | 0, h => by simp [anyB] at h
  | n + 1, h => by
    unfold anyB at h
    by_cases hg : g n = true
    · exact ⟨n, by omega, hg⟩
    · simp [hg] at h
      obtain ⟨i, h1, h2⟩ := anyB_mem h
      exact ⟨i, by omega, h2⟩
theorem anyB_up {g : Nat → Bool} {m n : Nat} (h : m ≤ n) (hm : anyB g n = false) : anyB g m = false := by
  rcases hx : anyB g m with _ | _
  · rfl
  · obtain ⟨i, h1, h2⟩ := anyB_mem hx
    rw [anyB_t h2 (show i < n by omega)] at hm
    exact absurd hm (by simp)
theorem c_X10_see (σ : am_H) (hG : GD σ)  (hT : TPR σ) (hr : 0 ≤ σ.2.1 57 1 ∧ σ.2.1 57 1 ≤ 100000) : am_met M_X10_see [am_r 55] σ (fun r σ' => (seC σ ∧ r = some (am_i (σ.2.1 55 1 / 2)) ∧ σ' = seH σ) ∨ (¬ seC σ ∧ r = some (am_i (-1)) ∧ σ' = am_setN (am_setN σ 55 1 0) 57 1 (σ.2.1 57 1 + 1))) := by
  refine am_qq (fun Q hQ => ?_)
  refine am_enter (show plainFor yX10_see = true by decide +kernel) rfl (Nat.le_of_ble_eq_true rfl) (fun _ _ _ => trivial) ?_
  have hL := hG.L
  have hP := hG.R.P
  have hT1 := hT.1
  have htm : Int.tmod (σ.2.1 55 1) 2 = σ.2.1 55 1 % 2 := Int.tmod_eq_emod_of_nonneg hT1.1
  have htd : Int.tdiv (σ.2.1 55 1) 2 = σ.2.1 55 1 / 2 := Int.tdiv_eq_ediv_of_nonneg hT1.1
  refine am_aload_n (q := 1) rfl (am_tab tk_X10_see 0 rfl) rfl ?_
  refine am_getI (q := 4) (a := 55) (k := 10) (n := 108) (j := 1) (x := (σ.2.1 55 1)) (Ls_55 hL) (by decide) rfl rfl (by decide) (Or.inl kf_X10_245) (am_tab tk_X10_see 1 rfl) rfl ?_
  refine am_istore_n (q := 5) (by decide) (ls2 := [(1, am_i ((σ.2.1 55 1))), (0, am_r 55)]) rfl (am_tab tk_X10_see 2 rfl) rfl ?_
  refine am_aload_n (q := 6) rfl (am_tab tk_X10_see 3 rfl) rfl ?_
  refine am_iconst (q := 7) (n := 0) (by decide) (am_tab tk_X10_see 4 rfl) rfl ?_
  refine am_putI (q := 10) (k := 10) (n := 108) (j := 1) (Ls_55 hL) (by decide) rfl (by decide) (Or.inl ⟨kf_X10_245, rfl⟩) (am_tab tk_X10_see 5 rfl) rfl ?_
  have L36 : ∀ (n36 : Nat) (k : Nat) (fl : Int), 2000 - k < n36 → (2 * (k : Int)) ≤ σ.2.1 55 1 + 1 → ((fl = 1 ∧ (0 < σ.2.1 55 1 ∧ σ.2.1 55 1 % 2 = 0) ∧ σ.2.1 55 1 ≤ 17 ∧ anyB (seB σ) k = false) ∨ (fl = 0 ∧ ¬ seC σ)) → am_wp M_X10_see Q 0 0 36 [(3, am_i ((2 * (k : Int)))), (2, am_i fl), (1, am_i ((σ.2.1 55 1))), (0, am_r 55)] [] (am_setN σ 55 1 0) := by
    intro n36
    induction n36 with
    | zero => intro k fl hn36; exact absurd hn36 (Nat.not_lt_zero _)
    | succ n36 ih36 =>
      intro k fl hn36 hk hfl
      refine am_iload_n (q := 37) rfl (am_tab tk_X10_see 23 rfl) rfl ?_
      refine am_iload_n (q := 38) rfl (am_tab tk_X10_see 24 rfl) rfl ?_
      refine am_icmp_ge (q := 41) (t := 95) (am_tab tk_X10_see 25 rfl) (by decide) rfl (fun h38 => ?_) (fun h38 => ?_)
      · refine am_iload_n (q := 96) rfl (am_tab tk_X10_see 56 rfl) rfl ?_
        refine am_if_ne (q := 99) (t := 111) (am_tab tk_X10_see 57 rfl) (by decide) rfl (fun h96 => ?_) (fun h96 => ?_)
        · refine am_iconst (q := 112) (n := 0) (by decide) (am_tab tk_X10_see 68 rfl) rfl ?_
          refine am_istore_n (q := 113) (by decide) (ls2 := [(3, am_i 0), (2, am_i fl), (1, am_i ((σ.2.1 55 1))), (0, am_r 55)]) rfl (am_tab tk_X10_see 69 rfl) rfl ?_
          have hyes : seC σ := by
            rcases hfl with h9 | h9
            · exact ⟨⟨h9.2.1.1, h9.2.1.2, by omega⟩, by rw [show (σ.2.1 55 1 / 2).toNat = k by omega]; exact h9.2.2.2⟩
            · exact absurd h9.1 h96
          have hy2 := hyes.1
          have L113 : ∀ (n113 : Nat) (j : Nat), 17 - j < n113 → (j : Int) ≤ σ.2.1 55 1 → am_wp M_X10_see Q 0 0 113 [(3, am_i ((j : Int))), (1, am_i ((σ.2.1 55 1))), (0, am_r 55), (2, am_i fl)] [] (am_setA (am_setN σ 55 1 0) 100 (fun q => if q < j then σ.2.1 56 q else σ.2.1 100 q)) := by
            intro n113
            induction n113 with
            | zero => intro j hn113; exact absurd hn113 (Nat.not_lt_zero _)
            | succ n113 ih113 =>
              intro j hn113 hj
              refine am_iload_n (q := 114) rfl (am_tab tk_X10_see 70 rfl) rfl ?_
              refine am_iload_n (q := 115) rfl (am_tab tk_X10_see 71 rfl) rfl ?_
              refine am_icmp_ge (q := 118) (t := 136) (am_tab tk_X10_see 72 rfl) (by decide) rfl (fun h115 => ?_) (fun h115 => ?_)
              · refine am_aload_n (q := 137) rfl (am_tab tk_X10_see 83 rfl) rfl ?_
                refine am_iload_n (q := 138) rfl (am_tab tk_X10_see 84 rfl) rfl ?_
                refine am_iconst (q := 139) (n := 2) (by decide) (am_tab tk_X10_see 85 rfl) rfl ?_
                refine am_idiv (q := 140) (by omega) (by omega) (am_tab tk_X10_see 86 rfl) rfl ?_
                refine am_putI (q := 143) (k := 10) (n := 108) (j := 65) (Ls_55 hL) (by decide) rfl (by decide) (Or.inl ⟨kf_X10_391, rfl⟩) (am_tab tk_X10_see 87 rfl) rfl ?_
                refine am_aload_n (q := 144) rfl (am_tab tk_X10_see 88 rfl) rfl ?_
                refine am_getI (q := 147) (a := 55) (k := 10) (n := 108) (j := 65) (x := (Int.tdiv (σ.2.1 55 1) 2)) (Ls_55 hL) (by decide) rfl rfl (by decide) (Or.inl kf_X10_391) (am_tab tk_X10_see 89 rfl) rfl ?_
                refine am_iret (Or.inl rfl) (Nat.le_of_ble_eq_true rfl) (Nat.le_of_ble_eq_true rfl) (am_tab tk_X10_see 90 rfl) ?_
                refine hQ _ _ ?_
                refine Or.inl ⟨hyes, congrArg (fun z => some (am_i z)) htd, ?_⟩
                unfold seH
                rw [show j = (σ.2.1 55 1).toNat by omega, htd]
              · refine am_aload_n (q := 119) rfl (am_tab tk_X10_see 73 rfl) rfl ?_
                refine am_getR (q := 122) (a := 55) (k := 10) (n := 108) (j := 66) (r := some (100)) (Ls_55 hL) (by decide) rfl (Lr_55_66 hL) (by decide) (Or.inl kf_X10_148) (am_tab tk_X10_see 74 rfl) rfl ?_
                refine am_iload_n (q := 123) rfl (am_tab tk_X10_see 75 rfl) rfl ?_
                refine am_aload_n (q := 124) rfl (am_tab tk_X10_see 76 rfl) rfl ?_
                refine am_getR (q := 127) (a := 55) (k := 10) (n := 108) (j := 0) (r := some (56)) (Ls_55 hL) (by decide) rfl (Lr_55_0 hL) (by decide) (Or.inl kf_X10_7) (am_tab tk_X10_see 77 rfl) rfl ?_
                refine am_iload_n (q := 128) rfl (am_tab tk_X10_see 78 rfl) rfl ?_
                refine am_iald (q := 129) (a := 56) (n := 1600) (x := (σ.2.1 56 j)) (Ls_56 hL) (by omega) (by omega) (by rw [show Int.toNat (j : Int) = j by omega]; rfl) (am_tab tk_X10_see 79 rfl) rfl ?_
                refine am_iast (q := 130) (a := 100) (n := 16) (Ls_100 hL) (by omega) (by omega) (am_tab tk_X10_see 80 rfl) rfl ?_
                refine am_iinc (q := 133) rfl (by omega) (by decide) (ls2 := [(3, am_i (((j : Int) + 1))), (1, am_i ((σ.2.1 55 1))), (0, am_r 55), (2, am_i fl)]) rfl (am_tab tk_X10_see 81 rfl) rfl ?_
                refine am_goto (t := 113) (am_tab tk_X10_see 82 rfl) (by decide) ?_
                refine am_hp2 (σ1 := am_setA (am_setN σ 55 1 0) 100 (fun q => if q < j + 1 then σ.2.1 56 q else σ.2.1 100 q)) ?_ ?_
                · rw [show Int.toNat (j : Int) = j by omega, am_setA_N]; congr 1; funext q; repeat' split
                  all_goals first | rfl | omega | (rename_i h9 _; subst h9; rfl)
                exact am_less (by intro q hq; simp only [List.mem_cons, List.not_mem_nil, or_false] at hq; rcases hq with rfl | rfl | rfl | rfl <;> simp) (ih113 (j + 1) (by omega) (by omega))
          refine am_hp2 (σ1 := am_setA (am_setN σ 55 1 0) 100 (fun q => if q < 0 then σ.2.1 56 q else σ.2.1 100 q)) ?_ ?_
          · rw [show (fun q => if q < 0 then σ.2.1 56 q else σ.2.1 100 q) = (fun q => (am_setN σ 55 1 0).2.1 100 q) from funext fun q => if_neg (by omega), am_setA_self]
          refine am_less (by intro q hq; simp only [List.mem_cons, List.not_mem_nil, or_false] at hq; rcases hq with rfl | rfl | rfl | rfl <;> simp) (L113 (_ + 1) 0 (by exact Nat.lt_succ_self _) (by omega))
        · refine am_aload_n (q := 100) rfl (am_tab tk_X10_see 58 rfl) rfl ?_
          refine am_getR (q := 103) (a := 55) (k := 10) (n := 108) (j := 9) (r := some (57)) (Ls_55 hL) (by decide) rfl (Lr_55_9 hL) (by decide) (Or.inl kf_X10_17) (am_tab tk_X10_see 59 rfl) rfl ?_
          refine am_iconst (q := 104) (n := 1) (by decide) (am_tab tk_X10_see 60 rfl) rfl ?_
          refine am_dup2 (q := 105) rfl rfl (am_tab tk_X10_see 61 rfl) rfl ?_
          refine am_iald (q := 106) (a := 57) (n := 6) (x := (σ.2.1 57 1)) (Ls_57 hL) (by omega) (by omega) rfl (am_tab tk_X10_see 62 rfl) rfl ?_
          refine am_iconst (q := 107) (n := 1) (by decide) (am_tab tk_X10_see 63 rfl) rfl ?_
          refine am_iadd (q := 108) (by omega) (am_tab tk_X10_see 64 rfl) rfl ?_
          refine am_iast (q := 109) (a := 57) (n := 6) (Ls_57 hL) (by omega) (by omega) (am_tab tk_X10_see 65 rfl) rfl ?_
          refine am_iconst (q := 110) (n := (-1)) (by decide) (am_tab tk_X10_see 66 rfl) rfl ?_
          refine am_iret (Or.inl rfl) (Nat.le_of_ble_eq_true rfl) (Nat.le_of_ble_eq_true rfl) (am_tab tk_X10_see 67 rfl) ?_
          refine hQ _ _ ?_
          refine Or.inr ⟨?_, rfl, rfl⟩
          rcases hfl with h9 | h9
          · exact absurd h9.1 (by omega)
          · exact h9.2
      · refine am_iload_n (q := 42) rfl (am_tab tk_X10_see 26 rfl) rfl ?_
        refine am_if_eq (q := 45) (t := 95) (am_tab tk_X10_see 27 rfl) (by decide) rfl (fun h42 => ?_) (fun h42 => ?_)
        · refine am_iload_n (q := 96) rfl (am_tab tk_X10_see 56 rfl) rfl ?_
          refine am_if_ne (q := 99) (t := 111) (am_tab tk_X10_see 57 rfl) (by decide) rfl (fun h96 => ?_) (fun h96 => ?_)
          · refine am_iconst (q := 112) (n := 0) (by decide) (am_tab tk_X10_see 68 rfl) rfl ?_
            refine am_istore_n (q := 113) (by decide) (ls2 := [(3, am_i 0), (2, am_i fl), (1, am_i ((σ.2.1 55 1))), (0, am_r 55)]) rfl (am_tab tk_X10_see 69 rfl) rfl ?_
            have hyes : seC σ := by
              rcases hfl with h9 | h9
              · exact ⟨⟨h9.2.1.1, h9.2.1.2, by omega⟩, by rw [show (σ.2.1 55 1 / 2).toNat = k by omega]; exact h9.2.2.2⟩
              · exact absurd h9.1 h96
            have hy2 := hyes.1
            have L113 : ∀ (n113 : Nat) (j : Nat), 17 - j < n113 → (j : Int) ≤ σ.2.1 55 1 → am_wp M_X10_see Q 0 0 113 [(3, am_i ((j : Int))), (1, am_i ((σ.2.1 55 1))), (0, am_r 55), (2, am_i fl)] [] (am_setA (am_setN σ 55 1 0) 100 (fun q => if q < j then σ.2.1 56 q else σ.2.1 100 q)) := by
              intro n113
              induction n113 with
              | zero => intro j hn113; exact absurd hn113 (Nat.not_lt_zero _)
              | succ n113 ih113 =>
                intro j hn113 hj
                refine am_iload_n (q := 114) rfl (am_tab tk_X10_see 70 rfl) rfl ?_
                refine am_iload_n (q := 115) rfl (am_tab tk_X10_see 71 rfl) rfl ?_
                refine am_icmp_ge (q := 118) (t := 136) (am_tab tk_X10_see 72 rfl) (by decide) rfl (fun h115 => ?_) (fun h115 => ?_)
                · refine am_aload_n (q := 137) rfl (am_tab tk_X10_see 83 rfl) rfl ?_
                  refine am_iload_n (q := 138) rfl (am_tab tk_X10_see 84 rfl) rfl ?_
                  refine am_iconst (q := 139) (n := 2) (by decide) (am_tab tk_X10_see 85 rfl) rfl ?_
                  refine am_idiv (q := 140) (by omega) (by omega) (am_tab tk_X10_see 86 rfl) rfl ?_
                  refine am_putI (q := 143) (k := 10) (n := 108) (j := 65) (Ls_55 hL) (by decide) rfl (by decide) (Or.inl ⟨kf_X10_391, rfl⟩) (am_tab tk_X10_see 87 rfl) rfl ?_
                  refine am_aload_n (q := 144) rfl (am_tab tk_X10_see 88 rfl) rfl ?_
                  refine am_getI (q := 147) (a := 55) (k := 10) (n := 108) (j := 65) (x := (Int.tdiv (σ.2.1 55 1) 2)) (Ls_55 hL) (by decide) rfl rfl (by decide) (Or.inl kf_X10_391) (am_tab tk_X10_see 89 rfl) rfl ?_
                  refine am_iret (Or.inl rfl) (Nat.le_of_ble_eq_true rfl) (Nat.le_of_ble_eq_true rfl) (am_tab tk_X10_see 90 rfl) ?_
                  refine hQ _ _ ?_
                  refine Or.inl ⟨hyes, congrArg (fun z => some (am_i z)) htd, ?_⟩
                  unfold seH
                  rw [show j = (σ.2.1 55 1).toNat by omega, htd]
                · refine am_aload_n (q := 119) rfl (am_tab tk_X10_see 73 rfl) rfl ?_
                  refine am_getR (q := 122) (a := 55) (k := 10) (n := 108) (j := 66) (r := some (100)) (Ls_55 hL) (by decide) rfl (Lr_55_66 hL) (by decide) (Or.inl kf_X10_148) (am_tab tk_X10_see 74 rfl) rfl ?_
                  refine am_iload_n (q := 123) rfl (am_tab tk_X10_see 75 rfl) rfl ?_
                  refine am_aload_n (q := 124) rfl (am_tab tk_X10_see 76 rfl) rfl ?_
                  refine am_getR (q := 127) (a := 55) (k := 10) (n := 108) (j := 0) (r := some (56)) (Ls_55 hL) (by decide) rfl (Lr_55_0 hL) (by decide) (Or.inl kf_X10_7) (am_tab tk_X10_see 77 rfl) rfl ?_
                  refine am_iload_n (q := 128) rfl (am_tab tk_X10_see 78 rfl) rfl ?_
                  refine am_iald (q := 129) (a := 56) (n := 1600) (x := (σ.2.1 56 j)) (Ls_56 hL) (by omega) (by omega) (by rw [show Int.toNat (j : Int) = j by omega]; rfl) (am_tab tk_X10_see 79 rfl) rfl ?_
                  refine am_iast (q := 130) (a := 100) (n := 16) (Ls_100 hL) (by omega) (by omega) (am_tab tk_X10_see 80 rfl) rfl ?_
                  refine am_iinc (q := 133) rfl (by omega) (by decide) (ls2 := [(3, am_i (((j : Int) + 1))), (1, am_i ((σ.2.1 55 1))), (0, am_r 55), (2, am_i fl)]) rfl (am_tab tk_X10_see 81 rfl) rfl ?_
                  refine am_goto (t := 113) (am_tab tk_X10_see 82 rfl) (by decide) ?_
                  refine am_hp2 (σ1 := am_setA (am_setN σ 55 1 0) 100 (fun q => if q < j + 1 then σ.2.1 56 q else σ.2.1 100 q)) ?_ ?_
                  · rw [show Int.toNat (j : Int) = j by omega, am_setA_N]; congr 1; funext q; repeat' split
                    all_goals first | rfl | omega | (rename_i h9 _; subst h9; rfl)
                  exact am_less (by intro q hq; simp only [List.mem_cons, List.not_mem_nil, or_false] at hq; rcases hq with rfl | rfl | rfl | rfl <;> simp) (ih113 (j + 1) (by omega) (by omega))
            refine am_hp2 (σ1 := am_setA (am_setN σ 55 1 0) 100 (fun q => if q < 0 then σ.2.1 56 q else σ.2.1 100 q)) ?_ ?_
            · rw [show (fun q => if q < 0 then σ.2.1 56 q else σ.2.1 100 q) = (fun q => (am_setN σ 55 1 0).2.1 100 q) from funext fun q => if_neg (by omega), am_setA_self]
            refine am_less (by intro q hq; simp only [List.mem_cons, List.not_mem_nil, or_false] at hq; rcases hq with rfl | rfl | rfl | rfl <;> simp) (L113 (_ + 1) 0 (by exact Nat.lt_succ_self _) (by omega))
          · refine am_aload_n (q := 100) rfl (am_tab tk_X10_see 58 rfl) rfl ?_
            refine am_getR (q := 103) (a := 55) (k := 10) (n := 108) (j := 9) (r := some (57)) (Ls_55 hL) (by decide) rfl (Lr_55_9 hL) (by decide) (Or.inl kf_X10_17) (am_tab tk_X10_see 59 rfl) rfl ?_
            refine am_iconst (q := 104) (n := 1) (by decide) (am_tab tk_X10_see 60 rfl) rfl ?_
            refine am_dup2 (q := 105) rfl rfl (am_tab tk_X10_see 61 rfl) rfl ?_
            refine am_iald (q := 106) (a := 57) (n := 6) (x := (σ.2.1 57 1)) (Ls_57 hL) (by omega) (by omega) rfl (am_tab tk_X10_see 62 rfl) rfl ?_
            refine am_iconst (q := 107) (n := 1) (by decide) (am_tab tk_X10_see 63 rfl) rfl ?_
            refine am_iadd (q := 108) (by omega) (am_tab tk_X10_see 64 rfl) rfl ?_
            refine am_iast (q := 109) (a := 57) (n := 6) (Ls_57 hL) (by omega) (by omega) (am_tab tk_X10_see 65 rfl) rfl ?_
            refine am_iconst (q := 110) (n := (-1)) (by decide) (am_tab tk_X10_see 66 rfl) rfl ?_
            refine am_iret (Or.inl rfl) (Nat.le_of_ble_eq_true rfl) (Nat.le_of_ble_eq_true rfl) (am_tab tk_X10_see 67 rfl) ?_
            refine hQ _ _ ?_
            refine Or.inr ⟨?_, rfl, rfl⟩
            rcases hfl with h9 | h9
            · exact absurd h9.1 (by omega)
            · exact h9.2
        · rcases hfl with hok | hno
          rotate_left
          · exact absurd hno.1 h42
          replace hok := hok.2
          have ht0 := hT.2 (2 * k) (by omega)
          have ht1 := hT.2 (2 * k + 1) (by omega)
          refine am_aload_n (q := 46) rfl (am_tab tk_X10_see 28 rfl) rfl ?_
          refine am_aload_n (q := 47) rfl (am_tab tk_X10_see 29 rfl) rfl ?_
          refine am_getR (q := 50) (a := 55) (k := 10) (n := 108) (j := 0) (r := some (56)) (Ls_55 hL) (by decide) rfl (Lr_55_0 hL) (by decide) (Or.inl kf_X10_7) (am_tab tk_X10_see 30 rfl) rfl ?_
          refine am_iload_n (q := 51) rfl (am_tab tk_X10_see 31 rfl) rfl ?_
          refine am_iald (q := 52) (a := 56) (n := 1600) (x := (σ.2.1 56 (2 * k))) (Ls_56 hL) (by omega) (by omega) (by rw [show Int.toNat (2 * (k : Int)) = 2 * k by omega]; rfl) (am_tab tk_X10_see 32 rfl) rfl ?_
          refine am_callV0 (q := 55) (me2 := M_X10_isPerson) (b := 55) (kb := 10) (nb := 108) (As := [am_i ((σ.2.1 56 (2 * k)))]) (rest := []) (out := [am_i (if 0 ≤ (σ.2.1 56 (2 * k)) ∧ (σ.2.1 56 (2 * k)) ≤ σ.2.1 85 5 - 1 then 1 else 0)]) (c_X10_isPerson (am_setN σ 55 1 0) hL (σ.2.1 56 (2 * k)) hP) ⟨rfl, rfl⟩ (Ls_55 hL) (by decide) ⟨Or.inl km_X10_490, kc_X10_isPerson, kn_X10, kd_X10_isPerson, ⟨(Nat.le_of_ble_eq_true rfl), (Nat.le_of_ble_eq_true rfl)⟩, ⟨(Nat.le_of_ble_eq_true rfl), (Nat.le_of_ble_eq_true rfl)⟩, (Nat.le_of_ble_eq_true rfl)⟩ ki_X10_isPerson ks_X10_isPerson rfl rfl (am_tab tk_X10_see 33 rfl) rfl ?_
          refine am_if_eq (q := 58) (t := 87) (am_tab tk_X10_see 34 rfl) (by decide) rfl (fun h55 => ?_) (fun h55 => ?_)
          · replace h55 := b01z h55
            refine am_iconst (q := 88) (n := 0) (by decide) (am_tab tk_X10_see 52 rfl) rfl ?_
            refine am_istore_n (q := 89) (by decide) (ls2 := [(2, am_i 0), (3, am_i ((2 * (k : Int)))), (1, am_i ((σ.2.1 55 1))), (0, am_r 55)]) rfl (am_tab tk_X10_see 53 rfl) rfl ?_
            refine am_iinc (q := 92) rfl (by omega) (by decide) (ls2 := [(3, am_i (((2 * (k : Int)) + 2))), (2, am_i 0), (1, am_i ((σ.2.1 55 1))), (0, am_r 55)]) rfl (am_tab tk_X10_see 54 rfl) rfl ?_
            refine am_goto (t := 36) (am_tab tk_X10_see 55 rfl) (by decide) ?_
            have hgk : seB σ k = true := by
              unfold seB
              simp only [decide_eq_true_eq]
              intro hx
              first | exact absurd hx.1.1 (by assumption) | exact absurd (by assumption) hx.1.2 | exact absurd hx.2 (by omega)
            have hbad : ¬ seC σ := by
              intro hx
              have h9 := hx.2
              rw [anyB_t hgk (show k < (σ.2.1 55 1 / 2).toNat by omega)] at h9
              exact absurd h9 (by simp)
            rw [show (2 * (k : Int)) + 2 = 2 * ((k + 1 : Nat) : Int) by omega]
            exact am_less (by intro q hq; simp only [List.mem_cons, List.not_mem_nil, or_false] at hq; rcases hq with rfl | rfl | rfl | rfl <;> simp) (ih36 (k + 1) 0 (by omega) (by omega) (Or.inr ⟨rfl, hbad⟩))
          · replace h55 := b01n h55
            refine am_aload_n (q := 59) rfl (am_tab tk_X10_see 35 rfl) rfl ?_
            refine am_aload_n (q := 60) rfl (am_tab tk_X10_see 36 rfl) rfl ?_
            refine am_getR (q := 63) (a := 55) (k := 10) (n := 108) (j := 0) (r := some (56)) (Ls_55 hL) (by decide) rfl (Lr_55_0 hL) (by decide) (Or.inl kf_X10_7) (am_tab tk_X10_see 37 rfl) rfl ?_
            refine am_iload_n (q := 64) rfl (am_tab tk_X10_see 38 rfl) rfl ?_
            refine am_iald (q := 65) (a := 56) (n := 1600) (x := (σ.2.1 56 (2 * k))) (Ls_56 hL) (by omega) (by omega) (by rw [show Int.toNat (2 * (k : Int)) = 2 * k by omega]; rfl) (am_tab tk_X10_see 39 rfl) rfl ?_
            refine am_callV0 (q := 68) (me2 := M_X10_isDead) (b := 55) (kb := 10) (nb := 108) (As := [am_i ((σ.2.1 56 (2 * k)))]) (rest := []) (out := [am_i (if σ.2.1 96 (12 + (σ.2.1 56 (2 * k))).toNat = 1 then 1 else 0)]) (c_X10_isDead (am_setN σ 55 1 0) hL (σ.2.1 56 (2 * k)) (by omega)) ⟨rfl, rfl⟩ (Ls_55 hL) (by decide) ⟨Or.inl km_X10_400, kc_X10_isDead, kn_X10, kd_X10_isDead, ⟨(Nat.le_of_ble_eq_true rfl), (Nat.le_of_ble_eq_true rfl)⟩, ⟨(Nat.le_of_ble_eq_true rfl), (Nat.le_of_ble_eq_true rfl)⟩, (Nat.le_of_ble_eq_true rfl)⟩ ki_X10_isDead ks_X10_isDead rfl rfl (am_tab tk_X10_see 40 rfl) rfl ?_
            refine am_if_ne (q := 71) (t := 87) (am_tab tk_X10_see 41 rfl) (by decide) rfl (fun h68 => ?_) (fun h68 => ?_)
            · replace h68 := b01n h68
              refine am_iconst (q := 88) (n := 0) (by decide) (am_tab tk_X10_see 52 rfl) rfl ?_
              refine am_istore_n (q := 89) (by decide) (ls2 := [(2, am_i 0), (3, am_i ((2 * (k : Int)))), (1, am_i ((σ.2.1 55 1))), (0, am_r 55)]) rfl (am_tab tk_X10_see 53 rfl) rfl ?_
              refine am_iinc (q := 92) rfl (by omega) (by decide) (ls2 := [(3, am_i (((2 * (k : Int)) + 2))), (2, am_i 0), (1, am_i ((σ.2.1 55 1))), (0, am_r 55)]) rfl (am_tab tk_X10_see 54 rfl) rfl ?_
              refine am_goto (t := 36) (am_tab tk_X10_see 55 rfl) (by decide) ?_
              have hgk : seB σ k = true := by
                unfold seB
                simp only [decide_eq_true_eq]
                intro hx
                first | exact absurd hx.1.1 (by assumption) | exact absurd (by assumption) hx.1.2 | exact absurd hx.2 (by omega)
              have hbad : ¬ seC σ := by
                intro hx
                have h9 := hx.2
                rw [anyB_t hgk (show k < (σ.2.1 55 1 / 2).toNat by omega)] at h9
                exact absurd h9 (by simp)
              rw [show (2 * (k : Int)) + 2 = 2 * ((k + 1 : Nat) : Int) by omega]
              exact am_less (by intro q hq; simp only [List.mem_cons, List.not_mem_nil, or_false] at hq; rcases hq with rfl | rfl | rfl | rfl <;> simp) (ih36 (k + 1) 0 (by omega) (by omega) (Or.inr ⟨rfl, hbad⟩))
            · replace h68 := b01z h68
              refine am_aload_n (q := 72) rfl (am_tab tk_X10_see 42 rfl) rfl ?_
              refine am_getR (q := 75) (a := 55) (k := 10) (n := 108) (j := 0) (r := some (56)) (Ls_55 hL) (by decide) rfl (Lr_55_0 hL) (by decide) (Or.inl kf_X10_7) (am_tab tk_X10_see 43 rfl) rfl ?_
              refine am_iload_n (q := 76) rfl (am_tab tk_X10_see 44 rfl) rfl ?_
              refine am_iconst (q := 77) (n := 1) (by decide) (am_tab tk_X10_see 45 rfl) rfl ?_
              refine am_iadd (q := 78) (by omega) (am_tab tk_X10_see 46 rfl) rfl ?_
              refine am_iald (q := 79) (a := 56) (n := 1600) (x := (σ.2.1 56 (2 * k + 1))) (Ls_56 hL) (by omega) (by omega) (by rw [show Int.toNat ((2 * (k : Int)) + 1) = 2 * k + 1 by omega]; rfl) (am_tab tk_X10_see 47 rfl) rfl ?_
              refine am_iconst (q := 80) (n := 2) (by decide) (am_tab tk_X10_see 48 rfl) rfl ?_
              refine am_icmp_ge (q := 83) (t := 87) (am_tab tk_X10_see 49 rfl) (by decide) rfl (fun h80 => ?_) (fun h80 => ?_)
              · refine am_iconst (q := 88) (n := 0) (by decide) (am_tab tk_X10_see 52 rfl) rfl ?_
                refine am_istore_n (q := 89) (by decide) (ls2 := [(2, am_i 0), (3, am_i ((2 * (k : Int)))), (1, am_i ((σ.2.1 55 1))), (0, am_r 55)]) rfl (am_tab tk_X10_see 53 rfl) rfl ?_
                refine am_iinc (q := 92) rfl (by omega) (by decide) (ls2 := [(3, am_i (((2 * (k : Int)) + 2))), (2, am_i 0), (1, am_i ((σ.2.1 55 1))), (0, am_r 55)]) rfl (am_tab tk_X10_see 54 rfl) rfl ?_
                refine am_goto (t := 36) (am_tab tk_X10_see 55 rfl) (by decide) ?_
                have hgk : seB σ k = true := by
                  unfold seB
                  simp only [decide_eq_true_eq]
                  intro hx
                  first | exact absurd hx.1.1 (by assumption) | exact absurd (by assumption) hx.1.2 | exact absurd hx.2 (by omega)
                have hbad : ¬ seC σ := by
                  intro hx
                  have h9 := hx.2
                  rw [anyB_t hgk (show k < (σ.2.1 55 1 / 2).toNat by omega)] at h9
                  exact absurd h9 (by simp)
                rw [show (2 * (k : Int)) + 2 = 2 * ((k + 1 : Nat) : Int) by omega]
                exact am_less (by intro q hq; simp only [List.mem_cons, List.not_mem_nil, or_false] at hq; rcases hq with rfl | rfl | rfl | rfl <;> simp) (ih36 (k + 1) 0 (by omega) (by omega) (Or.inr ⟨rfl, hbad⟩))
              · refine am_iconst (q := 84) (n := 1) (by decide) (am_tab tk_X10_see 50 rfl) rfl ?_
                refine am_goto (t := 88) (am_tab tk_X10_see 51 rfl) (by decide) ?_
                refine am_istore_n (q := 89) (by decide) (ls2 := [(2, am_i 1), (3, am_i ((2 * (k : Int)))), (1, am_i ((σ.2.1 55 1))), (0, am_r 55)]) rfl (am_tab tk_X10_see 53 rfl) rfl ?_
                refine am_iinc (q := 92) rfl (by omega) (by decide) (ls2 := [(3, am_i (((2 * (k : Int)) + 2))), (2, am_i 1), (1, am_i ((σ.2.1 55 1))), (0, am_r 55)]) rfl (am_tab tk_X10_see 54 rfl) rfl ?_
                refine am_goto (t := 36) (am_tab tk_X10_see 55 rfl) (by decide) ?_
                have hgk : seB σ k = false := by
                  unfold seB
                  simp only [decide_eq_false_iff_not, Classical.not_not]
                  exact ⟨⟨h55, h68⟩, by omega⟩
                rw [show (2 * (k : Int)) + 2 = 2 * ((k + 1 : Nat) : Int) by omega]
                exact am_less (by intro q hq; simp only [List.mem_cons, List.not_mem_nil, or_false] at hq; rcases hq with rfl | rfl | rfl | rfl <;> simp) (ih36 (k + 1) 1 (by omega) (by omega) (Or.inl ⟨rfl, hok.1, hok.2.1, anyB_f hok.2.2 hgk⟩))
  refine am_iload_n (q := 11) rfl (am_tab tk_X10_see 6 rfl) rfl ?_
  refine am_if_le (q := 14) (t := 32) (am_tab tk_X10_see 7 rfl) (by decide) rfl (fun h11 => ?_) (fun h11 => ?_)
  · refine am_iconst (q := 33) (n := 0) (by decide) (am_tab tk_X10_see 19 rfl) rfl ?_
    refine am_istore_n (q := 34) (by decide) (ls2 := [(2, am_i 0), (1, am_i ((σ.2.1 55 1))), (0, am_r 55)]) rfl (am_tab tk_X10_see 20 rfl) rfl ?_
    refine am_iconst (q := 35) (n := 0) (by decide) (am_tab tk_X10_see 21 rfl) rfl ?_
    refine am_istore_n (q := 36) (by decide) (ls2 := [(3, am_i 0), (2, am_i 0), (1, am_i ((σ.2.1 55 1))), (0, am_r 55)]) rfl (am_tab tk_X10_see 22 rfl) rfl ?_
    refine am_less (by intro q hq; simp only [List.mem_cons, List.not_mem_nil, or_false] at hq; rcases hq with rfl | rfl | rfl | rfl <;> simp) (L36 (_ + 1) 0 0 (by exact Nat.lt_succ_self _) (by omega) (by exact Or.inr ⟨rfl, fun hx => by unfold seC at hx; rw [htm, htd] at *; omega⟩))
  · refine am_iload_n (q := 15) rfl (am_tab tk_X10_see 8 rfl) rfl ?_
    refine am_iconst (q := 16) (n := 2) (by decide) (am_tab tk_X10_see 9 rfl) rfl ?_
    refine am_irem (q := 17) (by omega) (by omega) (am_tab tk_X10_see 10 rfl) rfl ?_
    refine am_if_ne (q := 20) (t := 32) (am_tab tk_X10_see 11 rfl) (by decide) rfl (fun h17 => ?_) (fun h17 => ?_)
    · refine am_iconst (q := 33) (n := 0) (by decide) (am_tab tk_X10_see 19 rfl) rfl ?_
      refine am_istore_n (q := 34) (by decide) (ls2 := [(2, am_i 0), (1, am_i ((σ.2.1 55 1))), (0, am_r 55)]) rfl (am_tab tk_X10_see 20 rfl) rfl ?_
      refine am_iconst (q := 35) (n := 0) (by decide) (am_tab tk_X10_see 21 rfl) rfl ?_
      refine am_istore_n (q := 36) (by decide) (ls2 := [(3, am_i 0), (2, am_i 0), (1, am_i ((σ.2.1 55 1))), (0, am_r 55)]) rfl (am_tab tk_X10_see 22 rfl) rfl ?_
      refine am_less (by intro q hq; simp only [List.mem_cons, List.not_mem_nil, or_false] at hq; rcases hq with rfl | rfl | rfl | rfl <;> simp) (L36 (_ + 1) 0 0 (by exact Nat.lt_succ_self _) (by omega) (by exact Or.inr ⟨rfl, fun hx => by unfold seC at hx; rw [htm, htd] at *; omega⟩))
    · refine am_iload_n (q := 21) rfl (am_tab tk_X10_see 12 rfl) rfl ?_
      refine am_iconst (q := 22) (n := 2) (by decide) (am_tab tk_X10_see 13 rfl) rfl ?_
      refine am_idiv (q := 23) (by omega) (by omega) (am_tab tk_X10_see 14 rfl) rfl ?_
      refine am_bipush (q := 25) (n := 8) (by decide) rfl (am_tab tk_X10_see 15 rfl) rfl ?_
      refine am_icmp_gt (q := 28) (t := 32) (am_tab tk_X10_see 16 rfl) (by decide) rfl (fun h25 => ?_) (fun h25 => ?_)
      · refine am_iconst (q := 33) (n := 0) (by decide) (am_tab tk_X10_see 19 rfl) rfl ?_
        refine am_istore_n (q := 34) (by decide) (ls2 := [(2, am_i 0), (1, am_i ((σ.2.1 55 1))), (0, am_r 55)]) rfl (am_tab tk_X10_see 20 rfl) rfl ?_
        refine am_iconst (q := 35) (n := 0) (by decide) (am_tab tk_X10_see 21 rfl) rfl ?_
        refine am_istore_n (q := 36) (by decide) (ls2 := [(3, am_i 0), (2, am_i 0), (1, am_i ((σ.2.1 55 1))), (0, am_r 55)]) rfl (am_tab tk_X10_see 22 rfl) rfl ?_
        refine am_less (by intro q hq; simp only [List.mem_cons, List.not_mem_nil, or_false] at hq; rcases hq with rfl | rfl | rfl | rfl <;> simp) (L36 (_ + 1) 0 0 (by exact Nat.lt_succ_self _) (by omega) (by exact Or.inr ⟨rfl, fun hx => by unfold seC at hx; rw [htm, htd] at *; omega⟩))
      · refine am_iconst (q := 29) (n := 1) (by decide) (am_tab tk_X10_see 17 rfl) rfl ?_
        refine am_goto (t := 33) (am_tab tk_X10_see 18 rfl) (by decide) ?_
        refine am_istore_n (q := 34) (by decide) (ls2 := [(2, am_i 1), (1, am_i ((σ.2.1 55 1))), (0, am_r 55)]) rfl (am_tab tk_X10_see 20 rfl) rfl ?_
        refine am_iconst (q := 35) (n := 0) (by decide) (am_tab tk_X10_see 21 rfl) rfl ?_
        refine am_istore_n (q := 36) (by decide) (ls2 := [(3, am_i 0), (2, am_i 1), (1, am_i ((σ.2.1 55 1))), (0, am_r 55)]) rfl (am_tab tk_X10_see 22 rfl) rfl ?_
        refine am_less (by intro q hq; simp only [List.mem_cons, List.not_mem_nil, or_false] at hq; rcases hq with rfl | rfl | rfl | rfl <;> simp) (L36 (_ + 1) 0 1 (by exact Nat.lt_succ_self _) (by omega) (by exact Or.inl ⟨rfl, by omega, by rw [htm, htd] at *; omega, rfl⟩))
