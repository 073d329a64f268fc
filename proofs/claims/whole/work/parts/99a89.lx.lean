/-- a life's days and people, as far as the town has none -/
def LX (Y : Int) (P : Nat) (g : Nat → Int) : Prop := ZR Y g ∧ (∀ p : Nat, p < 8 → P ≤ p → g (4 + p) = 0 ∧ g (12 + p) = 0) ∧ (0 ≤ sumN (fun d => bc (g (21 + d))) 90 ∧ sumN (fun d => bc (g (21 + d))) 90 ≤ 30) ∧ (0 ≤ sumN (fun d => bc (g (112 + d))) 90 ∧ sumN (fun d => bc (g (112 + d))) 90 ≤ 30)
theorem sumN_up {f g : Nat → Int} {d : Nat} : ∀ n, (∀ i, i < n → ¬ i = d → g i = f i) → sumN g n = sumN f n + (if d < n then g d - f d else 0)
  | 0, _ => by simp [sumN]
  | n + 1, h => by
    have ih := sumN_up (d := d) n (fun i hi hn => h i (by omega) hn)
    show sumN g n + g n = sumN f n + f n + _
    rw [ih]
    by_cases g1 : n = d
    · subst g1
      rw [if_neg (by omega), if_pos (by omega)]
      omega
    · rw [h n (by omega) g1]
      by_cases g2 : d < n
      · rw [if_pos g2, if_pos (by omega)]; omega
      · rw [if_neg g2, if_neg (by omega)]; omega
theorem bc_nn (x : Int) : 0 ≤ bc x := by unfold bc; omega
theorem bc_0 : bc 0 = 0 := by decide
theorem sumN_nn {g : Nat → Int} (h : ∀ i, 0 ≤ g i) : ∀ n, 0 ≤ sumN g n
  | 0 => Int.le_refl 0
  | n + 1 => by
    have ih := sumN_nn h n
    have h9 := h n
    show 0 ≤ sumN g n + g n
    omega
theorem bgN_h9 {H : am_H} {k : Nat} (hk : 3 ≤ k) : bgN H k = H.2.1 96 k := by
  unfold bgN
  split
  · rw [if_neg (by omega)]
  · rw [if_neg (by omega), if_neg (by omega), if_neg (by omega)]
theorem nwD_mid {H : am_H} {k : Nat} (h1 : (4 + pN H ≤ k ∧ 4 ≤ k ∧ k < 12) ∨ (12 ≤ k ∧ k < 202)) (hP : pN H ≤ 8) : nwD H k = if k = 111 + (bgN H 1).toNat then 0 else H.2.1 96 k := by
  rw [nwD_lt (by omega)]
  by_cases g : k = 111 + (bgN H 1).toNat
  · unfold noD
    rw [if_pos g, if_pos g]
  · rw [noD_far g (by omega) (by omega), if_neg g, bgN_h9 (by omega)]
theorem LX_day {H : am_H} (hG : GD H) (h : LX (H.2.1 85 9) (pN H) (fun k => H.2.1 96 k)) : LX (H.2.1 85 9) (pN H) (nwD H) := by
  have hP : pN H ≤ 8 := by have := hG.R.P; unfold pN; omega
  obtain ⟨⟨z1, z2, z3⟩, x, s1, s2⟩ := h
  refine ⟨⟨?_, ?_, fun d hd hy => ?_⟩, fun p hp hq => ⟨?_, ?_⟩, ?_, ?_⟩
  · rw [nwD_mid (by omega) hP]; split
    · rfl
    · exact z1
  · rw [nwD_mid (by omega) hP]; split
    · rfl
    · exact z2
  · rw [nwD_mid (by omega) hP]; split
    · rfl
    · exact z3 d hd hy
  · rw [nwD_mid (by omega) hP]; split
    · rfl
    · exact (x p hp hq).1
  · rw [nwD_mid (by omega) hP]; split
    · rfl
    · exact (x p hp hq).2
  · rw [sumN_cg (g := fun d => bc (H.2.1 96 (21 + d))) 90 (fun d hd => by
      show bc (nwD H (21 + d)) = bc (H.2.1 96 (21 + d))
      rw [nwD_mid (by omega) hP, if_neg (by omega)])]
    exact s1
  · refine ⟨sumN_nn (fun i => bc_nn _) 90, ?_⟩
    have e := sumN_up (f := fun d => bc (H.2.1 96 (112 + d))) (g := fun d => bc (nwD H (112 + d))) (d := (bgN H 1).toNat - 1) 90 (fun i hi hn => by
      show bc (nwD H (112 + i)) = bc (H.2.1 96 (112 + i))
      rw [nwD_mid (by omega) hP]
      by_cases g : 112 + i = 111 + (bgN H 1).toNat
      · omega
      · rw [if_neg g])
    rw [e]
    have h9 : sumN (fun d => bc (H.2.1 96 (112 + d))) 90 ≤ 30 := s2.2
    by_cases g0 : (bgN H 1).toNat = 0
    · have e9 : bc (nwD H (112 + ((bgN H 1).toNat - 1))) = bc (H.2.1 96 (112 + ((bgN H 1).toNat - 1))) := by
        rw [nwD_mid (by omega) hP, if_neg (by omega)]
      rw [e9]
      split <;> omega
    · by_cases gd : (bgN H 1).toNat - 1 < 90
      · rw [if_pos gd]
        have e9 : bc (nwD H (112 + ((bgN H 1).toNat - 1))) = 0 := by
          rw [nwD_mid (by omega) hP, if_pos (by omega)]
          exact bc_0
        have e8 : 0 ≤ bc (H.2.1 96 (112 + ((bgN H 1).toNat - 1))) := bc_nn _
        omega
      · rw [if_neg gd]; omega
theorem LX.g {Y : Int} {P : Nat} {f g : Nat → Int} (h : LX Y P f) (e : ∀ k, 4 ≤ k → k < 202 → g k = f k) : LX Y P g := by
  obtain ⟨⟨z1, z2, z3⟩, x, s1, s2⟩ := h
  refine ⟨⟨by rw [e _ (by omega) (by omega)]; exact z1, by rw [e _ (by omega) (by omega)]; exact z2, fun d hd hy => by rw [e _ (by omega) (by omega)]; exact z3 d hd hy⟩, fun p hp hq => by rw [e _ (by omega) (by omega), e _ (by omega) (by omega)]; exact x p hp hq, ?_, ?_⟩
  · rw [sumN_cg (g := fun d => bc (f (21 + d))) 90 (fun d hd => by rw [e _ (by omega) (by omega)])]
    exact s1
  · rw [sumN_cg (g := fun d => bc (f (112 + d))) 90 (fun d hd => by rw [e _ (by omega) (by omega)])]
    exact s2
theorem itS_h85 (σ : am_H) (n : Nat) (a j : Nat) (ha : ¬ a = 96) : (itS n σ).2.1 a j = σ.2.1 a j := by
  induction n with
  | zero => rfl
  | succ n ih =>
    show (am_setA (itS n σ) 96 (nwD (itS n σ))).2.1 a j = _
    rw [setA_nn ha]; exact ih
theorem itS_hpN (σ : am_H) (n : Nat) : pN (itS n σ) = pN σ := by unfold pN; rw [itS_h85 σ n 85 5 (by omega)]
theorem itS_LX {σ : am_H} (hG : GD σ) (h : LX (σ.2.1 85 9) (pN σ) (fun k => σ.2.1 96 k)) : ∀ n : Nat, (n : Int) ≤ dlM σ → LX (σ.2.1 85 9) (pN σ) (fun k => (itS n σ).2.1 96 k)
  | 0, _ => h
  | n + 1, hn => by
    have ih := itS_LX hG h n (by omega)
    have hg := (itS_GD hG n (by omega)).1
    rw [← itS_h85 σ n 85 9 (by omega), ← itS_hpN σ n] at ih
    have h9 := LX_day hg ih
    rw [itS_h85 σ n 85 9 (by omega), itS_hpN σ n] at h9
    exact h9.g (fun k _ _ => by
      show (am_setA (itS n σ) 96 (nwD (itS n σ))).2.1 96 k = _
      rw [setA_eq])
theorem LX_die {Y : Int} {P : Nat} {f g : Nat → Int} (h : LX Y P f) (e : ∀ k, g k = f k ∨ (12 ≤ k ∧ k < 12 + P ∧ k < 20)) : LX Y P g := by
  have e2 : ∀ k, ¬ (12 ≤ k ∧ k < 12 + P ∧ k < 20) → g k = f k := fun k hk => (e k).resolve_right hk
  obtain ⟨⟨z1, z2, z3⟩, x, s1, s2⟩ := h
  refine ⟨⟨by rw [e2 _ (by omega)]; exact z1, by rw [e2 _ (by omega)]; exact z2, fun d hd hy => by rw [e2 _ (by omega)]; exact z3 d hd hy⟩, fun p hp hq => by rw [e2 _ (by omega), e2 _ (by omega)]; exact x p hp hq, ?_, ?_⟩
  · rw [sumN_cg (g := fun d => bc (f (21 + d))) 90 (fun d hd => by rw [e2 _ (by omega)])]
    exact s1
  · rw [sumN_cg (g := fun d => bc (f (112 + d))) 90 (fun d hd => by rw [e2 _ (by omega)])]
    exact s2
theorem chS_LX {σ : am_H} (hG : GD σ) (hx : 0 ≤ σ.2.1 55 71 ∧ σ.2.1 55 71 < 2147483648) (h : LX (σ.2.1 85 9) (pN σ) (fun k => σ.2.1 96 k)) : ∀ n : Nat, (n : Int) ≤ dlM σ → LX (σ.2.1 85 9) (pN σ) (fun k => (chS σ n).1.2.1 96 k)
  | 0, _ => h
  | n + 1, hn => by
    have ih := chS_LX hG hx h n (by omega)
    have hP : pN σ ≤ 8 := by have := hG.R.P; unfold pN; omega
    obtain ⟨-, -, -, ho⟩ := chS_GD hG hx n (by omega)
    have hk := chD_ok hG hx n (by omega)
    have hD : chD σ n = am_setA (chS σ n).1 96 (dF (fun j => (chS σ n).1.2.1 96 j) (chS σ n).2.1 (σ.2.1 92 3) (pN σ)).1 := rfl
    have o85 : ∀ j, (chD σ n).2.1 85 j = σ.2.1 85 j := fun j => by rw [hD, setA_nn (by omega)]; exact ho 85 j (by omega)
    have oP : pN (chD σ n) = pN σ := by unfold pN; rw [o85]
    have h1 : LX (σ.2.1 85 9) (pN σ) (fun k => (chD σ n).2.1 96 k) := LX_die ih (fun k => by
      show (chD σ n).2.1 96 k = _ ∨ _
      rw [hD, setA_eq]
      rcases dF_in (fun j => (chS σ n).1.2.1 96 j) (chS σ n).2.1 (σ.2.1 92 3) (pN σ) k with g | g
      · exact Or.inl g
      · exact Or.inr ⟨g.2.1, g.2.2, by omega⟩)
    rw [← o85 9, ← oP] at h1
    have h2 := LX_day hk.1 h1
    rw [o85 9, oP] at h2
    exact h2.g (fun k _ _ => by
      show (am_setA (chD σ n) 96 (nwD (chD σ n))).2.1 96 k = _
      rw [setA_eq])
/-- one bit of a set set, or turned -/
theorem xr_all : (List.range 256).all (fun s => (List.range 8).all (fun q => decide ((0 ≤ ao_xor (s : Nat) (ao_shl 1 (q : Nat)) ∧ ao_xor (s : Nat) (ao_shl 1 (q : Nat)) < 256) ∧ bc (ao_xor (s : Nat) (ao_shl 1 (q : Nat))) = (if tb (s : Nat) (q : Nat) = 1 then bc (s : Nat) - 1 else bc (s : Nat) + 1)) && decide ((0 ≤ ao_or (s : Nat) (ao_shl 1 (q : Nat)) ∧ ao_or (s : Nat) (ao_shl 1 (q : Nat)) < 256) ∧ bc (ao_or (s : Nat) (ao_shl 1 (q : Nat))) ≤ bc (s : Nat) + 1))) = true := by decide +kernel
theorem xr_get {s p : Int} (hs : 0 ≤ s ∧ s < 256) (hp : 0 ≤ p ∧ p < 8) : ((0 ≤ ao_xor s (ao_shl 1 p) ∧ ao_xor s (ao_shl 1 p) < 256) ∧ bc (ao_xor s (ao_shl 1 p)) = (if tb s p = 1 then bc s - 1 else bc s + 1)) ∧ (0 ≤ ao_or s (ao_shl 1 p) ∧ ao_or s (ao_shl 1 p) < 256) ∧ bc (ao_or s (ao_shl 1 p)) ≤ bc s + 1 := by
  obtain ⟨m, rfl⟩ := Int.eq_ofNat_of_zero_le hs.1
  obtain ⟨q, rfl⟩ := Int.eq_ofNat_of_zero_le hp.1
  have h := xr_all
  rw [List.all_eq_true] at h
  have h1 := h m (List.mem_range.mpr (by omega))
  rw [List.all_eq_true] at h1
  have h2 := h1 q (List.mem_range.mpr (by omega))
  rw [Bool.and_eq_true, decide_eq_true_eq, decide_eq_true_eq] at h2
  exact h2
