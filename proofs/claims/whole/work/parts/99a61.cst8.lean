/-- a cleared town; a town of d days in which nothing is told -/
def CLt (t : Nat) (d s : Int) (σ : am_H) : Prop := (σ.2.1 t 0 = d ∧ σ.2.1 t 1 = s ∧ ∀ j, 2 ≤ j → j < 8 → σ.2.1 t j = 0) ∧ (∀ j, j < 8 → σ.2.1 (t + 4) j = 0 ∧ σ.2.1 (t + 5) j = 0) ∧ (∀ j, j < 91 → σ.2.1 (t + 6) j = 0 ∧ σ.2.1 (t + 7) j = 0) ∧ σ.2.1 (t + 8) 1 = 0 ∧ σ.2.1 (t + 10) 1 = 0
theorem CLt.fr {W : Nat → Nat → Prop} {t : Nat} {d s : Int} {σ τ : am_H} (h : CLt t d s σ) (hF : frw W σ τ) (hW : ∀ a j, t ≤ a ∧ a ≤ t + 10 → ¬ W a j) : CLt t d s τ := by
  have e : ∀ a j, t ≤ a ∧ a ≤ t + 10 → τ.2.1 a j = σ.2.1 a j := fun a j ha => hF.2.2 a j (hW a j ha)
  refine ⟨⟨?_, ?_, fun j h1 h2 => ?_⟩, fun j hj => ⟨?_, ?_⟩, fun j hj => ⟨?_, ?_⟩, ?_, ?_⟩
  · rw [e t 0 (by omega)]; exact h.1.1
  · rw [e t 1 (by omega)]; exact h.1.2.1
  · rw [e t j (by omega)]; exact h.1.2.2 j h1 h2
  · rw [e _ j (by omega)]; exact (h.2.1 j hj).1
  · rw [e _ j (by omega)]; exact (h.2.1 j hj).2
  · rw [e _ j (by omega)]; exact (h.2.2.1 j hj).1
  · rw [e _ j (by omega)]; exact (h.2.2.1 j hj).2
  · rw [e _ 1 (by omega)]; exact h.2.2.2.1
  · rw [e _ 1 (by omega)]; exact h.2.2.2.2
theorem CLt.day {t : Nat} {d s : Int} {σ : am_H} (h : CLt t d s σ) (v : Int) : CLt t v s (am_setN σ t 0 v) := by
  obtain ⟨⟨a1, a2, a3⟩, b1, c1, d1, e1⟩ := h
  refine ⟨⟨?_, ?_, fun j h1 h2 => ?_⟩, fun j hj => ⟨?_, ?_⟩, fun j hj => ⟨?_, ?_⟩, ?_, ?_⟩
  · rw [set_eq]
  · rw [set_nn (by omega)]; exact a2
  · rw [set_nn (by omega)]; exact a3 j h1 h2
  · rw [set_nn (by omega)]; exact (b1 j hj).1
  · rw [set_nn (by omega)]; exact (b1 j hj).2
  · rw [set_nn (by omega)]; exact (c1 j hj).1
  · rw [set_nn (by omega)]; exact (c1 j hj).2
  · rw [set_nn (by omega)]; exact d1
  · rw [set_nn (by omega)]; exact e1
theorem CLt.one {t : Nat} {d s : Int} {σ : am_H} (h : CLt t d s σ) (v : Int) : CLt t d v (am_setN σ t 1 v) := by
  obtain ⟨⟨a1, a2, a3⟩, b1, c1, d1, e1⟩ := h
  refine ⟨⟨?_, ?_, fun j h1 h2 => ?_⟩, fun j hj => ⟨?_, ?_⟩, fun j hj => ⟨?_, ?_⟩, ?_, ?_⟩
  · rw [set_nn (by omega)]; exact a1
  · rw [set_eq]
  · rw [set_nn (by omega)]; exact a3 j h1 h2
  · rw [set_nn (by omega)]; exact (b1 j hj).1
  · rw [set_nn (by omega)]; exact (b1 j hj).2
  · rw [set_nn (by omega)]; exact (c1 j hj).1
  · rw [set_nn (by omega)]; exact (c1 j hj).2
  · rw [set_nn (by omega)]; exact d1
  · rw [set_nn (by omega)]; exact e1
theorem t0_v (S : am_H) (d : Int) : ((t0H S d).2.1 85 0 = 0 ∧ (t0H S d).2.1 85 1 = 0 ∧ (t0H S d).2.1 85 2 = 0 ∧ (t0H S d).2.1 85 3 = 0 ∧ (t0H S d).2.1 85 4 = d) ∧ (∀ j, j < 91 → (t0H S d).2.1 90 j = 0) ∧ ((t0H S d).2.1 92 0 = 0 ∧ (t0H S d).2.1 92 1 = 0) ∧ (∀ w, w < 2 → (t0H S d).2.1 93 w = -1) ∧ (t0H S d).2.1 55 50 = 0 ∧ (t0H S d).2.1 55 51 = 1 := by
  unfold t0H
  refine ⟨⟨by simp, by simp, by simp, by simp, by simp⟩, fun j hj => by simp [hj], ⟨by simp, by simp⟩, fun w hw => by simp [hw], by simp, by simp⟩
theorem CLt.tr {t : Nat} {d : Int} {σ : am_H} (h : CLt t d 1 σ) (S : am_H) : TRr t σ (t0H S d) := by
  obtain ⟨⟨a1, a2, a3⟩, b1, c1, d1, e1⟩ := h
  obtain ⟨⟨v0, v1, v2, v3, v4⟩, w0, ⟨x0, x1⟩, y, z0, z1⟩ := t0_v S d
  refine ⟨⟨?_, ?_, ?_, ?_, ?_, ?_, ?_, ?_⟩, fun p hp => ?_, fun p hp => ?_, fun k hk => ?_, fun k hk h1 h2 => ?_⟩
  · rw [v4]; exact a1
  · rw [z1]; exact a2
  · rw [v0]; exact a3 2 (by decide) (by decide)
  · rw [v1]; exact a3 3 (by decide) (by decide)
  · rw [v2]; exact a3 4 (by decide) (by decide)
  · rw [v3]; exact a3 5 (by decide) (by decide)
  · rw [x0]; exact a3 6 (by decide) (by decide)
  · rw [x1]; exact a3 7 (by decide) (by decide)
  · rw [v0] at hp; omega
  · rw [v0, if_neg (by omega), (b1 p hp).1, (b1 p hp).2]
    refine ⟨rfl, by decide, by decide, fun q hq => ?_⟩
    rw [(b1 q hq).1]
    unfold tb
    simp
  · rw [(c1 k hk).1, w0 k hk]; exact ⟨rfl, by decide, by decide⟩
  · rw [(c1 k hk).2]
    have e9 : frN (t0H S d) (k : Int) = false := by
      unfold frN
      rw [v3]
      rfl
    rw [e9]
    rfl
theorem CLt.rr {t : Nat} {d s : Int} {σ : am_H} (ht : t = 3 ∨ t = 15) (h : CLt t d s σ) (hL : lay σ) (hC : CDt t σ) (S : am_H) (e : Int) : RRr t σ (t0H S e) := by
  obtain ⟨_, _, _, y, z0, _⟩ := t0_v S e
  obtain ⟨c, m, k, n, ⟨c1, c2, c3, c4⟩, ⟨k1, k2, k3, k4⟩, _⟩ := hC
  have hr : ∀ w, w < 2 → rlN (t0H S e) w = [] := fun w hw => by unfold rlN; rw [if_pos (y w hw)]
  unfold cdC0 at c3 k3
  have hs1 : σ.1[t + 8]? = some (5, 2) := by
    rcases ht with rfl | rfl
    · exact Ls_11 hL
    · exact Ls_23 hL
  have hs2 : σ.1[t + 10]? = some (5, 2) := by
    rcases ht with rfl | rfl
    · exact Ls_13 hL
    · exact Ls_25 hL
  unfold RRr
  rw [hr 0 (by decide), hr 1 (by decide)]
  refine ⟨⟨hs1, c, m, c1, c2, by omega, ⟨Nat.zero_le _, c4⟩, h.2.2.2.1, fun i hi => absurd hi (Nat.not_lt_zero _)⟩, ⟨hs2, k, n, k1, k2, by omega, ⟨Nat.zero_le _, k4⟩, h.2.2.2.2, fun i hi => absurd hi (Nat.not_lt_zero _)⟩, ?_⟩
  unfold RG
  rw [z0]
  exact ⟨by decide, fun w hw => Or.inl (y w hw)⟩
