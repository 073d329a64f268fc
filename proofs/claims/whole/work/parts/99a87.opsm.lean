theorem and255 (x : Int) : 0 ≤ ao_and x 255 ∧ ao_and x 255 ≤ 255 := by
  have h : (Int32.ofInt x &&& Int32.ofInt 255).toBitVec.toNat ≤ 255 := by
    rw [Int32.toBitVec_and, BitVec.toNat_and]
    exact Nat.le_trans Nat.and_le_right (by decide)
  have e : ao_and x 255 = ((Int32.ofInt x &&& Int32.ofInt 255).toBitVec.toNat : Int) := by
    show (Int32.ofInt x &&& Int32.ofInt 255).toBitVec.toInt = _
    rw [BitVec.toInt_eq_toNat_of_lt (by omega)]
  rw [e]
  omega
theorem fdB_rng (a b c d e : Int) (k : Nat) : 0 ≤ fdB a b c d e k ∧ fdB a b c d e k ≤ 255 := and255 _
/-- a change of what is small: tape, faults, refusals, what is seen, the picture -/
def W_sm (a j : Nat) : Prop := W_fr a j ∨ (a = 0 ∧ (j = 11 ∨ j = 14 ∨ j = 15 ∨ j = 16)) ∨ a = 51 ∨ a = 52 ∨ a = 100 ∨ (a = 1 ∧ j = 1) ∨ a = 2 ∨ a = 56 ∨ a = 54 ∨ a = 57 ∨ (a = 49 ∧ j = 1) ∨ a = 50 ∨ a = 130 ∨ (a = 55 ∧ (j = 1 ∨ j = 7 ∨ j = 8 ∨ j = 65 ∨ j = 71 ∨ j = 107))
theorem IV.sm {t f c m n : Nat} {σ τ : am_H} (h : IV t f c m σ) (hQ : QU W_sm σ τ) (hG : GD τ) (hS : SNC τ) (hT : IT τ) (hR : IR n τ) (hF : IF τ) (hP : IP τ) : IV t f c n τ := by
  have E := hQ.2.2
  refine ⟨hG, h.H.c hQ.e1 (fun a j ha => hQ.2.1 a j (by omega)), h.W.c9 h.H hQ.e1 (fun r hr => hQ.2.1 r 0 (by omega)) (fun a j ha => E a j (by unfold W_sm W_fr; omega)) (fun r hr x hx hx2 i => E x i (by unfold W_sm W_fr; omega)), h.L.c (fun a j ha => E a j (by unfold W_sm W_fr; omega)), h.Q.c (fun a j ha => E a j (by unfold W_sm W_fr; omega)), hS, hT, hR, hF, hP, h.D.c (fun a j ha => E a j (by unfold W_sm W_fr; omega)), h.K.c hQ.e1 (fun a j ha => hQ.2.1 a j (by omega)) (fun a j ha => E a j (by unfold W_sm W_fr; omega))⟩
theorem GD.sm {σ τ : am_H} (h : GD σ) (hF : frw W_sm σ τ) (h1 : τ.2.1 55 59 = σ.2.1 55 59) (h2 : τ.2.1 55 61 = σ.2.1 55 61) : GD τ :=
  GD_fr h hF (fun a j ha => by unfold W_sm W_fr; omega) (by rw [h1]; exact h.o) (by rw [h2]; exact h.t)
/-- both refuse -/
theorem IV.ref {t f c n : Nat} {σ : am_H} (h : IV t f c n σ) (q : Nat) (hq : q < 6) : IV t f c (n + 1) (am_setN (am_setN σ 54 q (σ.2.1 54 q + 1)) 57 q (σ.2.1 57 q + 1)) := by
  have hF : frw W_sm σ (am_setN (am_setN σ 54 q (σ.2.1 54 q + 1)) 57 q (σ.2.1 57 q + 1)) := ((frw.refl _ σ).setN (by unfold W_sm; omega)).setN (by unfold W_sm; omega)
  refine h.sm (QU.of hF) (h.G.sm hF (by simp (disch := omega) only [set_nn]) (by simp (disch := omega) only [set_nn])) (h.S.c (fun a j ha => ?_)) (h.T.c (fun a j ha => ?_)) (fun j hj => ?_) (h.F.c (fun a j ha => ?_)) (h.P.c (fun a j ha => ?_))
  · simp (disch := omega) only [set_nn]
  · simp (disch := omega) only [set_nn]
  · have h9 := h.R j hj
    by_cases g : j = q
    · subst g
      simp (disch := omega) only [set_nn, set_eq]
      omega
    · simp (disch := omega) only [set_nn]
      omega
  · simp (disch := omega) only [set_nn]
  · simp (disch := omega) only [set_nn]
theorem op_feed (a b c d e : Int) : OPI M_X9_feed M_X10_feed [am_i a, am_i b, am_i c, am_i d, am_i e] := by
  intro k σ hk ⟨t, f, c', h⟩
  have hT := h.T
  refine am_mono (c_feed σ h.G.L a b c d e hT.1 hT.2.2.1 hT.2.1 (h.rf hk 0 (by omega))) (fun r σ' hh => ?_)
  rcases hh with ⟨g1, g2, g3⟩ | ⟨g1, g2, g3, g4, g5⟩
  · refine ⟨_, g2, ?_⟩
    have e55 : σ'.2.1 55 1 = σ.2.1 55 1 := by rw [g3, set_nn (by omega)]
    have hL : lay σ' := by rw [g3]; exact (((frw.refl W_sm σ).setN (a := 54) (j := 0) (by unfold W_sm; omega)).L h.G.L)
    refine ⟨hL, am_mono (c_X10_feed σ' hL a b c d e (by rw [e55]; exact hT.2.2.1) (by rw [g3, set_nn (by omega)]; exact h.rm hk 0 (by omega))) (fun r2 σ'' h2 => ?_)⟩
    rcases h2 with ⟨k1, k2, k3⟩ | ⟨k1, -⟩
    · refine ⟨k2, t, f, c', ?_⟩
      rw [k3, g3, set_nn (show ¬ (57 = 54 ∧ 0 = 0) by omega)]
      exact h.ref 0 (by omega)
    · exact absurd (by rw [e55]; exact g1) k1
  · refine ⟨_, g2, ?_⟩
    have e55 : σ'.2.1 55 1 = σ.2.1 55 1 := g5.2.2 55 1 (by unfold W_tp; omega)
    have e56 : ∀ j, σ'.2.1 56 j = σ.2.1 56 j := fun j => g5.2.2 56 j (by unfold W_tp; omega)
    have hL : lay σ' := g5.L h.G.L
    refine ⟨hL, am_mono (c_X10_feed σ' hL a b c d e (by rw [e55]; exact hT.2.2.1) (by rw [g5.2.2 57 0 (by unfold W_tp; omega)]; exact h.rm hk 0 (by omega))) (fun r2 σ'' h2 => ?_)⟩
    rcases h2 with ⟨k1, -⟩ | ⟨k1, k2, k3⟩
    · exact absurd (by rw [← e55]; exact k1) g1
    · refine ⟨by rw [k2, e55], t, f, c', ?_⟩
      have hF : frw W_sm σ σ'' := by
        rw [k3]
        exact ((g5.mono (fun a j hw => by unfold W_sm; unfold W_tp at hw; omega)).setA (fun j => by unfold W_sm; omega)).setN (by unfold W_sm; omega)
      have E : ∀ a j, ¬ (a = 2 ∨ (a = 1 ∧ j = 1) ∨ a = 56 ∨ (a = 55 ∧ j = 1)) → σ''.2.1 a j = σ.2.1 a j := fun a j hw => by
        rw [k3, set_nn (by omega), setA_nn (by omega)]
        exact g5.2.2 a j (by unfold W_tp; omega)
      have ef : fdF σ' a b c d e (σ.2.1 55 1).toNat 20 = fdF σ a b c d e (σ.2.1 55 1).toNat 20 := by
        funext j
        unfold fdF
        rw [e56]
      refine h.sm (QU.of hF) (h.G.sm hF (E _ _ (by omega)) (E _ _ (by omega))) (h.S.c (fun a j ha => E a j (by omega))) ?_ (h.R.c (by omega) (fun a j ha => E a j (by omega))) (h.F.c (fun a j ha => E a j (by omega))) (h.P.c (fun a j ha => E a j (by omega)))
      have x1 : σ''.2.1 55 1 = σ.2.1 55 1 + 20 := by rw [k3, set_eq, e55]
      have x2 : ∀ j, σ''.2.1 56 j = fdF σ a b c d e (σ.2.1 55 1).toNat 20 j := fun j => by
        rw [k3, set_nn (by omega), setA_eq, e55, ef]
      refine ⟨?_, fun j => ?_, ?_, fun j hj => ?_⟩
      · rw [x1, k3, set_nn (by omega), setA_nn (by omega)]
        exact g3
      · rw [x2, k3, set_nn (by omega), setA_nn (by omega)]
        exact g4 j
      · rw [x1]
        have h9 := hT.2.2.1
        omega
      · rw [x2]
        unfold fdF
        split
        · exact fdB_rng _ _ _ _ _ _
        · exact hT.2.2.2 j hj
theorem op_end (n : Int) : OPI M_X9_end M_X10_end [am_i n] := by
  intro k σ hk ⟨t, f, c', h⟩
  have hT := h.T
  refine am_mono (c_end σ h.G.L n (h.rf hk 0 (by omega))) (fun r σ' hh => ⟨_, hh.1, ?_⟩)
  have h3 := hh.2
  rw [hT.1] at h3
  by_cases g : n < 0 ∨ n > σ.2.1 55 1
  · rw [if_pos g] at h3
    have e55 : σ'.2.1 55 1 = σ.2.1 55 1 := by rw [h3, set_nn (by omega)]
    have hL : lay σ' := by rw [h3]; exact (((frw.refl W_sm σ).setN (a := 54) (j := 0) (by unfold W_sm; omega)).L h.G.L)
    refine ⟨hL, am_mono (c_X10_end σ' hL n (by rw [h3, set_nn (by omega)]; exact h.rm hk 0 (by omega))) (fun r2 σ'' h2 => ⟨by rw [h2.1, e55, hT.1], t, f, c', ?_⟩)⟩
    have h4 := h2.2
    rw [e55, if_pos g] at h4
    rw [h4, h3, set_nn (show ¬ (57 = 54 ∧ 0 = 0) by omega)]
    exact h.ref 0 (by omega)
  · rw [if_neg g] at h3
    have e55 : σ'.2.1 55 1 = σ.2.1 55 1 := by rw [h3, set_nn (by omega)]
    have hF0 : frw W_sm σ σ' := by rw [h3]; exact (frw.refl W_sm σ).setN (by unfold W_sm; omega)
    refine ⟨hF0.L h.G.L, am_mono (c_X10_end σ' (hF0.L h.G.L) n (by rw [h3, set_nn (by omega)]; exact h.rm hk 0 (by omega))) (fun r2 σ'' h2 => ⟨by rw [h2.1, e55, hT.1], t, f, c', ?_⟩)⟩
    have h4 := h2.2
    rw [e55, if_neg g] at h4
    have hF : frw W_sm σ σ'' := by rw [h4]; exact hF0.setN (by unfold W_sm; omega)
    have E : ∀ a j, ¬ ((a = 1 ∧ j = 1) ∨ (a = 55 ∧ j = 1)) → σ''.2.1 a j = σ.2.1 a j := fun a j hw => by
      rw [h4, set_nn (by omega), h3, set_nn (by omega)]
    refine h.sm (QU.of hF) (h.G.sm hF (E _ _ (by omega)) (E _ _ (by omega))) (h.S.c (fun a j ha => E a j (by omega))) ?_ (h.R.c (by omega) (fun a j ha => E a j (by omega))) (h.F.c (fun a j ha => E a j (by omega))) (h.P.c (fun a j ha => E a j (by omega)))
    have x1 : σ''.2.1 55 1 = n := by rw [h4, set_eq]
    have x0 : σ''.2.1 1 1 = n := by rw [h4, set_nn (by omega), h3, set_eq]
    refine ⟨by rw [x0, x1], fun j => by rw [E 2 j (by omega), E 56 j (by omega)]; exact hT.2.1 j, by rw [x1]; have h9 := hT.2.2.1; omega, fun j hj => by rw [E 56 j (by omega)]; exact hT.2.2.2 j hj⟩
theorem op_seed (x : Int) (hx : x < 2147483648) : OPI M_X9_seed M_X10_seed [am_i x] := by
  intro k σ hk ⟨t, f, c', h⟩
  refine am_mono (c_seed σ h.G.L x (h.rf hk 5 (by omega))) (fun r σ' hh => ⟨_, hh.1, ?_⟩)
  have h3 := hh.2
  by_cases g : x < 0
  · rw [if_pos g] at h3
    have hL : lay σ' := by rw [h3]; exact (((frw.refl W_sm σ).setN (a := 54) (j := 5) (by unfold W_sm; omega)).L h.G.L)
    refine ⟨hL, am_mono (c_X10_seed σ' hL x (by rw [h3, set_nn (by omega)]; exact h.rm hk 5 (by omega))) (fun r2 σ'' h2 => ⟨h2.1, t, f, c', ?_⟩)⟩
    have h4 := h2.2
    rw [if_pos g] at h4
    rw [h4, h3, set_nn (show ¬ (57 = 54 ∧ 5 = 5) by omega)]
    exact h.ref 5 (by omega)
  · rw [if_neg g] at h3
    have hF0 : frw W_sm σ σ' := by rw [h3]; exact (frw.refl W_sm σ).setN (by unfold W_sm; omega)
    refine ⟨hF0.L h.G.L, am_mono (c_X10_seed σ' (hF0.L h.G.L) x (by rw [h3, set_nn (by omega)]; exact h.rm hk 5 (by omega))) (fun r2 σ'' h2 => ⟨h2.1, t, f, c', ?_⟩)⟩
    have h4 := h2.2
    rw [if_neg g] at h4
    have hF : frw W_sm σ σ'' := by rw [h4]; exact hF0.setN (by unfold W_sm; omega)
    have E : ∀ a j, ¬ ((a = 0 ∧ j = 16) ∨ (a = 55 ∧ j = 71)) → σ''.2.1 a j = σ.2.1 a j := fun a j hw => by
      rw [h4, set_nn (by omega), h3, set_nn (by omega)]
    refine h.sm (QU.of hF) (h.G.sm hF (E _ _ (by omega)) (E _ _ (by omega))) (h.S.c (fun a j ha => E a j (by omega))) (h.T.c (fun a j ha => E a j (by omega))) (h.R.c (by omega) (fun a j ha => E a j (by omega))) ?_ (h.P.c (fun a j ha => E a j (by omega)))
    have x1 : σ''.2.1 55 71 = x := by rw [h4, set_eq]
    have x0 : σ''.2.1 0 16 = x := by rw [h4, set_nn (by omega), h3, set_eq]
    refine ⟨⟨by rw [E 0 14 (by omega), E 55 7 (by omega)]; exact h.F.1.1, by rw [E 0 15 (by omega), E 55 8 (by omega)]; exact h.F.1.2⟩, by rw [x0, x1], by rw [x1]; omega, by rw [x1]; exact hx⟩
theorem seC_eq {σ τ : am_H} (e : ∀ a j, (a = 55 ∧ j = 1) ∨ a = 56 ∨ a = 85 ∨ a = 96 → τ.2.1 a j = σ.2.1 a j) : seC τ ↔ seC σ := by
  have e2 : seB τ = seB σ := by
    funext k
    unfold seB
    rw [e 56 _ (by omega), e 85 5 (by omega), e 96 _ (by omega), e 56 _ (by omega)]
  unfold seC
  rw [e2, e 55 1 (by omega)]
theorem seC_at {σ : am_H} (h : seC σ) {k : Nat} (hk : k < (σ.2.1 55 1 / 2).toNat) : 0 ≤ σ.2.1 56 (2 * k) ∧ σ.2.1 56 (2 * k) ≤ σ.2.1 85 5 - 1 := by
  have h2 : seB σ k = false := by
    rcases hb : seB σ k with _ | _
    · rfl
    · have h9 := h.2
      rw [anyB_t hb hk] at h9
      exact absurd h9 (by simp)
  unfold seB at h2
  simp only [decide_eq_false_iff_not, Decidable.not_not] at h2
  exact h2.1.1
theorem op_see : OPI M_X9_see M_X10_see [] := by
  intro k σ hk ⟨t, f, c', h⟩
  have hT := h.T
  have main : ∀ r σ', ((seC σ ∧ r = some (am_i (σ.2.1 55 1 / 2)) ∧ σ'.2.1 1 1 = 0 ∧ σ'.2.1 0 11 = σ.2.1 55 1 / 2 ∧ (∀ k : Nat, (k : Int) < σ.2.1 55 1 / 2 → σ'.2.1 51 k = σ.2.1 56 (2 * k) ∧ σ'.2.1 52 k = σ.2.1 56 (2 * k + 1)) ∧ frw W_see σ σ') ∨ (¬ seC σ ∧ r = some (am_i (-1)) ∧ σ' = am_setN (am_setN σ 1 1 0) 54 1 (σ.2.1 54 1 + 1))) → ∃ v : Int, r = some (am_i v) ∧ lay σ' ∧ am_met M_X10_see [am_r 55] σ' (fun r2 σ'' => r2 = some (am_i v) ∧ INV (k + 1) σ'') := by
    intro r σ' hh
    rcases hh with ⟨g1, g2, g3, g4, g5, g6⟩ | ⟨g1, g2, g3⟩
    · refine ⟨_, g2, ?_⟩
      have E0 : ∀ a j, 55 ≤ a → σ'.2.1 a j = σ.2.1 a j := fun a j ha => g6.2.2 a j (by unfold W_see; omega)
      have hF0 : frw W_sm σ σ' := g6.mono (fun a j hw => by unfold W_sm; unfold W_see at hw; omega)
      have hG' := h.G.sm hF0 (E0 _ _ (by omega)) (E0 _ _ (by omega))
      refine ⟨hG'.L, am_mono (c_X10_see σ' hG' (by unfold TPR; rw [E0 55 1 (by omega)]; exact ⟨hT.2.2.1, fun j hj => by rw [E0 56 j (by omega)]; exact hT.2.2.2 j hj⟩) (by rw [E0 57 1 (by omega)]; exact h.rm hk 1 (by omega))) (fun r2 σ'' h2 => ?_)⟩
      have hsc : seC σ' ↔ seC σ := seC_eq (fun a j ha => E0 a j (by omega))
      rcases h2 with ⟨k1, k2, k3⟩ | ⟨k1, -⟩
      · refine ⟨by rw [k2, E0 55 1 (by omega)], t, f, c', ?_⟩
        have k4 : σ'' = am_setN (am_setA (am_setN σ' 55 1 0) 100 (fun j => if j < (σ'.2.1 55 1).toNat then σ'.2.1 56 j else σ'.2.1 100 j)) 55 65 (σ'.2.1 55 1 / 2) := k3
        have hF : frw W_sm σ σ'' := by rw [k4]; exact ((hF0.setN (by unfold W_sm; omega)).setA (fun j => by unfold W_sm; omega)).setN (by unfold W_sm; omega)
        have E : ∀ a j, ¬ ((a = 1 ∧ j = 1) ∨ a = 51 ∨ a = 52 ∨ (a = 0 ∧ j = 11) ∨ (a = 55 ∧ (j = 1 ∨ j = 65)) ∨ a = 100) → σ''.2.1 a j = σ.2.1 a j := fun a j hw => by
          rw [k4, set_nn (by omega), setA_nn (by omega), set_nn (by omega)]
          exact g6.2.2 a j (by unfold W_see; omega)
        have x65 : σ''.2.1 55 65 = σ.2.1 55 1 / 2 := by rw [k4, set_eq, E0 55 1 (by omega)]
        have x1 : σ''.2.1 55 1 = 0 := by rw [k4, set_nn (by omega), setA_nn (by omega), set_eq]
        have x100 : ∀ j, σ''.2.1 100 j = if j < (σ.2.1 55 1).toNat then σ.2.1 56 j else σ.2.1 100 j := fun j => by
          rw [k4, set_nn (by omega), setA_eq, E0 55 1 (by omega), E0 56 j (by omega), E0 100 j (by omega)]
        have y : ∀ a j, ¬ (a = 55 ∨ a = 100) → σ''.2.1 a j = σ'.2.1 a j := fun a j hw => by rw [k4, set_nn (by omega), setA_nn (by omega), set_nn (by omega)]
        have hc := g1.1
        have hP := h.G.R.P
        refine h.sm (QU.of hF) (h.G.sm hF (E _ _ (by omega)) (E _ _ (by omega))) ?_ ?_ (h.R.c (by omega) (fun a j ha => E a j (by omega))) (h.F.c (fun a j ha => E a j (by omega))) (h.P.c (fun a j ha => E a j (by omega)))
        · refine ⟨⟨by rw [x65]; omega, fun k hk => ?_⟩, by rw [x65, y 0 11 (by omega)]; exact g4, fun k hk => ?_⟩
          · rw [x100]
            split
            · have h9 := seC_at g1 (k := k) (by omega)
              omega
            · exact h.S.1.2 k hk
          · rw [x65] at hk
            have h9 := g5 k hk
            rw [x100, x100, if_pos (by omega), if_pos (by omega), y 51 k (by omega), y 52 k (by omega)]
            exact h9
        · refine ⟨by rw [x1, y 1 1 (by omega)]; exact g3, fun j => by rw [E 2 j (by omega), E 56 j (by omega)]; exact hT.2.1 j, by rw [x1]; omega, fun j hj => by rw [E 56 j (by omega)]; exact hT.2.2.2 j hj⟩
      · exact absurd (hsc.mpr g1) k1
    · refine ⟨_, g2, ?_⟩
      have E0 : ∀ a j, 55 ≤ a → σ'.2.1 a j = σ.2.1 a j := fun a j ha => by rw [g3, set_nn (by omega), set_nn (by omega)]
      have hF0 : frw W_sm σ σ' := by rw [g3]; exact ((frw.refl _ σ).setN (by unfold W_sm; omega)).setN (by unfold W_sm; omega)
      have hG' := h.G.sm hF0 (E0 _ _ (by omega)) (E0 _ _ (by omega))
      refine ⟨hG'.L, am_mono (c_X10_see σ' hG' (by unfold TPR; rw [E0 55 1 (by omega)]; exact ⟨hT.2.2.1, fun j hj => by rw [E0 56 j (by omega)]; exact hT.2.2.2 j hj⟩) (by rw [E0 57 1 (by omega)]; exact h.rm hk 1 (by omega))) (fun r2 σ'' h2 => ?_)⟩
      have hsc : seC σ' ↔ seC σ := seC_eq (fun a j ha => E0 a j (by omega))
      rcases h2 with ⟨k1, -⟩ | ⟨k1, k2, k3⟩
      · exact absurd (hsc.mp k1) g1
      · refine ⟨k2, t, f, c', ?_⟩
        have hF : frw W_sm σ σ'' := by rw [k3]; exact (hF0.setN (by unfold W_sm; omega)).setN (by unfold W_sm; omega)
        have E : ∀ a j, ¬ ((a = 1 ∧ j = 1) ∨ (a = 55 ∧ j = 1) ∨ (a = 54 ∧ j = 1) ∨ (a = 57 ∧ j = 1)) → σ''.2.1 a j = σ.2.1 a j := fun a j hw => by
          rw [k3, set_nn (by omega), set_nn (by omega), g3, set_nn (by omega), set_nn (by omega)]
        have x1 : σ''.2.1 55 1 = 0 := by rw [k3, set_nn (by omega), set_eq]
        have x0 : σ''.2.1 1 1 = 0 := by rw [k3, set_nn (by omega), set_nn (by omega), g3, set_nn (by omega), set_eq]
        have x2 : σ''.2.1 54 1 = σ.2.1 54 1 + 1 := by rw [k3, set_nn (by omega), set_nn (by omega), g3, set_eq]
        have x3 : σ''.2.1 57 1 = σ.2.1 57 1 + 1 := by rw [k3, set_eq, E0 57 1 (by omega)]
        refine h.sm (QU.of hF) (h.G.sm hF (E _ _ (by omega)) (E _ _ (by omega))) (h.S.c (fun a j ha => E a j (by omega))) ?_ (fun j hj => ?_) (h.F.c (fun a j ha => E a j (by omega))) (h.P.c (fun a j ha => E a j (by omega)))
        · refine ⟨by rw [x1, x0], fun j => by rw [E 2 j (by omega), E 56 j (by omega)]; exact hT.2.1 j, by rw [x1]; omega, fun j hj => by rw [E 56 j (by omega)]; exact hT.2.2.2 j hj⟩
        · have h9 := h.R j hj
          by_cases g : j = 1
          · subst g
            rw [x2, x3]
            omega
          · rw [E 54 j (by omega), E 57 j (by omega)]
            omega
  rcases h.H.1 with rfl | rfl
  · exact am_mono (c_see_3 σ h.C hT.1 hT.2.2 hT.2.1 (h.rf hk 1 (by omega))) main
  · exact am_mono (c_see_15 σ h.C hT.1 hT.2.2 hT.2.1 (h.rf hk 1 (by omega))) main
theorem IV.m20 {t f c n : Nat} {σ : am_H} (h : IV t f c n σ) : 0 ≤ stM σ 20 ∧ stM σ 20 ≤ 30 := h.Q.1.2.2.2.2.1
theorem IV.m111 {t f c n : Nat} {σ : am_H} (h : IV t f c n σ) : 0 ≤ stM σ 111 ∧ stM σ 111 ≤ 30 := h.Q.1.2.2.2.2.2
theorem imL_len {σ : am_H} (hR : MR σ) (h1 : stM σ 20 ≤ 30) (h2 : stM σ 111 ≤ 30) : (imL σ).length ≤ 146 := by
  have a1 := dL_le (σ := σ) 20 (fun d hd => hR.told d hd)
  have a2 := dL_le (σ := σ) 111 (fun d hd => hR.brib d hd)
  have a3 := ppL_len σ (pN σ)
  have a4 := hR.P
  have a5 : pN σ ≤ 8 := by unfold pN; omega
  unfold imL imB
  simp only [List.length_append, List.length_cons, List.length_nil, a3]
  omega
theorem op_image : OPI M_X9_image M_X10_image [] := by
  intro k σ hk ⟨t, f, c', h⟩
  have main : ∀ r σ', (r = some (am_i ((imL σ).length : Int)) ∧ IC σ (imL σ) σ') → ∃ v : Int, r = some (am_i v) ∧ lay σ' ∧ am_met M_X10_image [am_r 55] σ' (fun r2 σ'' => r2 = some (am_i v) ∧ INV (k + 1) σ'') := by
    intro r σ' ⟨g1, g2, g3, g4, g5⟩
    refine ⟨_, g1, ?_⟩
    have E0 : ∀ a j, 55 ≤ a → σ'.2.1 a j = σ.2.1 a j := fun a j ha => g2.2.2 a j (by unfold W_ic; omega)
    have hF0 : frw W_sm σ σ' := g2.mono (fun a j hw => by unfold W_sm; unfold W_ic at hw; omega)
    have hG' := h.G.sm hF0 (E0 _ _ (by omega)) (E0 _ _ (by omega))
    have hcn : cn σ' = cn σ := cn_eq (fun a j h1 h2 => E0 a j (by omega))
    have m1 := h.m20
    have m2 := h.m111
    refine ⟨hG'.L, am_mono (c_X10_image σ' hG' (by rw [stM_eq9 hcn]; exact m1) (by rw [stM_eq9 hcn]; exact m2)) (fun r2 σ'' h2 => ?_)⟩
    rw [imL_eq9 hcn] at h2
    obtain ⟨k1, k2, k3, k4, k5⟩ := h2
    refine ⟨k1, t, f, c', ?_⟩
    have hF : frw W_sm σ σ'' := hF0.trans (k2.mono (fun a j hw => by unfold W_sm; unfold W_im at hw; omega))
    have E : ∀ a j, ¬ (a = 50 ∨ (a = 49 ∧ j = 1) ∨ a = 130 ∨ (a = 55 ∧ j = 107)) → σ''.2.1 a j = σ.2.1 a j := fun a j hw => (k2.2.2 a j (by unfold W_im; omega)).trans (g2.2.2 a j (by unfold W_ic; omega))
    have hl := imL_len h.G.R m1.2 m2.2
    refine h.sm (QU.of hF) (h.G.sm hF (E _ _ (by omega)) (E _ _ (by omega))) (h.S.c (fun a j ha => E a j (by omega))) (h.T.c (fun a j ha => E a j (by omega))) (h.R.c (by omega) (fun a j ha => E a j (by omega))) (h.F.c (fun a j ha => E a j (by omega))) ?_
    have x1 : σ''.2.1 49 1 = ((imL σ).length : Int) := (k2.2.2 49 1 (by unfold W_im; omega)).trans g3
    refine ⟨by rw [x1, k3], by rw [k3]; omega, fun j hj => ?_⟩
    rw [k3] at hj
    rw [k4 j (by omega), k2.2.2 50 j (by unfold W_im; omega), g4 j (by omega)]
  rcases h.H.1 with rfl | rfl
  · exact am_mono (c_image_3 σ h.C h.Q.1.2.2.1 h.m20 h.m111) main
  · exact am_mono (c_image_15 σ h.C h.Q.1.2.2.1 h.m20 h.m111) main
