set_option maxHeartbeats 2000000 in
theorem op_on : OPI M_X9_on M_X10_on [] := by
  intro k σ hk ⟨t, f, c, h⟩
  have hT := h.T
  have main : ∀ r σ', ((iiC σ (σ.2.1 55 1) = true ∧ r = some (am_i 1) ∧ LF0 32 σ' (onN σ) ∧ RWr 32 σ' (onN σ) ∧ σ'.2.1 1 1 = 0 ∧ σ'.2.1 42 2 = 0 ∧ frw W_onC σ σ') ∨ (iiC σ (σ.2.1 55 1) = false ∧ r = some (am_i 0) ∧ σ'.2.1 1 1 = 0 ∧ σ'.2.1 54 5 = σ.2.1 54 5 + 1 ∧ frw W_onD σ σ')) → ∃ v : Int, r = some (am_i v) ∧ lay σ' ∧ am_met M_X10_on [am_r 55] σ' (fun r2 σ'' => r2 = some (am_i v) ∧ INV (k + 1) σ'') := by
    intro r σ' hh
    have both : ∀ σ' : am_H, lay σ' → (∀ a j, 55 ≤ a → a ≤ 130 → σ'.2.1 a j = σ.2.1 a j) → GD σ' ∧ TPR σ' ∧ (0 ≤ σ'.2.1 57 5 ∧ σ'.2.1 57 5 ≤ 100000) ∧ iiC σ' (σ'.2.1 55 1) = iiC σ (σ.2.1 55 1) ∧ ∀ k, onN σ' k = onN σ k := fun σ' hL E => by
      obtain ⟨hG', -, -, -, h57⟩ := h.mid9 hk hL E
      have em := mk9_eq (σ := σ) (τ := σ') (fun a j h1 h2 => E a j h1 (by omega))
      refine ⟨hG', ?_, h57 5 (by omega), ?_, fun k => ?_⟩
      · unfold TPR
        rw [E 55 1 (by omega) (by omega)]
        exact ⟨hT.2.2.1, fun j hj => by rw [E 56 j (by omega) (by omega)]; exact hT.2.2.2 j hj⟩
      · rw [E 55 1 (by omega) (by omega), ← iiC_mk σ', em, iiC_mk]
      · rw [← onN_mk σ', em, onN_mk]
    rcases hh with ⟨g1, g2, g3, g4, g5, g6, g7⟩ | ⟨g1, g2, g3, g4, g5⟩
    · refine ⟨_, g2, ?_⟩
      have E0 : ∀ a j, ¬ ((32 ≤ a ∧ a ≤ 41) ∨ (a = 1 ∧ j = 1) ∨ (a = 42 ∧ j = 2)) → σ'.2.1 a j = σ.2.1 a j := fun a j hw => g7.2.2 a j (by unfold W_onC; exact hw)
      obtain ⟨hG', hTP, h57, eii, eon⟩ := both σ' (g7.L h.G.L) (fun a j h1 h2 => E0 a j (by omega))
      refine ⟨hG'.L, am_mono (c_X10_on σ' hG' hTP h57) (fun r2 σ'' h2 => ?_)⟩
      rcases h2 with ⟨k1, k2, k3, k4, k5, k6⟩ | ⟨k1, -⟩
      · refine ⟨k2, t, f, 0, ?_⟩
        have E : ∀ a j, ¬ (a = 96 ∨ (a = 55 ∧ (j = 1 ∨ j = 69))) → σ''.2.1 a j = σ'.2.1 a j := fun a j hw => k3.2.2 a j (by unfold W_on; exact hw)
        have Es : ∀ a j, ¬ (a = 96 ∨ (a = 55 ∧ (j = 1 ∨ j = 69)) ∨ (32 ≤ a ∧ a ≤ 41) ∨ (a = 1 ∧ j = 1) ∨ (a = 42 ∧ j = 2)) → σ''.2.1 a j = σ.2.1 a j := fun a j hw => (E a j (by omega)).trans (E0 a j (by omega))
        have x96 : ∀ k, σ''.2.1 96 k = onN σ k := fun k => (k4 k).trans (eon k)
        have S1 : σ''.1 = σ.1 := k3.1.trans g7.1
        have S2 : σ''.2.2 = σ.2.2 := k3.2.1.trans g7.2.1
        have hL : lay σ'' := k3.L (g7.L h.G.L)
        have hKn := onN_LK h.G hT.2.2 h.Q.1 g1
        have e9 : (fun k => σ''.2.1 96 k) = onN σ := funext x96
        have hG : GD σ'' := GD_now (f := onN σ) h.G hL (cn_eq (fun a j h1 h2 => by
          by_cases g9 : a = 96
          · subst g9; rw [setA_eq]; exact x96 j
          · rw [setA_nn g9]; exact Es a j (by omega))) (Es 55 52 (by omega)) hKn.1 (by rw [Es 55 59 (by omega)]; exact h.G.o) (by rw [Es 55 61 (by omega)]; exact h.G.t)
        have e1 : ∀ (a : Nat) (q : Nat × Nat), σ.1[a]? = some q → σ''.1[a]? = some q := fun a q hq => by rw [S1]; exact hq
        refine ⟨hG, h.H.c e1 (fun a j _ => by rw [S2]), h.W.c9 h.H e1 (fun r _ => by rw [S2]) (fun a j ha => Es a j (by omega)) (fun r hr x hx hx1 i => Es x i (by omega)), ⟨?_, ?_⟩, ⟨?_, fun q hq => ?_⟩, h.S.c (fun a j ha => Es a j (by omega)), ?_, h.R.c (by omega) (fun a j ha => Es a j (by omega)), h.F.c (fun a j ha => Es a j (by omega)), h.P.c (fun a j ha => Es a j (by omega)), h.D.c (fun a j ha => Es a j (by omega)), ?_⟩
        · rw [e9]; exact g3.cells (fun a j ha => E a j (by omega))
        · rw [e9]; exact g4.cells (fun a j ha => E a j (by omega))
        · rw [e9, Es 85 9 (by omega), show pN σ'' = pN σ by unfold pN; rw [Es 85 5 (by omega)]]; exact hKn
        · rw [Es 85 5 (by omega)] at hq
          rw [Es 86 _ (by omega)]
          exact h.Q.2 q hq
        · exact ⟨by rw [k5, E 1 1 (by omega)]; exact g5, fun j => by rw [Es 2 j (by omega), Es 56 j (by omega)]; exact hT.2.1 j, by rw [k5]; omega, fun j hj => by rw [Es 56 j (by omega)]; exact hT.2.2.2 j hj⟩
        · exact ⟨⟨⟨(Es 42 1 (by omega)).trans h.K.1.1.1, (E 42 2 (by omega)).trans g6⟩, ⟨h.K.1.2.1.1, by omega⟩, h.K.1.2.2.c9 e1 (fun a j _ => by rw [S2])⟩, k6, by rw [Es 55 70 (by omega)]; exact h.K.2.2.1, fun j hj => absurd hj (Nat.not_lt_zero j)⟩
      · rw [eii, g1] at k1
        exact absurd k1 (by decide)
    · refine ⟨_, g2, ?_⟩
      have E0 : ∀ a j, ¬ ((37 ≤ a ∧ a ≤ 41) ∨ (a = 1 ∧ j = 1) ∨ (a = 54 ∧ j = 5)) → σ'.2.1 a j = σ.2.1 a j := fun a j hw => g5.2.2 a j (by unfold W_onD; exact hw)
      obtain ⟨hG', hTP, h57, eii, eon⟩ := both σ' (g5.L h.G.L) (fun a j h1 h2 => E0 a j (by omega))
      refine ⟨hG'.L, am_mono (c_X10_on σ' hG' hTP h57) (fun r2 σ'' h2 => ?_)⟩
      rcases h2 with ⟨k1, -⟩ | ⟨k1, k2, k3⟩
      · rw [eii, g1] at k1
        exact absurd k1 (by decide)
      · refine ⟨k2, t, f, c, ?_⟩
        have hF : frw W_sm σ σ'' := by rw [k3]; exact ((g5.mono (fun a j z => by rcases z with z | z | z; exact Or.inl (Or.inr (Or.inl z)); unfold W_sm; omega; unfold W_sm; omega)).setN (by unfold W_sm; omega)).setN (by unfold W_sm; omega)
        have E : ∀ a j, ¬ ((37 ≤ a ∧ a ≤ 41) ∨ (a = 1 ∧ j = 1) ∨ (a = 54 ∧ j = 5) ∨ (a = 55 ∧ j = 1) ∨ (a = 57 ∧ j = 5)) → σ''.2.1 a j = σ.2.1 a j := fun a j hw => by
          rw [k3, set_nn (by omega), set_nn (by omega)]
          exact E0 a j (by omega)
        have x1 : σ''.2.1 55 1 = 0 := by rw [k3, set_nn (by omega), set_eq]
        have x0 : σ''.2.1 1 1 = 0 := by rw [k3, set_nn (by omega), set_nn (by omega)]; exact g3
        have x2 : σ''.2.1 54 5 = σ.2.1 54 5 + 1 := by rw [k3, set_nn (by omega), set_nn (by omega)]; exact g4
        have x3 : σ''.2.1 57 5 = σ.2.1 57 5 + 1 := by rw [k3, set_eq, E0 57 5 (by omega)]
        refine h.sm (QU.of hF) (h.G.sm hF (E _ _ (by omega)) (E _ _ (by omega))) (h.S.c (fun a j ha => E a j (by omega))) ?_ (fun j hj => ?_) (h.F.c (fun a j ha => E a j (by omega))) (h.P.c (fun a j ha => E a j (by omega)))
        · refine ⟨by rw [x1, x0], fun j => by rw [E 2 j (by omega), E 56 j (by omega)]; exact hT.2.1 j, by rw [x1]; omega, fun j hj => by rw [E 56 j (by omega)]; exact hT.2.2.2 j hj⟩
        · have h9 := h.R j hj
          by_cases g : j = 5
          · subst g
            rw [x2, x3]
            omega
          · rw [E 54 j (by omega), E 57 j (by omega)]
            omega
  have h59 : ¬ σ.2.1 55 52 = 0 ↔ 0 < σ.2.1 85 9 := by
    have h9 := h.G.R.T
    omega
  rcases h.H.1 with rfl | rfl
  · exact am_mono (c_on_3 σ h.C hT.1 hT.2.1 hT.2.2 h.Q.1.2.2.2.1 h59 (h.rf hk 5 (by omega))) main
  · exact am_mono (c_on_15 σ h.C hT.1 hT.2.1 hT.2.2 h.Q.1.2.2.2.1 h59 (h.rf hk 5 (by omega))) main
