theorem tx_no {a j : Nat} (h : a ≤ 54 ∨ (56 ≤ a ∧ a ≤ 84) ∨ (97 ≤ a ∧ a ≤ 126) ∨ 129 ≤ a ∨ UPc a j ∨ (a = 55 ∧ ¬ (j = 2 ∨ j = 4 ∨ j = 5 ∨ j = 6 ∨ j = 10 ∨ j = 38 ∨ j = 97 ∨ j = 99 ∨ j = 100 ∨ j = 101 ∨ j = 53 ∨ j = 50 ∨ j = 51))) : ¬ W_tx a j := by
  intro z
  rcases z with z | z
  · unfold W_tw at z
    rcases z with z | z
    · rcases z with (z | z) | z
      · unfold W_sc at z; unfold UPc at h; omega
      · unfold W_q at z; unfold UPc at h; omega
      · unfold UPc at h; omega
    · unfold UPc at h; omega
  · unfold UPc at h; omega
/-- a text that is no town, told to both -/
theorem town_bad {t u f c k : Nat} {σ σ' σ'' : am_H} {x y : Int} (hu : (t = 3 ∧ u = 15) ∨ (t = 15 ∧ u = 3)) (h : IV t f c k σ) (hL' : lay σ') (hC : CDt u σ') (g4 : σ'.2.1 0 14 = x ∧ σ'.2.1 0 15 = y ∧ σ'.2.1 1 1 = 0 ∧ σ'.2.1 54 1 = σ.2.1 54 1 + 1) (g5 : σ'.2.2 0 2 = some t ∧ σ'.2.2 0 3 = some (18 - t)) (g6 : GTF u W_tb σ σ') (hF : frw W_tx (am_setN (am_setN (am_setN (t1H σ') 55 7 x) 55 8 y) 57 1 (σ'.2.1 57 1 + 1)) σ'') (hLR : LRG σ'') : INV (k + 1) σ'' := by
  have hT := h.T
  obtain ⟨f1, f2, f3, f4, f5⟩ := GTF.fx hu h.H h.G.L g6
  have hlen := h.G.L.len
  have hIH := IH.tw hu h.H h.G.L g6 hC h.H.1 g5.1 g5.2
  obtain ⟨hP, p43, pb⟩ := PST.tw hu h.H h.G.L g6 (fun a j ha => by unfold W_tb; omega) h.K.1.2.2
  have S1 : σ''.1 = σ'.1 := hF.1
  have S2 : σ''.2.2 = σ'.2.2 := hF.2.1
  have hLL : lay σ'' := by
    have hx : frw (fun _ _ => True) σ' σ'' := ⟨S1, S2, fun a j h => absurd trivial h⟩
    exact hx.L hL'
  have EM : ∀ a j, ¬ W_tx a j → ¬ (a = 55 ∧ (j = 1 ∨ j = 3 ∨ j = 7 ∨ j = 8)) → ¬ (a = 57 ∧ j = 1) → σ''.2.1 a j = σ'.2.1 a j := fun a j h1 h2 h3 => by
    rw [hF.2.2 a j h1, set_nn (by omega), set_nn (by omega), set_nn (by omega)]
    unfold t1H
    rw [set_nn (by omega), set_nn (by omega)]
  have E0 : ∀ a j, a ≤ 130 → ¬ (u ≤ a ∧ a ≤ u + 11) → ¬ (27 ≤ a ∧ a ≤ 31) → ¬ ((a = 1 ∧ j = 1) ∨ (a = 0 ∧ (j = 14 ∨ j = 15)) ∨ (a = 54 ∧ j = 1)) → σ'.2.1 a j = σ.2.1 a j := fun a j h1 h2 h3 h4 => f1 a j h1 h2 h3 (by unfold W_tb; exact h4)
  -- the class's cells
  have EC : ∀ a j, a ≤ 54 → ¬ (u ≤ a ∧ a ≤ u + 11) → ¬ (27 ≤ a ∧ a ≤ 31) → ¬ ((a = 1 ∧ j = 1) ∨ (a = 0 ∧ (j = 14 ∨ j = 15)) ∨ (a = 54 ∧ j = 1)) → σ''.2.1 a j = σ.2.1 a j := fun a j h1 h2 h3 h4 => (EM a j (tx_no (by omega)) (by omega) (by omega)).trans (E0 a j (by omega) h2 h3 h4)
  -- the model's
  have ED : ∀ a j, (56 ≤ a ∧ a ≤ 84) ∨ (97 ≤ a ∧ a ≤ 126) ∨ (129 ≤ a ∧ a ≤ 130) ∨ UPc a j → ¬ (a = 57 ∧ j = 1) → σ''.2.1 a j = σ.2.1 a j := fun a j h1 h2 => by
    have ha : 56 ≤ a ∧ a ≤ 130 := by unfold UPc at h1; omega
    exact (EM a j (tx_no (by rcases h1 with z | z | z | z; exact Or.inr (Or.inl z); exact Or.inr (Or.inr (Or.inl z)); exact Or.inr (Or.inr (Or.inr (Or.inl z.1))); exact Or.inr (Or.inr (Or.inr (Or.inr (Or.inl z)))))) (by omega) h2).trans (E0 a j (by omega) (by omega) (by omega) (by omega))
  have E5 : ∀ j, j = 52 ∨ j = 59 ∨ j = 61 ∨ j = 65 ∨ j = 69 ∨ j = 70 ∨ j = 71 ∨ j = 107 → σ''.2.1 55 j = σ.2.1 55 j := fun j hj => (EM 55 j (tx_no (by omega)) (by omega) (by omega)).trans (E0 55 j (by omega) (by omega) (by omega) (by omega))
  have eU : ∀ a j, UPc a j → σ''.2.1 a j = σ.2.1 a j := fun a j ha => ED a j (Or.inr (Or.inr (Or.inr ha))) (by unfold UPc at ha; omega)
  have e1 : ∀ (a : Nat) (q : Nat × Nat), σ.1[a]? = some q → σ''.1[a]? = some q := fun a q hq => by rw [S1]; exact f4 a q hq
  have E131 : ∀ a j, 131 ≤ a → σ''.2.1 a j = σ'.2.1 a j := fun a j ha => EM a j (tx_no (by omega)) (by omega) (by omega)
  have x1 : σ''.2.1 55 1 = 0 := by
    rw [hF.2.2 55 1 (tx_no (by omega)), set_nn (by omega), set_nn (by omega), set_nn (by omega)]
    unfold t1H
    rw [set_eq]
  have x7 : σ''.2.1 55 7 = x := by rw [hF.2.2 55 7 (tx_no (by omega)), set_nn (by omega), set_nn (by omega), set_eq]
  have x8 : σ''.2.1 55 8 = y := by rw [hF.2.2 55 8 (tx_no (by omega)), set_nn (by omega), set_eq]
  have x57 : σ''.2.1 57 1 = σ.2.1 57 1 + 1 := by rw [hF.2.2 57 1 (tx_no (by omega)), set_eq, E0 57 1 (by omega) (by omega) (by omega) (by omega)]
  have eP : pN σ'' = pN σ := by unfold pN; rw [eU 85 5 (by unfold UPc; omega)]
  have e96 : (fun k => σ''.2.1 96 k) = (fun k => σ.2.1 96 k) := funext (fun k => eU 96 k (by unfold UPc; omega))
  refine ⟨t, f, c, h.G.up9 hLL eU (fun j hj => E5 j (by omega)), hIH.c (fun a q hq => by rw [S1]; exact hq) (fun a j _ => by rw [S2]), ?_, ?_, ?_, h.S.c (fun a j ha => ?_), ?_, fun j hj => ?_, ?_, h.P.c (fun a j ha => ?_), ⟨h.D.1.c9 (fun a j ha => ED a j (by omega) (by omega)), hLR⟩, ?_⟩
  · refine ((h.W.cells e1 (fun r hr => ?_) (fun a j ha => EC a j (by omega) (by omega) (by omega) (by omega)) (fun r hr z hz i => ?_))).up9 eU
    · rw [S2]; exact f3 r 0 (by omega) (by omega) (by omega) (by omega)
    · have hz1 := (h.H.code r (by omega) z hz).2
      rcases h.H.2.2.2.2 r z (by omega) hz with g | g
      · exact EC z i (by omega) (by omega) (by omega) (by omega)
      · rw [E131 z i g]
        refine f2 z i g hz1 (fun g2 => ?_) (fun g2 => ?_) (by unfold W_tb; omega)
        · rcases hu with ⟨rfl, rfl⟩ | ⟨rfl, rfl⟩
          · exact h.H.2.2.2.1 r 23 z (by omega) (by omega) hz g2
          · exact h.H.2.2.2.1 11 r z (by omega) (by omega) g2 hz
        · rcases hu with ⟨rfl, rfl⟩ | ⟨rfl, rfl⟩
          · exact h.H.2.2.2.1 r 25 z (by omega) (by omega) hz g2
          · exact h.H.2.2.2.1 13 r z (by omega) (by omega) g2 hz
  · unfold IL
    rw [e96]
    exact ⟨h.L.1.cells (fun a j ha => EC a j (by omega) (by omega) (by omega) (by omega)), h.L.2.cells (fun a j ha => EC a j (by omega) (by omega) (by omega) (by omega))⟩
  · unfold IQ
    rw [e96, eP, eU 85 9 (by unfold UPc; omega), eU 85 5 (by unfold UPc; omega)]
    exact ⟨h.Q.1, fun q hq => by rw [eU 86 _ (by unfold UPc; omega)]; exact h.Q.2 q hq⟩
  · rcases ha with ⟨rfl, rfl⟩ | rfl | rfl | ⟨rfl, rfl⟩ | rfl
    · exact EC 0 11 (by omega) (by omega) (by omega) (by omega)
    · exact EC 51 j (by omega) (by omega) (by omega) (by omega)
    · exact EC 52 j (by omega) (by omega) (by omega) (by omega)
    · exact E5 65 (by omega)
    · exact ED 100 j (by omega) (by omega)
  · refine ⟨by rw [x1, EM 1 1 (tx_no (by omega)) (by omega) (by omega)]; exact g4.2.2.1, fun j => by rw [EC 2 j (by omega) (by omega) (by omega) (by omega), ED 56 j (by omega) (by omega)]; exact hT.2.1 j, by rw [x1]; omega, fun j hj => by rw [ED 56 j (by omega) (by omega)]; exact hT.2.2.2 j hj⟩
  · have h9 := h.R j hj
    by_cases g : j = 1
    · subst g
      rw [x57, EM 54 1 (tx_no (by omega)) (by omega) (by omega), g4.2.2.2]
      omega
    · rw [EC 54 j (by omega) (by omega) (by omega) (by omega), ED 57 j (by omega) (by omega)]
      omega
  · have hF9 := h.F
    refine ⟨⟨by rw [x7, EM 0 14 (tx_no (by omega)) (by omega) (by omega)]; exact g4.1, by rw [x8, EM 0 15 (tx_no (by omega)) (by omega) (by omega)]; exact g4.2.1⟩, by rw [EC 0 16 (by omega) (by omega) (by omega) (by omega), E5 71 (by omega)]; exact hF9.2.1, by rw [E5 71 (by omega)]; exact hF9.2.2.1, by rw [E5 71 (by omega)]; exact hF9.2.2.2⟩
  · rcases ha with ⟨rfl, rfl⟩ | ⟨rfl, rfl⟩ | rfl | rfl
    · exact EC 49 1 (by omega) (by omega) (by omega) (by omega)
    · exact E5 107 (by omega)
    · exact EC 50 j (by omega) (by omega) (by omega) (by omega)
    · exact ED 130 j (by omega) (by omega)
  · refine h.K.c9 (hP.c9 (fun a q hq => by rw [S1]; exact hq) (fun a j _ => by rw [S2])) (fun s => by rw [S2]; exact p43 s) (fun a j ha => ?_) (fun s L hs hL a j ha => ?_)
    · rcases ha with ⟨rfl, ha⟩ | ⟨rfl, ha⟩ | rfl | ⟨rfl, ha⟩
      · exact EC 42 j (by omega) (by omega) (by omega) (by omega)
      · exact E5 j (by omega)
      · exact ED 102 j (by omega) (by omega)
      · exact eU 85 j (by unfold UPc; omega)
    · have h131 := (h.K.1.2.2.1 s L hs hL).1
      rw [E131 a j (by omega)]
      exact pb s L hs hL a j ha
