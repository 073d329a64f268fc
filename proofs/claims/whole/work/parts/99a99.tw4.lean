theorem town_good {t u f c k : Nat} {b : Nat → Int} {E : Nat} {σ σ' σ'' H H' : am_H} (hu : (t = 3 ∧ u = 15) ∨ (t = 15 ∧ u = 3)) (h : IV t f c k σ) (hE : E ≤ 1600) (hL' : lay σ') (hC : CDt u σ') (hH : tnR b E σ = .inl H) (hH' : tnR b E σ' = .inl H') (hTA : TA H H') (g2 : TRr u σ' H) (g3 : RRr u σ' H) (hLF : LF0 32 σ' (bgL (fun d => σ'.2.1 (u + 6) d))) (h9 : σ'.2.1 32 9 = 0 ∧ σ'.2.1 32 10 = 0) (g5 : σ'.2.2 0 2 = some u ∧ σ'.2.2 0 3 = some (18 - u)) (g4 : σ'.2.1 42 2 = 0 ∧ σ'.2.1 0 11 = 0 ∧ σ'.2.1 0 14 = 0 ∧ σ'.2.1 0 15 = -1 ∧ σ'.2.1 1 1 = 0) (g6 : GTF u W_to σ σ') (hF : frw W_t (sdH (am_setN (am_setN H' 55 7 0) 55 8 (-1))) σ'') (hLR : LRG σ'') : INV (k + 1) σ'' := by
  have hT := h.T
  have hu3 : u = 3 ∨ u = 15 := by omega
  obtain ⟨i, hGH⟩ := GH_tn hE hH
  have hB := BEG_of hH' hTA hF
  have hB0 := hB
  obtain ⟨b1, b2, b3, b4, b5, b6, ⟨c1, c7, c8, c52, c65, c69⟩, q1, q2⟩ := hB0
  obtain ⟨f1, f2, f3, f4, f5⟩ := GTF.fx hu h.H h.G.L g6
  have hIH := IH.tw hu h.H h.G.L g6 hC hu3 g5.1 g5.2
  obtain ⟨hP, p43, pb⟩ := PST.tw hu h.H h.G.L g6 (fun a j ha => by unfold W_to; omega) h.K.1.2.2
  have hL : lay σ'' := by
    have hx : frw (fun _ _ => True) σ' σ'' := ⟨q1, q2, fun a j h => absurd trivial h⟩
    exact hx.L hL'
  have E0 : ∀ a j, a ≤ 130 → ¬ (u ≤ a ∧ a ≤ u + 11) → ¬ (27 ≤ a ∧ a ≤ 36) → ¬ ((a = 1 ∧ j = 1) ∨ (a = 0 ∧ (j = 11 ∨ j = 14 ∨ j = 15)) ∨ (a = 42 ∧ j = 2)) → σ'.2.1 a j = σ.2.1 a j := fun a j h1 h2 h3 h4 => f1 a j h1 h2 (by omega) (by unfold W_to; omega)
  have EC : ∀ a j, a ≤ 54 → σ''.2.1 a j = σ'.2.1 a j := fun a j ha => b6 a j (Or.inl ha)
  have ED : ∀ a j, (56 ≤ a ∧ a ≤ 84) ∨ (97 ≤ a ∧ a ≤ 126) ∨ (129 ≤ a ∧ a ≤ 130) ∨ (a = 55 ∧ (j = 59 ∨ j = 61 ∨ j = 70 ∨ j = 71 ∨ j = 107)) → σ''.2.1 a j = σ.2.1 a j := fun a j ha => (b6 a j (by omega)).trans (E0 a j (by omega) (by omega) (by omega) (by omega))
  have e9 : σ''.2.1 85 9 = H.2.1 85 4 := b1 4 (by omega)
  have e5 : σ''.2.1 85 5 = H.2.1 85 0 := b1 0 (by omega)
  have hbg : ∀ k, bgL (fun d => σ'.2.1 (u + 6) d) k = bgL (fun d => H.2.1 90 d) k := fun k => by
    unfold bgL
    by_cases g0 : k = 0
    · rw [if_pos g0, if_pos g0]
    · rw [if_neg g0, if_neg g0]
      by_cases g : 20 ≤ k ∧ k < 111
      · rw [if_pos g, if_pos g]
        exact (g2.2.2.2.1 (k - 20) (by omega)).1
      · rw [if_neg g, if_neg g]
  have hg : ∀ k, k < 443 → σ''.2.1 96 k = bgL (fun d => σ'.2.1 (u + 6) d) k := fun k hk => (b5 k hk).trans (hbg k).symm
  have hLK := (LK_beg (P := pN σ'') hGH).k b5
  refine ⟨u, f, 0, hB.gd hE hGH hL hLR (by rw [E0 55 59 (by omega) (by omega) (by omega) (by omega)]; exact h.G.o) (by rw [E0 55 61 (by omega) (by omega) (by omega) (by omega)]; exact h.G.t), hIH.c (fun a q hq => by rw [q1]; exact hq) (fun a j _ => by rw [q2]), hB.tw hGH g2 g3 hu3, ⟨?_, ?_⟩, ⟨by rw [e9]; exact hLK, fun q hq => ?_⟩, ⟨⟨by rw [c65]; omega, fun k hk => by rw [ED 100 _ (by omega)]; exact h.S.1.2 k hk⟩, by rw [c65, EC 0 11 (by omega)]; exact g4.2.1, fun k hk => by rw [c65] at hk; omega⟩, ?_, ?_, ?_, h.P.c (fun a j ha => ?_), ⟨h.D.1.c9 (fun a j ha => ED a j (by omega)), hLR⟩, ?_⟩
  · exact (hLF.cells (fun a j ha => EC a j (by omega))).k hg
  · refine RWr_0 (by rw [EC 32 9 (by omega)]; exact h9.1) (by rw [EC 32 10 (by omega)]; exact h9.2) ?_
    show σ''.2.1 96 202 = 0
    rw [b5 202 (by omega)]
    unfold bgL
    rw [if_neg (by omega), if_neg (by omega)]
  · rw [e5] at hq
    have hn := hGH.1.1
    rw [(b2 86 q (by omega) (by omega)).1]
    exact nm_rng (g2.2.1 q hq).1
  · refine ⟨by rw [c1, EC 1 1 (by omega)]; exact g4.2.2.2.2, fun j => by rw [EC 2 j (by omega), E0 2 j (by omega) (by omega) (by omega) (by omega), ED 56 j (by omega)]; exact hT.2.1 j, by rw [c1]; omega, fun j hj => by rw [ED 56 j (by omega)]; exact hT.2.2.2 j hj⟩
  · exact h.R.c (by omega) (fun a j ha => by
      rcases ha with rfl | rfl
      · rw [EC 54 j (by omega), E0 54 j (by omega) (by omega) (by omega) (by omega)]
      · exact ED 57 j (by omega))
  · have hF9 := h.F
    refine ⟨⟨by rw [c7, EC 0 14 (by omega)]; exact g4.2.2.1, by rw [c8, EC 0 15 (by omega)]; exact g4.2.2.2.1⟩, by rw [EC 0 16 (by omega), E0 0 16 (by omega) (by omega) (by omega) (by omega), ED 55 71 (by omega)]; exact hF9.2.1, by rw [ED 55 71 (by omega)]; exact hF9.2.2.1, by rw [ED 55 71 (by omega)]; exact hF9.2.2.2⟩
  · rcases ha with ⟨rfl, rfl⟩ | ⟨rfl, rfl⟩ | rfl | rfl
    · rw [EC 49 1 (by omega), E0 49 1 (by omega) (by omega) (by omega) (by omega)]
    · exact ED 55 107 (by omega)
    · rw [EC 50 j (by omega), E0 50 j (by omega) (by omega) (by omega) (by omega)]
    · exact ED 130 j (by omega)
  · refine ⟨⟨⟨?_, by rw [EC 42 2 (by omega)]; exact g4.1⟩, ⟨h.K.1.2.1.1, by omega⟩, hP.c9 (fun a q hq => by rw [q1]; exact hq) (fun a j _ => by rw [q2])⟩, c69, by rw [ED 55 70 (by omega)]; exact h.K.2.2.1, fun j hj => absurd hj (Nat.not_lt_zero j)⟩
    rw [EC 42 1 (by omega), E0 42 1 (by omega) (by omega) (by omega) (by omega)]
    exact h.K.1.1.1
theorem op_town : OPI M_X9_town M_X10_town [] := by
  intro k σ hk ⟨t, f, c, h⟩
  have hT := h.T
  obtain ⟨E, hE⟩ := Int.eq_ofNat_of_zero_le hT.2.2.1.1
  have hE16 : E ≤ 1600 := by have := hT.2.2.1.2; omega
  have hTP : TP (fun j => σ.2.1 56 j) E σ := ⟨fun j _ => hT.2.1 j, hT.1.trans hE, hE16, hT.2.2.2⟩
  have main : ∀ u, (t = 3 ∧ u = 15) ∨ (t = 15 ∧ u = 3) → ∀ r σ', (TWN u σ r σ' (tnR (fun j => σ.2.1 56 j) E σ) ∧ lay σ' ∧ CDt u σ') → ∃ v : Int, r = some (am_i v) ∧ lay σ' ∧ am_met M_X10_town [am_r 55] σ' (fun r2 σ'' => r2 = some (am_i v) ∧ INV (k + 1) σ'') := by
    intro u hu r σ' ⟨hW, hL', hC⟩
    have h18 : 18 - u = t := by omega
    -- the model's cells are as they were
    have E0 : ∀ W, GTF u W σ σ' → (∀ a j, 55 ≤ a → a ≤ 130 → ¬ W a j) → ∀ a j, 55 ≤ a → a ≤ 130 → σ'.2.1 a j = σ.2.1 a j := fun W g6 hw a j h1 h2 => (GTF.fx hu h.H h.G.L g6).1 a j h2 (by omega) (by omega) (hw a j h1 h2)
    have go : (∀ a j, 55 ≤ a → a ≤ 130 → σ'.2.1 a j = σ.2.1 a j) → am_met M_X10_town [am_r 55] σ' (fun r σ'' => tnP σ' r σ'' (tnR (fun j => σ.2.1 56 j) E σ') ∧ LRG σ'') := fun e => by
      refine am_mono (c_town9 (fun j => σ.2.1 56 j) E σ' hL' (h.D.1.c9 (fun a j ha => e a j (by omega) (by omega))) ⟨fun j => e 56 j (by omega) (by omega), (e 55 1 (by omega) (by omega)).trans hE, hE16, hT.2.2.2⟩ (RM_all _ _) (by rw [e 57 1 (by omega) (by omega)]; exact h.rm hk 1 (by omega))) (fun r2 σ'' h2 => ⟨h2.1, h2.2 (h.D.2.c (fun a j ha => e a j (by omega) (by omega)))⟩)
    have hTA : (∀ a j, 55 ≤ a → a ≤ 130 → σ'.2.1 a j = σ.2.1 a j) → TAo (tnR (fun j => σ.2.1 56 j) E σ) (tnR (fun j => σ.2.1 56 j) E σ') := fun e => tnR_a (fun a j ha => e a j (by omega) (by omega))
    cases hr : tnR (fun j => σ.2.1 56 j) E σ with
    | inl H =>
      rw [hr] at hW
      obtain ⟨w1, w2, w3, w4, w5, w6, w7, w8, w9, w10⟩ := hW
      have e := E0 W_to w10 (fun a j h1 h2 => by unfold W_to; omega)
      refine ⟨_, w1, hL', am_mono (go e) (fun r2 σ'' h2 => ?_)⟩
      have hA := hTA e
      rw [hr] at hA
      cases hr2 : tnR (fun j => σ.2.1 56 j) E σ' with
      | inl H' =>
        rw [hr2] at hA h2
        have hA2 : TA H H' := hA
        obtain ⟨⟨k1, k2⟩, k3⟩ := h2
        refine ⟨by rw [k1, hA2.2.2], town_good hu h hE16 hL' hC hr hr2 hA2 w2 w3 w6 w7 w8 w9 w10 k2 k3⟩
      | inr e2 =>
        rw [hr2] at hA
        exact absurd hA (fun z => z)
    | inr e1 =>
      rw [hr] at hW
      obtain ⟨w1, w2, w3, w4, w5⟩ := hW
      have e := E0 W_tb w5 (fun a j h1 h2 => by unfold W_tb; omega)
      refine ⟨_, w1, hL', am_mono (go e) (fun r2 σ'' h2 => ?_)⟩
      have hA := hTA e
      rw [hr] at hA
      cases hr2 : tnR (fun j => σ.2.1 56 j) E σ' with
      | inl H' =>
        rw [hr2] at hA
        exact absurd hA (fun z => z)
      | inr e2 =>
        rw [hr2] at hA h2
        have hA2 : e2 = e1 := hA
        subst hA2
        obtain ⟨⟨k1, k2, k3⟩, k4⟩ := h2
        rw [h18] at w4
        refine ⟨k1, town_bad hu h hL' hC w3 ⟨w4.1, ?_⟩ w5 k3 k4⟩
        rw [w4.2, show 18 - t = u by omega]
  rcases h.H.1 with rfl | rfl
  · exact am_mono (c_town_3 (fun j => σ.2.1 56 j) E σ σ h.G.L hTP h.H.2.2.1.2 h.H.2.1.1 h.H.2.1.2 (h.rf hk 1 (by omega))) (main 15 (by omega))
  · exact am_mono (c_town_15 (fun j => σ.2.1 56 j) E σ σ h.G.L hTP h.H.2.2.1.1 h.H.2.1.1 h.H.2.1.2 (h.rf hk 1 (by omega))) (main 3 (by omega))
