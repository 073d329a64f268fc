theorem LF0.k {l : Nat} {σ : am_H} {f g : Nat → Int} (h : LF0 l σ f) (e : ∀ k, k < 443 → g k = f k) : LF0 l σ g := by
  obtain ⟨⟨a0, a1, a2, a3⟩, b, c, d, u, v⟩ := h
  refine ⟨⟨by rw [e 0 (by omega)]; exact a0, by rw [e 1 (by omega)]; exact a1, by rw [e 2 (by omega)]; exact a2, by rw [e 3 (by omega)]; exact a3⟩, b, fun p hp => by rw [e _ (by omega)]; exact c p hp, fun p hp => by rw [e _ (by omega)]; exact d p hp, fun p hp => by rw [e _ (by omega)]; exact u p hp, fun p hp => by rw [e _ (by omega)]; exact v p hp⟩
theorem RWr.k {l : Nat} {σ : am_H} {f g : Nat → Int} (h : RWr l σ f) (h2 : f 202 ≤ 60) (e : ∀ k, k < 443 → g k = f k) : RWr l σ g := by
  obtain ⟨a, b, c⟩ := h
  refine ⟨a, by rw [e 202 (by omega)]; exact b, fun k hk => ?_⟩
  rw [e 202 (by omega)] at hk
  rw [c k hk]
  unfold rwV
  rw [e _ (by omega), e _ (by omega), e _ (by omega), e _ (by omega)]
theorem ROK.k {f g : Nat → Int} (h : ROK f) (h2 : f 202 ≤ 60) (e : ∀ k, k < 443 → g k = f k) : ROK g := by
  intro k hk
  rw [e 202 (by omega)] at hk
  have h9 := h k hk
  rw [e _ (by omega), e _ (by omega), e _ (by omega), e _ (by omega)]
  exact h9
theorem MN.k {Y : Int} {f g : Nat → Int} (h : MN Y f) (e : ∀ k, k < 443 → g k = f k) : MN Y g := by
  obtain ⟨a, b, c, d, u, v, w, x, y, z⟩ := h
  refine ⟨by rw [e 0 (by omega)]; exact a, by rw [e 1 (by omega)]; exact b, by rw [e 2 (by omega)]; exact c, by rw [e 3 (by omega)]; exact d, fun p hp => by rw [e _ (by omega)]; exact u p hp, fun p hp => by rw [e _ (by omega)]; exact v p hp, fun p hp => by rw [e _ (by omega)]; exact w p hp, fun p hp => by rw [e _ (by omega)]; exact x p hp, by rw [e 202 (by omega)]; exact y, fun p hp => by rw [e _ (by omega)]; exact z p hp⟩
theorem LK.k {Y : Int} {P : Nat} {f g : Nat → Int} (h : LK Y P f) (e : ∀ k, k < 443 → g k = f k) : LK Y P g := by
  have hx : LX Y P g := LX.g (f := f) h.2.2 (fun k _ hk => e k (by omega))
  exact ⟨h.1.k e, h.2.1.k (by have := h.1.2.2.2.2.2.2.2.2.1; omega) e, hx⟩
theorem LF0.cpy {d s : Nat} {σ τ : am_H} {g : Nat → Int} (h : LF0 s σ g) (hC : CPY d s σ τ) : LF0 d τ g := by
  obtain ⟨⟨a0, a1, a2, a3⟩, b, c, e, u, v⟩ := h
  obtain ⟨c0, c1, c2, c3, c4⟩ := hC
  refine ⟨⟨(c0 0 (by omega)).trans a0, (c0 1 (by omega)).trans a1, (c0 2 (by omega)).trans a2, (c0 3 (by omega)).trans a3⟩, by rw [c0 4 (by omega)]; exact b, fun p hp => by rw [c0 4 (by omega)]; exact c p hp, fun p hp => by rw [c1 p hp]; exact e p hp, fun p hp => by rw [c2 p hp]; exact u p hp, fun p hp => by rw [c3 p hp]; exact v p hp⟩
theorem RWr.cpy {d s : Nat} {σ τ : am_H} {g : Nat → Int} (h : RWr s σ g) (hC : CPY d s σ τ) : RWr d τ g := by
  obtain ⟨a, b, c⟩ := h
  obtain ⟨c0, c1, c2, c3, c4⟩ := hC
  refine ⟨by rw [c0 9 (by omega)]; exact a, by rw [c0 10 (by omega)]; exact b, fun k hk => ?_⟩
  rw [c0 9 (by omega), c4 _ (Nat.mod_lt _ (by decide))]
  exact c k hk
theorem lay.len {σ : am_H} (h : lay σ) : 131 ≤ σ.1.length := by
  have h9 := h.1 130 (by decide)
  rw [show SH[130]? = some (11, 146) from rfl] at h9
  exact (List.getElem?_eq_some_iff.mp h9).1
/-- remembering keeps the ring apart -/
theorem RMB.pst {t f c n : Nat} {σ T : am_H} (h : IV t f c n σ) (hM : RMB f c σ T) : PST T ∧ (∀ s L', s < 20 → ¬ s = (f + c) % 20 → σ.2.2 43 s = some L' → T.2.2 43 s = some L' ∧ BLK T L' ∧ ∀ a j, L' ≤ a ∧ a ≤ L' + 4 → T.2.1 a j = σ.2.1 a j) ∧ (∀ r, r = 11 ∨ r = 13 ∨ r = 23 ∨ r = 25 → T.2.2 r 0 = σ.2.2 r 0) ∧ (∀ r, r = 11 ∨ r = 13 ∨ r = 23 ∨ r = 25 → ∀ x, σ.2.2 r 0 = some x → 131 ≤ x → ∀ i, T.2.1 x i = σ.2.1 x i) := by
  have hlen := h.G.L.len
  have hpst := h.K.1.2.2
  have hcode := h.H.code
  have hold := fun a q ha => hM.old a q ha
  obtain ⟨L, ⟨m1, m2, m3, m4⟩, m5, m6, m7, m8⟩ := hM
  have hat : (f + c) % 20 < 20 := Nat.mod_lt _ (by decide)
  have hr : ∀ r, r = 11 ∨ r = 13 ∨ r = 23 ∨ r = 25 → T.2.2 r 0 = σ.2.2 r 0 := fun r hr => m8 r 0 (by omega) (by omega)
  have bl : ∀ L', BLK σ L' → L' + 4 < σ.1.length := fun L' hB => (List.getElem?_eq_some_iff.mp hB.1.2.2.2.2).1
  -- the block in use and an old one
  have ap : ∀ s L', s < 20 → ¬ s = (f + c) % 20 → σ.2.2 43 s = some L' → L + 5 ≤ L' ∨ L' + 5 ≤ L := by
    intro s L' hs hn hL'
    rcases m6 with ⟨g1, -⟩ | ⟨g1, g2, -⟩
    · rcases hpst.2 s _ L' L hs hat hn hL' g1 with g | g <;> omega
    · have := bl L' (hpst.1 s L' hs hL').2.1
      omega
  have nc : ∀ r, r = 11 ∨ r = 13 ∨ r = 23 ∨ r = 25 → ∀ x, σ.2.2 r 0 = some x → ¬ (L ≤ x ∧ x ≤ L + 4) := by
    intro r hr x hx
    rcases m6 with ⟨g1, -⟩ | ⟨g1, g2, -⟩
    · exact (hpst.1 _ L hat g1).2.2 r hr x hx
    · have := (hcode r hr x hx).2
      omega
  have old : ∀ s L', s < 20 → ¬ s = (f + c) % 20 → σ.2.2 43 s = some L' → T.2.2 43 s = some L' ∧ BLK T L' ∧ ∀ a j, L' ≤ a ∧ a ≤ L' + 4 → T.2.1 a j = σ.2.1 a j := by
    intro s L' hs hn hL'
    have h1 := hpst.1 s L' hs hL'
    have h2 := bl L' h1.2.1
    have h3 := ap s L' hs hn hL'
    refine ⟨(m8 43 s (by omega) (by omega)).trans hL', h1.2.1.c9 h1.1 hold (fun j => m8 L' j (by omega) (by omega)), fun a j ha => m7 a j (by omega) (by omega) (by omega)⟩
  refine ⟨⟨fun s L' hs hL' => ?_, fun s s' L1 L2 hs hs' hn h1 h2 => ?_⟩, old, hr, fun r hr9 x hx hx1 i => m7 x i (hcode r hr9 x hx).2 (nc r hr9 x hx) (by omega)⟩
  · by_cases g : s = (f + c) % 20
    · subst g
      rw [m1] at hL'
      have e := Option.some.inj hL'
      subst e
      exact ⟨m4, m2, fun r hr9 x hx => nc r hr9 x (by rw [← hr r hr9]; exact hx)⟩
    · have hL9 : σ.2.2 43 s = some L' := (m8 43 s (by omega) (by omega)).symm.trans hL'
      have h1 := hpst.1 s L' hs hL9
      exact ⟨h1.1, (old s L' hs g hL9).2.1, fun r hr9 x hx => h1.2.2 r hr9 x (by rw [← hr r hr9]; exact hx)⟩
  · by_cases g : s = (f + c) % 20
    · subst g
      rw [m1] at h1
      have e := Option.some.inj h1
      subst e
      have hL9 : σ.2.2 43 s' = some L2 := (m8 43 s' (by omega) (by omega)).symm.trans h2
      exact ap s' L2 hs' (fun z => hn z.symm) hL9
    · have hL8 : σ.2.2 43 s = some L1 := (m8 43 s (by omega) (by omega)).symm.trans h1
      by_cases g' : s' = (f + c) % 20
      · subst g'
        rw [m1] at h2
        have e := Option.some.inj h2
        subst e
        rcases ap s L1 hs g hL8 with z | z
        · exact Or.inr z
        · exact Or.inl z
      · have hL9 : σ.2.2 43 s' = some L2 := (m8 43 s' (by omega) (by omega)).symm.trans h2
        exact hpst.2 s s' L1 L2 hs hs' hn hL8 hL9
/-- the class's cells of an act, and the model's -/
def W_ac (a j : Nat) : Prop := (32 ≤ a ∧ a ≤ 41) ∨ (44 ≤ a ∧ a ≤ 48) ∨ a = 53 ∨ (a = 0 ∧ j = 16)
def W_ma (a j : Nat) : Prop := a = 96 ∨ a = 129 ∨ (a = 55 ∧ ((56 ≤ j ∧ j ≤ 62) ∨ j = 71 ∨ j = 103))
theorem keH_at {σ : am_H} (h70 : 0 ≤ σ.2.1 55 70 ∧ σ.2.1 55 70 ≤ 19) : (keH σ).2.1 55 70 = (kpW σ : Int) ∧ (kpW σ = ((σ.2.1 55 70).toNat + 1) % 20) ∧ (keH σ).2.1 55 69 = (if σ.2.1 55 69 < 20 then σ.2.1 55 69 + 1 else σ.2.1 55 69) ∧ ∀ k, (keH σ).2.1 102 k = if 443 * kpW σ ≤ k ∧ k < 443 * kpW σ + 443 then σ.2.1 96 (k - 443 * kpW σ) else σ.2.1 102 k := by
  have hw := kpW_eq h70
  refine ⟨?_, ?_, ?_, fun k => ?_⟩
  · unfold keH keT keS
    rw [set_nn (by omega), setA_nn (by omega), set_eq]
  · have h9 := hw.1
    rw [Int.tmod_eq_emod_of_nonneg (by omega)] at h9
    omega
  · unfold keH
    rw [set_eq]
  · unfold keH keT keS
    rw [set_nn (by omega), setA_eq]
    unfold kpF
    split
    · rw [set_nn (by omega)]
    · rw [set_nn (by omega)]
theorem IV.act {t f c n : Nat} {σ T σ' σ'' : am_H} (h : IV t f c n σ) (hM : RMB f c σ T) (hA : QU W_ac T σ') (hB : frw W_ma (keH σ') σ'') (hG : GD σ'') (hL : IL σ'') (hK : LK (σ''.2.1 85 9) (pN σ'') (fun k => σ''.2.1 96 k)) (hF : IF σ'') : INV (n + 1) σ'' := by
  obtain ⟨hps, hold, hcr, hcc⟩ := hM.pst h
  have hlen := h.G.L.len
  have hke := hM.keep h.H.1 h.C h.cd h.K.1
  have e96 : ∀ k, σ'.2.1 96 k = σ.2.1 96 k := fun k => (hA.2.2 96 k (by unfold W_ac; omega)).trans (hke.2.2.2.2 96 k (by omega) (by omega))
  have kE := keH_fr σ'
  have E1 : ∀ a j, a ≤ 130 → ¬ (W_ac a j ∨ W_ma a j ∨ a = 102 ∨ (a = 55 ∧ (j = 69 ∨ j = 70)) ∨ (a = 42 ∧ (j = 1 ∨ j = 2))) → σ''.2.1 a j = σ.2.1 a j := fun a j ha hw => by
    rw [hB.2.2 a j (fun z => hw (Or.inr (Or.inl z))), kE.2.2 a j (fun z => hw (by unfold W_ke at z; rcases z with z | z; exact Or.inr (Or.inr (Or.inl z)); exact Or.inr (Or.inr (Or.inr (Or.inl z))))), hA.2.2 a j (fun z => hw (Or.inl z)), hke.2.2.2.2 a j ha (fun z => hw (Or.inr (Or.inr (Or.inr (Or.inr z)))))]
  have EB : ∀ a j, 131 ≤ a ∨ a = 42 ∨ a = 43 → σ''.2.1 a j = T.2.1 a j := fun a j ha => by
    rw [hB.2.2 a j (by unfold W_ma; omega), kE.2.2 a j (by unfold W_ke; omega), hA.2.2 a j (by unfold W_ac; omega)]
  have S1 : σ''.1 = T.1 := hB.1.trans (kE.1.trans hA.1)
  have S2 : ∀ a j, ¬ (a = 44 ∧ (j = 8 ∨ j = 9)) → σ''.2.2 a j = T.2.2 a j := fun a j ha => by
    rw [hB.2.1, kE.2.1]; exact hA.2.1 a j ha
  have hT1 : ∀ (a : Nat) (q : Nat × Nat), T.1[a]? = some q → σ''.1[a]? = some q := fun a q hq => by rw [S1]; exact hq
  have h1 : ∀ (a : Nat) (q : Nat × Nat), σ.1[a]? = some q → σ''.1[a]? = some q := fun a q hq => hT1 a q (hM.old a q hq)
  have r0 : ∀ j, j = 2 ∨ j = 3 → T.2.2 0 j = σ.2.2 0 j := fun j hj => by
    obtain ⟨L, -, -, -, -, m8⟩ := hM
    exact m8 0 j (by omega) (by omega)
  have hX : pN σ'' = pN σ := by
    unfold pN
    rw [E1 85 5 (by omega) (by unfold W_ac W_ma; omega)]
  have h859 := E1 85 9 (by omega) (by unfold W_ac W_ma; omega)
  have q69 : σ'.2.1 55 69 = (c : Int) := ((hA.2.2 55 69 (by unfold W_ac; omega)).trans (hke.2.2.2.2 55 69 (by omega) (by omega))).trans h.K.2.1
  have q70 : σ'.2.1 55 70 = σ.2.1 55 70 := (hA.2.2 55 70 (by unfold W_ac; omega)).trans (hke.2.2.2.2 55 70 (by omega) (by omega))
  have q102 : ∀ k, σ'.2.1 102 k = σ.2.1 102 k := fun k => (hA.2.2 102 k (by unfold W_ac; omega)).trans (hke.2.2.2.2 102 k (by omega) (by omega))
  have h70 := h.K.2.2.1
  obtain ⟨k1, k2, k3, k4⟩ := keH_at (σ := σ') (by rw [q70]; exact h70)
  rw [q70] at k2
  have p70 : σ''.2.1 55 70 = (kpW σ' : Int) := (hB.2.2 55 70 (by unfold W_ma; omega)).trans k1
  have p69 : σ''.2.1 55 69 = (if (c : Int) < 20 then (c : Int) + 1 else c) := by
    rw [hB.2.2 55 69 (by unfold W_ma; omega), k3, q69]
  have p102 : ∀ k, σ''.2.1 102 k = if 443 * kpW σ' ≤ k ∧ k < 443 * kpW σ' + 443 then σ.2.1 96 (k - 443 * kpW σ') else σ.2.1 102 k := fun k => by
    rw [hB.2.2 102 k (by unfold W_ma; omega), k4, e96, q102]
  have hw20 : kpW σ' < 20 := by rw [k2]; exact Nat.mod_lt _ (by decide)
  have hfc := h.K.1.2.1
  have hat : (f + c) % 20 < 20 := Nat.mod_lt _ (by decide)
  have kt0 : ∀ k, k < 443 → kt σ'' 0 k = σ.2.1 96 k := fun k hk => by
    unfold kt
    rw [p70, show ((((kpW σ' : Int)).toNat + 20 - 0) % 20) = kpW σ' by omega, p102, if_pos ⟨by omega, by omega⟩, show 443 * kpW σ' + k - 443 * kpW σ' = k by omega]
  have ktj : ∀ j, 1 ≤ j → j < 20 → ∀ k, k < 443 → kt σ'' j k = kt σ (j - 1) k := fun j hj hj2 k hk => by
    unfold kt
    have e : (((kpW σ' : Int)).toNat + 20 - j) % 20 = ((σ.2.1 55 70).toNat + 20 - (j - 1)) % 20 := by omega
    rw [p70, p102, e, if_neg (by omega)]
  have main : ∀ f' c' : Nat, (f' < 20 ∧ c' ≤ 20) → T.2.1 42 1 = (f' : Int) → T.2.1 42 2 = (c' : Int) → σ''.2.1 55 69 = (c' : Int) → 1 ≤ c' → (f' + c' - 1) % 20 = (f + c) % 20 → (∀ j, 1 ≤ j → j < c' → (f' + c' - 1 - j) % 20 = (f + c - 1 - (j - 1)) % 20 ∧ j - 1 < c ∧ ¬ (f' + c' - 1 - j) % 20 = (f + c) % 20) → IK f' c' σ'' := by
    intro f' c' hb t1 t2 t3 hc1 hs0 hsj
    refine ⟨⟨⟨(EB 42 1 (by omega)).trans t1, (EB 42 2 (by omega)).trans t2⟩, hb, hps.c9 hT1 (fun a j ha => S2 a j (by omega))⟩, t3, by rw [p70]; omega, fun j hj => ?_⟩
    rw [hX, h859]
    by_cases g : j = 0
    · subst g
      obtain ⟨L, ⟨m1, m2, m3, m4⟩, -⟩ := hM
      refine ⟨L, ?_, ?_, ?_, h.Q.1.k kt0⟩
      · rw [Nat.sub_zero, hs0, S2 43 _ (by omega)]; exact m1
      · exact ((h.L.1.cpy m3).cells (fun a j ha => EB a j (by omega))).k kt0
      · exact ((h.L.2.cpy m3).cells (fun a j ha => EB a j (by omega))).k h.G.R.kept.2 kt0
    · obtain ⟨s1, s2, s3⟩ := hsj j (by omega) hj
      obtain ⟨L', l1, l2, l3, l4⟩ := h.K.2.2.2 (j - 1) s2
      rw [← s1] at l1
      obtain ⟨o1, o2, o3⟩ := hold _ L' (Nat.mod_lt _ (by decide)) s3 l1
      have hL1 := (h.K.1.2.2.1 _ L' (Nat.mod_lt _ (by decide)) l1).1
      have hjk := ktj j (by omega) (by omega)
      refine ⟨L', ?_, ?_, ?_, l4.k hjk⟩
      · rw [S2 43 _ (by omega)]; exact o1
      · exact (l2.cells (fun a j ha => (EB a j (by omega)).trans (o3 a j (by omega)))).k hjk
      · exact (l3.cells (fun a j ha => (EB a j (by omega)).trans (o3 a j (by omega)))).k (by have := l4.1.2.2.2.2.2.2.2.2.1; omega) hjk
  have hIK : ∃ f' c', IK f' c' σ'' := by
    obtain ⟨L, -, ⟨m1, m2⟩, -⟩ := hM
    by_cases g : c < 20
    · rw [if_pos g] at m1 m2
      refine ⟨f, c + 1, main f (c + 1) ⟨hfc.1, by omega⟩ m1 (by rw [m2]; omega) (by rw [p69, if_pos (by omega)]; omega) (by omega) (by omega) (fun j hj hjc => by omega)⟩
    · have g20 : c = 20 := by omega
      rw [if_neg g] at m1 m2
      refine ⟨(f + 1) % 20, c, main ((f + 1) % 20) c ⟨Nat.mod_lt _ (by decide), by omega⟩ m1 m2 (by rw [p69, if_neg (by omega)]) (by omega) (by subst g20; omega) (fun j hj hjc => by subst g20; omega)⟩
  obtain ⟨f', c', hIK⟩ := hIK
  refine ⟨t, f', c', hG, h.H.c h1 (fun a j ha => ?_), h.W.c9 h.H h1 (fun r hr => ?_) (fun a j ha => E1 a j (by omega) (by unfold W_ac W_ma; omega)) (fun r hr x hx hx1 i => ?_), hL, ⟨hK, fun q hq => ?_⟩, h.S.c (fun a j ha => E1 a j (by omega) (by unfold W_ac W_ma; omega)), h.T.c (fun a j ha => E1 a j (by omega) (by unfold W_ac W_ma; omega)), h.R.c (by omega) (fun a j ha => E1 a j (by omega) (by unfold W_ac W_ma; omega)), hF, h.P.c (fun a j ha => E1 a j (by omega) (by unfold W_ac W_ma; omega)), h.D.c (fun a j ha => E1 a j (by omega) (by unfold W_ac W_ma; omega)), hIK⟩
  · rw [S2 a j (by omega)]
    rcases ha with ⟨rfl, hj⟩ | ⟨rfl, ha⟩
    · exact r0 j hj
    · exact hcr a ha
  · rw [S2 r 0 (by omega)]; exact hcr r hr
  · rw [EB x i (by omega)]; exact hcc r hr x hx hx1 i
  · rw [E1 85 5 (by omega) (by unfold W_ac W_ma; omega)] at hq
    rw [E1 86 _ (by omega) (by unfold W_ac W_ma; omega)]
    exact h.Q.2 q hq
