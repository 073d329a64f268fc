/-- the lives that are kept: each in cells of its own -/
def PST (σ : am_H) : Prop := (∀ s L, s < 20 → σ.2.2 43 s = some L → 131 ≤ L ∧ BLK σ L ∧ ∀ r, r = 11 ∨ r = 13 ∨ r = 23 ∨ r = 25 → ∀ x, σ.2.2 r 0 = some x → ¬ (L ≤ x ∧ x ≤ L + 4)) ∧ ∀ s s' L L', s < 20 → s' < 20 → ¬ s = s' → σ.2.2 43 s = some L → σ.2.2 43 s' = some L' → L + 5 ≤ L' ∨ L' + 5 ≤ L
def PAC (f c : Nat) (σ : am_H) : Prop := (σ.2.1 42 1 = (f : Int) ∧ σ.2.1 42 2 = (c : Int)) ∧ (f < 20 ∧ c ≤ 20) ∧ PST σ
theorem TWr.cells {t : Nat} {σ τ H : am_H} (h : TWr t σ H) (e1 : ∀ (a : Nat) (q : Nat × Nat), σ.1[a]? = some q → τ.1[a]? = some q) (e2 : ∀ r, r = t + 8 ∨ r = t + 10 → τ.2.2 r 0 = σ.2.2 r 0) (e3 : ∀ a j, t ≤ a ∧ a ≤ t + 10 → τ.2.1 a j = σ.2.1 a j) (e4 : ∀ r, r = t + 8 ∨ r = t + 10 → ∀ c, σ.2.2 r 0 = some c → ∀ i, τ.2.1 c i = σ.2.1 c i) : TWr t τ H := by
  have e : ∀ i j, i ≤ 10 → τ.2.1 (t + i) j = σ.2.1 (t + i) j := fun i j hi => e3 _ _ (by omega)
  have e0 : ∀ j, τ.2.1 t j = σ.2.1 t j := fun j => e 0 j (by decide)
  have one : ∀ r cs, r = t + 8 ∨ r = t + 10 → RLr r σ cs → RLr r τ cs := fun r cs hr g => by
    obtain ⟨g1, c, m, g2, g3, g4, g5, g6, g7⟩ := g
    refine ⟨e1 _ _ g1, c, m, by rw [e2 r hr]; exact g2, e1 _ _ g3, g4, g5, by rw [e3 r 1 (by omega)]; exact g6, fun i hi => ?_⟩
    rw [e4 r hr c g2 i]
    exact g7 i hi
  obtain ⟨⟨a1, a2, a3, a4⟩, b1, b2, b3, b4, b5, b6, r1, r2⟩ := h
  refine ⟨⟨(e0 0).trans a1, (e0 2).trans a2, (e0 6).trans a3, (e0 7).trans a4⟩, fun p hp => ?_, fun p hp => (e 2 p (by decide)).trans (b2 p hp), fun p hp => (e 3 p (by decide)).trans (b3 p hp), fun p hp => (e 4 p (by decide)).trans (b4 p hp), fun p hp => ?_, fun d g1 g2 g3 => (e 7 d (by decide)).trans (b6 d g1 g2 g3), one _ _ (Or.inl rfl) r1, one _ _ (Or.inr rfl) r2⟩
  · rw [e 1 p (by decide)]; exact b1 p hp
  · rw [e 5 p (by decide)]; exact b5 p hp
theorem LF0.cells {l : Nat} {σ τ : am_H} {g : Nat → Int} (h : LF0 l σ g) (e : ∀ a j, l ≤ a ∧ a ≤ l + 3 → τ.2.1 a j = σ.2.1 a j) : LF0 l τ g := by
  obtain ⟨⟨a1, a2, a3, a4⟩, b, c, d1, d2, d3⟩ := h
  have e0 : ∀ j, τ.2.1 l j = σ.2.1 l j := fun j => e l j (by omega)
  refine ⟨⟨(e0 0).trans a1, (e0 1).trans a2, (e0 2).trans a3, (e0 3).trans a4⟩, by rw [e0]; exact b, fun p hp => by rw [e0]; exact c p hp, fun p hp => (e _ _ (by omega)).trans (d1 p hp), fun p hp => (e _ _ (by omega)).trans (d2 p hp), fun p hp => (e _ _ (by omega)).trans (d3 p hp)⟩
theorem RWr.cells {l : Nat} {σ τ : am_H} {g : Nat → Int} (h : RWr l σ g) (e : ∀ a j, l ≤ a ∧ a ≤ l + 4 → τ.2.1 a j = σ.2.1 a j) : RWr l τ g := by
  have e0 : ∀ j, τ.2.1 l j = σ.2.1 l j := fun j => e l j (by omega)
  obtain ⟨h1, h2, h3⟩ := h
  refine ⟨by rw [e0]; exact h1, (e0 10).trans h2, fun k hk => ?_⟩
  rw [e0, e _ _ (by omega)]
  exact h3 k hk
theorem RMB.old {f c : Nat} {σ T : am_H} (h : RMB f c σ T) (a : Nat) (q : Nat × Nat) (ha : σ.1[a]? = some q) : T.1[a]? = some q := by
  obtain ⟨L, _, _, h3, _⟩ := h
  rcases h3 with ⟨_, e⟩ | ⟨_, _, e⟩
  · rw [e]; exact ha
  · rw [e, List.getElem?_append_left (lt_of_at ha)]; exact ha
/-- what becomes of all else when a life is kept -/
theorem RMB.keep {t f c : Nat} {σ T : am_H} (ht : t = 3 ∨ t = 15) (hC : CI t σ) (hD : CDt t σ) (hP : PAC f c σ) (h : RMB f c σ T) : lay T ∧ TWr t T σ ∧ LF0 32 T (fun k => σ.2.1 96 k) ∧ T.2.2 0 2 = some t ∧ ∀ a j, a ≤ 130 → ¬ (a = 42 ∧ (j = 1 ∨ j = 2)) → T.2.1 a j = σ.2.1 a j := by
  have hL := hC.G.L
  have hlen := len131 hL
  have hold := h.old
  have hat : (f + c) % 20 < 20 := Nat.mod_lt _ (by decide)
  obtain ⟨L, ⟨h1, h2, h3, h4⟩, _, h6, h7, h8⟩ := h
  have cl : ∀ a j, a ≤ 130 → ¬ (a = 42 ∧ (j = 1 ∨ j = 2)) → T.2.1 a j = σ.2.1 a j := fun a j ha hn => h7 a j (by omega) (by omega) hn
  have hLy : lay T := by
    refine ⟨fun k hk => ?_, fun i q hq => ?_⟩
    · have := hL.1 k hk
      rcases h6 with ⟨_, e⟩ | ⟨_, _, e⟩
      · rw [e]; exact this
      · rw [e, List.getElem?_append_left (by omega)]; exact this
    · have hm : q ∈ RT := List.mem_of_getElem? hq
      have h5 := of_decide_eq_true (List.all_eq_true.mp RT_no5 q hm)
      have h9 := of_decide_eq_true (List.all_eq_true.mp RT_no43 q hm)
      rw [h8 q.1 q.2.1 (by omega) (fun z => h9 z.1)]
      exact hL.2 i q hq
  refine ⟨hLy, ?_, hC.F.cells (fun a j ha => cl a j (by omega) (by omega)), ?_, cl⟩
  · refine hC.W.cells hold (fun r hr => h8 r 0 (by omega) (by omega)) (fun a j ha => cl a j (by omega) (by omega)) (fun r hr x hx i => ?_)
    have hx0 := hD.c0 r hr x hx
    have hxl : x < σ.1.length := by
      obtain ⟨c1, m1, c2, m2, ⟨a1, a2, _⟩, ⟨b1, b2, _⟩, _⟩ := hD
      rcases hr with rfl | rfl
      · rw [a1] at hx; rw [← Option.some.inj hx]; exact lt_of_at a2
      · rw [b1] at hx; rw [← Option.some.inj hx]; exact lt_of_at b2
    refine h7 x i hxl ?_ ?_
    · rcases h6 with ⟨e, _⟩ | ⟨_, e, _⟩
      · exact (hP.2.2.1 _ L hat e).2.2 r (by omega) x hx
      · omega
    · unfold cdC0 at hx0; omega
  · rw [h8 0 2 (by omega) (by omega)]
    exact hC.t
theorem PAC.at {f c : Nat} {σ : am_H} (h : PAC f c σ) : ∀ L, σ.2.2 43 ((f + c) % 20) = some L → 131 ≤ L ∧ BLK σ L := fun L hL => by
  have hat : (f + c) % 20 < 20 := Nat.mod_lt _ (by decide)
  exact ⟨(h.2.2.1 _ L hat hL).1, (h.2.2.1 _ L hat hL).2.1⟩
theorem dl_52 {σ : am_H} (h : 1 ≤ dlM σ) : ¬ σ.2.1 55 52 = 0 := fun z => by
  unfold dlM at h
  rw [if_pos z] at h
  exact absurd h (by decide)
theorem feS_01 (σ : am_H) (k : Nat) : 0 ≤ feS σ k ∧ feS σ k ≤ 1 := by
  have := fsD01 (itS k σ)
  unfold feS
  omega
