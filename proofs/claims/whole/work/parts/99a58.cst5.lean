/-- a rule's reader at a reading, and back -/
def sx0 : PZ → SX
  | .inl i => .inl (i, [], 0)
  | .inr e => .inr (e, 0)
def SZ : SX → PZ
  | .inl q => .inl q.1
  | .inr q => .inr q.1
def ruP (b : Nat → Int) (E : Nat) (tk : Int) (p : PZ) : PZ := SZ (testB b E (factX b E tk 6) (sx0 p))
theorem ruP_r {b : Nat → Int} {E : Nat} {tk : Int} (e : Int × Int) : ruP b E tk (.inr e) = .inr e := by
  unfold ruP sx0
  rw [testX_r]
  rfl
theorem RY.cells {b : Nat → Int} {E : Nat} {cv : Nat → Int} {M : Nat} {σ τ : am_H} {p : PZ} (h : RY b E cv M σ p) (hL : lay τ) (e : ∀ a j, 27 ≤ a ∧ a ≤ 31 → τ.2.1 a j = σ.2.1 a j) : RY b E cv M τ p := by
  have h2 : RY b E cv M (σ.1, τ.2.1, σ.2.2) p := h.fr (W := fun a _ => ¬ (27 ≤ a ∧ a ≤ 31)) ⟨rfl, rfl, fun a j z => e a j (Decidable.of_not_not z)⟩ (fun a j z w => w z)
  exact ⟨hL, h2.2.1, h2.2.2.1, h2.2.2.2.1, h2.2.2.2.2⟩
theorem RX_of {b : Nat → Int} {E : Nat} {cv : Nat → Int} {M : Nat} {tk : Int} {σ : am_H} {p : PZ} (hX : RY b E cv M σ p) (h7 : σ.2.1 27 7 = 0) (h11 : σ.2.1 27 11 = 0) (h12 : σ.2.1 27 12 = if tk = 1 then 1 else 0) (h28 : σ.2.1 28 1 = 0) (htk : tk = 0 ∨ tk = 1) : RX b E cv M tk σ (sx0 p) := by
  refine ⟨⟨hX.1, hX.2.1, hX.2.2.1, by omega, ?_, fun _ => h12⟩, ?_⟩
  · rw [h11, if_neg (by omega)]
  · cases p with
    | inl i => exact ⟨hX.2.2.2.1, hX.2.2.2.2, ⟨h28, Nat.zero_le _⟩, fun k hk => absurd hk (Nat.not_lt_zero _), h7, (show (0 : Int) ≤ 0 by decide), (show (0 : Int) ≤ 6 by decide)⟩
    | inr e =>
      refine ⟨hX.2.2.2.1, by omega, ?_, (show (0 : Int) ≤ 0 by decide), (show (0 : Int) ≤ 6 by decide)⟩
      show (0 : Int) ≤ σ.2.1 27 7 ∧ σ.2.1 27 7 ≤ 0 + 1
      omega
theorem RX.ry {b : Nat → Int} {E : Nat} {cv : Nat → Int} {M : Nat} {tk : Int} {σ : am_H} {s : SX} (h : RX b E cv M tk σ s) : RY b E cv M σ (SZ s) := by
  refine ⟨h.1.1, h.1.2.1, h.1.2.2.1, ?_⟩
  cases s with
  | inl q => exact ⟨h.2.1, h.2.2.1⟩
  | inr q => exact ⟨h.2.1, trivial⟩
theorem RX.s0 {b : Nat → Int} {E : Nat} {cv : Nat → Int} {M : Nat} {tk : Int} {σ : am_H} {s : SX} (h : RX b E cv M tk σ s) : 0 ≤ σ.2.1 28 1 ∧ σ.2.1 28 1 ≤ 1600 := by
  cases s with
  | inl q =>
    have := h.2.2.2.1
    omega
  | inr q => exact h.2.2.1
theorem TRr.cells {t : Nat} {σ τ H : am_H} (h : TRr t σ H) (e : ∀ a j, t ≤ a ∧ a ≤ t + 7 → τ.2.1 a j = σ.2.1 a j) : TRr t τ H := by
  have h2 : TRr t (σ.1, τ.2.1, σ.2.2) H := h.fr (W := fun a _ => ¬ (t ≤ a ∧ a ≤ t + 7)) ⟨rfl, rfl, fun a j z => e a j (Decidable.of_not_not z)⟩ (fun a j z w => w z)
  exact h2
theorem TRr.H {t : Nat} {σ H K : am_H} (h : TRr t σ H) (e : ∀ a j, 85 ≤ a ∧ a ≤ 92 → K.2.1 a j = H.2.1 a j) (e5 : K.2.1 55 51 = H.2.1 55 51) : TRr t σ K := by
  obtain ⟨⟨a1, a2, a3, a4, a5, a6, a7, a8⟩, hn, hm, ho, hf⟩ := h
  refine ⟨⟨?_, ?_, ?_, ?_, ?_, ?_, ?_, ?_⟩, fun p hp => ?_, fun p hp => ?_, fun d hd => ?_, fun d hd h1 h2 => ?_⟩
  · rw [e 85 4 (by decide)]; exact a1
  · rw [e5]; exact a2
  · rw [e 85 0 (by decide)]; exact a3
  · rw [e 85 1 (by decide)]; exact a4
  · rw [e 85 2 (by decide)]; exact a5
  · rw [e 85 3 (by decide)]; exact a6
  · rw [e 92 0 (by decide)]; exact a7
  · rw [e 92 1 (by decide)]; exact a8
  · rw [e 85 0 (by decide)] at hp
    rw [e 86 p (by decide), e 87 p (by decide), e 88 p (by decide)]
    exact hn p hp
  · rw [e 85 0 (by decide), e 89 p (by decide)]
    exact hm p hp
  · rw [e 90 d (by decide)]
    exact ho d hd
  · rw [e 85 4 (by decide)] at h2
    have e9 : frN K (d : Int) = frN H (d : Int) := by
      unfold frN
      rw [e 85 3 (by decide)]
      simp only [e 91 _ (by decide)]
    rw [e9]
    exact hf d hd h1 h2
theorem CR.cells {t wh s : Nat} {σ τ : am_H} (ht : t = 3 ∨ t = 15) (hw : wh = 0 ∨ wh = 1) (h : CR (t + 8 + 2 * wh) s σ τ) (hL : lay σ) (hC : CDt t σ) (a j : Nat) (ha : (a < 12 ∧ ¬ a = t + 8 + 2 * wh) ∨ (14 < a ∧ a < 23) ∨ (26 < a ∧ a < 131)) : τ.2.1 a j = σ.2.1 a j := by
  obtain ⟨c, c', m', h1, h2, h3, h4, h5, h6, h7, h8, h9⟩ := h
  have hc0 := hC.c0 (t + 8 + 2 * wh) (by omega) c h1
  have hlen := len131 hL
  unfold cdC0 at hc0
  refine h8 a j (by omega) ?_
  rcases h7 with ⟨hh, _⟩ | ⟨hh, _⟩ <;> omega
theorem CR.rl {t wh s : Nat} {σ τ : am_H} (ht : t = 3 ∨ t = 15) (hw : wh = 0 ∨ wh = 1) (h : CR (t + 8 + 2 * wh) s σ τ) (hL : lay σ) (hC : CDt t σ) {cs : List Int} (hs : s = cs.length) (h29 : ∀ k, k < cs.length → σ.2.1 29 k = kap (cs.getD k 0)) (hr : σ.1[t + 8 + 2 * wh]? = some (5, 2)) : RLr (t + 8 + 2 * wh) τ cs := by
  have hold := h.old hr
  obtain ⟨c, c', m', h1, h2, h3, h4, h5, h6, h7, h8, h9⟩ := h
  have hc0 := hC.c0 (t + 8 + 2 * wh) (by omega) c h1
  have hlen := len131 hL
  unfold cdC0 at hc0
  refine ⟨hold, c', m', h2, h3, ?_, by omega, by rw [h6, hs], fun i hi => ?_⟩
  · rcases h7 with ⟨hh, _⟩ | ⟨hh, _⟩ <;> omega
  · rw [h5 i (by omega)]
    exact h29 i hi
theorem CR.ro {t wh s : Nat} {σ τ : am_H} (ht : t = 3 ∨ t = 15) (hw : wh = 0 ∨ wh = 1) (h : CR (t + 8 + 2 * wh) s σ τ) (hL : lay σ) (hC : CDt t σ) {cs : List Int} (hr : RLr (t + 8 + 2 * (1 - wh)) σ cs) : RLr (t + 8 + 2 * (1 - wh)) τ cs := by
  obtain ⟨k1, d, k, k2, k3, k4, k5, k6, k7⟩ := hr
  have o1 := h.old k1
  have o2 := h.old k3
  have hd0 := hC.c0 (t + 8 + 2 * (1 - wh)) (by omega) d k2
  obtain ⟨c, c', m', h1, h2, h3, h4, h5, h6, h7, h8, h9⟩ := h
  have hc0 := hC.c0 (t + 8 + 2 * wh) (by omega) c h1
  have hlen := len131 hL
  have hdl := lt_of_at k3
  have hcd : ¬ c = d := by
    obtain ⟨x, _, y, _, ⟨x1, _⟩, ⟨y1, _⟩, hxy⟩ := hC
    rcases hw with rfl | rfl
    · rw [show t + 8 + 2 * 0 = t + 8 by omega] at h1
      rw [show t + 8 + 2 * (1 - 0) = t + 10 by omega] at k2
      rw [h1] at x1; rw [k2] at y1
      cases x1; cases y1
      exact hxy
    · rw [show t + 8 + 2 * 1 = t + 10 by omega] at h1
      rw [show t + 8 + 2 * (1 - 1) = t + 8 by omega] at k2
      rw [h1] at y1; rw [k2] at x1
      cases x1; cases y1
      exact fun z => hxy z.symm
  have hdc : ¬ d = c' := by rcases h7 with ⟨hh, _⟩ | ⟨hh, _⟩ <;> omega
  unfold cdC0 at hc0 hd0
  refine ⟨o1, d, k, ?_, o2, k4, k5, ?_, fun i hi => ?_⟩
  · rw [h9 _ 0 (by omega) (by omega)]; exact k2
  · rw [h8 _ 1 (by omega) (by rcases h7 with ⟨hh, _⟩ | ⟨hh, _⟩ <;> omega)]; exact k6
  · rw [h8 d i (by omega) hdc]
    exact k7 i hi
