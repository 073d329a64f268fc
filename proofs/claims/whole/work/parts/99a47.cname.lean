theorem RY.fr {b : Nat → Int} {E : Nat} {cv : Nat → Int} {M : Nat} {W : Nat → Nat → Prop} {σ τ : am_H} {p : PZ} (h : RY b E cv M σ p) (hF : frw W σ τ) (hW : ∀ a j, 27 ≤ a ∧ a ≤ 31 → ¬ W a j) : RY b E cv M τ p := by
  have e : ∀ a j, 27 ≤ a ∧ a ≤ 31 → τ.2.1 a j = σ.2.1 a j := fun a j ha => hF.2.2 a j (hW a j ha)
  obtain ⟨h1, h2, h3, h4, h5⟩ := h
  refine ⟨hF.L h1, ⟨(e 30 2 (by decide)).trans h2.1, h2.2.1, fun i hi => (e 31 i (by decide)).trans (h2.2.2.1 i hi), h2.2.2.2⟩, h3, ?_, h5⟩
  cases p with
  | inl i =>
    obtain ⟨g1, g2, g3, g4, g5, g6⟩ := h4
    exact ⟨(e 27 3 (by decide)).trans g1, (e 27 4 (by decide)).trans g2, (e 27 5 (by decide)).trans g3, (e 27 6 (by decide)).trans g4, (e 27 8 (by decide)).trans g5, (e 27 9 (by decide)).trans g6⟩
  | inr q =>
    obtain ⟨g1, g2, g3, g4⟩ := h4
    exact ⟨(e 27 8 (by decide)).trans g1, g2, (e 27 9 (by decide)).trans g3, (e 27 4 (by decide)).trans g4⟩
theorem ak_T {b : Nat → Int} {E w : Nat} {q : PZ} (h : kdZ b E q = 128 + (w : Int)) : npZ q = akF b E w q := by
  cases q with
  | inl i => exact (if_pos h).symm
  | inr e => rfl
theorem ak_F {b : Nat → Int} {E w : Nat} {q : PZ} (h : ¬ kdZ b E q = 128 + (w : Int)) : ftZ b E 1 q = akF b E w q := by
  cases q with
  | inl i => exact (if_neg h).symm
  | inr e => rfl
theorem sg_T {b : Nat → Int} {E : Nat} {c : Int} {q : PZ} (h : kdZ b E q = c) : npZ q = sgF b E c q := by
  cases q with
  | inl i => exact (if_pos h).symm
  | inr e => rfl
theorem sg_F {b : Nat → Int} {E : Nat} {c : Int} {q : PZ} (h : ¬ kdZ b E q = c) : ftZ b E 1 q = sgF b E c q := by
  cases q with
  | inl i => exact (if_neg h).symm
  | inr e => rfl
/-- who the class finds by the name that is next -/
def FD (t : Nat) (τ : am_H) (n : Nat) : Int := firstQ (fun k => decide (τ.2.1 (t + 1) k = τ.2.1 27 6)) n
theorem FD_rng (t : Nat) (τ : am_H) (n : Nat) : FD t τ n = -1 ∨ (0 ≤ FD t τ n ∧ FD t τ n < n) := firstQ_rng _
/-- the town's people, where nothing was at fault -/
def PL (t : Nat) (τ H : am_H) (n : Nat) : PZ → Prop
  | .inl _ => TRr t τ H ∧ H.2.1 85 0 = (n : Int)
  | .inr _ => True
theorem PL.l {t : Nat} {τ H : am_H} {n : Nat} {p q : PZ} (h : PL t τ H n p) (hl : q.isLeft = true → p.isLeft = true) : PL t τ H n q := by
  cases q with
  | inl i =>
    have := hl rfl
    cases p with
    | inl k => exact h
    | inr e => exact absurd this (by simp)
  | inr e => trivial
theorem PL.fr {W : Nat → Nat → Prop} {t : Nat} {σ τ H : am_H} {n : Nat} {p : PZ} (h : PL t σ H n p) (hF : frw W σ τ) (hW : ∀ a j, t ≤ a ∧ a ≤ t + 7 → ¬ W a j) : PL t τ H n p := by
  cases p with
  | inl i => exact ⟨h.1.fr hF hW, h.2⟩
  | inr e => trivial
theorem fd_eq {b : Nat → Int} {E : Nat} {cv : Nat → Int} {M : Nat} {t : Nat} {τ H : am_H} {n i : Nat} (hX : RY b E cv M τ (.inl i)) (hT : PL t τ H n (.inl i)) (hk : okN b E i) : FD t τ n = pOf H (zN b E i) ∧ nmR (τ.2.1 27 6) (zN b E i) := by
  have h1 : τ.2.1 27 6 = cv i := hX.2.2.2.1.2.2.2.1
  have h2 := (hX.2.2.1 i hX.2.2.2.2).2 hk
  have h3 : nmR (τ.2.1 27 6) (zN b E i) := by rw [h1]; exact h2
  refine ⟨?_, h3⟩
  have h4 := hT.1.find h3
  rw [hT.2, show ((n : Int)).toNat = n by omega] at h4
  exact h4
def pnP (b : Nat → Int) (E : Nat) (H : am_H) : PZ → PZ
  | .inl i => pnF b E H i
  | .inr e => .inr e
theorem pnP_l {b : Nat → Int} {E : Nat} {H : am_H} {p : PZ} (h : (pnP b E H p).isLeft = true) : p.isLeft = true := by
  cases p with
  | inl i => rfl
  | inr e => exact h
theorem pn_T {b : Nat → Int} {E : Nat} {cv : Nat → Int} {M : Nat} {t : Nat} {τ H : am_H} {p : PZ} {n : Nat} (hX : RY b E cv M τ p) (hT : PL t τ H n p) (h : FD t τ n = -1) : naG b E true p = pnP b E H p := by
  cases p with
  | inr e => rfl
  | inl i =>
    show (if zK b E i = 3 ∨ 155 ≤ zK b E i then (if true = true then (.inl (i + 1) : PZ) else .inr (3, (zP b E i : Int))) else .inr (1, mfP b E i)) = (if zK b E i = 3 ∨ 155 ≤ zK b E i then (if pOf H (zN b E i) = -1 then .inl (i + 1) else .inr (3, (zP b E i : Int))) else .inr (1, mfP b E i))
    by_cases hk : zK b E i = 3 ∨ 155 ≤ zK b E i
    · rw [if_pos hk, if_pos hk, if_pos rfl, if_pos ((fd_eq hX hT hk).1.symm.trans h)]
    · rw [if_neg hk, if_neg hk]
theorem pn_F {b : Nat → Int} {E : Nat} {cv : Nat → Int} {M : Nat} {t : Nat} {τ H : am_H} {p : PZ} {n : Nat} (hX : RY b E cv M τ p) (hT : PL t τ H n p) (h : ¬ FD t τ n = -1) : naG b E false p = pnP b E H p := by
  cases p with
  | inr e => rfl
  | inl i =>
    show (if zK b E i = 3 ∨ 155 ≤ zK b E i then (if false = true then (.inl (i + 1) : PZ) else .inr (3, (zP b E i : Int))) else .inr (1, mfP b E i)) = (if zK b E i = 3 ∨ 155 ≤ zK b E i then (if pOf H (zN b E i) = -1 then .inl (i + 1) else .inr (3, (zP b E i : Int))) else .inr (1, mfP b E i))
    by_cases hk : zK b E i = 3 ∨ 155 ≤ zK b E i
    · rw [if_pos hk, if_pos hk, if_neg (by decide), if_neg (fun z => h ((fd_eq hX hT hk).1.trans z))]
    · rw [if_neg hk, if_neg hk]
theorem ph_T {b : Nat → Int} {E : Nat} {cv : Nat → Int} {M : Nat} {t : Nat} {τ H : am_H} {p : PZ} {n : Nat} (hX : RY b E cv M τ p) (hT : PL t τ H n p) (h : ¬ FD t τ n = -1) : naG b E true p = phF b E H p := by
  cases p with
  | inr e => rfl
  | inl i =>
    show (if zK b E i = 3 ∨ 155 ≤ zK b E i then (if true = true then (.inl (i + 1) : PZ) else .inr (3, (zP b E i : Int))) else .inr (1, mfP b E i)) = (if zK b E i = 3 ∨ 155 ≤ zK b E i then (if pOf H (zN b E i) = -1 then .inr (3, (zP b E i : Int)) else .inl (i + 1)) else .inr (1, mfP b E i))
    by_cases hk : zK b E i = 3 ∨ 155 ≤ zK b E i
    · rw [if_pos hk, if_pos hk, if_pos rfl, if_neg (fun z => h ((fd_eq hX hT hk).1.trans z))]
    · rw [if_neg hk, if_neg hk]
theorem ph_F {b : Nat → Int} {E : Nat} {cv : Nat → Int} {M : Nat} {t : Nat} {τ H : am_H} {p : PZ} {n : Nat} (hX : RY b E cv M τ p) (hT : PL t τ H n p) (h : FD t τ n = -1) : naG b E false p = phF b E H p := by
  cases p with
  | inr e => rfl
  | inl i =>
    show (if zK b E i = 3 ∨ 155 ≤ zK b E i then (if false = true then (.inl (i + 1) : PZ) else .inr (3, (zP b E i : Int))) else .inr (1, mfP b E i)) = (if zK b E i = 3 ∨ 155 ≤ zK b E i then (if pOf H (zN b E i) = -1 then .inr (3, (zP b E i : Int)) else .inl (i + 1)) else .inr (1, mfP b E i))
    by_cases hk : zK b E i = 3 ∨ 155 ≤ zK b E i
    · rw [if_pos hk, if_pos hk, if_neg (by decide), if_pos ((fd_eq hX hT hk).1.symm.trans h)]
    · rw [if_neg hk, if_neg hk]
theorem pn_v {b : Nat → Int} {E : Nat} {cv : Nat → Int} {M : Nat} {τ H : am_H} {p : PZ} (hX : RY b E cv M τ p) (hl : (pnP b E H p).isLeft = true) : ∃ i, p = .inl i ∧ okN b E i ∧ nmR (τ.2.1 27 6) (zN b E i) := by
  cases p with
  | inr e => exact absurd hl (by simp [pnP])
  | inl i =>
    have hk : okN b E i := by
      by_cases hk : zK b E i = 3 ∨ 155 ≤ zK b E i
      · exact hk
      · have hl2 : (if zK b E i = 3 ∨ 155 ≤ zK b E i then (if pOf H (zN b E i) = -1 then (.inl (i + 1) : PZ) else .inr (3, (zP b E i : Int))) else .inr (1, mfP b E i)).isLeft = true := hl
        rw [if_neg hk] at hl2
        exact absurd hl2 (by simp)
    refine ⟨i, rfl, hk, ?_⟩
    rw [show τ.2.1 27 6 = cv i from hX.2.2.2.1.2.2.2.1]
    exact (hX.2.2.1 i hX.2.2.2.2).2 hk
theorem ph_v {b : Nat → Int} {E : Nat} {cv : Nat → Int} {M : Nat} {t : Nat} {τ H : am_H} {p : PZ} {n : Nat} (hX : RY b E cv M τ p) (hT : PL t τ H n p) (hl : (phF b E H p).isLeft = true) : FD t τ n = pOf H (nZ b E p) := by
  cases p with
  | inr e => exact absurd hl (by simp [phF])
  | inl i =>
    have hk : okN b E i := by
      by_cases hk : zK b E i = 3 ∨ 155 ≤ zK b E i
      · exact hk
      · have hl2 : (if zK b E i = 3 ∨ 155 ≤ zK b E i then (if pOf H (zN b E i) = -1 then (.inr (3, (zP b E i : Int)) : PZ) else .inl (i + 1)) else .inr (1, mfP b E i)).isLeft = true := hl
        rw [if_neg hk] at hl2
        exact absurd hl2 (by simp)
    exact (fd_eq hX hT hk).1
theorem ph_ne {b : Nat → Int} {E : Nat} {cv : Nat → Int} {M : Nat} {t : Nat} {τ H : am_H} {p : PZ} {n : Nat} (hX : RY b E cv M τ p) (hT : PL t τ H n p) (hl : (phF b E H p).isLeft = true) : 0 ≤ FD t τ n ∧ FD t τ n < n := by
  rcases FD_rng t τ n with h | h
  · have h2 := ph_v hX hT hl
    cases p with
    | inr e => exact absurd hl (by simp [phF])
    | inl i =>
      have hl2 : (if zK b E i = 3 ∨ 155 ≤ zK b E i then (if pOf H (zN b E i) = -1 then (.inr (3, (zP b E i : Int)) : PZ) else .inl (i + 1)) else .inr (1, mfP b E i)).isLeft = true := hl
      have h3 : pOf H (zN b E i) = -1 := h2.symm.trans h
      rw [if_pos h3] at hl2
      by_cases hk : zK b E i = 3 ∨ 155 ≤ zK b E i
      · rw [if_pos hk] at hl2; exact absurd hl2 (by simp)
      · rw [if_neg hk] at hl2; exact absurd hl2 (by simp)
  · exact h
def W_tn (t a j : Nat) : Prop := (t ≤ a ∧ a ≤ t + 7 ∧ ¬ (a = t ∧ j = 1)) ∨ W_rz a j

