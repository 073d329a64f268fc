/-- a reading: ahead of place i, or a fault -/
def ZZ (b : Nat → Int) (E : Nat) (S : am_H) : Nat ⊕ (Int × Int) → Prop
  | .inl i => ZS b E i S
  | .inr e => ZB b E e.1 e.2 S
def akF (b : Nat → Int) (E w : Nat) : Nat ⊕ (Int × Int) → Nat ⊕ (Int × Int)
  | .inl i => if zK b E i = 128 + (w : Int) then .inl (i + 1) else .inr (1, (zP b E i : Int))
  | .inr e => .inr e
def sgF (b : Nat → Int) (E : Nat) (c : Int) : Nat ⊕ (Int × Int) → Nat ⊕ (Int × Int)
  | .inl i => if zK b E i = c then .inl (i + 1) else .inr (1, (zP b E i : Int))
  | .inr e => .inr e
def nuF (b : Nat → Int) (E : Nat) (lo hi : Int) : Nat ⊕ (Int × Int) → Nat ⊕ (Int × Int)
  | .inl i => if zK b E i = 1 ∧ lo ≤ zV b E i ∧ zV b E i ≤ hi then .inl (i + 1) else .inr (nfK b E i, nfP b E i)
  | .inr e => .inr e
def naF (b : Nat → Int) (E : Nat) : Nat ⊕ (Int × Int) → Nat ⊕ (Int × Int)
  | .inl i => if zK b E i = 3 ∨ 155 ≤ zK b E i then .inl (i + 1) else .inr (1, mfP b E i)
  | .inr e => .inr e
def vZ (b : Nat → Int) (E : Nat) : Nat ⊕ (Int × Int) → Int
  | .inl i => zV b E i
  | .inr _ => 0
def nZ (b : Nat → Int) (E : Nat) : Nat ⊕ (Int × Int) → Int
  | .inl i => zN b E i
  | .inr _ => 0
def pZ (b : Nat → Int) (E : Nat) : Nat ⊕ (Int × Int) → Int
  | .inl i => (zP b E i : Int)
  | .inr _ => 0
theorem ZZ.L {b : Nat → Int} {E : Nat} {S : am_H} {p : Nat ⊕ (Int × Int)} (h : ZZ b E S p) : lay S := by
  cases p with
  | inl i => exact (show ZS b E i S from h).1
  | inr e => exact (show ZB b E e.1 e.2 S from h).1
theorem ZZ.bad0 {b : Nat → Int} {E : Nat} {S : am_H} {p : Nat ⊕ (Int × Int)} (h : ZZ b E S p) : S.2.1 55 5 = 0 ↔ p.isLeft = true := by
  cases p with
  | inl i => exact ⟨fun _ => rfl, fun _ => (show ZS b E i S from h).2.2.2.1⟩
  | inr e =>
    have h2 : ZB b E e.1 e.2 S := h
    exact ⟨fun h3 => absurd (h2.2.2.2.1.symm.trans h3) h2.2.2.2.2.1, fun h3 => absurd h3 (by simp)⟩
theorem c_asksZ {b : Nat → Int} {E : Nat} {S : am_H} {p : Nat ⊕ (Int × Int)} (hZ : ZZ b E S p) (a w : Nat) (hq : (a, w) ∈ WT) : am_met M_X10_asks [am_r 55, am_r a] S (fun r τ => r = none ∧ ZZ b E τ (akF b E w p) ∧ frw W_sc S τ) := by
  cases p with
  | inl i =>
    by_cases hk : zK b E i = 128 + (w : Int)
    · refine am_mono (c_asksY b E i S hZ a w hq hk) (fun r τ h => ⟨h.1, ?_, h.2.2⟩)
      show ZZ b E τ (if zK b E i = 128 + (w : Int) then .inl (i + 1) else .inr (1, (zP b E i : Int)))
      rw [if_pos hk]; exact h.2.1
    · refine am_mono (c_asksN b E i S hZ a w hq hk) (fun r τ h => ⟨h.1, ?_, h.2.2⟩)
      show ZZ b E τ (if zK b E i = 128 + (w : Int) then .inl (i + 1) else .inr (1, (zP b E i : Int)))
      rw [if_neg hk]; exact h.2.1
  | inr e =>
    refine am_mono (c_asks0 b E e.1 e.2 S hZ a) (fun r τ h => ⟨h.1, ?_, ?_⟩)
    · rw [h.2]; exact hZ
    · rw [h.2]; exact frw.refl _ _
theorem c_asksSignZ {b : Nat → Int} {E : Nat} {S : am_H} {p : Nat ⊕ (Int × Int)} (hZ : ZZ b E S p) (c : Int) (hc : sgn c = true) : am_met M_X10_asksSign [am_r 55, am_i c] S (fun r τ => r = none ∧ ZZ b E τ (sgF b E c p) ∧ frw W_sc S τ) := by
  cases p with
  | inl i =>
    by_cases hk : zK b E i = c
    · refine am_mono (c_asksSignY b E i S hZ c hc hk) (fun r τ h => ⟨h.1, ?_, h.2.2⟩)
      show ZZ b E τ (if zK b E i = c then .inl (i + 1) else .inr (1, (zP b E i : Int)))
      rw [if_pos hk]; exact h.2.1
    · refine am_mono (c_asksSignN b E i S hZ c hc hk) (fun r τ h => ⟨h.1, ?_, h.2.2⟩)
      show ZZ b E τ (if zK b E i = c then .inl (i + 1) else .inr (1, (zP b E i : Int)))
      rw [if_neg hk]; exact h.2.1
  | inr e =>
    refine am_mono (c_asksSign0 b E e.1 e.2 S hZ c) (fun r τ h => ⟨h.1, ?_, ?_⟩)
    · rw [h.2]; exact hZ
    · rw [h.2]; exact frw.refl _ _
theorem c_numberZ {b : Nat → Int} {E : Nat} {S : am_H} {p : Nat ⊕ (Int × Int)} (hZ : ZZ b E S p) (lo hi : Int) (h0 : 0 ≤ lo) (h9 : hi ≤ 9999) : am_met M_X10_number [am_r 55, am_i lo, am_i hi] S (fun r τ => ∃ v : Int, r = some (am_i v) ∧ (0 ≤ v ∧ v ≤ 9999) ∧ ZZ b E τ (nuF b E lo hi p) ∧ frw W_sc S τ ∧ ((nuF b E lo hi p).isLeft = true → v = vZ b E p ∧ (lo ≤ v ∧ v ≤ hi) ∧ τ.2.1 55 10 = pZ b E p)) := by
  cases p with
  | inl i =>
    have hd : nuF b E lo hi (.inl i) = if zK b E i = 1 ∧ lo ≤ zV b E i ∧ zV b E i ≤ hi then .inl (i + 1) else .inr (nfK b E i, nfP b E i) := rfl
    by_cases hk : zK b E i = 1 ∧ lo ≤ zV b E i ∧ zV b E i ≤ hi
    · rw [hd, if_pos hk]
      refine am_mono (c_numY hZ hk.1 hk.2.1 hk.2.2) (fun r τ h => ⟨zV b E i, h.1, ⟨by omega, by omega⟩, h.2.1, h.2.2.1, fun _ => ⟨rfl, hk.2, h.2.2.2⟩⟩)
    · rw [hd, if_neg hk]
      refine am_mono (c_numN hZ hk) (fun r τ h => ?_)
      obtain ⟨⟨v, h1, h2⟩, h3, h4⟩ := h
      exact ⟨v, h1, h2, h3, h4, fun h5 => absurd h5 (by simp)⟩
  | inr e =>
    refine am_mono (c_number0 b E e.1 e.2 S hZ lo hi) (fun r τ h => ⟨0, h.1, ⟨by decide, by decide⟩, ?_, ?_, fun h5 => absurd h5 (by simp [nuF])⟩)
    · rw [h.2]; exact hZ
    · rw [h.2]; exact frw.refl _ _
theorem c_nameZ {b : Nat → Int} {E : Nat} {S : am_H} {p : Nat ⊕ (Int × Int)} (hZ : ZZ b E S p) : am_met M_X10_name [am_r 55] S (fun r τ => ∃ v : Int, r = some (am_l v) ∧ ZZ b E τ (naF b E p) ∧ frw W_sc S τ ∧ ((naF b E p).isLeft = true → v = nZ b E p ∧ τ.2.1 55 38 = pZ b E p)) := by
  cases p with
  | inl i =>
    have hd : naF b E (.inl i) = if zK b E i = 3 ∨ 155 ≤ zK b E i then .inl (i + 1) else .inr (1, mfP b E i) := rfl
    by_cases hk : zK b E i = 3 ∨ 155 ≤ zK b E i
    · rw [hd, if_pos hk]
      refine am_mono (c_nameY hZ hk) (fun r τ h => ⟨zN b E i, h.1, h.2.1, h.2.2.1, fun _ => ⟨rfl, h.2.2.2⟩⟩)
    · rw [hd, if_neg hk]
      refine am_mono (c_nameN hZ hk) (fun r τ h => ⟨0, h.1, h.2.1, h.2.2, fun h5 => absurd h5 (by simp)⟩)
  | inr e =>
    refine am_mono (c_name0 b E e.1 e.2 S hZ) (fun r τ h => ⟨0, h.1, ?_, ?_, fun h5 => absurd h5 (by simp [naF])⟩)
    · rw [h.2]; exact hZ
    · rw [h.2]; exact frw.refl _ _
