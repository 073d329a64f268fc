/-- a reading lies no further on than its bytes -/
def iZ (b : Nat → Int) (E : Nat) : Nat ⊕ (Int × Int) → Prop
  | .inl i => i ≤ zP b E i
  | .inr _ => True
theorem akF_i {b : Nat → Int} {E w : Nat} {p : Nat ⊕ (Int × Int)} (h : iZ b E p) : iZ b E (akF b E w p) := by
  cases p with
  | inl i =>
    show iZ b E (if zK b E i = 128 + (w : Int) then .inl (i + 1) else .inr (1, (zP b E i : Int)))
    split
    · exact zP_on (by omega) h
    · trivial
  | inr e => trivial
theorem sgF_i {b : Nat → Int} {E : Nat} {c : Int} (hc : ¬ c = 6) {p : Nat ⊕ (Int × Int)} (h : iZ b E p) : iZ b E (sgF b E c p) := by
  cases p with
  | inl i =>
    show iZ b E (if zK b E i = c then .inl (i + 1) else .inr (1, (zP b E i : Int)))
    split
    · exact zP_on (by omega) h
    · trivial
  | inr e => trivial
theorem nuF_i {b : Nat → Int} {E : Nat} {lo hi : Int} {p : Nat ⊕ (Int × Int)} (h : iZ b E p) : iZ b E (nuF b E lo hi p) := by
  cases p with
  | inl i =>
    show iZ b E (if zK b E i = 1 ∧ lo ≤ zV b E i ∧ zV b E i ≤ hi then .inl (i + 1) else .inr (nfK b E i, nfP b E i))
    split
    · exact zP_on (by omega) h
    · trivial
  | inr e => trivial
theorem naF_i {b : Nat → Int} {E : Nat} {p : Nat ⊕ (Int × Int)} (h : iZ b E p) : iZ b E (naF b E p) := by
  cases p with
  | inl i =>
    show iZ b E (if zK b E i = 3 ∨ 155 ≤ zK b E i then .inl (i + 1) else .inr (1, mfP b E i))
    split
    · exact zP_on (by omega) h
    · trivial
  | inr e => trivial
theorem phF_i {b : Nat → Int} {E : Nat} {S : am_H} {p : Nat ⊕ (Int × Int)} (h : iZ b E p) : iZ b E (phF b E S p) := by
  cases p with
  | inl i =>
    show iZ b E (if zK b E i = 3 ∨ 155 ≤ zK b E i then (if pOf S (zN b E i) = -1 then .inr (3, (zP b E i : Int)) else .inl (i + 1)) else .inr (1, mfP b E i))
    split
    · split
      · trivial
      · exact zP_on (by omega) h
    · trivial
  | inr e => trivial
