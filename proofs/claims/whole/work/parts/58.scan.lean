def WL : List (List Int) := [[100, 97, 121, 115], [112, 101, 114, 115, 111, 110], [109, 105, 110, 100], [97, 115, 107, 115], [116, 111, 108, 100], [111, 110], [114, 101, 109, 105, 110, 100, 115], [102, 114, 111, 115, 116], [102, 111, 114], [116, 104, 105, 110, 107, 115], [104, 101, 97, 114, 115], [115, 108, 105, 112, 115], [109, 111, 114, 116, 97, 108], [100, 97, 121], [121, 101, 97, 114], [97, 103, 111], [102, 101, 97, 115, 116], [111, 116, 104, 101, 114], [110, 117, 109, 98, 101, 114], [100, 101, 97, 100], [107, 110, 111, 119, 115], [111, 114], [97, 110, 100], [110, 111, 116], [97, 108, 108], [109, 105, 110], [109, 97, 120], [102, 105, 114, 115, 116], [108, 97, 115, 116], [111, 102, 116, 101, 110], [116, 111, 116, 97, 108], [109, 111, 115, 116], [108, 101, 97, 115, 116]]
def isL (c : Int) : Bool := decide (97 ≤ c ∧ c ≤ 122)
def isDg (c : Int) : Bool := decide (48 ≤ c ∧ c ≤ 57)
def isBl (c : Int) : Bool := decide (c = 10 ∨ c = 32)
def sgn (c : Int) : Bool := decide ((40 ≤ c ∧ c ≤ 45) ∨ c = 47 ∨ (59 ≤ c ∧ c ≤ 62) ∨ c = 91 ∨ c = 93)
/-- where a run of such bytes ends -/
def rnF (p : Int → Bool) (b : Nat → Int) (E : Nat) : Nat → Nat → Nat
  | 0, x => x
  | f + 1, x => if x < E ∧ p (b x) = true then rnF p b E f (x + 1) else x
def rn (p : Int → Bool) (b : Nat → Int) (E x : Nat) : Nat := rnF p b E (E - x) x
theorem rn_step {p : Int → Bool} {b : Nat → Int} {E x : Nat} (h : x < E) (hp : p (b x) = true) : rn p b E x = rn p b E (x + 1) := by
  unfold rn
  obtain ⟨g, hg⟩ : ∃ g, E - x = g + 1 := ⟨E - x - 1, by omega⟩
  rw [hg, show E - (x + 1) = g by omega]
  show (if _ then _ else _) = _
  rw [if_pos ⟨h, hp⟩]
theorem rn_stop {p : Int → Bool} {b : Nat → Int} {E x : Nat} (h : ¬ (x < E ∧ p (b x) = true)) : rn p b E x = x := by
  unfold rn
  cases E - x with
  | zero => rfl
  | succ g =>
    show (if _ then _ else _) = _
    rw [if_neg h]
theorem rnF_all {p : Int → Bool} {b : Nat → Int} {E : Nat} : ∀ (f x : Nat), E - x = f → x ≤ E → (x ≤ rnF p b E f x ∧ rnF p b E f x ≤ E) ∧ (∀ j, x ≤ j → j < rnF p b E f x → p (b j) = true) ∧ ¬ (rnF p b E f x < E ∧ p (b (rnF p b E f x)) = true)
  | 0, x, h, hx => by
    refine ⟨⟨Nat.le_refl _, hx⟩, fun j h1 h2 => ?_, fun hc => ?_⟩
    · have : rnF p b E 0 x = x := rfl
      omega
    · have : rnF p b E 0 x = x := rfl
      omega
  | f + 1, x, h, hx => by
    unfold rnF
    by_cases hc : x < E ∧ p (b x) = true
    · rw [if_pos hc]
      obtain ⟨h1, h2, h3⟩ := rnF_all (p := p) (b := b) (E := E) f (x + 1) (by omega) (by omega)
      refine ⟨by omega, fun j hj1 hj2 => ?_, h3⟩
      by_cases hj : j = x
      · rw [hj]; exact hc.2
      · exact h2 j (by omega) hj2
    · rw [if_neg hc]
      exact ⟨⟨Nat.le_refl _, hx⟩, fun j h1 h2 => by omega, hc⟩
theorem rn_rng (p : Int → Bool) (b : Nat → Int) {E x : Nat} (h : x ≤ E) : x ≤ rn p b E x ∧ rn p b E x ≤ E := (rnF_all (p := p) (b := b) (E - x) x rfl h).1
theorem rn_in {p : Int → Bool} {b : Nat → Int} {E x : Nat} (h : x ≤ E) : ∀ j, x ≤ j → j < rn p b E x → p (b j) = true := (rnF_all (p := p) (b := b) (E - x) x rfl h).2.1
theorem rn_end {p : Int → Bool} {b : Nat → Int} {E x : Nat} (h : x ≤ E) : ¬ (rn p b E x < E ∧ p (b (rn p b E x)) = true) := (rnF_all (p := p) (b := b) (E - x) x rfl h).2.2
theorem rn_rn {p : Int → Bool} {b : Nat → Int} {E x : Nat} (h : x ≤ E) : rn p b E (rn p b E x) = rn p b E x := rn_stop (rn_end h)
def sk (b : Nat → Int) (E x : Nat) : Nat := rn isBl b E x
def mB (b : Nat → Int) : Nat → List Int → Bool
  | _, [] => true
  | x, c :: l => decide (b x = c) && mB b (x + 1) l
/-- these letters, and no more, stand from x to y -/
def mW (b : Nat → Int) (x y : Nat) (l : List Int) : Bool := decide (y = x + l.length) && mB b x l
def wkI (b : Nat → Int) (x y : Nat) : Int := firstQ (fun w => mW b x y (WL.getD w [])) 33
/-- the kind of what stands at x (t: it touches the word or number ahead) -/
def zk (b : Nat → Int) (E x : Nat) (t : Bool) : Int :=
  if ¬ x < E then 6 else if isL (b x) = true then (if t = true then 5 else if wkI b x (rn isL b E x) = -1 then (if 6 < rn isL b E x - x then 4 else 3) else 128 + wkI b x (rn isL b E x))
  else if isDg (b x) = true then (if t = true then 5 else if 4 < rn isDg b E x - x then 2 else 1)
  else if sgn (b x) = true then b x else 5
/-- what stands behind it: where, and whether it touches -/
def nxz (b : Nat → Int) (E x : Nat) : Nat × Bool :=
  if ¬ x < E then (x, false) else if isL (b x) = true then (sk b E (rn isL b E x), decide (sk b E (rn isL b E x) = rn isL b E x))
  else if isDg (b x) = true then (sk b E (rn isDg b E x), decide (sk b E (rn isDg b E x) = rn isDg b E x)) else (sk b E (x + 1), false)
def zz (b : Nat → Int) (E : Nat) : Nat → Nat × Bool
  | 0 => (sk b E 0, false)
  | i + 1 => nxz b E (zz b E i).1
def zP (b : Nat → Int) (E i : Nat) : Nat := (zz b E i).1
def zT (b : Nat → Int) (E i : Nat) : Bool := (zz b E i).2
def zK (b : Nat → Int) (E i : Nat) : Int := zk b E (zP b E i) (zT b E i)
def nv (b : Nat → Int) (x : Nat) : Nat → Int
  | 0 => 0
  | k + 1 => ((10 * nv b x k) + b (x + k)) - 48
def n27 (b : Nat → Int) (x : Nat) : Nat → Int
  | 0 => 0
  | k + 1 => (((27 * n27 b x k) + b (x + k)) - 97) + 1
def zV (b : Nat → Int) (E i : Nat) : Int := nv b (zP b E i) (rn isDg b E (zP b E i) - zP b E i)
def zN (b : Nat → Int) (E i : Nat) : Int := n27 b (zP b E i) (rn isL b E (zP b E i) - zP b E i)
theorem zP_rng (b : Nat → Int) (E : Nat) : ∀ i, zP b E i ≤ E
  | 0 => (rn_rng isBl b (Nat.zero_le E)).2
  | i + 1 => by
    have ih := zP_rng b E i
    show (nxz b E (zP b E i)).1 ≤ E
    unfold nxz
    split
    · exact ih
    · have hL := rn_rng isL b ih
      have hD := rn_rng isDg b ih
      split
      · exact (rn_rng isBl b hL.2).2
      · split
        · exact (rn_rng isBl b hD.2).2
        · exact (rn_rng isBl b (x := zP b E i + 1) (by omega)).2
theorem zP_nb (b : Nat → Int) (E : Nat) : ∀ i, ¬ (zP b E i < E ∧ isBl (b (zP b E i)) = true)
  | 0 => rn_end (Nat.zero_le E)
  | i + 1 => by
    have hi := zP_rng b E i
    show ¬ ((nxz b E (zP b E i)).1 < E ∧ isBl (b (nxz b E (zP b E i)).1) = true)
    unfold nxz
    split
    · omega
    · have hL := rn_rng isL b hi
      have hD := rn_rng isDg b hi
      split
      · exact rn_end hL.2
      · split
        · exact rn_end hD.2
        · exact rn_end (x := zP b E i + 1) (by omega)
theorem sk_zP (b : Nat → Int) (E i : Nat) : sk b E (zP b E i) = zP b E i := rn_stop (zP_nb b E i)
theorem mB_at {b : Nat → Int} : ∀ {l : List Int} {x : Nat}, mB b x l = true → ∀ i, i < l.length → b (x + i) = l.getD i 0
  | [], _, _, i, hi => by simp at hi
  | c :: l, x, h, i, hi => by
    unfold mB at h
    simp only [Bool.and_eq_true, decide_eq_true_eq] at h
    cases i with
    | zero => exact h.1
    | succ i =>
      have h2 := mB_at h.2 i (by simp at hi; omega)
      rw [show x + (i + 1) = x + 1 + i by omega, h2]
      rfl
theorem mB_of {b : Nat → Int} : ∀ {l : List Int} {x : Nat}, (∀ i, i < l.length → b (x + i) = l.getD i 0) → mB b x l = true
  | [], _, _ => rfl
  | c :: l, x, h => by
    unfold mB
    simp only [Bool.and_eq_true, decide_eq_true_eq]
    refine ⟨h 0 (by simp), mB_of (fun i hi => ?_)⟩
    have h2 := h (i + 1) (by simp; omega)
    rw [show x + 1 + i = x + (i + 1) by omega, h2]
    rfl
theorem mW_uniq {b : Nat → Int} {x y : Nat} {l m : List Int} (h1 : mW b x y l = true) (h2 : mW b x y m = true) : l = m := by
  unfold mW at h1 h2
  simp only [Bool.and_eq_true, decide_eq_true_eq] at h1 h2
  have e : l.length = m.length := by omega
  refine List.ext_getElem e (fun i hi1 hi2 => ?_)
  have a1 := mB_at h1.2 i hi1
  have a2 := mB_at h2.2 i hi2
  rw [a1] at a2
  simpa [List.getD_eq_getElem?_getD, List.getElem?_eq_getElem hi1, List.getElem?_eq_getElem hi2] using a2
theorem WL_inj : ∀ v, v < 33 → ∀ w, w < 33 → WL.getD v [] = WL.getD w [] → v = w := by decide +kernel
theorem firstQ_get {g : Nat → Bool} : ∀ {n : Nat}, 0 ≤ firstQ g n → g (firstQ g n).toNat = true ∧ (firstQ g n).toNat < n
  | 0, h => by unfold firstQ at h; omega
  | n + 1, h => by
    unfold firstQ at h ⊢
    split at h
    · rename_i h1
      rw [if_pos h1]
      have ih := firstQ_get (g := g) (n := n) h
      exact ⟨ih.1, by omega⟩
    · rename_i h1
      rw [if_neg h1]
      split at h
      · rename_i h2
        rw [if_pos h2]
        exact ⟨by simpa using h2, by omega⟩
      · omega
/-- a word stands here just if its number is told -/
theorem wk_iff {b : Nat → Int} {x y w : Nat} (hw : w < 33) : mW b x y (WL.getD w []) = true ↔ wkI b x y = (w : Int) := by
  constructor
  · intro h
    have h0 : 0 ≤ wkI b x y := by
      rcases firstQ_rng (g := fun w => mW b x y (WL.getD w [])) 33 with h9 | h9
      · exfalso
        have h8 : anyB (fun w => mW b x y (WL.getD w [])) 33 = true := anyB_t h hw
        rcases hq : anyB (fun w => mW b x y (WL.getD w [])) w with _ | _
        · rw [firstQ_at (g := fun w => mW b x y (WL.getD w [])) h hq hw] at h9; omega
        · obtain ⟨i, hi1, hi2⟩ := anyB_mem hq
          have := WL_inj i (by omega) w hw (mW_uniq hi2 h)
          omega
      · exact h9.1
    obtain ⟨h1, h2⟩ := firstQ_get (g := fun w => mW b x y (WL.getD w [])) (n := 33) h0
    have h3 := WL_inj _ h2 w hw (mW_uniq h1 h)
    unfold wkI at h0 ⊢
    omega
  · intro h
    obtain ⟨h1, h2⟩ := firstQ_get (g := fun w => mW b x y (WL.getD w [])) (n := 33) (show 0 ≤ wkI b x y by omega)
    have h3 : (wkI b x y).toNat = w := by omega
    unfold wkI at h3
    rw [h3] at h1
    exact h1
