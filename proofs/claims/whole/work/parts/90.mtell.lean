theorem W_sc_t {S T : am_H} (h : frw W_sc S T) : frw W_t S T := h.mono (fun _ _ h => Or.inl (Or.inl h))
theorem tE {S T : am_H} (hF : frw W_t S T) (a j : Nat) (ha : 85 ≤ a ∧ a ≤ 95) : T.2.1 a j = S.2.1 a j := hF.2.2 a j (by unfold W_t W_p W_sc W_q; omega)
theorem tE50 {S T : am_H} (hF : frw W_t S T) : T.2.1 55 50 = S.2.1 55 50 := hF.2.2 55 50 (by unfold W_t W_p W_sc W_q; omega)
theorem tE51 {S T : am_H} (hF : frw W_t S T) : T.2.1 55 51 = S.2.1 55 51 := hF.2.2 55 51 (by unfold W_t W_p W_sc W_q; omega)
theorem pOf_t {S T : am_H} (hF : frw W_t S T) (v : Int) : pOf T v = pOf S v := by
  unfold pOf
  rw [tE hF 85 0 (by omega), show (fun k => decide (T.2.1 86 k = v)) = (fun k => decide (S.2.1 86 k = v)) from funext (fun k => by rw [tE hF 86 k (by omega)])]
theorem pnF_t {b : Nat → Int} {E : Nat} {S T : am_H} (hF : frw W_t S T) (i : Nat) : pnF b E T i = pnF b E S i := by
  unfold pnF
  rw [pOf_t hF]
theorem phF_t {b : Nat → Int} {E : Nat} {S T : am_H} (hF : frw W_t S T) (p : Nat ⊕ (Int × Int)) : phF b E T p = phF b E S p := by
  cases p with
  | inl i =>
    show (if zK b E i = 3 ∨ 155 ≤ zK b E i then (if pOf T (zN b E i) = -1 then Sum.inr (3, (zP b E i : Int)) else Sum.inl (i + 1)) else Sum.inr (1, mfP b E i)) = (if zK b E i = 3 ∨ 155 ≤ zK b E i then (if pOf S (zN b E i) = -1 then Sum.inr (3, (zP b E i : Int)) else Sum.inl (i + 1)) else Sum.inr (1, mfP b E i))
    rw [pOf_t hF]
  | inr e => rfl
theorem peF_t {b : Nat → Int} {E : Nat} {S T : am_H} (hF : frw W_t S T) (pl : Int) (i : Nat) : peF b E T pl i = peF b E S pl i := by
  unfold peF
  rw [tE hF 85 0 (by omega), pnF_t hF]
theorem peH_t {b : Nat → Int} {E : Nat} {S T : am_H} (hF : frw W_t S T) (i : Nat) : frw W_t (peH b E S i) (peH b E T i) := by
  unfold peH
  rw [tE hF 85 0 (by omega), pnF_t hF]
  exact ((((hF.both 86 _ _).both 87 _ _).both 88 _ _).both 89 _ 0).both 85 0 _
theorem rmA_t {b : Nat → Int} {E : Nat} {S T : am_H} (hF : frw W_t S T) (i : Nat) : rmA b E T i = rmA b E S i := by
  unfold rmA
  rw [pOf_t hF]
theorem rmB_t {b : Nat → Int} {E : Nat} {S T : am_H} (hF : frw W_t S T) (i : Nat) : rmB b E T i = rmB b E S i := by
  unfold rmB
  rw [pOf_t hF, phF_t hF]
theorem rmF_t {b : Nat → Int} {E : Nat} {S T : am_H} (hF : frw W_t S T) (pl : Int) (i : Nat) : rmF b E T pl i = rmF b E S pl i := by
  unfold rmF
  rw [tE hF 85 2 (by omega), phF_t hF (.inl i), phF_t hF, rmA_t hF, rmB_t hF, tE hF 89 _ (by omega)]
theorem rmH_t {b : Nat → Int} {E : Nat} {S T : am_H} (hF : frw W_t S T) (i : Nat) : frw W_t (rmH b E S i) (rmH b E T i) := by
  unfold rmH
  rw [tE hF 85 2 (by omega), rmA_t hF, rmB_t hF, tE hF 89 _ (by omega)]
  exact (hF.both 89 _ _).both 85 2 _
theorem toD_t {b : Nat → Int} {E : Nat} {S T : am_H} (hF : frw W_t S T) (i : Nat) : toD b E T i = toD b E S i := by
  unfold toD
  rw [phF_t hF]
theorem toR_t {b : Nat → Int} {E : Nat} {S T : am_H} (hF : frw W_t S T) (i : Nat) : toR b E T i = toR b E S i := by
  unfold toR
  rw [phF_t hF, tE hF 85 4 (by omega)]
theorem toF_t {b : Nat → Int} {E : Nat} {S T : am_H} (hF : frw W_t S T) (pl : Int) (i : Nat) : toF b E T pl i = toF b E S pl i := by
  unfold toF
  rw [tE hF 85 1 (by omega), phF_t hF, rmA_t hF, toD_t hF, toR_t hF, tE hF 90 _ (by omega)]
theorem toH_t {b : Nat → Int} {E : Nat} {S T : am_H} (hF : frw W_t S T) (i : Nat) : frw W_t (toH b E S i) (toH b E T i) := by
  unfold toH
  rw [tE hF 85 1 (by omega), rmA_t hF, toD_t hF, tE hF 90 _ (by omega)]
  exact (hF.both 90 _ _).both 85 1 _
theorem frF_t {b : Nat → Int} {E : Nat} {S T : am_H} (hF : frw W_t S T) (pl : Int) (i : Nat) : frF b E T pl i = frF b E S pl i := by
  unfold frF
  rw [tE hF 85 3 (by omega), tE hF 85 4 (by omega)]
theorem frH_t {b : Nat → Int} {E : Nat} {S T : am_H} (hF : frw W_t S T) (i : Nat) : frw W_t (frH b E S i) (frH b E T i) := by
  unfold frH
  rw [tE hF 85 3 (by omega), tE hF 85 4 (by omega)]
  exact ((hF.both 91 _ _).both 91 _ _).both 85 3 _
theorem cdF_t {b : Nat → Int} {E : Nat} {S T : am_H} (hF : frw W_t S T) (wh pl : Int) (i : Nat) : cdF b E T wh pl i = cdF b E S wh pl i := by
  unfold cdF
  rw [tE hF 93 _ (by omega)]
theorem frw.bothA {W : Nat → Nat → Prop} {S T : am_H} (h : frw W S T) (a : Nat) (f : Nat → Int) : frw W (am_setA S a f) (am_setA T a f) := by
  refine ⟨h.1, h.2.1, fun c k hw => ?_⟩
  show (if c = a then f k else T.2.1 c k) = (if c = a then f k else S.2.1 c k)
  rw [h.2.2 c k hw]
theorem cdH_t {S T : am_H} (hF : frw W_t S T) (wh : Int) (rc : List Int) : frw W_t (cdH S wh rc) (cdH T wh rc) := by
  have hA : cdA T rc rc.length = cdA S rc rc.length := by
    funext j
    unfold cdA
    rw [tE50 hF, tE hF 95 _ (by omega)]
  unfold cdH
  rw [hA, tE50 hF]
  exact (((hF.both 93 _ _).bothA 95 _).both 55 50 _).both 94 _ _
/-- the half of the cells in which a town is told -/
def W_tw (a j : Nat) : Prop := W_t a j ∨ (a = 85 ∧ j < 5) ∨ (86 ≤ a ∧ a ≤ 89 ∧ j < 8) ∨ a = 90 ∨ (a = 91 ∧ j < 8) ∨ (92 ≤ a ∧ a ≤ 94 ∧ j < 2) ∨ (a = 95 ∧ j < 1600) ∨ (a = 55 ∧ j = 50)
def W_tx (a j : Nat) : Prop := W_tw a j ∨ (a = 55 ∧ j = 51)
theorem W_t_tw {S T : am_H} (h : frw W_t S T) : frw W_tw S T := h.mono (fun _ _ h => Or.inl h)
theorem peF_full {b : Nat → Int} {E : Nat} {S : am_H} {pl : Int} {i : Nat} (h : (peF b E S pl i).isLeft = true) : ¬ S.2.1 85 0 = 8 := by
  intro h2
  unfold peF at h
  rw [if_pos h2] at h
  exact absurd (show false = true from h) (by decide)
theorem frF_full {b : Nat → Int} {E : Nat} {S : am_H} {pl : Int} {i : Nat} (h : (frF b E S pl i).isLeft = true) : ¬ S.2.1 85 3 = 4 := by
  intro h2
  unfold frF at h
  rw [if_pos h2] at h
  exact absurd (show false = true from h) (by decide)
theorem toF_full {b : Nat → Int} {E : Nat} {S : am_H} {pl : Int} {i : Nat} (h : (toF b E S pl i).isLeft = true) : ¬ S.2.1 85 1 = 30 := by
  intro h2
  unfold toF at h
  rw [if_pos h2] at h
  exact absurd (show false = true from h) (by decide)
theorem rmF_full {b : Nat → Int} {E : Nat} {S : am_H} {pl : Int} {i : Nat} (h : (rmF b E S pl i).isLeft = true) : ¬ S.2.1 85 2 = 20 := by
  intro h2
  unfold rmF at h
  rw [if_pos h2] at h
  exact absurd (show false = true from h) (by decide)
theorem cdF_full {b : Nat → Int} {E : Nat} {S : am_H} {wh pl : Int} {i : Nat} (h : (cdF b E S wh pl i).isLeft = true) : S.2.1 93 wh.toNat = -1 := by
  by_cases h2 : S.2.1 93 wh.toNat = -1
  · exact h2
  · unfold cdF at h
    rw [if_neg h2] at h
    exact absurd (show false = true from h) (by decide)
theorem phF_rng {b : Nat → Int} {E : Nat} {S : am_H} {i : Nat} (h : (phF b E S (.inl i)).isLeft = true) (hN : S.2.1 85 0 ≤ 8) : 0 ≤ pOf S (zN b E i) ∧ pOf S (zN b E i) < 8 := by
  have hr : pOf S (zN b E i) = -1 ∨ (0 ≤ pOf S (zN b E i) ∧ pOf S (zN b E i) < ((S.2.1 85 0).toNat : Int)) := firstQ_rng _
  have hn : ¬ pOf S (zN b E i) = -1 := by
    intro h2
    revert h
    show (if zK b E i = 3 ∨ 155 ≤ zK b E i then (if pOf S (zN b E i) = -1 then (Sum.inr (3, (zP b E i : Int)) : Nat ⊕ (Int × Int)) else Sum.inl (i + 1)) else Sum.inr (1, mfP b E i)).isLeft = true → False
    rw [if_pos h2]
    split <;> exact fun h => absurd (show false = true from h) (by decide)
  omega
theorem rmF_two {b : Nat → Int} {E : Nat} {S : am_H} {pl : Int} {i : Nat} (h : (rmF b E S pl i).isLeft = true) : (phF b E S (phF b E S (.inl i))).isLeft = true := by
  unfold rmF at h
  split at h
  · exact absurd (show false = true from h) (by decide)
  · split at h
    · exact absurd (show false = true from h) (by decide)
    · exact h
theorem toF_two {b : Nat → Int} {E : Nat} {S : am_H} {pl : Int} {i : Nat} (h : (toF b E S pl i).isLeft = true) : (toR b E S i).isLeft = true := by
  unfold toF at h
  split at h
  · exact absurd (show false = true from h) (by decide)
  · split at h
    · exact absurd (show false = true from h) (by decide)
    · exact h
theorem peH_tw {b : Nat → Int} {E : Nat} {S : am_H} {i : Nat} (h : 0 ≤ S.2.1 85 0 ∧ S.2.1 85 0 < 8) : frw W_tw S (peH b E S i) := by
  unfold peH
  exact (((((frw.refl W_tw S).setN (by unfold W_tw; omega)).setN (by unfold W_tw; omega)).setN (by unfold W_tw; omega)).setN (by unfold W_tw; omega)).setN (by unfold W_tw; omega)
theorem frH_tw {b : Nat → Int} {E : Nat} {S : am_H} {i : Nat} (h : 0 ≤ S.2.1 85 3 ∧ S.2.1 85 3 < 4) : frw W_tw S (frH b E S i) := by
  unfold frH
  exact (((frw.refl W_tw S).setN (by unfold W_tw; omega)).setN (by unfold W_tw; omega)).setN (by unfold W_tw; omega)
theorem toH_tw {b : Nat → Int} {E : Nat} {S : am_H} {i : Nat} : frw W_tw S (toH b E S i) := by
  unfold toH
  exact ((frw.refl W_tw S).setN (by unfold W_tw; omega)).setN (by unfold W_tw; omega)
theorem rmH_tw {b : Nat → Int} {E : Nat} {S : am_H} {i : Nat} (h : 0 ≤ rmA b E S i ∧ rmA b E S i < 8) : frw W_tw S (rmH b E S i) := by
  unfold rmH
  exact ((frw.refl W_tw S).setN (by unfold W_tw; omega)).setN (by unfold W_tw; omega)
theorem cdH_tw {S : am_H} {wh : Int} {rc : List Int} (hw : 0 ≤ wh ∧ wh ≤ 1) (h0 : 0 ≤ S.2.1 55 50) (h9 : S.2.1 55 50 + (rc.length : Int) ≤ 1600) : frw W_tw S (cdH S wh rc) := by
  refine ⟨rfl, rfl, fun a j h => ?_⟩
  unfold W_tw at h
  show (if a = 94 ∧ j = wh.toNat then S.2.1 55 50 + (rc.length : Int) else if a = 55 ∧ j = 50 then S.2.1 55 50 + (rc.length : Int) else if a = 95 then cdA S rc rc.length j else if a = 93 ∧ j = wh.toNat then S.2.1 55 50 else S.2.1 a j) = S.2.1 a j
  rw [if_neg (by omega), if_neg (by omega)]
  by_cases g : a = 95
  · rw [if_pos g, g]
    unfold cdA
    rw [if_neg (by omega)]
  · rw [if_neg g, if_neg (by omega)]
theorem brF_t {S T1 T2 H H1 : am_H} {p : Nat ⊕ (Int × Int)} (h1 : frw W_t S T1) (hH : frw W_t H H1) (htw : p.isLeft = true → frw W_tw S H) (h2 : frw W_t (if p.isLeft = true then H1 else T1) T2) : (p.isLeft = true → frw W_t H T2) ∧ frw W_tw S T2 := by
  by_cases hp : p.isLeft = true
  · rw [if_pos hp] at h2
    exact ⟨fun _ => hH.trans h2, (htw hp).trans (W_t_tw (hH.trans h2))⟩
  · rw [if_neg hp] at h2
    exact ⟨fun h => absurd h hp, W_t_tw (h1.trans h2)⟩
theorem pnF_i {b : Nat → Int} {E : Nat} {S : am_H} {i : Nat} (h : i ≤ zP b E i) : iZ b E (pnF b E S i) := by
  unfold pnF
  split
  · split
    · exact zP_on (by omega) h
    · trivial
  · trivial
theorem peF_i {b : Nat → Int} {E : Nat} {S : am_H} {pl : Int} {i : Nat} (h : i ≤ zP b E i) : iZ b E (peF b E S pl i) := by
  unfold peF
  split
  · trivial
  · exact nuF_i (akF_i (nuF_i (akF_i (pnF_i h))))
theorem toF_i {b : Nat → Int} {E : Nat} {S : am_H} {pl : Int} {i : Nat} (h : i ≤ zP b E i) : iZ b E (toF b E S pl i) := by
  unfold toF
  split
  · trivial
  · split
    · trivial
    · unfold toR
      exact nuF_i (akF_i (phF_i h))
theorem rmF_i {b : Nat → Int} {E : Nat} {S : am_H} {pl : Int} {i : Nat} (h : i ≤ zP b E i) : iZ b E (rmF b E S pl i) := by
  unfold rmF
  split
  · trivial
  · split
    · trivial
    · exact phF_i (phF_i h)
theorem frF_i {b : Nat → Int} {E : Nat} {S : am_H} {pl : Int} {i : Nat} (h : i ≤ zP b E i) : iZ b E (frF b E S pl i) := by
  unfold frF
  split
  · trivial
  · exact nuF_i (akF_i (nuF_i h))
