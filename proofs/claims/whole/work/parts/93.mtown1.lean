theorem zK_6n {b : Nat → Int} {E i : Nat} (h : zP b E i < E) : ¬ zK b E i = 6 := by
  unfold zK zk
  rw [if_neg (fun x => x h)]
  have hw : wkI b (zP b E i) (rn isL b E (zP b E i)) = -1 ∨ (0 ≤ wkI b (zP b E i) (rn isL b E (zP b E i)) ∧ wkI b (zP b E i) (rn isL b E (zP b E i)) < ((33 : Nat) : Int)) := firstQ_rng _
  split
  · split
    · decide
    · split
      · split <;> decide
      · omega
  · split
    · split
      · decide
      · split <;> decide
    · split
      · rename_i hs
        intro h6
        rw [h6] at hs
        exact absurd hs (by decide)
      · decide
def leZ (i : Nat) : Nat ⊕ (Int × Int) → Prop
  | .inl j => i ≤ j
  | .inr _ => True
theorem akF_m {b : Nat → Int} {E w i : Nat} {p : Nat ⊕ (Int × Int)} (h : leZ i p) : leZ i (akF b E w p) := by
  cases p with
  | inl j =>
    show leZ i (if zK b E j = 128 + (w : Int) then .inl (j + 1) else .inr (1, (zP b E j : Int)))
    have h2 : i ≤ j := h
    split
    · show i ≤ j + 1; omega
    · trivial
  | inr e => trivial
theorem sgF_m {b : Nat → Int} {E i : Nat} {c : Int} {p : Nat ⊕ (Int × Int)} (h : leZ i p) : leZ i (sgF b E c p) := by
  cases p with
  | inl j =>
    show leZ i (if zK b E j = c then .inl (j + 1) else .inr (1, (zP b E j : Int)))
    have h2 : i ≤ j := h
    split
    · show i ≤ j + 1; omega
    · trivial
  | inr e => trivial
theorem nuF_m {b : Nat → Int} {E i : Nat} {lo hi : Int} {p : Nat ⊕ (Int × Int)} (h : leZ i p) : leZ i (nuF b E lo hi p) := by
  cases p with
  | inl j =>
    show leZ i (if zK b E j = 1 ∧ lo ≤ zV b E j ∧ zV b E j ≤ hi then .inl (j + 1) else .inr (nfK b E j, nfP b E j))
    have h2 : i ≤ j := h
    split
    · show i ≤ j + 1; omega
    · trivial
  | inr e => trivial
theorem phF_m {b : Nat → Int} {E i : Nat} {S : am_H} {p : Nat ⊕ (Int × Int)} (h : leZ i p) : leZ i (phF b E S p) := by
  cases p with
  | inl j =>
    show leZ i (if zK b E j = 3 ∨ 155 ≤ zK b E j then (if pOf S (zN b E j) = -1 then .inr (3, (zP b E j : Int)) else .inl (j + 1)) else .inr (1, mfP b E j))
    have h2 : i ≤ j := h
    split
    · split
      · trivial
      · show i ≤ j + 1; omega
    · trivial
  | inr e => trivial
theorem pnF_m {b : Nat → Int} {E i j : Nat} {S : am_H} (h : i ≤ j) : leZ i (pnF b E S j) := by
  unfold pnF
  split
  · split
    · show i ≤ j + 1; omega
    · trivial
  · trivial
theorem stF_t {b : Nat → Int} {E : Nat} {S T : am_H} (hF : frw W_t S T) (i : Nat) : stF b E T i = stF b E S i := by
  unfold stF stR
  rw [tE51 hF, peF_t hF, toF_t hF, rmF_t hF, frF_t hF, cdF_t hF, cdF_t hF]
theorem stH_t {b : Nat → Int} {E : Nat} {S T : am_H} (hF : frw W_t S T) (i : Nat) : frw W_t (stH b E S i) (stH b E T i) := by
  unfold stH
  rw [tE51 hF]
  refine frw.both ?_ 55 51 _
  unfold stG
  split
  · exact peH_t hF _
  · split
    · exact toH_t hF _
    · split
      · exact rmH_t hF _
      · split
        · exact frH_t hF _
        · split
          · exact cdH_t hF _ _
          · split
            · exact cdH_t hF _ _
            · split
              · exact hF.both 92 0 _
              · exact hF.both 92 1 _
theorem TWI_t {S T : am_H} {i : Nat} (hF : frw W_t S T) (h : TWI S i) : TWI T i := by
  unfold TWI at *
  rw [tE hF 85 0 (by omega), tE hF 85 1 (by omega), tE hF 85 2 (by omega), tE hF 85 3 (by omega), tE hF 85 4 (by omega), tE50 hF, tE51 hF]
  exact h
theorem TWI_on {b : Nat → Int} {E : Nat} {S : am_H} {i j : Nat} (hRM : RM b E) (h : TWI S i) (hj : stF b E S i = .inl j) : TWI (stH b E S i) j ∧ (stH b E S i).2.1 55 51 = S.2.1 55 51 + 1 := by
  refine ⟨?_, rfl⟩
  obtain ⟨hN, hM, hR, hK, hY, hC, h51⟩ := h
  unfold stF at hj
  by_cases full : S.2.1 55 51 = 70
  · rw [if_pos full] at hj; exact absurd hj (by simp)
  rw [if_neg full] at hj
  have hl : (stR b E S i).isLeft = true := sgF_l (by rw [hj]; rfl)
  have hs := sgF_m (b := b) (E := E) (c := 59) (i := i) (p := stR b E S i)
  rw [hj] at hs
  have hs2 : ∀ n, leZ n (stR b E S i) → n ≤ j := fun n h => by
    have h9 := sgF_m (b := b) (E := E) (c := 59) h
    rw [hj] at h9
    exact h9
  have c51 : 0 ≤ S.2.1 55 51 + 1 ∧ S.2.1 55 51 + 1 ≤ 70 := by omega
  unfold stH
  by_cases k0 : zK b E i = 129
  · have eR : stR b E S i = peF b E S (zP b E i : Int) (i + 1) := by unfold stR; rw [if_pos k0]
    have eG : stG b E S i = peH b E S (i + 1) := by unfold stG; rw [if_pos k0]
    rw [eR] at hl hs2
    have hf := peF_full hl
    have hij : i ≤ j := hs2 i (by
      unfold peF
      rw [if_neg hf]
      exact nuF_m (akF_m (nuF_m (akF_m (pnF_m (by omega))))))
    rw [eG]
    exact ⟨(by show 0 ≤ S.2.1 85 0 + 1 ∧ S.2.1 85 0 + 1 ≤ 8; omega), hM, hR, hK, hY, (by show 0 ≤ S.2.1 55 50 ∧ S.2.1 55 50 ≤ (j : Int); omega), c51⟩
  by_cases k1 : zK b E i = 132
  · have eR : stR b E S i = toF b E S (zP b E i : Int) (i + 1) := by unfold stR; rw [if_neg k0, if_pos k1]
    have eG : stG b E S i = toH b E S (i + 1) := by unfold stG; rw [if_neg k0, if_pos k1]
    rw [eR] at hl hs2
    have hf := toF_full hl
    have hij : i ≤ j := hs2 i (by
      unfold toF
      rw [if_neg hf]
      split
      · trivial
      · unfold toR
        exact nuF_m (akF_m (phF_m (show i ≤ i + 1 by omega))))
    rw [eG]
    exact ⟨hN, (by show 0 ≤ S.2.1 85 1 + 1 ∧ S.2.1 85 1 + 1 ≤ 30; omega), hR, hK, hY, (by show 0 ≤ S.2.1 55 50 ∧ S.2.1 55 50 ≤ (j : Int); omega), c51⟩
  by_cases k2 : zK b E i = 134
  · have eR : stR b E S i = rmF b E S (zP b E i : Int) (i + 1) := by unfold stR; rw [if_neg k0, if_neg k1, if_pos k2]
    have eG : stG b E S i = rmH b E S (i + 1) := by unfold stG; rw [if_neg k0, if_neg k1, if_pos k2]
    rw [eR] at hl hs2
    have hf := rmF_full hl
    have hij : i ≤ j := hs2 i (by
      unfold rmF
      rw [if_neg hf]
      split
      · trivial
      · exact phF_m (phF_m (show i ≤ i + 1 by omega)))
    rw [eG]
    exact ⟨hN, hM, (by show 0 ≤ S.2.1 85 2 + 1 ∧ S.2.1 85 2 + 1 ≤ 20; omega), hK, hY, (by show 0 ≤ S.2.1 55 50 ∧ S.2.1 55 50 ≤ (j : Int); omega), c51⟩
  by_cases k3 : zK b E i = 135
  · have eR : stR b E S i = frF b E S (zP b E i : Int) (i + 1) := by unfold stR; rw [if_neg k0, if_neg k1, if_neg k2, if_pos k3]
    have eG : stG b E S i = frH b E S (i + 1) := by unfold stG; rw [if_neg k0, if_neg k1, if_neg k2, if_pos k3]
    rw [eR] at hl hs2
    have hf := frF_full hl
    have hij : i ≤ j := hs2 i (by
      unfold frF
      rw [if_neg hf]
      exact nuF_m (akF_m (nuF_m (show i ≤ i + 1 by omega))))
    rw [eG]
    exact ⟨hN, hM, hR, (by show 0 ≤ S.2.1 85 3 + 1 ∧ S.2.1 85 3 + 1 ≤ 4; omega), hY, (by show 0 ≤ S.2.1 55 50 ∧ S.2.1 55 50 ≤ (j : Int); omega), c51⟩
  by_cases k4 : zK b E i = 137
  · have eR : stR b E S i = cdF b E S 0 (zP b E i : Int) (i + 1) := by unfold stR; rw [if_neg k0, if_neg k1, if_neg k2, if_neg k3, if_pos k4]
    have eG : stG b E S i = cdH S 0 (cdC b E 0 (i + 1)) := by unfold stG; rw [if_neg k0, if_neg k1, if_neg k2, if_neg k3, if_pos k4]
    rw [eR] at hl hs2
    obtain ⟨n, hn, hn2⟩ := hRM.cd hl
    have hij : n ≤ j := hs2 n (by rw [hn]; exact Nat.le_refl n)
    rw [eG]
    exact ⟨hN, hM, hR, hK, hY, (by show 0 ≤ S.2.1 55 50 + ((cdC b E 0 (i + 1)).length : Int) ∧ S.2.1 55 50 + ((cdC b E 0 (i + 1)).length : Int) ≤ (j : Int); omega), c51⟩
  by_cases k5 : zK b E i = 138
  · have eR : stR b E S i = cdF b E S 1 (zP b E i : Int) (i + 1) := by unfold stR; rw [if_neg k0, if_neg k1, if_neg k2, if_neg k3, if_neg k4, if_pos k5]
    have eG : stG b E S i = cdH S 1 (cdC b E 1 (i + 1)) := by unfold stG; rw [if_neg k0, if_neg k1, if_neg k2, if_neg k3, if_neg k4, if_pos k5]
    rw [eR] at hl hs2
    obtain ⟨n, hn, hn2⟩ := hRM.cd hl
    have hij : n ≤ j := hs2 n (by rw [hn]; exact Nat.le_refl n)
    rw [eG]
    exact ⟨hN, hM, hR, hK, hY, (by show 0 ≤ S.2.1 55 50 + ((cdC b E 1 (i + 1)).length : Int) ∧ S.2.1 55 50 + ((cdC b E 1 (i + 1)).length : Int) ≤ (j : Int); omega), c51⟩
  by_cases k6 : zK b E i = 139
  · have eR : stR b E S i = nuF b E 0 100 (.inl (i + 1)) := by unfold stR; rw [if_neg k0, if_neg k1, if_neg k2, if_neg k3, if_neg k4, if_neg k5, if_pos k6]
    have eG : stG b E S i = am_setN S 92 0 (zV b E (i + 1)) := by unfold stG; rw [if_neg k0, if_neg k1, if_neg k2, if_neg k3, if_neg k4, if_neg k5, if_pos k6]
    rw [eR] at hs2
    have hij : i ≤ j := hs2 i (nuF_m (show i ≤ i + 1 by omega))
    rw [eG]
    exact ⟨hN, hM, hR, hK, hY, (by show 0 ≤ S.2.1 55 50 ∧ S.2.1 55 50 ≤ (j : Int); omega), c51⟩
  have eR : stR b E S i = nuF b E 0 1000 (akF b E 12 (.inl i)) := by unfold stR; rw [if_neg k0, if_neg k1, if_neg k2, if_neg k3, if_neg k4, if_neg k5, if_neg k6]
  have eG : stG b E S i = am_setN S 92 1 (vZ b E (akF b E 12 (.inl i))) := by unfold stG; rw [if_neg k0, if_neg k1, if_neg k2, if_neg k3, if_neg k4, if_neg k5, if_neg k6]
  rw [eR] at hs2
  have hij : i ≤ j := hs2 i (nuF_m (akF_m (show i ≤ i by omega)))
  rw [eG]
  exact ⟨hN, hM, hR, hK, hY, (by show 0 ≤ S.2.1 55 50 ∧ S.2.1 55 50 ≤ (j : Int); omega), c51⟩
/-- the statements of a town -/
def tnF (b : Nat → Int) (E : Nat) : Nat → am_H → Nat ⊕ (Int × Int) → am_H ⊕ (Int × Int)
  | 0, _, _ => .inr (0, 0)
  | _ + 1, _, .inr e => .inr e
  | f + 1, H, .inl i => if zK b E i = 6 then .inl H else tnF b E f (stH b E H i) (stF b E H i)
/-- the empty town of d days -/
def t0H (S : am_H) (d : Int) : am_H := (S.1, fun a j => if a = 85 ∧ j < 4 then 0 else if a = 85 ∧ j = 4 then d else if a = 90 ∧ j < 91 then 0 else if a = 92 ∧ j < 2 then 0 else if a = 93 ∧ j < 2 then -1 else if a = 55 ∧ j = 1 then 0 else if a = 55 ∧ j = 3 then S.2.1 55 1 else if a = 55 ∧ j = 50 then 0 else if a = 55 ∧ j = 51 then 1 else S.2.1 a j, S.2.2)
def tnR (b : Nat → Int) (E : Nat) (S : am_H) : am_H ⊕ (Int × Int) := tnF b E 80 (t0H S (vZ b E (akF b E 0 (.inl 0)))) (dyF b E (.inl 0))
def t1H (S : am_H) : am_H := am_setN (am_setN S 55 3 (S.2.1 55 1)) 55 1 0
def tnP (S : am_H) (r : Option am_V) (T : am_H) : am_H ⊕ (Int × Int) → Prop
  | .inl H => r = some (am_i (H.2.1 55 51)) ∧ frw W_t (sdH (am_setN (am_setN H 55 7 0) 55 8 (-1))) T
  | .inr e => r = some (am_i (-1)) ∧ ¬ e.1 = 0 ∧ frw W_tx (am_setN (am_setN (am_setN (t1H S) 55 7 e.1) 55 8 e.2) 57 1 (S.2.1 57 1 + 1)) T
theorem sdH_t {S T : am_H} (hF : frw W_t S T) : frw W_t (sdH S) (sdH T) := by
  refine ⟨hF.1, hF.2.1, fun a j hw => ?_⟩
  have c : ∀ a m k j, 85 ≤ a ∧ a ≤ 95 → cpA T a m k j = cpA S a m k j := fun a m k j h => by
    unfold cpA
    rw [tE hF a _ h, tE hF a _ h]
  have c5 : s95 T j = s95 S j := by
    unfold s95
    rw [tE50 hF, tE hF 95 _ (by omega), tE hF 95 _ (by omega)]
  have c6 : s96 T j = s96 S j := by
    unfold s96
    rw [tE hF 90 _ (by omega), hF.2.2 96 j (by unfold W_t W_p W_sc W_q; omega)]
  show (if a = 85 then cpA T 85 5 5 j else if (86 ≤ a ∧ a ≤ 89) ∨ a = 91 then cpA T a 8 8 j else if 92 ≤ a ∧ a ≤ 94 then cpA T a 2 2 j else if a = 95 then s95 T j else if a = 96 then s96 T j else if a = 55 ∧ j = 52 then 1 else if a = 55 ∧ (j = 65 ∨ j = 69) then 0 else T.2.1 a j) = (if a = 85 then cpA S 85 5 5 j else if (86 ≤ a ∧ a ≤ 89) ∨ a = 91 then cpA S a 8 8 j else if 92 ≤ a ∧ a ≤ 94 then cpA S a 2 2 j else if a = 95 then s95 S j else if a = 96 then s96 S j else if a = 55 ∧ j = 52 then 1 else if a = 55 ∧ (j = 65 ∨ j = 69) then 0 else S.2.1 a j)
  rw [c5, c6, hF.2.2 a j hw, c 85 5 5 j (by omega)]
  by_cases g : 85 ≤ a ∧ a ≤ 95
  · rw [c a 8 8 j g, c a 2 2 j g]
  · rw [if_neg (show ¬ a = 85 by omega), if_neg (show ¬ a = 85 by omega), if_neg (show ¬ ((86 ≤ a ∧ a ≤ 89) ∨ a = 91) by omega), if_neg (show ¬ ((86 ≤ a ∧ a ≤ 89) ∨ a = 91) by omega), if_neg (show ¬ (92 ≤ a ∧ a ≤ 94) by omega), if_neg (show ¬ (92 ≤ a ∧ a ≤ 94) by omega)]
