/-- heaps that tell the same town being read -/
def TA (S T : am_H) : Prop := (∀ a j, 85 ≤ a ∧ a ≤ 95 → T.2.1 a j = S.2.1 a j) ∧ T.2.1 55 50 = S.2.1 55 50 ∧ T.2.1 55 51 = S.2.1 55 51
theorem TA.N {S T : am_H} (h : TA S T) (a j : Nat) (x : Int) : TA (am_setN S a j x) (am_setN T a j x) := by
  refine ⟨fun c k hc => ?_, ?_, ?_⟩
  · show (if c = a ∧ k = j then x else T.2.1 c k) = (if c = a ∧ k = j then x else S.2.1 c k)
    rw [h.1 c k hc]
  · show (if 55 = a ∧ 50 = j then x else T.2.1 55 50) = (if 55 = a ∧ 50 = j then x else S.2.1 55 50)
    rw [h.2.1]
  · show (if 55 = a ∧ 51 = j then x else T.2.1 55 51) = (if 55 = a ∧ 51 = j then x else S.2.1 55 51)
    rw [h.2.2]
theorem TA.A {S T : am_H} (h : TA S T) (a : Nat) (f : Nat → Int) : TA (am_setA S a f) (am_setA T a f) := by
  refine ⟨fun c k hc => ?_, ?_, ?_⟩
  · show (if c = a then f k else T.2.1 c k) = (if c = a then f k else S.2.1 c k)
    rw [h.1 c k hc]
  · show (if 55 = a then f 50 else T.2.1 55 50) = (if 55 = a then f 50 else S.2.1 55 50)
    rw [h.2.1]
  · show (if 55 = a then f 51 else T.2.1 55 51) = (if 55 = a then f 51 else S.2.1 55 51)
    rw [h.2.2]
theorem pOf_a {S T : am_H} (hF : TA S T) (v : Int) : pOf T v = pOf S v := by
  unfold pOf
  rw [hF.1 85 0 (by omega), show (fun k => decide (T.2.1 86 k = v)) = (fun k => decide (S.2.1 86 k = v)) from funext (fun k => by rw [hF.1 86 k (by omega)])]
theorem pnF_a {b : Nat → Int} {E : Nat} {S T : am_H} (hF : TA S T) (i : Nat) : pnF b E T i = pnF b E S i := by
  unfold pnF
  rw [pOf_a hF]
theorem phF_a {b : Nat → Int} {E : Nat} {S T : am_H} (hF : TA S T) (p : Nat ⊕ (Int × Int)) : phF b E T p = phF b E S p := by
  cases p with
  | inl i =>
    show (if zK b E i = 3 ∨ 155 ≤ zK b E i then (if pOf T (zN b E i) = -1 then Sum.inr (3, (zP b E i : Int)) else Sum.inl (i + 1)) else Sum.inr (1, mfP b E i)) = (if zK b E i = 3 ∨ 155 ≤ zK b E i then (if pOf S (zN b E i) = -1 then Sum.inr (3, (zP b E i : Int)) else Sum.inl (i + 1)) else Sum.inr (1, mfP b E i))
    rw [pOf_a hF]
  | inr e => rfl
theorem peF_a {b : Nat → Int} {E : Nat} {S T : am_H} (hF : TA S T) (pl : Int) (i : Nat) : peF b E T pl i = peF b E S pl i := by
  unfold peF
  rw [hF.1 85 0 (by omega), pnF_a hF]
theorem peH_a {b : Nat → Int} {E : Nat} {S T : am_H} (hF : TA S T) (i : Nat) : TA (peH b E S i) (peH b E T i) := by
  unfold peH
  rw [hF.1 85 0 (by omega), pnF_a hF]
  exact ((((hF.N 86 _ _).N 87 _ _).N 88 _ _).N 89 _ 0).N 85 0 _
theorem rmA_a {b : Nat → Int} {E : Nat} {S T : am_H} (hF : TA S T) (i : Nat) : rmA b E T i = rmA b E S i := by
  unfold rmA
  rw [pOf_a hF]
theorem rmB_a {b : Nat → Int} {E : Nat} {S T : am_H} (hF : TA S T) (i : Nat) : rmB b E T i = rmB b E S i := by
  unfold rmB
  rw [pOf_a hF, phF_a hF]
theorem rmF_a {b : Nat → Int} {E : Nat} {S T : am_H} (hF : TA S T) (pl : Int) (i : Nat) : rmF b E T pl i = rmF b E S pl i := by
  unfold rmF
  rw [hF.1 85 2 (by omega), phF_a hF (.inl i), phF_a hF, rmA_a hF, rmB_a hF, hF.1 89 _ (by omega)]
theorem rmH_a {b : Nat → Int} {E : Nat} {S T : am_H} (hF : TA S T) (i : Nat) : TA (rmH b E S i) (rmH b E T i) := by
  unfold rmH
  rw [hF.1 85 2 (by omega), rmA_a hF, rmB_a hF, hF.1 89 _ (by omega)]
  exact (hF.N 89 _ _).N 85 2 _
theorem toD_a {b : Nat → Int} {E : Nat} {S T : am_H} (hF : TA S T) (i : Nat) : toD b E T i = toD b E S i := by
  unfold toD
  rw [phF_a hF]
theorem toR_a {b : Nat → Int} {E : Nat} {S T : am_H} (hF : TA S T) (i : Nat) : toR b E T i = toR b E S i := by
  unfold toR
  rw [phF_a hF, hF.1 85 4 (by omega)]
theorem toF_a {b : Nat → Int} {E : Nat} {S T : am_H} (hF : TA S T) (pl : Int) (i : Nat) : toF b E T pl i = toF b E S pl i := by
  unfold toF
  rw [hF.1 85 1 (by omega), phF_a hF, rmA_a hF, toD_a hF, toR_a hF, hF.1 90 _ (by omega)]
theorem toH_a {b : Nat → Int} {E : Nat} {S T : am_H} (hF : TA S T) (i : Nat) : TA (toH b E S i) (toH b E T i) := by
  unfold toH
  rw [hF.1 85 1 (by omega), rmA_a hF, toD_a hF, hF.1 90 _ (by omega)]
  exact (hF.N 90 _ _).N 85 1 _
theorem frF_a {b : Nat → Int} {E : Nat} {S T : am_H} (hF : TA S T) (pl : Int) (i : Nat) : frF b E T pl i = frF b E S pl i := by
  unfold frF
  rw [hF.1 85 3 (by omega), hF.1 85 4 (by omega)]
theorem frH_a {b : Nat → Int} {E : Nat} {S T : am_H} (hF : TA S T) (i : Nat) : TA (frH b E S i) (frH b E T i) := by
  unfold frH
  rw [hF.1 85 3 (by omega), hF.1 85 4 (by omega)]
  exact ((hF.N 91 _ _).N 91 _ _).N 85 3 _
theorem cdF_a {b : Nat → Int} {E : Nat} {S T : am_H} (hF : TA S T) (wh pl : Int) (i : Nat) : cdF b E T wh pl i = cdF b E S wh pl i := by
  unfold cdF
  rw [hF.1 93 _ (by omega)]
theorem cdH_a {S T : am_H} (hF : TA S T) (wh : Int) (rc : List Int) : TA (cdH S wh rc) (cdH T wh rc) := by
  have hA : cdA T rc rc.length = cdA S rc rc.length := by
    funext j
    unfold cdA
    rw [hF.2.1, hF.1 95 _ (by omega)]
  unfold cdH
  rw [hA, hF.2.1]
  exact (((hF.N 93 _ _).A 95 _).N 55 50 _).N 94 _ _
theorem stF_a {b : Nat → Int} {E : Nat} {S T : am_H} (hF : TA S T) (i : Nat) : stF b E T i = stF b E S i := by
  unfold stF stR
  rw [hF.2.2, peF_a hF, toF_a hF, rmF_a hF, frF_a hF, cdF_a hF, cdF_a hF]
theorem stH_a {b : Nat → Int} {E : Nat} {S T : am_H} (hF : TA S T) (i : Nat) : TA (stH b E S i) (stH b E T i) := by
  unfold stH
  rw [hF.2.2]
  refine TA.N ?_ 55 51 _
  unfold stG
  split
  · exact peH_a hF _
  · split
    · exact toH_a hF _
    · split
      · exact rmH_a hF _
      · split
        · exact frH_a hF _
        · split
          · exact cdH_a hF _ _
          · split
            · exact cdH_a hF _ _
            · split
              · exact hF.N 92 0 _
              · exact hF.N 92 1 _
def TAo : am_H ⊕ (Int × Int) → am_H ⊕ (Int × Int) → Prop
  | .inl S, .inl T => TA S T
  | .inr e, .inr f => f = e
  | _, _ => False
theorem tnF_a {b : Nat → Int} {E : Nat} : ∀ (f : Nat) (S T : am_H) (p : PZ), TA S T → TAo (tnF b E f S p) (tnF b E f T p)
  | 0, _, _, _, _ => rfl
  | _ + 1, _, _, .inr _, _ => rfl
  | f + 1, S, T, .inl i, h => by
    show TAo (if zK b E i = 6 then .inl S else tnF b E f (stH b E S i) (stF b E S i)) (if zK b E i = 6 then .inl T else tnF b E f (stH b E T i) (stF b E T i))
    by_cases g : zK b E i = 6
    · rw [if_pos g, if_pos g]; exact h
    · rw [if_neg g, if_neg g, stF_a h]
      exact tnF_a f _ _ _ (stH_a h i)
theorem tnR_a {b : Nat → Int} {E : Nat} {S T : am_H} (h : ∀ a j, 85 ≤ a ∧ a ≤ 95 → T.2.1 a j = S.2.1 a j) : TAo (tnR b E S) (tnR b E T) := by
  unfold tnR
  refine tnF_a _ _ _ _ ⟨fun a j ha => ?_, rfl, rfl⟩
  unfold t0H
  show (if a = 85 ∧ j < 4 then (0 : Int) else if a = 85 ∧ j = 4 then _ else if a = 90 ∧ j < 91 then 0 else if a = 92 ∧ j < 2 then 0 else if a = 93 ∧ j < 2 then -1 else if a = 55 ∧ j = 1 then 0 else if a = 55 ∧ j = 3 then T.2.1 55 1 else if a = 55 ∧ j = 50 then 0 else if a = 55 ∧ j = 51 then 1 else T.2.1 a j) = (if a = 85 ∧ j < 4 then (0 : Int) else if a = 85 ∧ j = 4 then _ else if a = 90 ∧ j < 91 then 0 else if a = 92 ∧ j < 2 then 0 else if a = 93 ∧ j < 2 then -1 else if a = 55 ∧ j = 1 then 0 else if a = 55 ∧ j = 3 then S.2.1 55 1 else if a = 55 ∧ j = 50 then 0 else if a = 55 ∧ j = 51 then 1 else S.2.1 a j)
  rw [h a j ha, if_neg (show ¬ (a = 55 ∧ j = 3) by omega), if_neg (show ¬ (a = 55 ∧ j = 3) by omega)]
theorem stH_9 {b : Nat → Int} {E i : Nat} {H : am_H} (hK : ¬ zK b E i = 137 ∧ ¬ zK b E i = 138) (a j : Nat) (ha : (93 ≤ a ∧ a ≤ 95) ∨ (a = 55 ∧ j = 50)) : (stH b E H i).2.1 a j = H.2.1 a j := by
  unfold stH
  rw [set_nn (by omega)]
  unfold stG
  split
  · unfold peH; simp (disch := omega) only [set_nn]
  · split
    · unfold toH; simp (disch := omega) only [set_nn]
    · split
      · unfold rmH; simp (disch := omega) only [set_nn]
      · split
        · unfold frH; simp (disch := omega) only [set_nn]
        · split
          · rename_i h; exact absurd h hK.1
          · split
            · rename_i h; exact absurd h hK.2
            · split
              · exact set_nn (by omega)
              · exact set_nn (by omega)
theorem W_ts_c {t a j : Nat} (h : W_ts t a j) : (t ≤ a ∧ a ≤ t + 7) ∨ (27 ≤ a ∧ a ≤ 31) := by unfold W_ts W_rz at h; omega
theorem st_more {b : Nat → Int} {E t i : Nat} {σ τ H : am_H} (ht : t = 3 ∨ t = 15) (hRR : RRr t σ H) (hC : CDt t σ) (hK : ¬ zK b E i = 137 ∧ ¬ zK b E i = 138) (hF : frw (W_ts t) σ τ) : RRr t τ (stH b E H i) ∧ CDt t τ ∧ GFR t σ τ ∧ τ.2.1 27 7 = σ.2.1 27 7 ∧ τ.2.1 27 11 = σ.2.1 27 11 ∧ τ.2.2 27 2 = σ.2.2 27 2 :=
  ⟨(hRR.fr hC hF (fun _ _ h => W_ts_c h) ht).H (fun a j h1 h2 => stH_9 hK a j (Or.inl ⟨h1, h2⟩)) (stH_9 hK 55 50 (Or.inr ⟨rfl, rfl⟩)), hC.fr hF, GFR.of hF (fun a j h => (W_ts_c h).imp (fun z => ⟨z.1, by omega⟩) id), hF.2.2 27 7 (by unfold W_ts W_rz; omega), hF.2.2 27 11 (by unfold W_ts W_rz; omega), by rw [hF.2.1]⟩
/-- how many rules have been read -/
def cu (H : am_H) : Nat := (if H.2.1 93 0 = -1 then 0 else 1) + (if H.2.1 93 1 = -1 then 0 else 1)
theorem cu_2 (H : am_H) : cu H ≤ 2 := by
  unfold cu
  split <;> split <;> omega
/-- a town being read, k statements and c rules on -/
def TLI (t : Nat) (b : Nat → Int) (E : Nat) (cv : Nat → Int) (M : Nat) (S0 σ : am_H) (k c : Nat) (T : am_H) : PZ → Prop
  | .inl i => (RY b E cv M T (.inl i) ∧ T.2.2 27 2 = some t ∧ CDt t T ∧ GFR t σ T) ∧ T.2.1 27 7 = 0 ∧ T.2.1 27 11 = 0 ∧ ((k = 0 ∧ i = 0 ∧ c = 0 ∧ CLt t 0 0 T) ∨ (1 ≤ k ∧ ∃ H, TWI H i ∧ H.2.1 55 51 = (k : Int) ∧ TRr t T H ∧ RRr t T H ∧ c = cu H ∧ tnF b E (81 - k) H (.inl i) = tnR b E S0))
  | .inr e => (RY b E cv M T (.inr e) ∧ T.2.2 27 2 = some t ∧ CDt t T ∧ GFR t σ T) ∧ c ≤ 3 ∧ tnR b E S0 = .inr e
section TL
variable {b : Nat → Int} {E : Nat} {cv : Nat → Int} {M : Nat} {t k c : Nat} {S0 σ T τ : am_H} {p : PZ}
theorem TLI.com (h : TLI t b E cv M S0 σ k c T p) : RY b E cv M T p ∧ T.2.2 27 2 = some t ∧ CDt t T ∧ GFR t σ T := by
  cases p with
  | inl i => exact h.1
  | inr e => exact h.1
theorem TLI.c3 (h : TLI t b E cv M S0 σ k c T p) : c ≤ 3 := by
  cases p with
  | inl i =>
    obtain ⟨_, _, _, ⟨_, _, h, _⟩ | ⟨_, H, _, _, _, _, h, _⟩⟩ := h
    · omega
    · have := cu_2 H; omega
  | inr e => exact h.2.1
theorem TLI.c2 {i : Nat} (h : TLI t b E cv M S0 σ k c T (.inl i)) : c ≤ 2 ∧ k ≤ 70 := by
  obtain ⟨_, _, _, ⟨hk, _, h, _⟩ | ⟨_, H, hW, h5, _, _, h, _⟩⟩ := h
  · omega
  · have := cu_2 H
    have := hW.2.2.2.2.2.2
    omega
theorem tl_first {i : Nat} (ht : t = 3 ∨ t = 15) (hI : TLI t b E cv M S0 σ 0 c T (.inl i)) (hX' : RY b E cv M τ (dyF b E (.inl 0))) (hl : (dyF b E (.inl 0)).isLeft = true → CLt t (vZ b E (akF b E 0 (.inl 0))) 1 τ) (hC' : CDt t τ) (hG' : GFR t T τ) (hR' : τ.2.2 27 2 = T.2.2 27 2) (h9 : (dyF b E (.inl 0)).isLeft = true → c = 0 ∧ τ.2.1 27 7 = T.2.1 27 7 ∧ τ.2.1 27 11 = T.2.1 27 11) : TLI t b E cv M S0 σ 1 c τ (dyF b E (.inl 0)) := by
  obtain ⟨⟨hX, hR, hC, hG⟩, h7, h11, _⟩ := id hI
  have hcc := hI.c3
  have hR0 : tnR b E S0 = tnF b E 80 (t0H S0 (vZ b E (akF b E 0 (.inl 0)))) (dyF b E (.inl 0)) := rfl
  cases hp : dyF b E (.inl 0) with
  | inr e =>
    rw [hp] at hX' hR0
    exact ⟨⟨hX', hR'.trans hR, hC', hG.trans hG'⟩, hcc, hR0⟩
  | inl j =>
    rw [hp] at hX' hR0 hl h9
    obtain ⟨hc0, e7, e11⟩ := h9 rfl
    have hCL := hl rfl
    refine ⟨⟨hX', hR'.trans hR, hC', hG.trans hG'⟩, e7.trans h7, e11.trans h11, Or.inr ⟨Nat.le_refl 1, t0H S0 (vZ b E (akF b E 0 (.inl 0))), ?_, (t0_v S0 _).2.2.2.2.2, hCL.tr S0, hCL.rr ht hX'.1 hC' S0 _, ?_, hR0.symm⟩⟩
    · obtain ⟨⟨v0, v1, v2, v3, v4⟩, _, _, _, z0, z1⟩ := t0_v S0 (vZ b E (akF b E 0 (.inl 0)))
      have hv : 5 ≤ vZ b E (akF b E 0 (.inl 0)) ∧ vZ b E (akF b E 0 (.inl 0)) ≤ 90 := by
        have h2 : (nuF b E 5 90 (akF b E 0 (.inl 0))).isLeft = true := sgF_l (c := 59) (by show (dyF b E (.inl 0)).isLeft = true; rw [hp]; rfl)
        exact nu_r h2
      unfold TWI
      rw [v0, v1, v2, v3, v4, z0, z1]
      omega
    · obtain ⟨_, _, _, y, _⟩ := t0_v S0 (vZ b E (akF b E 0 (.inl 0)))
      unfold cu
      rw [if_pos (y 0 (by decide)), if_pos (y 1 (by decide))]
      exact hc0
theorem tl_on {i c' : Nat} {H : am_H} (hX' : RY b E cv M τ (stF b E H i)) (hl : (stF b E H i).isLeft = true → TRr t τ (stH b E H i) ∧ RRr t τ (stH b E H i) ∧ τ.2.1 27 7 = 0) (hC' : CDt t τ) (hG' : GFR t T τ) (hR' : τ.2.2 27 2 = T.2.2 27 2) (h11' : τ.2.1 27 11 = T.2.1 27 11) (hR : T.2.2 27 2 = some t) (hG : GFR t σ T) (h11 : T.2.1 27 11 = 0)
    (hTW : TWI H i) (h51 : H.2.1 55 51 = (k : Int)) (hk1 : 1 ≤ k) (hF : tnF b E (81 - k) H (.inl i) = tnR b E S0) (h6 : ¬ zK b E i = 6) (hc3 : c' ≤ 3) (hc : (stF b E H i).isLeft = true → c' = cu (stH b E H i)) : TLI t b E cv M S0 σ (k + 1) c' τ (stF b E H i) := by
  have hk70 := hTW.2.2.2.2.2.2
  have e0 : tnF b E (81 - k) H (.inl i) = tnF b E (80 - k) (stH b E H i) (stF b E H i) := by
    rw [show 81 - k = (80 - k) + 1 by omega]
    exact if_neg h6
  rw [e0] at hF
  cases hp : stF b E H i with
  | inr e =>
    rw [hp] at hX' hF
    refine ⟨⟨hX', hR'.trans hR, hC', hG.trans hG'⟩, hc3, ?_⟩
    rw [show 80 - k = (79 - k) + 1 by omega] at hF
    exact hF.symm
  | inl j =>
    have hW := TWI_on (RM_all b E) hTW hp
    rw [hp] at hX' hF hl hc
    obtain ⟨a1, a2, a3⟩ := hl rfl
    refine ⟨⟨hX', hR'.trans hR, hC', hG.trans hG'⟩, a3, h11'.trans h11, Or.inr ⟨by omega, stH b E H i, hW.1, by rw [hW.2, h51]; omega, a1, a2, hc rfl, ?_⟩⟩
    rw [show 81 - (k + 1) = 80 - k by omega]
    exact hF
theorem cu_same {i : Nat} {H : am_H} (hK : ¬ zK b E i = 137 ∧ ¬ zK b E i = 138) : cu (stH b E H i) = cu H := by
  unfold cu
  rw [stH_9 hK 93 0 (by omega), stH_9 hK 93 1 (by omega)]
theorem cu_more {i wh : Nat} {H : am_H} (hw : wh < 2) (hG : RG H) (h0 : H.2.1 93 wh = -1) (hq : stG b E H i = cdH H (wh : Int) (cdC b E (wh : Int) (i + 1))) : cu (stH b E H i) = cu H + 1 := by
  have h5 := hG.1
  have e : ∀ w, w < 2 → (stH b E H i).2.1 93 w = if w = wh then H.2.1 55 50 else H.2.1 93 w := fun w hw2 => by
    unfold stH
    rw [set_nn (by omega), hq]
    unfold cdH
    rw [set_nn (by omega), set_nn (by omega), setA_nn (by omega)]
    show (if 93 = 93 ∧ w = ((wh : Int)).toNat then _ else _) = _
    by_cases g : w = wh
    · rw [if_pos ⟨rfl, by omega⟩, if_pos g]
    · rw [if_neg (by omega), if_neg g]
  unfold cu
  rw [e 0 (by decide), e 1 (by decide)]
  rcases (show wh = 0 ∨ wh = 1 by omega) with rfl | rfl
  · rw [if_pos rfl, if_neg (show ¬ (1 : Nat) = 0 by decide), if_neg (show ¬ H.2.1 55 50 = -1 by omega), h0, if_pos rfl]
    omega
  · rw [if_neg (show ¬ (0 : Nat) = 1 by decide), if_pos rfl, if_neg (show ¬ H.2.1 55 50 = -1 by omega), h0, if_pos rfl]
theorem lt_M {i : Nat} (hX : RY b E cv M T (.inl i)) (h6 : ¬ zK b E i = 6) : i + 1 ≤ M := by
  have h1 : i ≤ M := hX.2.2.2.2
  have h2 := hX.2.1.2.2.2.2.1
  by_cases g : i = M
  · rw [g] at h6; exact absurd h2 h6
  · omega
theorem dy_bad (h : ¬ zK b E 0 = 128) : dyF b E (.inl 0) = .inr (1, (zP b E 0 : Int)) := by
  have hak : akF b E 0 (.inl 0) = .inr (1, (zP b E 0 : Int)) := if_neg (by show ¬ zK b E 0 = 128 + ((0 : Nat) : Int); omega)
  unfold dyF
  rw [hak]
  rfl
theorem kd_l {p : PZ} (h : ¬ kdZ b E p = 6) : ∃ i, p = .inl i ∧ ¬ zK b E i = 6 := by
  cases p with
  | inl i => exact ⟨i, rfl, h⟩
  | inr e => exact absurd rfl h
end TL
theorem c_tstepN_3 (b : Nat → Int) (E : Nat) (cv : Nat → Int) (M : Nat) (S0 σ : am_H) (k c i : Nat) (T : am_H) (hI : TLI 3 b E cv M S0 σ k c T (.inl i)) (h6 : ¬ zK b E i = 6) (hr : ¬ (zK b E i = 137 ∨ zK b E i = 138)) : am_met (M_X4_readStatement 0 0) [am_r 27] T (fun r τ => r = none ∧ ∃ q, TLI 3 b E cv M S0 σ (k + 1) c τ q) := by
  have hK : ¬ zK b E i = 137 ∧ ¬ zK b E i = 138 := ⟨fun z => hr (Or.inl z), fun z => hr (Or.inr z)⟩
  obtain ⟨⟨hX, hR, hC, hG⟩, h7, h11, hh⟩ := id hI
  rcases hh with ⟨rfl, rfl, hc0, hCL⟩ | ⟨hk1, H, hTW, h51, hT, hRR, hcu, hF⟩
  · by_cases hd : zK b E 0 = 128
    · refine am_mono (c_first_days_3 b E cv M T hX hR hCL hd) (fun r τ h => ?_)
      obtain ⟨h1, h2, h3, h4⟩ := h
      exact ⟨h1, _, tl_first (Or.inl rfl) hI h2 h3 (hC.fr h4) (GFR.of h4 (fun a j h => (W_ts_c h).imp (fun z => ⟨z.1, by omega⟩) id)) (by rw [h4.2.1]) (fun _ => ⟨hc0, h4.2.2 27 7 (by unfold W_ts W_rz; omega), h4.2.2 27 11 (by unfold W_ts W_rz; omega)⟩)⟩
    · refine am_mono (c_first_bad_3 b E cv M T hX hR hCL ⟨h6, hd, hK.1, hK.2⟩) (fun r τ h => ?_)
      obtain ⟨h1, h2, h4⟩ := h
      rw [← dy_bad hd] at h2
      have hno : ¬ (dyF b E (.inl 0)).isLeft = true := by rw [dy_bad hd]; simp
      exact ⟨h1, _, tl_first (Or.inl rfl) hI h2 (fun z => absurd z hno) (hC.fr h4) (GFR.of h4 (fun a j h => (W_ts_c h).imp (fun z => ⟨z.1, by omega⟩) id)) (by rw [h4.2.1]) (fun z => absurd z hno)⟩
  · have hc2 := cu_2 H
    have on : ∀ (r : Option am_V) (τ : am_H), (r = none ∧ RY b E cv M τ (stF b E H i) ∧ ((stF b E H i).isLeft = true → TRr 3 τ (stH b E H i)) ∧ frw (W_ts 3) T τ) → r = none ∧ ∃ q, TLI 3 b E cv M S0 σ (k + 1) c τ q := fun r τ h => by
      obtain ⟨h1, h2, h3, h4⟩ := h
      obtain ⟨m1, m2, m3, m4, m5, m6⟩ := st_more (b := b) (E := E) (i := i) (Or.inl rfl) hRR hC hK h4
      exact ⟨h1, _, tl_on h2 (fun z => ⟨h3 z, m1, m4.trans h7⟩) m2 m3 m6 m5 hR hG h11 hTW h51 hk1 hF h6 (by omega) (fun _ => by rw [cu_same hK]; exact hcu)⟩
    have hs0 : 1 ≤ H.2.1 55 51 := by omega
    by_cases k129 : zK b E i = 129
    · exact am_mono (c_st_person_3 b E cv M i T H hX hR hT hRR hTW hs0 k129) on
    by_cases k132 : zK b E i = 132
    · exact am_mono (c_st_told_3 b E cv M i T H hX hR hT hRR hTW hs0 k132) on
    by_cases k134 : zK b E i = 134
    · exact am_mono (c_st_reminds_3 b E cv M i T H hX hR hT hRR hTW hs0 k134) on
    by_cases k135 : zK b E i = 135
    · exact am_mono (c_st_frost_3 b E cv M i T H hX hR hT hRR hTW hs0 k135) on
    by_cases k139 : zK b E i = 139
    · exact am_mono (c_st_slips_3 b E cv M i T H hX hR hT hRR hTW hs0 k139) on
    by_cases k140 : zK b E i = 140
    · exact am_mono (c_st_mortal_3 b E cv M i T H hX hR hT hRR hTW hs0 k140) on
    by_cases k128 : zK b E i = 128
    · exact am_mono (c_st_days_3 b E cv M i T H hX hR hT hRR hTW hs0 k128) on
    exact am_mono (c_st_other_3 b E cv M i T H hX hR hT hRR hTW hs0 rfl ⟨h6, k128, k129, k132, k134, k135, hK.1, hK.2, k139, k140⟩) on
theorem c_tstep_thinks_3 (b : Nat → Int) (E : Nat) (cv : Nat → Int) (M : Nat) (S0 σ : am_H) (k c i : Nat) (T : am_H) (hI : TLI 3 b E cv M S0 σ k c T (.inl i)) (h6 : ¬ zK b E i = 6) (hr : zK b E i = 137) : am_met (M_X4_readStatement 1 1600) [am_r 27] T (fun r τ => r = none ∧ ∃ q, TLI 3 b E cv M S0 σ (k + 1) (c + 1) τ q) := by
  obtain ⟨⟨hX, hR, hC, hG⟩, h7, h11, hh⟩ := id hI
  rcases hh with ⟨rfl, rfl, hc0, hCL⟩ | ⟨hk1, H, hTW, h51, hT, hRR, hcu, hF⟩
  · have hd : ¬ zK b E 0 = 128 := by omega
    refine am_mono (c_first_thinks_3 b E cv M T hX hR hCL hr hC h7 h11) (fun r τ h => ?_)
    obtain ⟨h1, h2, h3, h4, h5⟩ := h
    have hR0 : tnR b E S0 = tnF b E 80 (t0H S0 (vZ b E (akF b E 0 (.inl 0)))) (dyF b E (.inl 0)) := rfl
    rw [dy_bad hd] at hR0
    exact ⟨h1, .inr (1, (zP b E 0 : Int)), ⟨h2, h5.trans hR, h3, hG.trans h4⟩, by omega, hR0⟩
  · have hc2 := cu_2 H
    have hs0 : 1 ≤ H.2.1 55 51 := by omega
    refine am_mono (c_st_thinks_3 b E cv M i T H hX hR hT hRR hTW hs0 hr hC h7 h11 (lt_M hX h6)) (fun r τ h => ?_)
    obtain ⟨h1, h2, h3, h4, h5, h8, h9⟩ := h
    refine ⟨h1, _, tl_on h2 h3 h4 h5 h9 h8 hR hG h11 hTW h51 hk1 hF h6 (by omega) (fun z => ?_)⟩
    have hqG : stG b E H i = cdH H ((0 : Nat) : Int) (cdC b E ((0 : Nat) : Int) (i + 1)) := by unfold stG; rw [hr]; rw [if_neg (by decide), if_neg (by decide), if_neg (by decide), if_neg (by decide), if_pos rfl]; rfl
    have hqR : stR b E H i = cdF b E H 0 (zP b E i : Int) (i + 1) := by unfold stR; rw [hr]; rw [if_neg (by decide), if_neg (by decide), if_neg (by decide), if_neg (by decide), if_pos rfl]
    have hl : (stR b E H i).isLeft = true := by
      unfold stF at z
      split at z
      · exact absurd (show false = true from z) (by decide)
      · exact sgF_l z
    rw [hqR] at hl
    rw [cu_more (wh := 0) (by decide) hRR.2.2 (cdF_full hl) hqG, hcu]
theorem c_tstep_hears_3 (b : Nat → Int) (E : Nat) (cv : Nat → Int) (M : Nat) (S0 σ : am_H) (k c i : Nat) (T : am_H) (hI : TLI 3 b E cv M S0 σ k c T (.inl i)) (h6 : ¬ zK b E i = 6) (hr : zK b E i = 138) : am_met (M_X4_readStatement 1 1600) [am_r 27] T (fun r τ => r = none ∧ ∃ q, TLI 3 b E cv M S0 σ (k + 1) (c + 1) τ q) := by
  obtain ⟨⟨hX, hR, hC, hG⟩, h7, h11, hh⟩ := id hI
  rcases hh with ⟨rfl, rfl, hc0, hCL⟩ | ⟨hk1, H, hTW, h51, hT, hRR, hcu, hF⟩
  · have hd : ¬ zK b E 0 = 128 := by omega
    refine am_mono (c_first_hears_3 b E cv M T hX hR hCL hr hC h7 h11) (fun r τ h => ?_)
    obtain ⟨h1, h2, h3, h4, h5⟩ := h
    have hR0 : tnR b E S0 = tnF b E 80 (t0H S0 (vZ b E (akF b E 0 (.inl 0)))) (dyF b E (.inl 0)) := rfl
    rw [dy_bad hd] at hR0
    exact ⟨h1, .inr (1, (zP b E 0 : Int)), ⟨h2, h5.trans hR, h3, hG.trans h4⟩, by omega, hR0⟩
  · have hc2 := cu_2 H
    have hs0 : 1 ≤ H.2.1 55 51 := by omega
    refine am_mono (c_st_hears_3 b E cv M i T H hX hR hT hRR hTW hs0 hr hC h7 h11 (lt_M hX h6)) (fun r τ h => ?_)
    obtain ⟨h1, h2, h3, h4, h5, h8, h9⟩ := h
    refine ⟨h1, _, tl_on h2 h3 h4 h5 h9 h8 hR hG h11 hTW h51 hk1 hF h6 (by omega) (fun z => ?_)⟩
    have hqG : stG b E H i = cdH H ((1 : Nat) : Int) (cdC b E ((1 : Nat) : Int) (i + 1)) := by unfold stG; rw [hr]; rw [if_neg (by decide), if_neg (by decide), if_neg (by decide), if_neg (by decide), if_neg (by decide), if_pos rfl]; rfl
    have hqR : stR b E H i = cdF b E H 1 (zP b E i : Int) (i + 1) := by unfold stR; rw [hr]; rw [if_neg (by decide), if_neg (by decide), if_neg (by decide), if_neg (by decide), if_neg (by decide), if_pos rfl]
    have hl : (stR b E H i).isLeft = true := by
      unfold stF at z
      split at z
      · exact absurd (show false = true from z) (by decide)
      · exact sgF_l z
    rw [hqR] at hl
    rw [cu_more (wh := 1) (by decide) hRR.2.2 (cdF_full hl) hqG, hcu]
theorem c_tstepN_15 (b : Nat → Int) (E : Nat) (cv : Nat → Int) (M : Nat) (S0 σ : am_H) (k c i : Nat) (T : am_H) (hI : TLI 15 b E cv M S0 σ k c T (.inl i)) (h6 : ¬ zK b E i = 6) (hr : ¬ (zK b E i = 137 ∨ zK b E i = 138)) : am_met (M_X4_readStatement 0 0) [am_r 27] T (fun r τ => r = none ∧ ∃ q, TLI 15 b E cv M S0 σ (k + 1) c τ q) := by
  have hK : ¬ zK b E i = 137 ∧ ¬ zK b E i = 138 := ⟨fun z => hr (Or.inl z), fun z => hr (Or.inr z)⟩
  obtain ⟨⟨hX, hR, hC, hG⟩, h7, h11, hh⟩ := id hI
  rcases hh with ⟨rfl, rfl, hc0, hCL⟩ | ⟨hk1, H, hTW, h51, hT, hRR, hcu, hF⟩
  · by_cases hd : zK b E 0 = 128
    · refine am_mono (c_first_days_15 b E cv M T hX hR hCL hd) (fun r τ h => ?_)
      obtain ⟨h1, h2, h3, h4⟩ := h
      exact ⟨h1, _, tl_first (Or.inr rfl) hI h2 h3 (hC.fr h4) (GFR.of h4 (fun a j h => (W_ts_c h).imp (fun z => ⟨z.1, by omega⟩) id)) (by rw [h4.2.1]) (fun _ => ⟨hc0, h4.2.2 27 7 (by unfold W_ts W_rz; omega), h4.2.2 27 11 (by unfold W_ts W_rz; omega)⟩)⟩
    · refine am_mono (c_first_bad_15 b E cv M T hX hR hCL ⟨h6, hd, hK.1, hK.2⟩) (fun r τ h => ?_)
      obtain ⟨h1, h2, h4⟩ := h
      rw [← dy_bad hd] at h2
      have hno : ¬ (dyF b E (.inl 0)).isLeft = true := by rw [dy_bad hd]; simp
      exact ⟨h1, _, tl_first (Or.inr rfl) hI h2 (fun z => absurd z hno) (hC.fr h4) (GFR.of h4 (fun a j h => (W_ts_c h).imp (fun z => ⟨z.1, by omega⟩) id)) (by rw [h4.2.1]) (fun z => absurd z hno)⟩
  · have hc2 := cu_2 H
    have on : ∀ (r : Option am_V) (τ : am_H), (r = none ∧ RY b E cv M τ (stF b E H i) ∧ ((stF b E H i).isLeft = true → TRr 15 τ (stH b E H i)) ∧ frw (W_ts 15) T τ) → r = none ∧ ∃ q, TLI 15 b E cv M S0 σ (k + 1) c τ q := fun r τ h => by
      obtain ⟨h1, h2, h3, h4⟩ := h
      obtain ⟨m1, m2, m3, m4, m5, m6⟩ := st_more (b := b) (E := E) (i := i) (Or.inr rfl) hRR hC hK h4
      exact ⟨h1, _, tl_on h2 (fun z => ⟨h3 z, m1, m4.trans h7⟩) m2 m3 m6 m5 hR hG h11 hTW h51 hk1 hF h6 (by omega) (fun _ => by rw [cu_same hK]; exact hcu)⟩
    have hs0 : 1 ≤ H.2.1 55 51 := by omega
    by_cases k129 : zK b E i = 129
    · exact am_mono (c_st_person_15 b E cv M i T H hX hR hT hRR hTW hs0 k129) on
    by_cases k132 : zK b E i = 132
    · exact am_mono (c_st_told_15 b E cv M i T H hX hR hT hRR hTW hs0 k132) on
    by_cases k134 : zK b E i = 134
    · exact am_mono (c_st_reminds_15 b E cv M i T H hX hR hT hRR hTW hs0 k134) on
    by_cases k135 : zK b E i = 135
    · exact am_mono (c_st_frost_15 b E cv M i T H hX hR hT hRR hTW hs0 k135) on
    by_cases k139 : zK b E i = 139
    · exact am_mono (c_st_slips_15 b E cv M i T H hX hR hT hRR hTW hs0 k139) on
    by_cases k140 : zK b E i = 140
    · exact am_mono (c_st_mortal_15 b E cv M i T H hX hR hT hRR hTW hs0 k140) on
    by_cases k128 : zK b E i = 128
    · exact am_mono (c_st_days_15 b E cv M i T H hX hR hT hRR hTW hs0 k128) on
    exact am_mono (c_st_other_15 b E cv M i T H hX hR hT hRR hTW hs0 rfl ⟨h6, k128, k129, k132, k134, k135, hK.1, hK.2, k139, k140⟩) on
theorem c_tstep_thinks_15 (b : Nat → Int) (E : Nat) (cv : Nat → Int) (M : Nat) (S0 σ : am_H) (k c i : Nat) (T : am_H) (hI : TLI 15 b E cv M S0 σ k c T (.inl i)) (h6 : ¬ zK b E i = 6) (hr : zK b E i = 137) : am_met (M_X4_readStatement 1 1600) [am_r 27] T (fun r τ => r = none ∧ ∃ q, TLI 15 b E cv M S0 σ (k + 1) (c + 1) τ q) := by
  obtain ⟨⟨hX, hR, hC, hG⟩, h7, h11, hh⟩ := id hI
  rcases hh with ⟨rfl, rfl, hc0, hCL⟩ | ⟨hk1, H, hTW, h51, hT, hRR, hcu, hF⟩
  · have hd : ¬ zK b E 0 = 128 := by omega
    refine am_mono (c_first_thinks_15 b E cv M T hX hR hCL hr hC h7 h11) (fun r τ h => ?_)
    obtain ⟨h1, h2, h3, h4, h5⟩ := h
    have hR0 : tnR b E S0 = tnF b E 80 (t0H S0 (vZ b E (akF b E 0 (.inl 0)))) (dyF b E (.inl 0)) := rfl
    rw [dy_bad hd] at hR0
    exact ⟨h1, .inr (1, (zP b E 0 : Int)), ⟨h2, h5.trans hR, h3, hG.trans h4⟩, by omega, hR0⟩
  · have hc2 := cu_2 H
    have hs0 : 1 ≤ H.2.1 55 51 := by omega
    refine am_mono (c_st_thinks_15 b E cv M i T H hX hR hT hRR hTW hs0 hr hC h7 h11 (lt_M hX h6)) (fun r τ h => ?_)
    obtain ⟨h1, h2, h3, h4, h5, h8, h9⟩ := h
    refine ⟨h1, _, tl_on h2 h3 h4 h5 h9 h8 hR hG h11 hTW h51 hk1 hF h6 (by omega) (fun z => ?_)⟩
    have hqG : stG b E H i = cdH H ((0 : Nat) : Int) (cdC b E ((0 : Nat) : Int) (i + 1)) := by unfold stG; rw [hr]; rw [if_neg (by decide), if_neg (by decide), if_neg (by decide), if_neg (by decide), if_pos rfl]; rfl
    have hqR : stR b E H i = cdF b E H 0 (zP b E i : Int) (i + 1) := by unfold stR; rw [hr]; rw [if_neg (by decide), if_neg (by decide), if_neg (by decide), if_neg (by decide), if_pos rfl]
    have hl : (stR b E H i).isLeft = true := by
      unfold stF at z
      split at z
      · exact absurd (show false = true from z) (by decide)
      · exact sgF_l z
    rw [hqR] at hl
    rw [cu_more (wh := 0) (by decide) hRR.2.2 (cdF_full hl) hqG, hcu]
theorem c_tstep_hears_15 (b : Nat → Int) (E : Nat) (cv : Nat → Int) (M : Nat) (S0 σ : am_H) (k c i : Nat) (T : am_H) (hI : TLI 15 b E cv M S0 σ k c T (.inl i)) (h6 : ¬ zK b E i = 6) (hr : zK b E i = 138) : am_met (M_X4_readStatement 1 1600) [am_r 27] T (fun r τ => r = none ∧ ∃ q, TLI 15 b E cv M S0 σ (k + 1) (c + 1) τ q) := by
  obtain ⟨⟨hX, hR, hC, hG⟩, h7, h11, hh⟩ := id hI
  rcases hh with ⟨rfl, rfl, hc0, hCL⟩ | ⟨hk1, H, hTW, h51, hT, hRR, hcu, hF⟩
  · have hd : ¬ zK b E 0 = 128 := by omega
    refine am_mono (c_first_hears_15 b E cv M T hX hR hCL hr hC h7 h11) (fun r τ h => ?_)
    obtain ⟨h1, h2, h3, h4, h5⟩ := h
    have hR0 : tnR b E S0 = tnF b E 80 (t0H S0 (vZ b E (akF b E 0 (.inl 0)))) (dyF b E (.inl 0)) := rfl
    rw [dy_bad hd] at hR0
    exact ⟨h1, .inr (1, (zP b E 0 : Int)), ⟨h2, h5.trans hR, h3, hG.trans h4⟩, by omega, hR0⟩
  · have hc2 := cu_2 H
    have hs0 : 1 ≤ H.2.1 55 51 := by omega
    refine am_mono (c_st_hears_15 b E cv M i T H hX hR hT hRR hTW hs0 hr hC h7 h11 (lt_M hX h6)) (fun r τ h => ?_)
    obtain ⟨h1, h2, h3, h4, h5, h8, h9⟩ := h
    refine ⟨h1, _, tl_on h2 h3 h4 h5 h9 h8 hR hG h11 hTW h51 hk1 hF h6 (by omega) (fun z => ?_)⟩
    have hqG : stG b E H i = cdH H ((1 : Nat) : Int) (cdC b E ((1 : Nat) : Int) (i + 1)) := by unfold stG; rw [hr]; rw [if_neg (by decide), if_neg (by decide), if_neg (by decide), if_neg (by decide), if_neg (by decide), if_pos rfl]; rfl
    have hqR : stR b E H i = cdF b E H 1 (zP b E i : Int) (i + 1) := by unfold stR; rw [hr]; rw [if_neg (by decide), if_neg (by decide), if_neg (by decide), if_neg (by decide), if_neg (by decide), if_pos rfl]
    have hl : (stR b E H i).isLeft = true := by
      unfold stF at z
      split at z
      · exact absurd (show false = true from z) (by decide)
      · exact sgF_l z
    rw [hqR] at hl
    rw [cu_more (wh := 1) (by decide) hRR.2.2 (cdF_full hl) hqG, hcu]
