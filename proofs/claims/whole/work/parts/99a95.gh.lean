/-- what a town's reading keeps, beside the tallies -/
def GH (b : Nat → Int) (E : Nat) (H : am_H) (i : Nat) : Prop := TWI H i ∧ i ≤ zP b E i ∧ RG H ∧ ((0 ≤ H.2.1 92 0 ∧ H.2.1 92 0 ≤ 100) ∧ 0 ≤ H.2.1 92 1 ∧ H.2.1 92 1 ≤ 1000) ∧ (H.2.1 90 0 = 0 ∧ (∀ d : Nat, d < 91 → H.2.1 85 4 < (d : Int) → H.2.1 90 d = 0) ∧ (∀ d : Nat, d < 91 → 0 ≤ H.2.1 90 d ∧ H.2.1 90 d < 256) ∧ sumN (fun d => bc (H.2.1 90 (d + 1))) 90 ≤ H.2.1 85 1) ∧ (∀ wh, wh < 2 → okT (rlN H wh) [] = true ∨ H.2.1 93 wh = -1) ∧ ∀ v ∈ rlN H 0, ¬ v = 47
theorem GH.same {b : Nat → Int} {E i j : Nat} {H K : am_H} (h : GH b E H i) (hT : TWI K j) (hz : j ≤ zP b E j) (e : ∀ a k, (a = 85 ∧ (k = 1 ∨ k = 4)) ∨ a = 90 ∨ (92 ≤ a ∧ a ≤ 95) ∨ (a = 55 ∧ k = 50) → K.2.1 a k = H.2.1 a k) : GH b E K j := by
  obtain ⟨-, -, hR, hS, ⟨t1, t2, t3, t4⟩, hO, hN⟩ := h
  have er : ∀ wh, rlN K wh = rlN H wh := rlN_eq (fun a k h1 h2 => e a k (by omega))
  have e90 : ∀ k, K.2.1 90 k = H.2.1 90 k := fun k => e 90 k (by omega)
  refine ⟨hT, hz, RG_eq (fun a k h1 h2 => e a k (by omega)) (e 55 50 (by omega)) hR, by rw [e 92 0 (by omega), e 92 1 (by omega)]; exact hS, ?_, fun wh hw => by rw [er wh, e 93 wh (by omega)]; exact hO wh hw, by rw [er 0]; exact hN⟩
  simp only [e90, e 85 4 (by omega), e 85 1 (by omega)]
  exact ⟨t1, t2, t3, t4⟩
theorem cd_ok {b : Nat → Int} {E i : Nat} {tk : Int} (hE : E ≤ 1600) (htk : tk = 0 ∨ tk = 1) (hi : i ≤ zP b E i) {q : Nat × List Int} (h : tsF b E tk 1700 i [] [] 0 = .inl q) : q.1 ≤ zP b E q.1 ∧ okT q.2.reverse [] = true ∧ (tk = 0 → ∀ v ∈ q.2, ¬ v = 47) ∧ ¬ q.2 = [] := by
  have hs := test_0 (b := b) hE (show tk = 0 ∨ tk = 1 ∨ tk = 2 by omega) i hi
  cases hr : testB b E (factX b E tk 6) (.inl (i, [], 0)) with
  | inr p =>
    rw [hr] at hs
    have h9 : tsF b E tk 1700 i [] [] 0 = .inr p.1 := hs
    rw [h9] at h
    exact absurd h (by simp)
  | inl p =>
    rw [hr] at hs
    obtain ⟨h1, h2, ns, h3, h4, h5⟩ := hs
    rw [h5] at h
    have e := Sum.inl.inj h
    subst e
    refine ⟨h2.2.1, ?_, fun h0 v hv => ?_, fun hn => ?_⟩
    · show okT ns.reverse.reverse [] = true
      rw [List.reverse_reverse]
      exact okT_of (by omega) ns [] h4
    · subst h0
      exact no_47 ns [] _ h4 v (List.mem_reverse.mp hv)
    · have hn2 : ns = [] := List.reverse_eq_nil_iff.mp hn
      rw [hn2] at h4
      exact absurd (Option.some.inj h4) (by simp)
theorem cdC_at {b : Nat → Int} {E i : Nat} {wh : Int} {q : Nat × List Int} (h : tsF b E wh 1700 i [] [] 0 = .inl q) : cdC b E wh i = q.2 := by
  unfold cdC; rw [h]
theorem cdF_at {b : Nat → Int} {E i : Nat} {H : am_H} {wh pl : Int} (h : (cdF b E H wh pl i).isLeft = true) : H.2.1 93 wh.toNat = -1 ∧ ∃ q, tsF b E wh 1700 i [] [] 0 = .inl q ∧ cdF b E H wh pl i = .inl q.1 := by
  unfold cdF at h ⊢
  by_cases g : H.2.1 93 wh.toNat = -1
  · rw [if_pos g] at h ⊢
    refine ⟨g, ?_⟩
    cases ht : tsF b E wh 1700 i [] [] 0 with
    | inl q => exact ⟨q, rfl, rfl⟩
    | inr e => rw [ht] at h; exact absurd h (by simp)
  · rw [if_neg g] at h
    exact absurd h (by simp)
theorem cdH_nn {H : am_H} {wh : Int} {rc : List Int} {a j : Nat} (ha : ¬ (93 ≤ a ∧ a ≤ 95)) (hj : ¬ (a = 55 ∧ j = 50)) : (cdH H wh rc).2.1 a j = H.2.1 a j := by
  unfold cdH
  rw [set_nn (by omega), set_nn (by omega), setA_nn (by omega), set_nn (by omega)]
theorem GH_cd {b : Nat → Int} {E i j : Nat} {H K : am_H} (wh : Nat) (hw : wh < 2) (h : GH b E H i) (hT : TWI K j) (hz : j ≤ zP b E j) {rc : List Int} (hne : ¬ rc = []) (h93 : H.2.1 93 wh = -1) (hok : okT rc.reverse [] = true) (hno : wh = 0 → ∀ v ∈ rc, ¬ v = 47) (e : ∀ a k, ¬ (a = 55 ∧ k = 51) → K.2.1 a k = (cdH H (wh : Int) rc).2.1 a k) : GH b E K j := by
  obtain ⟨-, -, hR, hS, ⟨t1, t2, t3, t4⟩, hO, hN⟩ := h
  obtain ⟨r1, r2, r3⟩ := rlN_cd hw hR h93 hne
  have er : ∀ w, rlN K w = rlN (cdH H (wh : Int) rc) w := rlN_eq (fun a k h1 h2 => e a k (by omega))
  have eb : ∀ a k, ¬ (93 ≤ a ∧ a ≤ 95) → ¬ (a = 55 ∧ (k = 50 ∨ k = 51)) → K.2.1 a k = H.2.1 a k := fun a k h1 h2 => (e a k (by omega)).trans (cdH_nn h1 (by omega))
  have e90 : ∀ k, K.2.1 90 k = H.2.1 90 k := fun k => eb 90 k (by omega) (by omega)
  refine ⟨hT, hz, RG_eq (fun a k h1 h2 => e a k (by omega)) (e 55 50 (by omega)) r3, by rw [eb 92 0 (by omega) (by omega), eb 92 1 (by omega) (by omega)]; exact hS, ?_, fun w hw2 => ?_, ?_⟩
  · simp only [e90, eb 85 4 (by omega) (by omega), eb 85 1 (by omega) (by omega)]
    exact ⟨t1, t2, t3, t4⟩
  · by_cases g : w = wh
    · subst g
      left
      rw [er, r1]
      exact hok
    · have gw : w = 1 - wh := by omega
      rcases hO w hw2 with x | x
      · left
        rw [er, gw, r2, ← gw]
        exact x
      · right
        rw [e 93 w (by omega)]
        unfold cdH
        rw [set_nn (by omega), set_nn (by omega), setA_nn (by omega), set_nn (by omega)]
        exact x
  · by_cases g : wh = 0
    · subst g
      rw [er, r1]
      intro v hv
      exact hno rfl v (List.mem_reverse.mp hv)
    · have gw : 0 = 1 - wh := by omega
      have e2 : rlN K 0 = rlN H 0 := by
        rw [er]
        have := r2
        rw [← gw] at this
        exact this
      rw [e2]
      exact hN
theorem stF_i {b : Nat → Int} {E i j : Nat} {H : am_H} (hE : E ≤ 1600) (hi : i ≤ zP b E i) (hk : ¬ zK b E i = 6) (hj : stF b E H i = .inl j) : j ≤ zP b E j := by
  have hz := zP_on hk hi
  have hR : iZ b E (stR b E H i) := by
    unfold stR
    by_cases k0 : zK b E i = 129
    · rw [if_pos k0]; exact peF_i hz
    rw [if_neg k0]
    by_cases k1 : zK b E i = 132
    · rw [if_pos k1]; exact toF_i hz
    rw [if_neg k1]
    by_cases k2 : zK b E i = 134
    · rw [if_pos k2]; exact rmF_i hz
    rw [if_neg k2]
    by_cases k3 : zK b E i = 135
    · rw [if_pos k3]; exact frF_i hz
    rw [if_neg k3]
    by_cases k4 : zK b E i = 137
    · rw [if_pos k4]
      by_cases hl : (cdF b E H 0 (zP b E i : Int) (i + 1)).isLeft = true
      · obtain ⟨-, q, h1, h2⟩ := cdF_at hl
        rw [h2]
        exact (cd_ok hE (Or.inl rfl) hz h1).1
      · cases hq : cdF b E H 0 (zP b E i : Int) (i + 1) with
        | inl q => rw [hq] at hl; exact absurd rfl hl
        | inr e => trivial
    rw [if_neg k4]
    by_cases k5 : zK b E i = 138
    · rw [if_pos k5]
      by_cases hl : (cdF b E H 1 (zP b E i : Int) (i + 1)).isLeft = true
      · obtain ⟨-, q, h1, h2⟩ := cdF_at hl
        rw [h2]
        exact (cd_ok hE (Or.inr rfl) hz h1).1
      · cases hq : cdF b E H 1 (zP b E i : Int) (i + 1) with
        | inl q => rw [hq] at hl; exact absurd rfl hl
        | inr e => trivial
    rw [if_neg k5]
    split
    · exact nuF_i (p := .inl (i + 1)) hz
    · exact nuF_i (akF_i (p := .inl i) hi)
  unfold stF at hj
  by_cases full : H.2.1 55 51 = 70
  · rw [if_pos full] at hj; exact absurd hj (by simp)
  · rw [if_neg full] at hj
    have h9 := sgF_i (b := b) (E := E) (c := 59) (by decide) hR
    rw [hj] at h9
    exact h9
theorem GH_on {b : Nat → Int} {E i j : Nat} {H : am_H} (hE : E ≤ 1600) (h : GH b E H i) (hk : ¬ zK b E i = 6) (hj : stF b E H i = .inl j) : GH b E (stH b E H i) j := by
  have hT := (TWI_on (RM_all b E) h.1 hj).1
  have hzj := stF_i hE h.2.1 hk hj
  have hz1 := zP_on hk h.2.1
  have hTW := h.1
  have hl : (stR b E H i).isLeft = true := by
    unfold stF at hj
    by_cases full : H.2.1 55 51 = 70
    · rw [if_pos full] at hj; exact absurd hj (by simp)
    · rw [if_neg full] at hj
      exact sgF_l (by rw [hj]; rfl)
  have e51 : ∀ a k, ¬ (a = 55 ∧ k = 51) → (stH b E H i).2.1 a k = (stG b E H i).2.1 a k := fun a k hn => by unfold stH; exact set_nn hn
  obtain ⟨hN, hM, hRm, hK, hY, hC, h51⟩ := hTW
  by_cases k0 : zK b E i = 129
  · have eG : stG b E H i = peH b E H (i + 1) := by unfold stG; rw [if_pos k0]
    refine h.same hT hzj (fun a k ha => ?_)
    rw [e51 a k (by omega), eG]
    unfold peH
    rw [set_nn (by omega), set_nn (by omega), set_nn (by omega), set_nn (by omega), set_nn (by omega)]
  by_cases k1 : zK b E i = 132
  · have eR : stR b E H i = toF b E H (zP b E i : Int) (i + 1) := by unfold stR; rw [if_neg k0, if_pos k1]
    have eG : stG b E H i = toH b E H (i + 1) := by unfold stG; rw [if_neg k0, if_pos k1]
    rw [eR] at hl
    have hf := toF_full hl
    unfold toF at hl
    rw [if_neg hf] at hl
    have hl2 : (toR b E H (i + 1)).isLeft = true := by
      split at hl
      · exact absurd hl (by simp)
      · exact hl
    unfold toR at hl2
    have v1 : 1 ≤ toD b E H (i + 1) ∧ toD b E H (i + 1) ≤ H.2.1 85 4 := nu_r hl2
    have v2 : 0 ≤ rmA b E H (i + 1) ∧ rmA b E H (i + 1) < H.2.1 85 0 := ph_p (by omega) (akF_l (nuF_l hl2))
    obtain ⟨d, hd⟩ := Int.eq_ofNat_of_zero_le (show 0 ≤ toD b E H (i + 1) by omega)
    obtain ⟨-, -, hR, hS, ⟨t1, t2, t3, t4⟩, hO, hNn⟩ := h
    have hx := xr_get (t3 d (by omega)) (show 0 ≤ rmA b E H (i + 1) ∧ rmA b E H (i + 1) < 8 by omega)
    have e90 : ∀ k, (stH b E H i).2.1 90 k = if k = d then ao_or (H.2.1 90 d) (ao_shl 1 (rmA b E H (i + 1))) else H.2.1 90 k := fun k => by
      rw [e51 90 k (by omega), eG]
      unfold toH
      rw [hd, show ((d : Int)).toNat = d by omega, set_nn (by omega)]
      by_cases g : k = d
      · subst g; rw [set_eq, if_pos rfl]
      · rw [set_nn (by omega), if_neg g]
    have e85 : (stH b E H i).2.1 85 1 = H.2.1 85 1 + 1 := by
      rw [e51 85 1 (by omega), eG]
      unfold toH
      rw [set_eq]
    have eo : ∀ a k, ¬ a = 90 → ¬ (a = 85 ∧ k = 1) → ¬ (a = 55 ∧ k = 51) → (stH b E H i).2.1 a k = H.2.1 a k := fun a k h1 h2 h3 => by
      rw [e51 a k h3, eG]
      unfold toH
      rw [set_nn (by omega), set_nn (by omega)]
    have er : ∀ wh, rlN (stH b E H i) wh = rlN H wh := rlN_eq (fun a k h1 h2 => eo a k (by omega) (by omega) (by omega))
    refine ⟨hT, hzj, RG_eq (fun a k h1 h2 => eo a k (by omega) (by omega) (by omega)) (eo 55 50 (by omega) (by omega) (by omega)) hR, by rw [eo 92 0 (by omega) (by omega) (by omega), eo 92 1 (by omega) (by omega) (by omega)]; exact hS, ⟨?_, fun k hk hk2 => ?_, fun k hk => ?_, ?_⟩, fun wh hw => by rw [er wh, eo 93 wh (by omega) (by omega) (by omega)]; exact hO wh hw, by rw [er 0]; exact hNn⟩
    · rw [e90, if_neg (by omega)]; exact t1
    · rw [eo 85 4 (by omega) (by omega) (by omega)] at hk2
      rw [e90, if_neg (by omega)]
      exact t2 k hk hk2
    · rw [e90]
      split
      · exact hx.2.1
      · exact t3 k hk
    · rw [e85]
      have e9 := sumN_up (f := fun k => bc (H.2.1 90 (k + 1))) (g := fun k => bc ((stH b E H i).2.1 90 (k + 1))) (d := d - 1) 90 (fun k hk hn => by
        show bc ((stH b E H i).2.1 90 (k + 1)) = bc (H.2.1 90 (k + 1))
        rw [e90, if_neg (by omega)])
      rw [e9, if_pos (by omega), e90, if_pos (by omega), show d - 1 + 1 = d by omega]
      have := hx.2.2
      omega
  by_cases k2 : zK b E i = 134
  · have eG : stG b E H i = rmH b E H (i + 1) := by unfold stG; rw [if_neg k0, if_neg k1, if_pos k2]
    refine h.same hT hzj (fun a k ha => ?_)
    rw [e51 a k (by omega), eG]
    unfold rmH
    rw [set_nn (by omega), set_nn (by omega)]
  by_cases k3 : zK b E i = 135
  · have eG : stG b E H i = frH b E H (i + 1) := by unfold stG; rw [if_neg k0, if_neg k1, if_neg k2, if_pos k3]
    refine h.same hT hzj (fun a k ha => ?_)
    rw [e51 a k (by omega), eG]
    unfold frH
    rw [set_nn (by omega), set_nn (by omega), set_nn (by omega)]
  by_cases k4 : zK b E i = 137
  · have eR : stR b E H i = cdF b E H 0 (zP b E i : Int) (i + 1) := by unfold stR; rw [if_neg k0, if_neg k1, if_neg k2, if_neg k3, if_pos k4]
    have eG : stG b E H i = cdH H 0 (cdC b E 0 (i + 1)) := by unfold stG; rw [if_neg k0, if_neg k1, if_neg k2, if_neg k3, if_pos k4]
    rw [eR] at hl
    obtain ⟨g1, q, g2, -⟩ := cdF_at hl
    have hc := cd_ok hE (Or.inl rfl) hz1 g2
    rw [← cdC_at g2] at hc
    exact GH_cd 0 (by decide) h hT hzj hc.2.2.2 g1 hc.2.1 (fun _ => hc.2.2.1 rfl) (fun a k ha => by rw [e51 a k ha, eG]; rfl)
  by_cases k5 : zK b E i = 138
  · have eR : stR b E H i = cdF b E H 1 (zP b E i : Int) (i + 1) := by unfold stR; rw [if_neg k0, if_neg k1, if_neg k2, if_neg k3, if_neg k4, if_pos k5]
    have eG : stG b E H i = cdH H 1 (cdC b E 1 (i + 1)) := by unfold stG; rw [if_neg k0, if_neg k1, if_neg k2, if_neg k3, if_neg k4, if_pos k5]
    rw [eR] at hl
    obtain ⟨g1, q, g2, -⟩ := cdF_at hl
    have hc := cd_ok hE (Or.inr rfl) hz1 g2
    rw [← cdC_at g2] at hc
    exact GH_cd 1 (by decide) h hT hzj hc.2.2.2 g1 hc.2.1 (fun z => absurd z (by decide)) (fun a k ha => by rw [e51 a k ha, eG]; rfl)
  have low : ∀ (x : Nat) (v : Int), x < 2 → (stG b E H i = am_setN H 92 x v) → (0 ≤ v ∧ v ≤ (if x = 0 then 100 else 1000)) → GH b E (stH b E H i) j := fun x v hx eG hv => by
    obtain ⟨-, -, hR, hS, ⟨t1, t2, t3, t4⟩, hO, hNn⟩ := h
    have eo : ∀ a k, ¬ (a = 92 ∧ k = x) → ¬ (a = 55 ∧ k = 51) → (stH b E H i).2.1 a k = H.2.1 a k := fun a k h1 h2 => by
      rw [e51 a k h2, eG, set_nn (by omega)]
    have ex : (stH b E H i).2.1 92 x = v := by rw [e51 92 x (by omega), eG, set_eq]
    have er : ∀ wh, rlN (stH b E H i) wh = rlN H wh := rlN_eq (fun a k h1 h2 => eo a k (by omega) (by omega))
    have e90 : ∀ k, (stH b E H i).2.1 90 k = H.2.1 90 k := fun k => eo 90 k (by omega) (by omega)
    refine ⟨hT, hzj, RG_eq (fun a k h1 h2 => eo a k (by omega) (by omega)) (eo 55 50 (by omega) (by omega)) hR, ?_, ?_, fun wh hw => by rw [er wh, eo 93 wh (by omega) (by omega)]; exact hO wh hw, by rw [er 0]; exact hNn⟩
    · by_cases g : x = 0
      · subst g
        rw [ex, eo 92 1 (by omega) (by omega)]
        rw [if_pos rfl] at hv
        exact ⟨hv, hS.2⟩
      · have g1 : x = 1 := by omega
        subst g1
        rw [ex, eo 92 0 (by omega) (by omega)]
        rw [if_neg g] at hv
        exact ⟨hS.1, hv⟩
    · simp only [e90, eo 85 4 (by omega) (by omega), eo 85 1 (by omega) (by omega)]
      exact ⟨t1, t2, t3, t4⟩
  by_cases k6 : zK b E i = 139
  · have eR : stR b E H i = nuF b E 0 100 (.inl (i + 1)) := by unfold stR; rw [if_neg k0, if_neg k1, if_neg k2, if_neg k3, if_neg k4, if_neg k5, if_pos k6]
    have eG : stG b E H i = am_setN H 92 0 (zV b E (i + 1)) := by unfold stG; rw [if_neg k0, if_neg k1, if_neg k2, if_neg k3, if_neg k4, if_neg k5, if_pos k6]
    rw [eR] at hl
    exact low 0 _ (by decide) eG (nu_r (q := .inl (i + 1)) hl)
  · have eR : stR b E H i = nuF b E 0 1000 (akF b E 12 (.inl i)) := by unfold stR; rw [if_neg k0, if_neg k1, if_neg k2, if_neg k3, if_neg k4, if_neg k5, if_neg k6]
    have eG : stG b E H i = am_setN H 92 1 (vZ b E (akF b E 12 (.inl i))) := by unfold stG; rw [if_neg k0, if_neg k1, if_neg k2, if_neg k3, if_neg k4, if_neg k5, if_neg k6]
    rw [eR] at hl
    exact low 1 _ (by decide) eG (nu_r hl)
theorem GH_run {b : Nat → Int} {E : Nat} (hE : E ≤ 1600) : ∀ (f : Nat) (H K : am_H) (p : Nat ⊕ (Int × Int)), (∀ i, p = .inl i → GH b E H i) → tnF b E f H p = .inl K → ∃ j, GH b E K j
  | 0, H, K, p, _, h => by
    cases p <;> exact absurd h (by simp [tnF])
  | f + 1, H, K, .inr e, _, h => absurd (show (Sum.inr e : am_H ⊕ (Int × Int)) = .inl K from h) (by simp)
  | f + 1, H, K, .inl i, hG, h => by
    have h1 := hG i rfl
    have h2 : (if zK b E i = 6 then (.inl H : am_H ⊕ (Int × Int)) else tnF b E f (stH b E H i) (stF b E H i)) = .inl K := h
    by_cases g : zK b E i = 6
    · rw [if_pos g] at h2
      have e := Sum.inl.inj h2
      subst e
      exact ⟨i, h1⟩
    · rw [if_neg g] at h2
      exact GH_run hE f (stH b E H i) K (stF b E H i) (fun j hj => GH_on hE h1 g hj) h2
theorem GH_0 {b : Nat → Int} {E : Nat} (hE : E ≤ 1600) (S : am_H) {i : Nat} (h : dyF b E (.inl 0) = .inl i) : GH b E (t0H S (vZ b E (akF b E 0 (.inl 0)))) i := by
  have hl : (nuF b E 5 90 (akF b E 0 (.inl 0))).isLeft = true := sgF_l (c := 59) (by
    have h9 : sgF b E 59 (nuF b E 5 90 (akF b E 0 (.inl 0))) = .inl i := h
    rw [h9]; rfl)
  have hv := nu_r hl
  have hz : iZ b E (dyF b E (.inl 0)) := by
    unfold dyF
    exact sgF_i (by decide) (nuF_i (akF_i (p := .inl 0) (Nat.zero_le _)))
  rw [h] at hz
  obtain ⟨⟨a0, a1, a2, a3, a4⟩, h90, h92, h93, -⟩ := t0_v S (vZ b E (akF b E 0 (.inl 0)))
  have e50 : (t0H S (vZ b E (akF b E 0 (.inl 0)))).2.1 55 50 = 0 := rfl
  have e51 : (t0H S (vZ b E (akF b E 0 (.inl 0)))).2.1 55 51 = 1 := rfl
  have er : ∀ wh, wh < 2 → rlN (t0H S (vZ b E (akF b E 0 (.inl 0)))) wh = [] := fun wh hw => by
    unfold rlN
    rw [if_pos (h93 wh hw)]
  refine ⟨⟨by omega, by omega, by omega, by omega, by omega, by omega, by omega⟩, hz, ⟨by omega, fun wh hw => Or.inl (h93 wh hw)⟩, by rw [h92.1, h92.2]; omega, ⟨h90 0 (by decide), fun d hd _ => h90 d hd, fun d hd => by rw [h90 d hd]; omega, ?_⟩, fun wh hw => Or.inr (h93 wh hw), by rw [er 0 (by decide)]; intro v hv9; cases hv9⟩
  rw [sumN_cg (g := fun _ => 0) 90 (fun d hd => by rw [h90 (d + 1) (by omega)]; exact bc_0), sumN_z, a1]
  exact Int.le_refl 0
theorem GH_tn {b : Nat → Int} {E : Nat} (hE : E ≤ 1600) {S H : am_H} (h : tnR b E S = .inl H) : ∃ j, GH b E H j :=
  GH_run hE 80 _ H _ (fun i hi => GH_0 hE S hi) h
/-- what a town's reading writes -/
def W_y9 (a j : Nat) : Prop := (85 ≤ a ∧ a ≤ 95) ∨ (a = 55 ∧ (j = 50 ∨ j = 51))
theorem stH_fr9 (b : Nat → Int) (E : Nat) (H : am_H) (i : Nat) : frw W_y9 H (stH b E H i) := by
  have hG : frw W_y9 H (stG b E H i) := by
    unfold stG
    split
    · unfold peH; exact (((((frw.refl _ H).setN (by unfold W_y9; omega)).setN (by unfold W_y9; omega)).setN (by unfold W_y9; omega)).setN (by unfold W_y9; omega)).setN (by unfold W_y9; omega)
    split
    · unfold toH; exact ((frw.refl _ H).setN (by unfold W_y9; omega)).setN (by unfold W_y9; omega)
    split
    · unfold rmH; exact ((frw.refl _ H).setN (by unfold W_y9; omega)).setN (by unfold W_y9; omega)
    split
    · unfold frH; exact (((frw.refl _ H).setN (by unfold W_y9; omega)).setN (by unfold W_y9; omega)).setN (by unfold W_y9; omega)
    split
    · unfold cdH; exact ((((frw.refl _ H).setN (by unfold W_y9; omega)).setA (fun j => by unfold W_y9; omega)).setN (by unfold W_y9; omega)).setN (by unfold W_y9; omega)
    split
    · unfold cdH; exact ((((frw.refl _ H).setN (by unfold W_y9; omega)).setA (fun j => by unfold W_y9; omega)).setN (by unfold W_y9; omega)).setN (by unfold W_y9; omega)
    split
    · exact (frw.refl _ H).setN (by unfold W_y9; omega)
    · exact (frw.refl _ H).setN (by unfold W_y9; omega)
  unfold stH
  exact hG.setN (by unfold W_y9; omega)
theorem tnF_fr9 {b : Nat → Int} {E : Nat} : ∀ (f : Nat) (H K : am_H) (p : Nat ⊕ (Int × Int)), tnF b E f H p = .inl K → frw W_y9 H K
  | 0, H, K, p, h => by
    cases p <;> exact absurd h (by simp [tnF])
  | f + 1, H, K, .inr e, h => absurd (show (Sum.inr e : am_H ⊕ (Int × Int)) = .inl K from h) (by simp)
  | f + 1, H, K, .inl i, h => by
    have h2 : (if zK b E i = 6 then (.inl H : am_H ⊕ (Int × Int)) else tnF b E f (stH b E H i) (stF b E H i)) = .inl K := h
    by_cases g : zK b E i = 6
    · rw [if_pos g] at h2
      have e := Sum.inl.inj h2
      subst e
      exact frw.refl _ _
    · rw [if_neg g] at h2
      exact (stH_fr9 b E H i).trans (tnF_fr9 f (stH b E H i) K (stF b E H i) h2)
def W_y0 (a j : Nat) : Prop := W_y9 a j ∨ (a = 55 ∧ (j = 1 ∨ j = 3))
theorem t0H_fr9 (S : am_H) (d : Int) : frw W_y0 S (t0H S d) := by
  refine ⟨rfl, rfl, fun a j hn => ?_⟩
  unfold W_y0 W_y9 at hn
  show (if a = 85 ∧ j < 4 then 0 else if a = 85 ∧ j = 4 then d else if a = 90 ∧ j < 91 then 0 else if a = 92 ∧ j < 2 then 0 else if a = 93 ∧ j < 2 then -1 else if a = 55 ∧ j = 1 then 0 else if a = 55 ∧ j = 3 then S.2.1 55 1 else if a = 55 ∧ j = 50 then 0 else if a = 55 ∧ j = 51 then 1 else S.2.1 a j) = S.2.1 a j
  rw [if_neg (by omega), if_neg (by omega), if_neg (by omega), if_neg (by omega), if_neg (by omega), if_neg (by omega), if_neg (by omega), if_neg (by omega), if_neg (by omega)]
theorem tnR_fr9 {b : Nat → Int} {E : Nat} {S K : am_H} (h : tnR b E S = .inl K) : frw W_y0 S K ∧ K.2.1 55 1 = 0 := by
  have h1 := tnF_fr9 80 _ K _ h
  refine ⟨(t0H_fr9 S _).trans (h1.mono (fun a j z => Or.inl z)), ?_⟩
  rw [h1.2.2 55 1 (by unfold W_y9; omega)]
  rfl
