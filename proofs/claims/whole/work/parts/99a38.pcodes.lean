theorem facF_len {b : Nat → Int} {E : Nat} {tk : Int} {i : Nat} {rc : List Int} {o : Int} {q : Nat × List Int} (h : facF b E tk i rc o = .inl q) : q.2.length + i ≤ rc.length + q.1 := by
  unfold facF at h
  split at h
  · injection h with h; subst h
    show (13 :: rc).length + i ≤ rc.length + (i + 1)
    simp only [List.length_cons]; omega
  · split at h
    · exact absurd h (by simp)
    · rename_i q1 h1
      have l1 := smF_len _ _ _ _ _ _ rfl h1
      simp only [List.length_nil] at l1
      split at h
      · split at h
        · exact absurd h (by simp)
        · rename_i q2 h2
          have l2 := smF_len _ _ _ _ _ _ rfl h2
          simp only [List.length_nil] at l2
          injection h with h; subst h
          simp only [List.length_cons]; omega
      · exact absurd h (by simp)
theorem gcF_len {b : Nat → Int} {E : Nat} : ∀ (f i : Nat) (rc ws : List Int) (o : Int), okX false ws = true → okX false (gcF b E f i rc ws o).2.2.1 = true ∧ (gcF b E f i rc ws o).2.1.length + (gcF b E f i rc ws o).2.2.1.length + i ≤ rc.length + ws.length + (gcF b E f i rc ws o).1
  | 0, i, rc, ws, o, h => ⟨h, by show rc.length + ws.length + i ≤ rc.length + ws.length + i; omega⟩
  | f + 1, i, rc, ws, o, h => by
    rw [gcF_S]
    split
    · rename_i hc
      have h1 := gcE_ok (rc := rc) (o := o) h hc.2
      have h2 := gcF_len (b := b) (E := E) f (i + 1) (gcE rc ws o).1 (gcE rc ws o).2.1 (gcE rc ws o).2.2 h1.1
      exact ⟨h2.1, by omega⟩
    · exact ⟨h, by show rc.length + ws.length + i ≤ rc.length + ws.length + i; omega⟩
theorem ggF_len {b : Nat → Int} {E f i : Nat} {rc ws : List Int} {o : Int} {g : Int × QZ} (hk : okX false ws = true) (h : ggF b E f i rc ws o = .inl g) : okX false g.2.2.2.1 = true ∧ g.2.2.1.length + g.2.2.2.1.length + i ≤ rc.length + ws.length + g.2.1 := by
  have h1 := gcF_len (b := b) (E := E) f i rc ws o hk
  unfold ggF at h
  generalize gcF b E f i rc ws o = z at h h1
  obtain ⟨j, rc1, ws1, o1⟩ := z
  simp only at h h1
  unfold gxF at h
  split at h
  · injection h with h; subst h
    have h2 := okX_dr (p := pA) (fun w hw => by have := of_decide_eq_true hw; omega) ws1 rc1 h1.1
    have h3 := drF_len pA ws1 rc1
    refine ⟨?_, ?_⟩
    · show okX false (10 :: (drF pA rc1 ws1).2) = true
      unfold okX; rw [if_pos (Or.inl rfl)]; exact h2.2
    · show (drF pA rc1 ws1).1.length + (10 :: (drF pA rc1 ws1).2).length + i ≤ rc.length + ws.length + (j + 1)
      simp only [List.length_cons]; omega
  · split at h
    · injection h with h; subst h
      have h2 := okX_dr (p := pO) (fun w hw => by have := of_decide_eq_true hw; omega) ws1 rc1 h1.1
      have h3 := drF_len pO ws1 rc1
      refine ⟨?_, ?_⟩
      · show okX false (11 :: (drF pO rc1 ws1).2) = true
        unfold okX; rw [if_pos (Or.inr rfl)]; exact h2.2
      · show (drF pO rc1 ws1).1.length + (11 :: (drF pO rc1 ws1).2).length + i ≤ rc.length + ws.length + (j + 1)
        simp only [List.length_cons]; omega
    · split at h
      · exact absurd h (by simp)
      · injection h with h; subst h
        exact h1
theorem tsF_len {b : Nat → Int} {E : Nat} {tk : Int} : ∀ (f i : Nat) (rc ws : List Int) (o : Int) (q : Nat × List Int), okX true ws = true → tsF b E tk f i rc ws o = .inl q → q.2.length + i ≤ rc.length + ws.length + q.1
  | 0, _, _, _, _, q, _, h => by unfold tsF at h; exact absurd h (by simp)
  | f + 1, i, rc, ws, o, q, hk, h => by
    by_cases c1 : zK b E i = 91
    · rw [tsF_91 c1] at h
      split at h
      · exact absurd h (by simp)
      · have := tsF_len f (i + 1) rc (25 :: ws) (o + 1) q (by unfold okX; rw [if_neg (by decide), if_pos rfl]; exact hk) h
        simp only [List.length_cons] at this; omega
    · by_cases c2 : zK b E i = 151
      · rw [tsF_151 c2] at h
        split at h
        · exact absurd h (by simp)
        · have := tsF_len f (i + 1) rc (12 :: ws) (o + 1) q (by unfold okX; rw [if_neg (by decide), if_neg (by decide), if_pos rfl, hk]; rfl) h
          simp only [List.length_cons] at this; omega
      · cases hf : facF b E tk i rc o with
        | inr e => rw [tsF_bad1 c1 c2 hf] at h; exact absurd h (by simp)
        | inl q1 =>
          have l1 := facF_len hf
          have l2 := dnF_len ws q1.2 o
          have k2 := dnF_ok ws q1.2 o hk
          cases hg : ggF b E 2000 q1.1 (dnF q1.2 ws o).1 (dnF q1.2 ws o).2.1 (dnF q1.2 ws o).2.2 with
          | inr e => rw [tsF_bad2 c1 c2 hf hg] at h; exact absurd h (by simp)
          | inl g =>
            have l3 := ggF_len k2 hg
            rw [tsF_on c1 c2 hf hg] at h
            split at h
            · injection h with h; subst h
              show (daF g.2.2.1 g.2.2.2.1).length + i ≤ rc.length + ws.length + g.2.1
              rw [daF_len]; omega
            · have l4 := tsF_len f _ _ _ _ q (okX_mono _ l3.1) h
              omega
theorem RM_all (b : Nat → Int) (E : Nat) : RM b E := fun wh i q h => by
  have := tsF_len 1700 i [] [] 0 q rfl h
  simp only [List.length_nil] at this
  omega
/-- what a rule's codes are -/
theorem tyR_cons {tk v : Int} {ts t : List Bool} {cs : List Int} (h : tyR tk ts (v :: cs) = some t) : ∃ t1, ty2 tk ts v = some t1 ∧ t1.length ≤ 60 ∧ tyR tk t1 cs = some t := by
  simp only [tyR] at h
  split at h
  · rename_i t1 h1
    split at h
    · rename_i h2
      exact ⟨t1, h1, h2, h⟩
    · exact absurd h (by simp)
  · exact absurd h (by simp)
theorem okT_of {tk : Int} (htk : ¬ tk = 2) : ∀ (cs : List Int) (ts : List Bool), tyR tk ts cs = some [true] → okT cs ts = true
  | [], ts, h => by
    have : ts = [true] := Option.some.inj h
    rw [this]; rfl
  | v :: cs, ts, h => by
    obtain ⟨t1, h1, h2, h3⟩ := tyR_cons h
    unfold ty2 at h1
    split at h1
    · exact absurd h1 (by simp)
    · unfold okT
      rw [h1]
      simp only [decide_eq_true h2, Bool.true_and]
      exact okT_of htk cs t1 h3
theorem okQ_of : ∀ (cs : List Int) (ts t : List Bool), t.length = 1 → tyR 2 ts cs = some t → okQ cs ts = true
  | [], ts, t, ht, h => by
    have : ts = t := Option.some.inj h
    rw [this]; unfold okQ; rw [ht]; rfl
  | v :: cs, ts, t, ht, h => by
    obtain ⟨t1, h1, h2, h3⟩ := tyR_cons h
    unfold ty2 at h1
    split at h1
    · exact absurd h1 (by simp)
    · rw [if_pos rfl] at h1
      unfold okQ
      rw [h1]
      simp only [decide_eq_true h2, Bool.true_and]
      exact okQ_of cs t1 t ht h3
theorem no_47 : ∀ (cs : List Int) (ts t : List Bool), tyR 0 ts cs = some t → ∀ v ∈ cs, ¬ v = 47
  | [], _, _, _, v, hv => absurd hv (by simp)
  | w :: cs, ts, t, h, v, hv => by
    obtain ⟨t1, h1, h2, h3⟩ := tyR_cons h
    rcases List.mem_cons.mp hv with hv | hv
    · subst hv
      intro h47
      unfold ty2 at h1
      rw [if_pos (Or.inl ⟨rfl, h47⟩)] at h1
      exact absurd h1 (by simp)
    · exact no_47 cs t1 t h3 v hv
theorem no_4567 : ∀ (cs : List Int) (ts t : List Bool), tyR 2 ts cs = some t → ∀ v ∈ cs, ¬ (45 ≤ v ∧ v ≤ 47)
  | [], _, _, _, v, hv => absurd hv (by simp)
  | w :: cs, ts, t, h, v, hv => by
    obtain ⟨t1, h1, h2, h3⟩ := tyR_cons h
    rcases List.mem_cons.mp hv with hv | hv
    · subst hv
      intro h47
      unfold ty2 at h1
      rw [if_pos (Or.inr ⟨rfl, h47⟩)] at h1
      exact absurd h1 (by simp)
    · exact no_4567 cs t1 t h3 v hv
/-- a whole rule, as it is read from its first place -/
theorem test_0 {b : Nat → Int} {E : Nat} {tk : Int} (hE : E ≤ 1600) (htk : tk = 0 ∨ tk = 1 ∨ tk = 2) (i : Nat) (hi : i ≤ zP b E i) :
  RS b E [] 0 (i + 1) 0 (fun j cs => tyR tk [] cs = some [true] ∧ tsF b E tk 1700 i [] [] 0 = .inl (j, cs.reverse)) (fun e => tsF b E tk 1700 i [] [] 0 = .inr e) (testB b E (factX b E tk 6) (.inl (i, [], 0))) := by
  have hs := test_eq hE htk 6 i [] 0 (by decide) (by decide) (Nat.zero_le _) hi
  cases hr : testB b E (factX b E tk 6) (.inl (i, [], 0)) with
  | inr q =>
    rw [hr] at hs
    obtain ⟨m, hm, hf⟩ := hs
    have h9 := hf (1700 - (m + 1))
    rw [show 1700 - (m + 1) + m + 1 = 1700 by omega] at h9
    exact h9
  | inl q =>
    rw [hr] at hs
    obtain ⟨ho1, hL, ns, hcs, hT, m, hm, hf⟩ := hs
    have hzj := zP_rng b E q.1
    have h9 := hf (1700 - (m + 1))
    rw [show 1700 - (m + 1) + m + 1 = 1700 by omega] at h9
    exact ⟨ho1, hL, ns, hcs, hT [] (by decide), h9⟩
theorem sum_0 {b : Nat → Int} {E : Nat} {tk : Int} (hE : E ≤ 1600) (htk : tk = 0 ∨ tk = 1 ∨ tk = 2) (i : Nat) (hi : i ≤ zP b E i) :
  RS b E [] 0 (i + 1) 0 (fun j cs => tyR tk [] cs = some [false] ∧ smF b E tk 1700 i [] [] 0 = .inl (j, cs.reverse)) (fun e => smF b E tk 1700 i [] [] 0 = .inr e) (sumB b E (partX b E tk 6) (.inl (i, [], 0))) := by
  have hs := sum_eq hE htk 6 i [] 0 (by decide) (by decide) (Nat.zero_le _) hi
  cases hr : sumB b E (partX b E tk 6) (.inl (i, [], 0)) with
  | inr q =>
    rw [hr] at hs
    obtain ⟨m, hm, hf⟩ := hs
    have h9 := hf (1700 - (m + 1))
    rw [show 1700 - (m + 1) + m + 1 = 1700 by omega] at h9
    exact h9
  | inl q =>
    rw [hr] at hs
    obtain ⟨ho1, hL, ns, hcs, hT, m, hm, hf⟩ := hs
    have hzj := zP_rng b E q.1
    have h9 := hf (1700 - (m + 1))
    rw [show 1700 - (m + 1) + m + 1 = 1700 by omega] at h9
    exact ⟨ho1, hL, ns, hcs, hT [] (by decide), h9⟩
