/-- where a rule's codes may lie -/
def cdC0 (c : Nat) : Prop := c = 12 ∨ c = 14 ∨ c = 24 ∨ c = 26 ∨ 131 ≤ c
/-- the two rules of a town: their codes lie apart -/
def CDt (t : Nat) (σ : am_H) : Prop := ∃ c m d k : Nat, (σ.2.2 (t + 8) 0 = some c ∧ σ.1[c]? = some (11, m) ∧ cdC0 c ∧ m < 2000000) ∧ (σ.2.2 (t + 10) 0 = some d ∧ σ.1[d]? = some (11, k) ∧ cdC0 d ∧ k < 2000000) ∧ ¬ c = d
/-- what reading a town leaves as it is -/
def GFR (t : Nat) (σ τ : am_H) : Prop := (∃ ext, τ.1 = σ.1 ++ ext) ∧ (∀ r, r = t + 8 ∨ r = t + 10 → τ.2.2 r 0 = σ.2.2 r 0 ∨ ∃ c, τ.2.2 r 0 = some c ∧ σ.1.length ≤ c) ∧ (∀ a j, a < σ.1.length → ¬ (t ≤ a ∧ a ≤ t + 11) → ¬ (27 ≤ a ∧ a ≤ 31) → ¬ σ.2.2 (t + 8) 0 = some a → ¬ σ.2.2 (t + 10) 0 = some a → τ.2.1 a j = σ.2.1 a j) ∧ ∀ a j, a < σ.1.length → ¬ (a = 27 ∧ j = 2) → ¬ ((a = t + 8 ∨ a = t + 10) ∧ j = 0) → τ.2.2 a j = σ.2.2 a j
theorem GFR.refl (t : Nat) (σ : am_H) : GFR t σ σ := ⟨⟨[], by simp⟩, fun _ _ => Or.inl rfl, fun _ _ _ _ _ _ _ => rfl, fun _ _ _ _ _ => rfl⟩
theorem GFR.len {t : Nat} {σ τ : am_H} (h : GFR t σ τ) : σ.1.length ≤ τ.1.length := by
  obtain ⟨e, he⟩ := h.1
  rw [he, List.length_append]
  omega
theorem GFR.trans {t : Nat} {σ τ υ : am_H} (h1 : GFR t σ τ) (h2 : GFR t τ υ) : GFR t σ υ := by
  have hl := h1.len
  obtain ⟨⟨e1, x1⟩, r1, n1, f1⟩ := h1
  obtain ⟨⟨e2, x2⟩, r2, n2, f2⟩ := h2
  refine ⟨⟨e1 ++ e2, by rw [x2, x1, List.append_assoc]⟩, fun r hr => ?_, fun a j ha h3 h4 h5 h6 => ?_, fun a j ha h3 h4 => ?_⟩
  · rcases r2 r hr with h | ⟨c, h, hc⟩
    · rcases r1 r hr with g | ⟨c, g, hc⟩
      · exact Or.inl (h.trans g)
      · exact Or.inr ⟨c, h.trans g, hc⟩
    · exact Or.inr ⟨c, h, by omega⟩
  · have k : ∀ r, r = t + 8 ∨ r = t + 10 → ¬ σ.2.2 r 0 = some a → ¬ τ.2.2 r 0 = some a := fun r hr hn hz => by
      rcases r1 r hr with g | ⟨c, g, hc⟩
      · exact hn (g.symm.trans hz)
      · rw [g] at hz
        have := Option.some.inj hz
        omega
    exact (n2 a j (by omega) h3 h4 (k _ (Or.inl rfl) h5) (k _ (Or.inr rfl) h6)).trans (n1 a j ha h3 h4 h5 h6)
  · exact (f2 a j (by omega) h3 h4).trans (f1 a j ha h3 h4)
theorem GFR.of {W : Nat → Nat → Prop} {t : Nat} {σ τ : am_H} (h : frw W σ τ) (hW : ∀ a j, W a j → (t ≤ a ∧ a ≤ t + 11) ∨ (27 ≤ a ∧ a ≤ 31)) : GFR t σ τ := by
  refine ⟨⟨[], by rw [h.1]; simp⟩, fun r _ => Or.inl (by rw [h.2.1]), fun a j _ h3 h4 _ _ => h.2.2 a j (fun hw => (hW a j hw).elim h3 h4), fun a j _ _ _ => by rw [h.2.1]⟩
theorem len131 {σ : am_H} (hL : lay σ) : 131 ≤ σ.1.length := by
  have h130 := hL.1 130 (by decide)
  by_cases h : 131 ≤ σ.1.length
  · exact h
  · rw [List.getElem?_eq_none (show σ.1.length ≤ 130 by omega)] at h130
    exact absurd h130 (by decide)
theorem lt_of_at {l : List (Nat × Nat)} {a : Nat} {q : Nat × Nat} (h : l[a]? = some q) : a < l.length := by
  by_cases g : a < l.length
  · exact g
  · rw [List.getElem?_eq_none (by omega)] at h
    exact absurd h (by simp)
theorem CR.old {r s : Nat} {σ τ : am_H} (h : CR r s σ τ) {a : Nat} {q : Nat × Nat} (ha : σ.1[a]? = some q) : τ.1[a]? = some q := by
  obtain ⟨c, c', m', _, _, _, _, _, _, h8, _⟩ := h
  rcases h8 with ⟨_, e⟩ | ⟨_, e⟩
  · rw [e]; exact ha
  · rw [e, List.getElem?_append_left (lt_of_at ha)]; exact ha
theorem CDt.fr {W : Nat → Nat → Prop} {t : Nat} {σ τ : am_H} (h : CDt t σ) (hF : frw W σ τ) : CDt t τ := by
  unfold CDt
  rw [hF.1, hF.2.1]
  exact h
theorem RT_no5 : RT.all (fun q => decide (¬ ((q.1 = 11 ∨ q.1 = 13 ∨ q.1 = 23 ∨ q.1 = 25) ∧ q.2.1 = 0) ∧ q.1 < 131)) = true := by decide +kernel
theorem CR_lay {r s : Nat} {σ τ : am_H} (h : CR r s σ τ) (hL : lay σ) (hr : r = 11 ∨ r = 13 ∨ r = 23 ∨ r = 25): lay τ := by
  have h2 := h
  obtain ⟨c, c', m', h3, _, _, _, _, _, h8, _, h10⟩ := h
  refine ⟨fun k hk => ?_, fun i q hq => ?_⟩
  · have := hL.1 k hk
    rcases h8 with ⟨_, e⟩ | ⟨_, e⟩
    · rw [e]; exact this
    · rw [e, List.getElem?_append_left (by have := len131 hL; omega)]; exact this
  · have hm : q ∈ RT := List.mem_of_getElem? hq
    have h5 := of_decide_eq_true (List.all_eq_true.mp RT_no5 q hm)
    have hlen := len131 hL
    rw [h10 q.1 q.2.1 (by omega) (by omega)]
    exact hL.2 i q hq
/-- what becomes of the town's rules -/
theorem CR.cd {t wh s : Nat} {σ τ : am_H} (ht : t = 3 ∨ t = 15) (hw : wh = 0 ∨ wh = 1) (h : CR (t + 8 + 2 * wh) s σ τ) (hL : lay σ) (hC : CDt t σ) : lay τ ∧ CDt t τ ∧ GFR t σ τ := by
  have hlen := len131 hL
  obtain ⟨c, m, d, k, ⟨a1, a2, a3, a4⟩, ⟨b1, b2, b3, b4⟩, hcd⟩ := hC
  have hcl := lt_of_at a2
  have hdl := lt_of_at b2
  have hcr : ∀ z, σ.2.2 (t + 8 + 2 * wh) 0 = some z → cdC0 z := fun z hz => by
    rcases hw with rfl | rfl
    · have : c = z := Option.some.inj (a1.symm.trans hz)
      rw [← this]; exact a3
    · have : d = z := Option.some.inj (b1.symm.trans hz)
      rw [← this]; exact b3
  have hl2 := CR_lay h hL (by omega)
  have hold := fun {a q} => @CR.old _ _ _ _ h a q
  obtain ⟨x, c', m', h3, h4, h5, h6, h7, h7b, h8, h9, h10⟩ := h
  have hx := hcr x h3
  have hxl : x < σ.1.length := by
    rcases hw with rfl | rfl
    · have : c = x := Option.some.inj (a1.symm.trans h3)
      omega
    · have : d = x := Option.some.inj (b1.symm.trans h3)
      omega
  have hc'0 : cdC0 c' := by
    rcases h8 with ⟨e, _⟩ | ⟨e, _⟩
    · rw [e]; exact hx
    · unfold cdC0; omega
  have hext : ∃ ext, τ.1 = σ.1 ++ ext := by
    rcases h8 with ⟨_, e⟩ | ⟨_, e⟩
    · exact ⟨[], by rw [e]; simp⟩
    · exact ⟨_, e⟩
  unfold cdC0 at hx hc'0 a3 b3
  have hcc : c' = x ∨ c' = σ.1.length := h8.elim (fun z => Or.inl z.1) (fun z => Or.inr z.1)
  refine ⟨hl2, ?_, hext, fun r hr => ?_, fun a j ha g3 g4 g5 g6 => ?_, fun a j ha g3 g4 => ?_⟩
  · rcases hw with rfl | rfl
    · have e1 : c = x := Option.some.inj (a1.symm.trans h3)
      exact ⟨c', m', d, k, ⟨h4, h5, hc'0, h6.2⟩, ⟨(h10 _ _ (by omega) (by omega)).trans b1, hold b2, b3, b4⟩, by omega⟩
    · have e1 : d = x := Option.some.inj (b1.symm.trans h3)
      exact ⟨c, m, c', m', ⟨(h10 _ _ (by omega) (by omega)).trans a1, hold a2, a3, a4⟩, ⟨h4, h5, hc'0, h6.2⟩, by omega⟩
  · by_cases g : r = t + 8 + 2 * wh
    · rw [g]
      rcases hcc with e | e
      · left; rw [h4, h3, e]
      · right; exact ⟨c', h4, by omega⟩
    · exact Or.inl (h10 r 0 (by omega) (by omega))
  · refine h9 a j (by omega) (fun e => ?_)
    rcases hcc with e2 | e2
    · rcases hw with rfl | rfl
      · exact g5 (by rw [show t + 8 = t + 8 + 2 * 0 by omega, h3]; rw [e, e2])
      · exact g6 (by rw [show t + 10 = t + 8 + 2 * 1 by omega, h3]; rw [e, e2])
    · omega
  · exact h10 a j (by omega) ha
