theorem set_nn {σ : am_H} {a j c k : Nat} {x : Int} (h : ¬ (c = a ∧ k = j)) : (am_setN σ a j x).2.1 c k = σ.2.1 c k := if_neg h
theorem dig_inj {B : Int} (hB : 26 < B) : ∀ l m : List Int, (∀ x ∈ l, 1 ≤ x ∧ x ≤ 26) → (∀ x ∈ m, 1 ≤ x ∧ x ≤ 26) → l.foldr (fun x a => B * a + x) 0 = m.foldr (fun x a => B * a + x) 0 → l = m := by
  have nn : ∀ l : List Int, (∀ x ∈ l, 1 ≤ x ∧ x ≤ 26) → 0 ≤ l.foldr (fun x a => B * a + x) 0 := by
    intro l
    induction l with
    | nil => intro _; exact Int.le_refl 0
    | cons x t ih =>
      intro h
      have h1 := ih (fun y hy => h y (List.mem_cons_of_mem _ hy))
      have h2 := h x List.mem_cons_self
      have h3 : 0 ≤ B * t.foldr (fun x a => B * a + x) 0 := Int.mul_nonneg (by omega) h1
      show 0 ≤ B * t.foldr (fun x a => B * a + x) 0 + x
      omega
  intro l
  induction l with
  | nil =>
    intro m h1 h2 h3
    cases m with
    | nil => rfl
    | cons y s =>
      have h4 := nn s (fun z hz => h2 z (List.mem_cons_of_mem _ hz))
      have h5 := h2 y List.mem_cons_self
      have h6 : 0 ≤ B * s.foldr (fun x a => B * a + x) 0 := Int.mul_nonneg (by omega) h4
      have h7 : (0 : Int) = B * s.foldr (fun x a => B * a + x) 0 + y := h3
      omega
  | cons x t ih =>
    intro m h1 h2 h3
    cases m with
    | nil =>
      have h4 := nn t (fun z hz => h1 z (List.mem_cons_of_mem _ hz))
      have h5 := h1 x List.mem_cons_self
      have h6 : 0 ≤ B * t.foldr (fun x a => B * a + x) 0 := Int.mul_nonneg (by omega) h4
      have h7 : B * t.foldr (fun x a => B * a + x) 0 + x = 0 := h3
      omega
    | cons y s =>
      have hx := h1 x List.mem_cons_self
      have hy := h2 y List.mem_cons_self
      have h7 : B * t.foldr (fun x a => B * a + x) 0 + x = B * s.foldr (fun x a => B * a + x) 0 + y := h3
      have h8 : B * (t.foldr (fun x a => B * a + x) 0 - s.foldr (fun x a => B * a + x) 0) = y - x := by rw [Int.mul_sub]; omega
      have h9 : t.foldr (fun x a => B * a + x) 0 - s.foldr (fun x a => B * a + x) 0 = 0 := by
        generalize t.foldr (fun x a => B * a + x) 0 - s.foldr (fun x a => B * a + x) 0 = u at h8
        by_cases c1 : 1 ≤ u
        · have := Int.mul_le_mul_of_nonneg_left c1 (show 0 ≤ B by omega)
          omega
        · by_cases c2 : u ≤ -1
          · have := Int.mul_le_mul_of_nonneg_left c2 (show 0 ≤ B by omega)
            omega
          · omega
      rw [h9] at h8
      have h10 : x = y := by rw [Int.mul_zero] at h8; omega
      rw [h10, ih s (fun z hz => h1 z (List.mem_cons_of_mem _ hz)) (fun z hz => h2 z (List.mem_cons_of_mem _ hz)) (by omega)]
theorem nmR_inj {c m c' m' : Int} (h : nmR c m) (h' : nmR c' m') : c = c' ↔ m = m' := by
  obtain ⟨l, _, l2, l3, l4⟩ := h
  obtain ⟨s, _, s2, s3, s4⟩ := h'
  have e : ∀ z : List Int, z.foldl (fun a x => 27 * a + x) 0 = z.reverse.foldr (fun x a => 27 * a + x) 0 := fun z => by rw [List.foldr_reverse]
  constructor
  · intro hc
    have : l = s := dig_inj (B := 32) (by decide) l s l2 s2 (by rw [← l4, ← s4]; exact hc)
    rw [l3, s3, this]
  · intro hm
    have : l.reverse = s.reverse := dig_inj (B := 27) (by decide) _ _ (fun x hx => l2 x (List.mem_reverse.mp hx)) (fun x hx => s2 x (List.mem_reverse.mp hx)) (by rw [← e, ← e, ← l3, ← s3]; exact hm)
    have h2 : l = s := by rw [← List.reverse_reverse l, this, List.reverse_reverse]
    rw [l4, s4, h2]
/-- frost, as told in the reading half -/
def frN (H : am_H) (d : Int) : Bool := anyB (fun k => decide (H.2.1 91 (2 * k) ≤ d ∧ d ≤ H.2.1 91 (2 * k) + H.2.1 91 (2 * k + 1) - 1)) (H.2.1 85 3).toNat
/-- the spare town t of σ is what the reading half of H tells -/
def TRa (t : Nat) (σ H : am_H) : Prop := σ.2.1 t 0 = H.2.1 85 4 ∧ σ.2.1 t 1 = H.2.1 55 51 ∧ σ.2.1 t 2 = H.2.1 85 0 ∧ σ.2.1 t 3 = H.2.1 85 1 ∧ σ.2.1 t 4 = H.2.1 85 2 ∧ σ.2.1 t 5 = H.2.1 85 3 ∧ σ.2.1 t 6 = H.2.1 92 0 ∧ σ.2.1 t 7 = H.2.1 92 1
def TRn (t : Nat) (σ H : am_H) : Prop := ∀ p : Nat, (p : Int) < H.2.1 85 0 → nmR (σ.2.1 (t + 1) p) (H.2.1 86 p) ∧ σ.2.1 (t + 2) p = H.2.1 87 p ∧ σ.2.1 (t + 3) p = H.2.1 88 p
def TRm (t : Nat) (σ H : am_H) : Prop := ∀ p : Nat, p < 8 → σ.2.1 (t + 4) p = (if (p : Int) < H.2.1 85 0 then H.2.1 89 p else 0) ∧ (0 ≤ σ.2.1 (t + 4) p ∧ σ.2.1 (t + 4) p < 256) ∧ (0 ≤ σ.2.1 (t + 5) p ∧ σ.2.1 (t + 5) p < 256) ∧ ∀ q : Nat, q < 8 → tb (σ.2.1 (t + 5) p) q = tb (σ.2.1 (t + 4) q) p
def TRt (t : Nat) (σ H : am_H) : Prop := ∀ d : Nat, d < 91 → σ.2.1 (t + 6) d = H.2.1 90 d ∧ 0 ≤ H.2.1 90 d ∧ H.2.1 90 d < 256
def TRf (t : Nat) (σ H : am_H) : Prop := ∀ d : Nat, d < 91 → 1 ≤ d → (d : Int) ≤ H.2.1 85 4 → σ.2.1 (t + 7) d = if frN H (d : Int) = true then 1 else 0
def TRr (t : Nat) (σ H : am_H) : Prop := TRa t σ H ∧ TRn t σ H ∧ TRm t σ H ∧ TRt t σ H ∧ TRf t σ H
theorem TRr.fr {W : Nat → Nat → Prop} {t : Nat} {σ τ H : am_H} (h : TRr t σ H) (hF : frw W σ τ) (hW : ∀ a j, t ≤ a ∧ a ≤ t + 7 → ¬ W a j) : TRr t τ H := by
  obtain ⟨h1, h2, h3, h4, h5⟩ := h
  have e : ∀ k j, k ≤ 7 → τ.2.1 (t + k) j = σ.2.1 (t + k) j := fun k j hk => hF.2.2 _ _ (hW _ _ (by omega))
  refine ⟨?_, fun p hp => ?_, fun p hp => ?_, fun d hd => ?_, fun d hd a1 a2 => ?_⟩
  · unfold TRa at h1 ⊢
    have e0 : ∀ j, τ.2.1 t j = σ.2.1 t j := fun j => e 0 j (by decide)
    rw [e0, e0, e0, e0, e0, e0, e0, e0]
    exact h1
  · rw [e 1 _ (by decide), e 2 _ (by decide), e 3 _ (by decide)]; exact h2 p hp
  · rw [e 4 _ (by decide), e 5 _ (by decide)]
    refine ⟨(h3 p hp).1, (h3 p hp).2.1, (h3 p hp).2.2.1, fun q hq => ?_⟩
    rw [e 4 _ (by decide)]; exact (h3 p hp).2.2.2 q hq
  · rw [e 6 _ (by decide)]; exact h4 d hd
  · rw [e 7 _ (by decide)]; exact h5 d hd a1 a2
theorem TRr.find {t : Nat} {σ H : am_H} (h : TRr t σ H) {c m : Int} (hn : nmR c m) : firstQ (fun k => decide (σ.2.1 (t + 1) k = c)) (H.2.1 85 0).toNat = pOf H m := by
  unfold pOf
  refine firstQ_congr _ (fun q hq => ?_)
  exact decide_eq_decide.mpr (nmR_inj (h.2.1 q (by omega)).1 hn)
/-- a person more -/
theorem TRr.pe {t : Nat} {σ H : am_H} (h : TRr t σ H) {n : Nat} (hn : H.2.1 85 0 = (n : Int)) (h8 : n < 8) {c m : Int} (hc : nmR c m) (mi co : Int) :
    TRr t (am_setN (am_setN (am_setN (am_setN σ (t + 1) n c) (t + 2) n mi) (t + 3) n co) t 2 ((n : Int) + 1)) (am_setN (am_setN (am_setN (am_setN (am_setN H 86 n m) 87 n mi) 88 n co) 89 n 0) 85 0 ((n : Int) + 1)) := by
  obtain ⟨h1, h2, h3, h4, h5⟩ := h
  refine ⟨?_, fun p hp => ?_, fun p hp => ?_, fun d hd => ?_, fun d hd a1 a2 => ?_⟩
  · unfold TRa at h1 ⊢
    simp (disch := omega) only [set_eq, set_nn]
    exact ⟨h1.1, h1.2.1, trivial, h1.2.2.2⟩
  · simp (disch := omega) only [set_eq, set_nn] at hp ⊢
    by_cases g : p = n
    · subst g
      simp (disch := omega) only [set_eq, set_nn]
      exact ⟨hc, trivial, trivial⟩
    · simp (disch := omega) only [set_eq, set_nn]
      exact h2 p (by omega)
  · have h0 := h3 p hp
    simp (disch := omega) only [set_eq, set_nn]
    refine ⟨?_, h0.2.1, h0.2.2.1, fun q hq => h0.2.2.2 q hq⟩
    by_cases g : p = n
    · subst g
      rw [if_pos (by omega), set_eq]
      rw [if_neg (by omega)] at h0
      exact h0.1
    · rw [set_nn (by omega)]
      simp (disch := omega) only [set_eq, set_nn]
      rw [h0.1]
      by_cases g2 : p < n
      · rw [if_pos (by omega), if_pos (by omega)]
      · rw [if_neg (by omega), if_neg (by omega)]
  · simp (disch := omega) only [set_eq, set_nn]
    exact h4 d hd
  · unfold frN
    simp (disch := omega) only [set_eq, set_nn] at a2 ⊢
    exact h5 d hd a1 a2
theorem shl1_all : (List.range 8).all (fun k => decide (0 ≤ ao_shl 1 (k : Nat) ∧ ao_shl 1 (k : Nat) < 256) && (List.range 8).all (fun y => decide (tb (ao_shl 1 (k : Nat)) (y : Nat) = if y = k then 1 else 0))) = true := by decide +kernel
theorem shl1 {k : Nat} (hk : k < 8) : (0 ≤ ao_shl 1 (k : Int) ∧ ao_shl 1 (k : Int) < 256) ∧ ∀ y : Nat, y < 8 → tb (ao_shl 1 (k : Int)) (y : Int) = if y = k then 1 else 0 := by
  have h := List.all_eq_true.mp shl1_all k (List.mem_range.mpr hk)
  rw [Bool.and_eq_true] at h
  exact ⟨of_decide_eq_true h.1, fun y hy => of_decide_eq_true (List.all_eq_true.mp h.2 y (List.mem_range.mpr hy))⟩
theorem tb_set {s : Int} {k y : Nat} (hs : 0 ≤ s ∧ s < 256) (hk : k < 8) (hy : y < 8) : tb (ao_or s (ao_shl 1 (k : Int))) (y : Int) = if y = k then 1 else tb s (y : Int) := by
  rw [(or_tb hs (shl1 hk).1).2 y, (shl1 hk).2 y hy]
  have h01 : tb s (y : Int) = 0 ∨ tb s (y : Int) = 1 := by unfold tb; omega
  by_cases g : y = k
  · simp [g]
  · rw [if_neg g, if_neg g]
    rcases h01 with h | h <;> rw [h] <;> simp
/-- somebody more is told off -/
theorem TRr.to {t : Nat} {σ H : am_H} (h : TRr t σ H) {p d : Nat} (hp : p < 8) (hd : 1 ≤ d ∧ d ≤ 90) :
    TRr t (am_setN (am_setN σ (t + 6) d (ao_or (σ.2.1 (t + 6) d) (ao_shl 1 (p : Int)))) t 3 (σ.2.1 t 3 + 1)) (am_setN (am_setN H 90 d (ao_or (H.2.1 90 d) (ao_shl 1 (p : Int)))) 85 1 (H.2.1 85 1 + 1)) := by
  obtain ⟨h1, h2, h3, h4, h5⟩ := h
  refine ⟨?_, fun q hq => ?_, fun q hq => ?_, fun e he => ?_, fun e he a1 a2 => ?_⟩
  · unfold TRa at h1 ⊢
    simp (disch := omega) only [set_eq, set_nn]
    exact ⟨h1.1, h1.2.1, h1.2.2.1, by rw [h1.2.2.2.1], h1.2.2.2.2⟩
  · simp (disch := omega) only [set_eq, set_nn] at hq ⊢
    exact h2 q hq
  · have h0 := h3 q hq
    simp (disch := omega) only [set_eq, set_nn]
    exact h0
  · have h0 := h4 e he
    by_cases g : e = d
    · subst g
      simp (disch := omega) only [set_eq, set_nn]
      rw [h0.1]
      exact ⟨rfl, orr h0.2 hp⟩
    · simp (disch := omega) only [set_eq, set_nn]
      exact h0
  · unfold frN
    simp (disch := omega) only [set_eq, set_nn] at a2 ⊢
    exact h5 e he a1 a2
/-- somebody more reminds somebody -/
theorem TRr.rm {t : Nat} {σ H : am_H} (h : TRr t σ H) {p q : Nat} (hp : p < 8) (hq : q < 8) (hpn : (p : Int) < H.2.1 85 0) :
    TRr t (am_setN (am_setN (am_setN σ (t + 4) p (ao_or (σ.2.1 (t + 4) p) (ao_shl 1 (q : Int)))) (t + 5) q (ao_or (σ.2.1 (t + 5) q) (ao_shl 1 (p : Int)))) t 4 (σ.2.1 t 4 + 1)) (am_setN (am_setN H 89 p (ao_or (H.2.1 89 p) (ao_shl 1 (q : Int)))) 85 2 (H.2.1 85 2 + 1)) := by
  obtain ⟨h1, h2, h3, h4, h5⟩ := h
  refine ⟨?_, fun x hx => ?_, fun x hx => ?_, fun e he => ?_, fun e he a1 a2 => ?_⟩
  · unfold TRa at h1 ⊢
    simp (disch := omega) only [set_eq, set_nn]
    exact ⟨h1.1, h1.2.1, h1.2.2.1, h1.2.2.2.1, by rw [h1.2.2.2.2.1], h1.2.2.2.2.2⟩
  · simp (disch := omega) only [set_eq, set_nn] at hx ⊢
    exact h2 x hx
  · have h0 := h3 x hx
    have hP := h3 p hp
    have hQ := h3 q hq
    rw [if_pos hpn] at hP
    refine ⟨?_, ?_, ?_, fun y hy => ?_⟩
    · by_cases g : x = p
      · subst g
        simp (disch := omega) only [set_eq, set_nn]
        rw [if_pos hpn, hP.1]
      · simp (disch := omega) only [set_eq, set_nn]
        exact h0.1
    · by_cases g : x = p
      · subst g
        simp (disch := omega) only [set_eq, set_nn]
        exact orr h0.2.1 hq
      · simp (disch := omega) only [set_eq, set_nn]
        exact h0.2.1
    · by_cases g : x = q
      · subst g
        simp (disch := omega) only [set_eq, set_nn]
        exact orr h0.2.2.1 hp
      · simp (disch := omega) only [set_eq, set_nn]
        exact h0.2.2.1
    · have hY := h3 y hy
      by_cases g : x = q
      · subst g
        by_cases g2 : y = p
        · subst g2
          simp (disch := omega) only [set_eq, set_nn]
          rw [tb_set h0.2.2.1 hp hy, tb_set hP.2.1 hx hx, if_pos rfl, if_pos rfl]
        · simp (disch := omega) only [set_eq, set_nn]
          rw [tb_set h0.2.2.1 hp hy, if_neg g2]
          exact h0.2.2.2 y hy
      · by_cases g2 : y = p
        · subst g2
          simp (disch := omega) only [set_eq, set_nn]
          rw [tb_set hP.2.1 hq hx, if_neg g]
          exact h0.2.2.2 y hy
        · simp (disch := omega) only [set_eq, set_nn]
          exact h0.2.2.2 y hy
  · simp (disch := omega) only [set_eq, set_nn]
    exact h4 e he
  · unfold frN
    simp (disch := omega) only [set_eq, set_nn] at a2 ⊢
    exact h5 e he a1 a2
/-- a frost more -/
theorem TRr.fz {t : Nat} {σ τ H : am_H} (h : TRr t σ H) {c fr ln : Nat} (hc : H.2.1 85 3 = (c : Int)) (hτ : τ.2.1 t 5 = σ.2.1 t 5 + 1) (hf : ∀ j : Nat, τ.2.1 (t + 7) j = if fr ≤ j ∧ j < fr + ln ∧ (j : Int) ≤ H.2.1 85 4 then 1 else σ.2.1 (t + 7) j) (hF : frw (fun a j => a = t + 7 ∨ (a = t ∧ j = 5)) σ τ) :
    TRr t τ (am_setN (am_setN (am_setN H 91 (2 * c) (fr : Int)) 91 (2 * c + 1) (ln : Int)) 85 3 ((c : Int) + 1)) := by
  obtain ⟨h1, h2, h3, h4, h5⟩ := h
  have e : ∀ k j, k ≤ 6 → ¬ (k = 0 ∧ j = 5) → τ.2.1 (t + k) j = σ.2.1 (t + k) j := fun k j hk hn => hF.2.2 _ _ (by omega)
  have e0 : ∀ j, ¬ j = 5 → τ.2.1 t j = σ.2.1 t j := fun j hj => e 0 j (by decide) (by omega)
  refine ⟨?_, fun x hx => ?_, fun x hx => ?_, fun d hd => ?_, fun d hd a1 a2 => ?_⟩
  · unfold TRa at h1 ⊢
    simp (disch := omega) only [set_eq, set_nn]
    rw [e0 0 (by decide), e0 1 (by decide), e0 2 (by decide), e0 3 (by decide), e0 4 (by decide), e0 6 (by decide), e0 7 (by decide), hτ]
    exact ⟨h1.1, h1.2.1, h1.2.2.1, h1.2.2.2.1, h1.2.2.2.2.1, by rw [h1.2.2.2.2.2.1, hc], h1.2.2.2.2.2.2⟩
  · simp (disch := omega) only [set_eq, set_nn] at hx ⊢
    rw [e 1 x (by decide) (by omega), e 2 x (by decide) (by omega), e 3 x (by decide) (by omega)]
    exact h2 x hx
  · simp (disch := omega) only [set_eq, set_nn]
    rw [e 4 x (by decide) (by omega), e 5 x (by decide) (by omega)]
    refine ⟨(h3 x hx).1, (h3 x hx).2.1, (h3 x hx).2.2.1, fun y hy => ?_⟩
    rw [e 4 y (by decide) (by omega)]
    exact (h3 x hx).2.2.2 y hy
  · simp (disch := omega) only [set_eq, set_nn]
    rw [e 6 d (by decide) (by omega)]
    exact h4 d hd
  · rw [hf d]
    simp (disch := omega) only [set_nn] at a2
    have hd5 := h5 d hd a1 a2
    have hz : frN (am_setN (am_setN (am_setN H 91 (2 * c) (fr : Int)) 91 (2 * c + 1) (ln : Int)) 85 3 ((c : Int) + 1)) (d : Int) = (frN H (d : Int) || decide ((fr : Int) ≤ (d : Int) ∧ (d : Int) ≤ (fr : Int) + (ln : Int) - 1)) := by
      unfold frN
      rw [set_eq, hc, show ((c : Int) + 1).toNat = c + 1 by omega, show ((c : Int)).toNat = c by omega]
      show (anyB _ c || _) = _
      congr 1
      · refine anyB_cg (fun q hq => ?_)
        simp (disch := omega) only [set_nn]
      · simp (disch := omega) only [set_eq, set_nn]
    rw [hz, hd5]
    by_cases g : fr ≤ d ∧ d < fr + ln
    · rw [if_pos ⟨g.1, g.2, a2⟩, if_pos (by rw [Bool.or_eq_true]; exact Or.inr (decide_eq_true (by omega)))]
    · rw [if_neg (fun z => g ⟨z.1, z.2.1⟩), decide_eq_false (by omega), Bool.or_false]

