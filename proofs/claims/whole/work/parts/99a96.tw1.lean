theorem PST.t9 {σ τ : am_H} (h : PST σ) (e1 : ∀ (a : Nat) (q : Nat × Nat), σ.1[a]? = some q → τ.1[a]? = some q) (e43 : ∀ s, τ.2.2 43 s = σ.2.2 43 s) (eb : ∀ s L, s < 20 → σ.2.2 43 s = some L → ∀ j, τ.2.2 L j = σ.2.2 L j) (ec : ∀ r, r = 11 ∨ r = 13 ∨ r = 23 ∨ r = 25 → ∀ x, τ.2.2 r 0 = some x → σ.2.2 r 0 = some x ∨ σ.1.length ≤ x) : PST τ := by
  refine ⟨fun s L hs hL => ?_, fun s s' L L' hs hs' hn h1 h2 => ?_⟩
  · rw [e43] at hL
    obtain ⟨g1, g2, g3⟩ := h.1 s L hs hL
    refine ⟨g1, g2.c9 g1 e1 (fun j => eb s L hs hL j), fun r hr x hx => ?_⟩
    rcases ec r hr x hx with z | z
    · exact g3 r hr x z
    · have := (List.getElem?_eq_some_iff.mp g2.1.2.2.2.2).1
      omega
  · rw [e43] at h1 h2
    exact h.2 s s' L L' hs hs' hn h1 h2
theorem IK.c9 {f c : Nat} {σ τ : am_H} (h : IK f c σ) (hp : PST τ) (e43 : ∀ s, τ.2.2 43 s = σ.2.2 43 s) (e3 : ∀ a j, (a = 42 ∧ (j = 1 ∨ j = 2)) ∨ (a = 55 ∧ (j = 69 ∨ j = 70)) ∨ a = 102 ∨ (a = 85 ∧ (j = 5 ∨ j = 9)) → τ.2.1 a j = σ.2.1 a j) (e4 : ∀ s L, s < 20 → σ.2.2 43 s = some L → ∀ a j, L ≤ a ∧ a ≤ L + 4 → τ.2.1 a j = σ.2.1 a j) : IK f c τ := by
  obtain ⟨⟨⟨p1, p2⟩, p3, p4⟩, h69, h70, hk⟩ := h
  refine ⟨⟨⟨(e3 42 1 (by omega)).trans p1, (e3 42 2 (by omega)).trans p2⟩, p3, hp⟩, (e3 55 69 (by omega)).trans h69, by rw [e3 55 70 (by omega)]; exact h70, fun j hj => ?_⟩
  obtain ⟨L, g1, g2, g3, g4⟩ := hk j hj
  have hm : (f + c - 1 - j) % 20 < 20 := Nat.mod_lt _ (by decide)
  have e8 : pN τ = pN σ := by unfold pN; rw [e3 85 5 (by omega)]
  refine ⟨L, (e43 _).trans g1, ?_, ?_, ?_⟩
  · rw [kt.c (fun a j ha => e3 a j (by omega)) j]; exact g2.cells (fun a j ha => e4 _ L hm g1 a j (by omega))
  · rw [kt.c (fun a j ha => e3 a j (by omega)) j]; exact g3.cells (fun a j ha => e4 _ L hm g1 a j (by omega))
  · rw [kt.c (fun a j ha => e3 a j (by omega)) j, e8, e3 85 9 (by omega)]; exact g4
/-- the cells of a town that stands -/
def UPc (a j : Nat) : Prop := (a = 85 ∧ 5 ≤ j) ∨ (86 ≤ a ∧ a ≤ 89 ∧ 8 ≤ j) ∨ (a = 91 ∧ 8 ≤ j) ∨ (92 ≤ a ∧ a ≤ 94 ∧ 2 ≤ j) ∨ (a = 95 ∧ 1600 ≤ j) ∨ a = 96
theorem ruM_up {σ τ : am_H} (e : ∀ a j, UPc a j → τ.2.1 a j = σ.2.1 a j) (wh : Nat) : ruM τ wh = ruM σ wh := by
  unfold ruM rE rB
  rw [e 93 _ (by unfold UPc; omega), e 94 _ (by unfold UPc; omega)]
  refine List.map_congr_left (fun i _ => ?_)
  exact e 95 _ (by unfold UPc; omega)
theorem rlB_up {σ τ : am_H} (e : ∀ a j, UPc a j → τ.2.1 a j = σ.2.1 a j) (wh : Nat) : rlB τ wh = rlB σ wh := by
  unfold rlB
  rw [ruM_up e, e 93 _ (by unfold UPc; omega)]
theorem TWr.up9 {t : Nat} {σ H K : am_H} (h : TWr t σ H) (e : ∀ a j, UPc a j → K.2.1 a j = H.2.1 a j) : TWr t σ K := by
  obtain ⟨⟨a1, a2, a3, a4⟩, b, c, d, u, v, w, x, y⟩ := h
  have eP : pN K = pN H := by unfold pN; rw [e 85 5 (by unfold UPc; omega)]
  have eF : ∀ d, frM K d = frM H d := fun d => by
    unfold frM fN
    rw [e 85 8 (by unfold UPc; omega)]
    exact anyB_cg (fun q hq => by rw [e 91 (8 + 2 * q) (by unfold UPc; omega), e 91 (9 + 2 * q) (by unfold UPc; omega)])
  refine ⟨⟨a1.trans (e 85 9 (by unfold UPc; omega)).symm, a2.trans (e 85 5 (by unfold UPc; omega)).symm, a3.trans (e 92 2 (by unfold UPc; omega)).symm, a4.trans (e 92 3 (by unfold UPc; omega)).symm⟩, fun p hp => ?_, fun p hp => ?_, fun p hp => ?_, fun p hp => ?_, fun p hp => ⟨?_, fun q hq => ?_⟩, fun d hd h1 h2 => ?_, ?_, ?_⟩
  · rw [eP] at hp; rw [e 86 _ (by unfold UPc; omega)]; exact b p hp
  · rw [eP] at hp; rw [e 87 _ (by unfold UPc; omega)]; exact c p hp
  · rw [eP] at hp; rw [e 88 _ (by unfold UPc; omega)]; exact d p hp
  · rw [eP] at hp; rw [e 89 _ (by unfold UPc; omega)]; exact u p hp
  · rw [eP] at hp; exact (v p hp).1
  · rw [eP] at hp; rw [eP, e 89 _ (by unfold UPc; omega)]; exact (v p hp).2 q hq
  · rw [e 85 9 (by unfold UPc; omega)] at h2; rw [eF]; exact w d hd h1 h2
  · rw [rlB_up e]; exact x
  · rw [rlB_up e]; exact y
theorem GD.up9 {σ τ : am_H} (h : GD σ) (hL : lay τ) (e : ∀ a j, UPc a j → τ.2.1 a j = σ.2.1 a j) (e5 : ∀ j, j = 52 ∨ j = 59 ∨ j = 61 → τ.2.1 55 j = σ.2.1 55 j) : GD τ := by
  obtain ⟨-, hR, hK, hN, h59, h61⟩ := h
  have a85 : τ.2.1 85 5 = σ.2.1 85 5 ∧ τ.2.1 85 8 = σ.2.1 85 8 ∧ τ.2.1 85 9 = σ.2.1 85 9 := ⟨e _ _ (by unfold UPc; omega), e _ _ (by unfold UPc; omega), e _ _ (by unfold UPc; omega)⟩
  have a87 : ∀ p, τ.2.1 87 (8 + p) = σ.2.1 87 (8 + p) := fun p => e _ _ (by unfold UPc; omega)
  have a88 : ∀ p, τ.2.1 88 (8 + p) = σ.2.1 88 (8 + p) := fun p => e _ _ (by unfold UPc; omega)
  have a89 : ∀ p, τ.2.1 89 (8 + p) = σ.2.1 89 (8 + p) := fun p => e _ _ (by unfold UPc; omega)
  have a91 : ∀ p, τ.2.1 91 (8 + p) = σ.2.1 91 (8 + p) := fun p => e _ _ (by unfold UPc; omega)
  have a919 : ∀ p, τ.2.1 91 (9 + p) = σ.2.1 91 (9 + p) := fun p => e _ _ (by unfold UPc; omega)
  have a92 : τ.2.1 92 2 = σ.2.1 92 2 ∧ τ.2.1 92 3 = σ.2.1 92 3 := ⟨e _ _ (by unfold UPc; omega), e _ _ (by unfold UPc; omega)⟩
  have a96 : ∀ p, τ.2.1 96 p = σ.2.1 96 p := fun p => e _ _ (by unfold UPc; omega)
  refine ⟨hL, ?_, fun wh hw => ?_, ?_, by rw [e5 59 (by omega)]; exact h59, by rw [e5 61 (by omega)]; exact h61⟩
  · unfold MR
    simp only [a85.1, a85.2.1, a85.2.2, a87, a88, a89, a91, a919, a92.1, a92.2, a96, e5 52 (by omega)]
    exact hR
  · rw [e 93 _ (by unfold UPc; omega), e 94 _ (by unfold UPc; omega), ruM_up e]
    exact hK wh hw
  · unfold NO
    rw [e 93 2 (by unfold UPc; omega), ruM_up e]
    exact hN
/-- what the class's reading of a town leaves alone -/
theorem GTF.fx {t u : Nat} {W : Nat → Nat → Prop} {σ σ' : am_H} (hu : (t = 3 ∧ u = 15) ∨ (t = 15 ∧ u = 3)) (h : IH t σ) (hL : lay σ) (hG : GTF u W σ σ') :
    (∀ a j, a ≤ 130 → ¬ (u ≤ a ∧ a ≤ u + 11) → ¬ (27 ≤ a ∧ a ≤ 31) → ¬ W a j → σ'.2.1 a j = σ.2.1 a j) ∧
    (∀ x i, 131 ≤ x → x < σ.1.length → ¬ σ.2.2 (u + 8) 0 = some x → ¬ σ.2.2 (u + 10) 0 = some x → ¬ W x i → σ'.2.1 x i = σ.2.1 x i) ∧
    (∀ a j, a < σ.1.length → ¬ (a = 27 ∧ j = 2) → ¬ ((a = u + 8 ∨ a = u + 10) ∧ j = 0) → ¬ (a = 0 ∧ (j = 2 ∨ j = 3)) → σ'.2.2 a j = σ.2.2 a j) ∧
    (∀ (a : Nat) (q : Nat × Nat), σ.1[a]? = some q → σ'.1[a]? = some q) ∧
    (∀ r, r = u + 8 ∨ r = u + 10 → ∀ x, σ'.2.2 r 0 = some x → σ.2.2 r 0 = some x ∨ σ.1.length ≤ x) := by
  have hlen := hL.len
  obtain ⟨⟨ext, h1⟩, h2, h3, h4⟩ := hG
  have hc := h.2.2.2.2
  refine ⟨fun a j ha hb hc2 hw => h3 a j (by omega) hb hc2 (fun z => ?_) (fun z => ?_) hw, fun x i hx hxl g1 g2 hw => h3 x i hxl (by omega) (by omega) g1 g2 hw, h4, fun a q hq => ?_, fun r hr x hx => ?_⟩
  · have := hc (u + 8) a (by omega) z
    omega
  · have := hc (u + 10) a (by omega) z
    omega
  · rw [h1, List.getElem?_append_left (List.getElem?_eq_some_iff.mp hq).1]; exact hq
  · rcases h2 r hr with g | ⟨y, g, gy⟩
    · left; rw [← g]; exact hx
    · right
      rw [g] at hx
      have := Option.some.inj hx
      omega
theorem IH.tw {t u t' : Nat} {W : Nat → Nat → Prop} {σ σ' : am_H} (hu : (t = 3 ∧ u = 15) ∨ (t = 15 ∧ u = 3)) (h : IH t σ) (hL : lay σ) (hG : GTF u W σ σ') (hC : CDt u σ') (ht' : t' = 3 ∨ t' = 15) (r2 : σ'.2.2 0 2 = some t') (r3 : σ'.2.2 0 3 = some (18 - t')) : IH t' σ' := by
  have hlen := hL.len
  obtain ⟨-, -, f3, f4, f5⟩ := GTF.fx hu h hL hG
  have hcode := h.code
  have same : ∀ r, r = t + 8 ∨ r = t + 10 → σ'.2.2 r 0 = σ.2.2 r 0 := fun r hr => f3 r 0 (by omega) (by omega) (by omega) (by omega)
  have cdt : CDt t σ → CDt t σ' := fun ⟨c, m, d, k, ⟨a1, a2, a3, a4⟩, ⟨b1, b2, b3, b4⟩, hn⟩ =>
    ⟨c, m, d, k, ⟨(same _ (Or.inl rfl)).trans a1, f4 _ _ a2, a3, a4⟩, ⟨(same _ (Or.inr rfl)).trans b1, f4 _ _ b2, b3, b4⟩, hn⟩
  -- a code of the town in use is none of the other's
  have apart : ∀ r s x, (r = t + 8 ∨ r = t + 10) → (s = u + 8 ∨ s = u + 10) → σ'.2.2 r 0 = some x → ¬ σ'.2.2 s 0 = some x := fun r s x hr hs hx hy => by
    rw [same r hr] at hx
    rcases f5 s hs x hy with g | g
    · rcases hu with ⟨rfl, rfl⟩ | ⟨rfl, rfl⟩
      · exact h.2.2.2.1 r s x (by omega) (by omega) hx g
      · exact h.2.2.2.1 s r x (by omega) (by omega) g hx
    · have := (hcode r (by omega) x hx).2
      omega
  have law : ∀ r x, (r = 11 ∨ r = 13 ∨ r = 23 ∨ r = 25) → σ'.2.2 r 0 = some x → x = r + 1 ∨ 131 ≤ x := fun r x hr hx => by
    by_cases g : r = t + 8 ∨ r = t + 10
    · rw [same r g] at hx
      exact h.2.2.2.2 r x hr hx
    · rcases f5 r (by omega) x hx with z | z
      · exact h.2.2.2.2 r x hr z
      · right; omega
  rcases hu with ⟨rfl, rfl⟩ | ⟨rfl, rfl⟩
  · exact ⟨ht', ⟨r2, r3⟩, ⟨cdt h.2.2.1.1, hC⟩, fun r s x hr hs hx => apart r s x (by omega) (by omega) hx, law⟩
  · exact ⟨ht', ⟨r2, r3⟩, ⟨hC, cdt h.2.2.1.2⟩, fun r s x hr hs hx hy => apart s r x (by omega) (by omega) hy hx, law⟩
/-- the ring and the town's codes, behind a reading -/
theorem PST.tw {t u : Nat} {W : Nat → Nat → Prop} {σ σ' : am_H} (hu : (t = 3 ∧ u = 15) ∨ (t = 15 ∧ u = 3)) (h : IH t σ) (hL : lay σ) (hG : GTF u W σ σ') (hW : ∀ a j, 131 ≤ a → ¬ W a j) (hP : PST σ) : PST σ' ∧ (∀ s, σ'.2.2 43 s = σ.2.2 43 s) ∧ ∀ s L, s < 20 → σ.2.2 43 s = some L → ∀ a j, L ≤ a ∧ a ≤ L + 4 → σ'.2.1 a j = σ.2.1 a j := by
  have hlen := hL.len
  obtain ⟨-, f2, f3, f4, f5⟩ := GTF.fx hu h hL hG
  have e43 : ∀ s, σ'.2.2 43 s = σ.2.2 43 s := fun s => f3 43 s (by omega) (by omega) (by omega) (by omega)
  have bl : ∀ s L, s < 20 → σ.2.2 43 s = some L → 131 ≤ L ∧ L + 4 < σ.1.length := fun s L hs hL =>
    ⟨(hP.1 s L hs hL).1, (List.getElem?_eq_some_iff.mp (hP.1 s L hs hL).2.1.1.2.2.2.2).1⟩
  refine ⟨hP.t9 f4 e43 (fun s L hs hL j => ?_) (fun r hr x hx => ?_), e43, fun s L hs hL a j ha => ?_⟩
  · have := bl s L hs hL
    exact f3 L j (by omega) (by omega) (by omega) (by omega)
  · by_cases g : r = u + 8 ∨ r = u + 10
    · exact f5 r g x hx
    · left; rw [← f3 r 0 (by omega) (by omega) (by omega) (by omega)]; exact hx
  · have h1 := bl s L hs hL
    have h2 := (hP.1 s L hs hL).2.2
    refine f2 a j (by omega) (by omega) (fun z => ?_) (fun z => ?_) (hW a j (by omega))
    · exact h2 (u + 8) (by omega) a z ha
    · exact h2 (u + 10) (by omega) a z ha
