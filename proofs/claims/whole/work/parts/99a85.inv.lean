/-- a life in the model's cells as one of a town of Y days and P people -/
def LK (Y : Int) (P : Nat) (g : Nat → Int) : Prop := MN Y g ∧ ROK g ∧ ZR Y g ∧ (∀ p : Nat, p < 8 → P ≤ p → g (4 + p) = 0 ∧ g (12 + p) = 0) ∧ (0 ≤ sumN (fun d => bc (g (21 + d))) 90 ∧ sumN (fun d => bc (g (21 + d))) 90 ≤ 30) ∧ (0 ≤ sumN (fun d => bc (g (112 + d))) 90 ∧ sumN (fun d => bc (g (112 + d))) 90 ≤ 30)
/-- a life put aside, j acts ago -/
def kt (σ : am_H) (j : Nat) : Nat → Int := fun k => σ.2.1 102 (443 * (((σ.2.1 55 70).toNat + 20 - j) % 20) + k)
/-- which town is which, and where their rules lie -/
def IH (t : Nat) (σ : am_H) : Prop := (t = 3 ∨ t = 15) ∧ (σ.2.2 0 2 = some t ∧ σ.2.2 0 3 = some (18 - t)) ∧ (CDt 3 σ ∧ CDt 15 σ) ∧ (∀ r s x, (r = 11 ∨ r = 13) → (s = 23 ∨ s = 25) → σ.2.2 r 0 = some x → ¬ σ.2.2 s 0 = some x) ∧ ∀ r x, (r = 11 ∨ r = 13 ∨ r = 23 ∨ r = 25) → σ.2.2 r 0 = some x → x = r + 1 ∨ 131 ≤ x
def IL (σ : am_H) : Prop := LF0 32 σ (fun k => σ.2.1 96 k) ∧ RWr 32 σ (fun k => σ.2.1 96 k)
def IQ (σ : am_H) : Prop := LK (σ.2.1 85 9) (pN σ) (fun k => σ.2.1 96 k) ∧ ∀ q : Nat, (q : Int) < σ.2.1 85 5 → 0 ≤ σ.2.1 86 (8 + q) ∧ σ.2.1 86 (8 + q) < 387420489
def IT (σ : am_H) : Prop := σ.2.1 1 1 = σ.2.1 55 1 ∧ (∀ j, σ.2.1 2 j = σ.2.1 56 j) ∧ TPR σ
def IR (n : Nat) (σ : am_H) : Prop := ∀ j, j < 6 → σ.2.1 54 j = σ.2.1 57 j ∧ 0 ≤ σ.2.1 57 j ∧ σ.2.1 57 j ≤ (n : Int)
def IF (σ : am_H) : Prop := (σ.2.1 0 14 = σ.2.1 55 7 ∧ σ.2.1 0 15 = σ.2.1 55 8) ∧ σ.2.1 0 16 = σ.2.1 55 71 ∧ 0 ≤ σ.2.1 55 71 ∧ σ.2.1 55 71 < 2147483648
def IP (σ : am_H) : Prop := σ.2.1 49 1 = σ.2.1 55 107 ∧ (0 ≤ σ.2.1 55 107 ∧ σ.2.1 55 107 ≤ 146) ∧ ∀ j : Nat, (j : Int) < σ.2.1 55 107 → σ.2.1 50 j = σ.2.1 130 j
def IW (σ : am_H) : Prop := WD σ ∧ LRG σ
def IK (f c : Nat) (σ : am_H) : Prop := PAC f c σ ∧ σ.2.1 55 69 = (c : Int) ∧ (0 ≤ σ.2.1 55 70 ∧ σ.2.1 55 70 ≤ 19) ∧ ∀ j, j < c → ∃ L, σ.2.2 43 ((f + c - 1 - j) % 20) = some L ∧ LF0 L σ (kt σ j) ∧ RWr L σ (kt σ j) ∧ LK (σ.2.1 85 9) (pN σ) (kt σ j)
/-- all that holds between the two, behind n calls -/
def IV (t f c n : Nat) (σ : am_H) : Prop := GD σ ∧ IH t σ ∧ TWr t σ σ ∧ IL σ ∧ IQ σ ∧ SNC σ ∧ IT σ ∧ IR n σ ∧ IF σ ∧ IP σ ∧ IW σ ∧ IK f c σ
def INV (n : Nat) (σ : am_H) : Prop := ∃ t f c, IV t f c n σ
theorem IV.G {t f c n : Nat} {σ : am_H} (h : IV t f c n σ) : GD σ := h.1
theorem IV.H {t f c n : Nat} {σ : am_H} (h : IV t f c n σ) : IH t σ := h.2.1
theorem IV.W {t f c n : Nat} {σ : am_H} (h : IV t f c n σ) : TWr t σ σ := h.2.2.1
theorem IV.L {t f c n : Nat} {σ : am_H} (h : IV t f c n σ) : IL σ := h.2.2.2.1
theorem IV.Q {t f c n : Nat} {σ : am_H} (h : IV t f c n σ) : IQ σ := h.2.2.2.2.1
theorem IV.S {t f c n : Nat} {σ : am_H} (h : IV t f c n σ) : SNC σ := h.2.2.2.2.2.1
theorem IV.T {t f c n : Nat} {σ : am_H} (h : IV t f c n σ) : IT σ := h.2.2.2.2.2.2.1
theorem IV.R {t f c n : Nat} {σ : am_H} (h : IV t f c n σ) : IR n σ := h.2.2.2.2.2.2.2.1
theorem IV.F {t f c n : Nat} {σ : am_H} (h : IV t f c n σ) : IF σ := h.2.2.2.2.2.2.2.2.1
theorem IV.P {t f c n : Nat} {σ : am_H} (h : IV t f c n σ) : IP σ := h.2.2.2.2.2.2.2.2.2.1
theorem IV.D {t f c n : Nat} {σ : am_H} (h : IV t f c n σ) : IW σ := h.2.2.2.2.2.2.2.2.2.2.1
theorem IV.K {t f c n : Nat} {σ : am_H} (h : IV t f c n σ) : IK f c σ := h.2.2.2.2.2.2.2.2.2.2.2
theorem IV.C {t f c n : Nat} {σ : am_H} (h : IV t f c n σ) : CI t σ := ⟨h.G, h.H.2.1.1, h.W, h.L.1⟩
theorem IV.cd {t f c n : Nat} {σ : am_H} (h : IV t f c n σ) : CDt t σ := by
  rcases h.H.1 with rfl | rfl
  · exact h.H.2.2.1.1
  · exact h.H.2.2.1.2
theorem IH.c {t : Nat} {σ τ : am_H} (h : IH t σ) (e1 : ∀ (a : Nat) (q : Nat × Nat), σ.1[a]? = some q → τ.1[a]? = some q) (e2 : ∀ a j, (a = 0 ∧ (j = 2 ∨ j = 3)) ∨ (j = 0 ∧ (a = 11 ∨ a = 13 ∨ a = 23 ∨ a = 25)) → τ.2.2 a j = σ.2.2 a j) : IH t τ := by
  refine ⟨h.1, ⟨(e2 0 2 (by omega)).trans h.2.1.1, (e2 0 3 (by omega)).trans h.2.1.2⟩, ⟨?_, ?_⟩, fun r s x hr hs hx => ?_, fun r x hr hx => ?_⟩
  · obtain ⟨c, m, d, k, ⟨a1, a2, a3, a4⟩, ⟨b1, b2, b3, b4⟩, hn⟩ := h.2.2.1.1
    exact ⟨c, m, d, k, ⟨(e2 11 0 (by omega)).trans a1, e1 _ _ a2, a3, a4⟩, ⟨(e2 13 0 (by omega)).trans b1, e1 _ _ b2, b3, b4⟩, hn⟩
  · obtain ⟨c, m, d, k, ⟨a1, a2, a3, a4⟩, ⟨b1, b2, b3, b4⟩, hn⟩ := h.2.2.1.2
    exact ⟨c, m, d, k, ⟨(e2 23 0 (by omega)).trans a1, e1 _ _ a2, a3, a4⟩, ⟨(e2 25 0 (by omega)).trans b1, e1 _ _ b2, b3, b4⟩, hn⟩
  · rw [e2 s 0 (by omega)]
    rw [e2 r 0 (by omega)] at hx
    exact h.2.2.2.1 r s x hr hs hx
  · rw [e2 r 0 (by omega)] at hx
    exact h.2.2.2.2 r x hr hx
theorem IH.code {t : Nat} {σ : am_H} (h : IH t σ) : ∀ r, r = 11 ∨ r = 13 ∨ r = 23 ∨ r = 25 → ∀ x, σ.2.2 r 0 = some x → cdC0 x ∧ x < σ.1.length := by
  intro r hr x hx
  have hl : ∀ (c : Nat) (q : Nat × Nat), σ.1[c]? = some q → c < σ.1.length := fun c q hq => (List.getElem?_eq_some_iff.mp hq).1
  obtain ⟨c, m, d, k, ⟨a1, a2, a3, a4⟩, ⟨b1, b2, b3, b4⟩, hn⟩ := h.2.2.1.1
  obtain ⟨c', m', d', k', ⟨a1', a2', a3', a4'⟩, ⟨b1', b2', b3', b4'⟩, hn'⟩ := h.2.2.1.2
  rcases hr with rfl | rfl | rfl | rfl
  · have e := Option.some.inj (a1.symm.trans hx); subst e; exact ⟨a3, hl _ _ a2⟩
  · have e := Option.some.inj (b1.symm.trans hx); subst e; exact ⟨b3, hl _ _ b2⟩
  · have e := Option.some.inj (a1'.symm.trans hx); subst e; exact ⟨a3', hl _ _ a2'⟩
  · have e := Option.some.inj (b1'.symm.trans hx); subst e; exact ⟨b3', hl _ _ b2'⟩
theorem TWr.c9 {t : Nat} {σ τ : am_H} (h : TWr t σ σ) (hH : IH t σ) (e1 : ∀ (a : Nat) (q : Nat × Nat), σ.1[a]? = some q → τ.1[a]? = some q) (e2 : ∀ r, r = 11 ∨ r = 13 ∨ r = 23 ∨ r = 25 → τ.2.2 r 0 = σ.2.2 r 0) (e3 : ∀ a j, (3 ≤ a ∧ a ≤ 26) ∨ (85 ≤ a ∧ a ≤ 95) → τ.2.1 a j = σ.2.1 a j) (e4 : ∀ r, r = 11 ∨ r = 13 ∨ r = 23 ∨ r = 25 → ∀ x, σ.2.2 r 0 = some x → 131 ≤ x → ∀ i, τ.2.1 x i = σ.2.1 x i) : TWr t τ τ := by
  have ht := hH.1
  have hc := hH.code
  refine (h.cells e1 (fun r hr => e2 r (by omega)) (fun a j ha => e3 a j (by omega)) (fun r hr x hx i => ?_)).H (fun a j h1 h2 => e3 a j (by omega))
  have hx0 := (hc r (by omega) x hx).1
  unfold cdC0 at hx0
  by_cases g : 131 ≤ x
  · exact e4 r (by omega) x hx g i
  · exact e3 x i (by omega)
theorem IL.c {σ τ : am_H} (h : IL σ) (e : ∀ a j, (32 ≤ a ∧ a ≤ 36) ∨ a = 96 → τ.2.1 a j = σ.2.1 a j) : IL τ := by
  have e9 : (fun k => τ.2.1 96 k) = (fun k => σ.2.1 96 k) := funext (fun k => e 96 k (by omega))
  unfold IL
  rw [e9]
  exact ⟨h.1.cells (fun a j ha => e a j (by omega)), h.2.cells (fun a j ha => e a j (by omega))⟩
theorem IQ.c {σ τ : am_H} (h : IQ σ) (e : ∀ a j, a = 85 ∨ a = 86 ∨ a = 96 → τ.2.1 a j = σ.2.1 a j) : IQ τ := by
  have e9 : (fun k => τ.2.1 96 k) = (fun k => σ.2.1 96 k) := funext (fun k => e 96 k (by omega))
  have e8 : pN τ = pN σ := by unfold pN; rw [e 85 5 (by omega)]
  unfold IQ
  rw [e9, e8, e 85 9 (by omega), e 85 5 (by omega)]
  exact ⟨h.1, fun q hq => by rw [e 86 (8 + q) (by omega)]; exact h.2 q hq⟩
theorem SNC.c {σ τ : am_H} (h : SNC σ) (e : ∀ a j, (a = 0 ∧ j = 11) ∨ a = 51 ∨ a = 52 ∨ (a = 55 ∧ j = 65) ∨ a = 100 → τ.2.1 a j = σ.2.1 a j) : SNC τ := by
  have e51 : ∀ j, τ.2.1 51 j = σ.2.1 51 j := fun j => e 51 j (by omega)
  have e52 : ∀ j, τ.2.1 52 j = σ.2.1 52 j := fun j => e 52 j (by omega)
  have e100 : ∀ j, τ.2.1 100 j = σ.2.1 100 j := fun j => e 100 j (by omega)
  unfold SNC SNR
  simp only [e 0 11 (by omega), e 55 65 (by omega), e51, e52, e100]
  exact h
theorem IT.c {σ τ : am_H} (h : IT σ) (e : ∀ a j, (a = 1 ∧ j = 1) ∨ a = 2 ∨ (a = 55 ∧ j = 1) ∨ a = 56 → τ.2.1 a j = σ.2.1 a j) : IT τ := by
  have e2 : ∀ j, τ.2.1 2 j = σ.2.1 2 j := fun j => e 2 j (by omega)
  have e56 : ∀ j, τ.2.1 56 j = σ.2.1 56 j := fun j => e 56 j (by omega)
  unfold IT TPR
  simp only [e 1 1 (by omega), e2, e 55 1 (by omega), e56]
  exact h
theorem IR.c {m n : Nat} {σ τ : am_H} (h : IR m σ) (hmn : m ≤ n) (e : ∀ a j, a = 54 ∨ a = 57 → τ.2.1 a j = σ.2.1 a j) : IR n τ := by
  intro j hj
  have h9 := h j hj
  rw [e 54 j (by omega), e 57 j (by omega)]
  omega
theorem IF.c {σ τ : am_H} (h : IF σ) (e : ∀ a j, (a = 0 ∧ 14 ≤ j ∧ j ≤ 16) ∨ (a = 55 ∧ (j = 7 ∨ j = 8 ∨ j = 71)) → τ.2.1 a j = σ.2.1 a j) : IF τ := by
  unfold IF
  rw [e 0 14 (by omega), e 0 15 (by omega), e 0 16 (by omega), e 55 7 (by omega), e 55 8 (by omega), e 55 71 (by omega)]
  exact h
theorem IP.c {σ τ : am_H} (h : IP σ) (e : ∀ a j, (a = 49 ∧ j = 1) ∨ (a = 55 ∧ j = 107) ∨ a = 50 ∨ a = 130 → τ.2.1 a j = σ.2.1 a j) : IP τ := by
  have e50 : ∀ j, τ.2.1 50 j = σ.2.1 50 j := fun j => e 50 j (by omega)
  have e130 : ∀ j, τ.2.1 130 j = σ.2.1 130 j := fun j => e 130 j (by omega)
  unfold IP
  simp only [e 49 1 (by omega), e50, e 55 107 (by omega), e130]
  exact h
theorem WD.c9 {S T : am_H} (h : WD S) (e : ∀ a j, (58 ≤ a ∧ a ≤ 84) ∨ (103 ≤ a ∧ a ≤ 126) → T.2.1 a j = S.2.1 a j) : WD T := by
  intro q hq j hj
  rw [e q.1 j ?_]
  · exact h q hq j hj
  · have : ∀ q ∈ WT, (58 ≤ q.1 ∧ q.1 ≤ 84) ∨ (103 ≤ q.1 ∧ q.1 ≤ 126) := by decide
    exact this q hq
theorem IW.c {σ τ : am_H} (h : IW σ) (e : ∀ a j, (58 ≤ a ∧ a ≤ 84) ∨ (103 ≤ a ∧ a ≤ 126) ∨ (87 ≤ a ∧ a ≤ 89) ∨ a = 91 → τ.2.1 a j = σ.2.1 a j) : IW τ :=
  ⟨h.1.c9 (fun a j ha => e a j (by omega)), h.2.c (fun a j ha => e a j (by omega))⟩
theorem BLK.c9 {σ τ : am_H} {L : Nat} (h : BLK σ L) (hL : 131 ≤ L) (e1 : ∀ (a : Nat) (q : Nat × Nat), σ.1[a]? = some q → τ.1[a]? = some q) (e2 : ∀ j, τ.2.2 L j = σ.2.2 L j) : BLK τ L := by
  unfold BLK
  rw [e2, e2, e2, e2]
  exact ⟨⟨e1 _ _ h.1.1, e1 _ _ h.1.2.1, e1 _ _ h.1.2.2.1, e1 _ _ h.1.2.2.2.1, e1 _ _ h.1.2.2.2.2⟩, h.2⟩
theorem PST.c9 {σ τ : am_H} (h : PST σ) (e1 : ∀ (a : Nat) (q : Nat × Nat), σ.1[a]? = some q → τ.1[a]? = some q) (e2 : ∀ a j, a = 43 ∨ 131 ≤ a ∨ (j = 0 ∧ (a = 11 ∨ a = 13 ∨ a = 23 ∨ a = 25)) → τ.2.2 a j = σ.2.2 a j) : PST τ := by
  refine ⟨fun s L hs hL => ?_, fun s s' L L' hs hs' hn h1 h2 => ?_⟩
  · rw [e2 43 s (by omega)] at hL
    obtain ⟨g1, g2, g3⟩ := h.1 s L hs hL
    exact ⟨g1, g2.c9 g1 e1 (fun j => e2 L j (by omega)), fun r hr x hx => g3 r hr x (by rw [← e2 r 0 (by omega)]; exact hx)⟩
  · rw [e2 43 s (by omega)] at h1
    rw [e2 43 s' (by omega)] at h2
    exact h.2 s s' L L' hs hs' hn h1 h2
theorem kt.c {σ τ : am_H} (e : ∀ a j, (a = 55 ∧ j = 70) ∨ a = 102 → τ.2.1 a j = σ.2.1 a j) (j : Nat) : kt τ j = kt σ j := by
  unfold kt
  funext k
  rw [e 55 70 (by omega), e 102 _ (by omega)]
theorem IK.c {f c : Nat} {σ τ : am_H} (h : IK f c σ) (e1 : ∀ (a : Nat) (q : Nat × Nat), σ.1[a]? = some q → τ.1[a]? = some q) (e2 : ∀ a j, a = 43 ∨ 131 ≤ a ∨ (j = 0 ∧ (a = 11 ∨ a = 13 ∨ a = 23 ∨ a = 25)) → τ.2.2 a j = σ.2.2 a j) (e3 : ∀ a j, (a = 42 ∧ (j = 1 ∨ j = 2)) ∨ (a = 55 ∧ (j = 69 ∨ j = 70)) ∨ a = 102 ∨ a = 85 ∨ 131 ≤ a → τ.2.1 a j = σ.2.1 a j) : IK f c τ := by
  obtain ⟨⟨⟨p1, p2⟩, p3, p4⟩, h69, h70, hk⟩ := h
  refine ⟨⟨⟨(e3 42 1 (by omega)).trans p1, (e3 42 2 (by omega)).trans p2⟩, p3, p4.c9 e1 e2⟩, (e3 55 69 (by omega)).trans h69, by rw [e3 55 70 (by omega)]; exact h70, fun j hj => ?_⟩
  obtain ⟨L, g1, g2, g3, g4⟩ := hk j hj
  have hL := (p4.1 _ L (Nat.mod_lt _ (by decide)) g1).1
  have e8 : pN τ = pN σ := by unfold pN; rw [e3 85 5 (by omega)]
  refine ⟨L, (e2 43 _ (by omega)).trans g1, ?_, ?_, ?_⟩
  · rw [kt.c (fun a j ha => e3 a j (by omega)) j]; exact g2.cells (fun a j ha => e3 a j (by omega))
  · rw [kt.c (fun a j ha => e3 a j (by omega)) j]; exact g3.cells (fun a j ha => e3 a j (by omega))
  · rw [kt.c (fun a j ha => e3 a j (by omega)) j, e8, e3 85 9 (by omega)]; exact g4
/-- a quiet change -/
def W_fr (a j : Nat) : Prop := (27 ≤ a ∧ a ≤ 31) ∨ (37 ≤ a ∧ a ≤ 41) ∨ (44 ≤ a ∧ a ≤ 48) ∨ a = 53 ∨ (97 ≤ a ∧ a ≤ 99) ∨ a = 101 ∨ (127 ≤ a ∧ a ≤ 129) ∨ (a = 55 ∧ ¬ (j = 1 ∨ j = 7 ∨ j = 8 ∨ j = 52 ∨ j = 65 ∨ j = 69 ∨ j = 70 ∨ j = 71 ∨ j = 107))
def QU (W : Nat → Nat → Prop) (σ τ : am_H) : Prop := τ.1 = σ.1 ∧ (∀ a j, ¬ (a = 44 ∧ (j = 8 ∨ j = 9)) → τ.2.2 a j = σ.2.2 a j) ∧ ∀ a j, ¬ W a j → τ.2.1 a j = σ.2.1 a j
theorem QU.w {W V : Nat → Nat → Prop} {σ τ : am_H} (h : QU W σ τ) (hW : ∀ a j, W a j → V a j) : QU V σ τ := ⟨h.1, h.2.1, fun a j g => h.2.2 a j (fun x => g (hW a j x))⟩
theorem QU.of {W : Nat → Nat → Prop} {σ τ : am_H} (h : frw W σ τ) : QU W σ τ := ⟨h.1, fun a j _ => congrFun (congrFun h.2.1 a) j, h.2.2⟩
theorem QU.e1 {W : Nat → Nat → Prop} {σ τ : am_H} (h : QU W σ τ) (a : Nat) (q : Nat × Nat) (hq : σ.1[a]? = some q) : τ.1[a]? = some q := by rw [h.1]; exact hq
theorem QU.tr {W V : Nat → Nat → Prop} {σ τ ρ : am_H} (h : QU W σ τ) (g : QU V τ ρ) : QU (fun a j => W a j ∨ V a j) σ ρ := ⟨g.1.trans h.1, fun a j x => (g.2.1 a j x).trans (h.2.1 a j x), fun a j x => (g.2.2 a j (fun y => x (Or.inr y))).trans (h.2.2 a j (fun y => x (Or.inl y)))⟩
theorem IV.qu {t f c m n : Nat} {σ τ : am_H} (h : IV t f c m σ) (hmn : m ≤ n) (hQ : QU W_fr σ τ) (hG : GD τ) : IV t f c n τ := by
  have E := hQ.2.2
  refine ⟨hG, h.H.c hQ.e1 (fun a j ha => hQ.2.1 a j (by omega)), h.W.c9 h.H hQ.e1 (fun r hr => hQ.2.1 r 0 (by omega)) (fun a j ha => E a j (by unfold W_fr; omega)) (fun r hr x hx hx2 i => E x i (by unfold W_fr; omega)), h.L.c (fun a j ha => E a j (by unfold W_fr; omega)), h.Q.c (fun a j ha => E a j (by unfold W_fr; omega)), h.S.c (fun a j ha => E a j (by unfold W_fr; omega)), h.T.c (fun a j ha => E a j (by unfold W_fr; omega)), h.R.c hmn (fun a j ha => E a j (by unfold W_fr; omega)), h.F.c (fun a j ha => E a j (by unfold W_fr; omega)), h.P.c (fun a j ha => E a j (by unfold W_fr; omega)), h.D.c (fun a j ha => E a j (by unfold W_fr; omega)), h.K.c hQ.e1 (fun a j ha => hQ.2.1 a j (by omega)) (fun a j ha => E a j (by unfold W_fr; omega))⟩
/-- a question: the class's change, then the model's -/
theorem IV.cqpq {t f c m n : Nat} {σ σ' σ'' : am_H} (h : IV t f c m σ) (hmn : m ≤ n) (hQ : CQ σ σ') (hP : PQ σ' σ'') : IV t f c n σ'' := by
  have h1 : QU W_cq σ σ' := hQ
  have h2 : QU W_pub σ' σ'' := QU.of hP.1
  exact h.qu hmn ((h1.tr h2).w (fun a j g => by unfold W_fr; unfold W_cq W_pub at g; omega)) hP.2
