theorem ph_p {b : Nat → Int} {E : Nat} {H : am_H} {q : PZ} (h8 : 0 ≤ H.2.1 85 0 ∧ H.2.1 85 0 ≤ 8) (h : (phF b E H q).isLeft = true) : 0 ≤ pOf H (nZ b E q) ∧ pOf H (nZ b E q) < H.2.1 85 0 := by
  cases q with
  | inr e => exact absurd h (by simp [phF])
  | inl i =>
    have h2 : (if zK b E i = 3 ∨ 155 ≤ zK b E i then (if pOf H (zN b E i) = -1 then (.inr (3, (zP b E i : Int)) : PZ) else .inl (i + 1)) else .inr (1, mfP b E i)).isLeft = true := h
    have h3 : ¬ pOf H (zN b E i) = -1 := by
      intro e
      rw [e] at h2
      by_cases g : zK b E i = 3 ∨ 155 ≤ zK b E i
      · rw [if_pos g, if_pos rfl] at h2; exact absurd h2 (by simp)
      · rw [if_neg g] at h2; exact absurd h2 (by simp)
    show 0 ≤ pOf H (zN b E i) ∧ pOf H (zN b E i) < H.2.1 85 0
    have h4 : pOf H (zN b E i) = -1 ∨ (0 ≤ pOf H (zN b E i) ∧ pOf H (zN b E i) < ((H.2.1 85 0).toNat : Int)) := firstQ_rng _
    omega
theorem toP_F {b : Nat → Int} {E t : Nat} {σ H : am_H} {pl : Int} {i : Nat} (hT : TRr t σ H) (h8 : 0 ≤ H.2.1 85 0 ∧ H.2.1 85 0 ≤ 8) (hD : H.2.1 85 4 ≤ 90) (hn : ¬ H.2.1 85 1 = 30) : toP b E H (H.2.1 85 4) (.inl i) = toF b E H pl i := by
  have e : (toR b E H i).isLeft = true → ao_and (ao_shr (H.2.1 90 (toD b E H i).toNat) (rmA b E H i)) 1 = tb (H.2.1 90 (toD b E H i).toNat) (rmA b E H i) := by
    intro hl
    have h1 : (akF b E 5 (phF b E H (.inl i))).isLeft = true := nuF_l hl
    have h2 := ph_p h8 (akF_l h1)
    have h3 : 1 ≤ toD b E H i ∧ toD b E H i ≤ H.2.1 85 4 := nu_r hl
    exact tb_eq (hT.2.2.2.1 (toD b E H i).toNat (by omega)).2 ⟨h2.1, by have := h2.2; show pOf H (nZ b E (.inl i)) < 8; omega⟩
  unfold toF
  rw [if_neg hn]
  have e2 : ((toR b E H i).isLeft = true ∧ tb (H.2.1 90 (toD b E H i).toNat) (rmA b E H i) = 1) ↔ ((toR b E H i).isLeft = true ∧ ao_and (ao_shr (H.2.1 90 (toD b E H i).toNat) (rmA b E H i)) 1 = 1) :=
    ⟨fun h => ⟨h.1, (e h.1).trans h.2⟩, fun h => ⟨h.1, (e h.1).symm.trans h.2⟩⟩
  exact ite_congr (propext e2) (fun _ => rfl) (fun _ => rfl)
theorem rmP_F {b : Nat → Int} {E t : Nat} {σ H : am_H} {pl : Int} {i : Nat} (hT : TRr t σ H) (h8 : 0 ≤ H.2.1 85 0 ∧ H.2.1 85 0 ≤ 8) (hn : ¬ H.2.1 85 2 = 20) : rmP b E H (.inl i) = rmF b E H pl i := by
  have e : (phF b E H (phF b E H (.inl i))).isLeft = true → ao_and (ao_shr (H.2.1 89 (rmA b E H i).toNat) (rmB b E H i)) 1 = tb (H.2.1 89 (rmA b E H i).toNat) (rmB b E H i) := by
    intro hl
    have h1 := ph_p h8 hl
    have h2 : 0 ≤ rmA b E H i ∧ rmA b E H i < H.2.1 85 0 := ph_p h8 (phF_l hl)
    have h3 := hT.2.2.1 (rmA b E H i).toNat (by omega)
    rw [if_pos (by omega)] at h3
    exact tb_eq (by rw [← h3.1]; exact h3.2.1) ⟨h1.1, by have := h1.2; show pOf H (nZ b E (phF b E H (.inl i))) < 8; omega⟩
  unfold rmF
  rw [if_neg hn]
  have e2 : ((phF b E H (phF b E H (.inl i))).isLeft = true ∧ (rmA b E H i = rmB b E H i ∨ tb (H.2.1 89 (rmA b E H i).toNat) (rmB b E H i) = 1)) ↔ ((phF b E H (phF b E H (.inl i))).isLeft = true ∧ (rmA b E H i = rmB b E H i ∨ ao_and (ao_shr (H.2.1 89 (rmA b E H i).toNat) (rmB b E H i)) 1 = 1)) :=
    ⟨fun h => ⟨h.1, h.2.elim Or.inl (fun z => Or.inr ((e h.1).trans z))⟩, fun h => ⟨h.1, h.2.elim Or.inl (fun z => Or.inr ((e h.1).symm.trans z))⟩⟩
  exact ite_congr (propext e2) (fun _ => rfl) (fun _ => rfl)
/-- a statement's head: where it goes on, or too many -/
def HC (b : Nat → Int) (E i : Nat) (full : Prop) (s : Int) (p : PZ) : Prop := (p = .inl (i + 1) ∧ ¬ full ∧ s < 70) ∨ (p = .inr (5, (zP b E i : Int)) ∧ (70 ≤ s ∨ full))
theorem HC.iff {b : Nat → Int} {E i : Nat} {f g : Prop} {s s2 : Int} {p : PZ} (h : HC b E i f s p) (hf : f ↔ g) (hs : s = s2) : HC b E i g s2 p := by
  rw [← hs]
  rcases h with h | h
  · exact Or.inl ⟨h.1, fun z => h.2.1 (hf.mpr z), h.2.2⟩
  · exact Or.inr ⟨h.1, h.2.imp id hf.mp⟩
theorem st_eq {b : Nat → Int} {E i : Nat} {H : am_H} {G : PZ → PZ} {full : Prop} {p : PZ} (hG : ∀ e, G (.inr e) = .inr e) (hc : HC b E i full (H.2.1 55 51) p) (hs : H.2.1 55 51 ≤ 70) (h1 : ¬ full → stR b E H i = G (.inl (i + 1))) (h2 : full → stR b E H i = .inr (5, (zP b E i : Int))) : sgF b E 59 (G p) = stF b E H i := by
  unfold stF
  rcases hc with ⟨rfl, hf, h7⟩ | ⟨rfl, h7⟩
  · rw [if_neg (by omega), h1 hf]
  · rw [hG]
    by_cases g : H.2.1 55 51 = 70
    · rw [if_pos g]; rfl
    · rw [if_neg g, h2 (h7.resolve_left (by omega))]
theorem st_l {b : Nat → Int} {E i : Nat} {G : PZ → PZ} {full : Prop} {s : Int} {p : PZ} (hG : ∀ e, G (.inr e) = .inr e) (hc : HC b E i full s p) (hl : (sgF b E 59 (G p)).isLeft = true) : p = .inl (i + 1) ∧ ¬ full ∧ s < 70 ∧ (G p).isLeft = true := by
  have h1 := sgF_l hl
  rcases hc with h | ⟨rfl, _⟩
  · exact ⟨h.1, h.2.1, h.2.2, h1⟩
  · rw [hG] at h1
    exact absurd h1 (by simp)
theorem TRr.st {t : Nat} {σ H : am_H} (ht : t = 3 ∨ t = 15) (h : TRr t σ H) (v : Int) : TRr t (am_setN σ t 1 v) (am_setN H 55 51 v) := by
  obtain ⟨⟨a1, a2, a3, a4, a5, a6, a7, a8⟩, hn, hm, ho, hf⟩ := h
  refine ⟨⟨?_, ?_, ?_, ?_, ?_, ?_, ?_, ?_⟩, fun p hp => ?_, fun p hp => ?_, fun d hd => ?_, fun d hd h1 h2 => ?_⟩
  · rw [set_nn (by omega), set_nn (by omega)]; exact a1
  · rw [set_eq, set_eq]
  · rw [set_nn (by omega), set_nn (by omega)]; exact a3
  · rw [set_nn (by omega), set_nn (by omega)]; exact a4
  · rw [set_nn (by omega), set_nn (by omega)]; exact a5
  · rw [set_nn (by omega), set_nn (by omega)]; exact a6
  · rw [set_nn (by omega), set_nn (by omega)]; exact a7
  · rw [set_nn (by omega), set_nn (by omega)]; exact a8
  · rw [set_nn (by omega)] at hp
    have := hn p hp
    simp (disch := omega) only [set_nn]
    exact this
  · have := hm p hp
    simp (disch := omega) only [set_nn]
    exact this
  · have := ho d hd
    simp (disch := omega) only [set_nn]
    exact this
  · rw [set_nn (by omega)] at h2
    have := hf d hd h1 h2
    unfold frN at this ⊢
    simp (disch := omega) only [set_nn]
    exact this
def W_ts (t a j : Nat) : Prop := (t ≤ a ∧ a ≤ t + 7) ∨ W_rz a j
theorem st_post {b : Nat → Int} {E : Nat} {t i : Nat} {σ T1 T2 τ H : am_H} {G : PZ → PZ} {full : Prop} {p : PZ} (ht : t = 3 ∨ t = 15) (hT : TRr t σ H) (hG : ∀ e, G (.inr e) = .inr e) (hc : HC b E i full (H.2.1 55 51) p) (hT2 : p = .inl (i + 1) → (G p).isLeft = true → TRr t T2 (stG b E H i)) (hG1 : frw W_rz σ T1) (hF2 : frw (W_tn t) T1 T2) (hF : frw W_rz (am_setN T2 t 1 (T2.2.1 t 1 + 1)) τ) :
    ((sgF b E 59 (G p)).isLeft = true → TRr t τ (stH b E H i)) ∧ frw (W_ts t) σ τ := by
  have e1 : T2.2.1 t 1 = H.2.1 55 51 := by rw [hF2.2.2 t 1 (by unfold W_tn W_rz; omega), hG1.2.2 t 1 (by unfold W_rz; omega)]; exact hT.1.2.1
  refine ⟨fun hl => ?_, ?_⟩
  · obtain ⟨h1, _, _, h2⟩ := st_l hG hc hl
    have h3 := (hT2 h1 h2).st ht (T2.2.1 t 1 + 1)
    rw [e1] at h3 hF
    exact h3.fr hF (fun a j h => by unfold W_rz; omega)
  · refine (hG1.mono (fun a j h => Or.inr h)).trans ((hF2.mono (fun a j h => ?_)).trans (((frw.refl (W_ts t) T2).setN (by unfold W_ts; omega)).trans (hF.mono (fun a j h => Or.inr h))))
    unfold W_tn at h
    rcases h with h | h
    · exact Or.inl ⟨h.1, h.2.1⟩
    · exact Or.inr h
