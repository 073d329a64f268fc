/-- between the class's act and the model's -/
def MID (σ σ' : am_H) : Prop := GD σ' ∧ (∀ a j, 55 ≤ a → a ≤ 130 → σ'.2.1 a j = σ.2.1 a j) ∧ (0 ≤ σ'.2.1 55 70 ∧ σ'.2.1 55 70 ≤ 19) ∧ (0 ≤ σ'.2.1 55 69 ∧ σ'.2.1 55 69 ≤ 20) ∧ ∀ j, j < 6 → 0 ≤ σ'.2.1 57 j ∧ σ'.2.1 57 j ≤ 100000
theorem IV.mid9 {t f c n : Nat} {σ σ' : am_H} (h : IV t f c n σ) (hn : n ≤ 1000) (hL : lay σ') (E : ∀ a j, 55 ≤ a → a ≤ 130 → σ'.2.1 a j = σ.2.1 a j) : MID σ σ' := by
  refine ⟨h.G.cells hL (fun a j ha => E a j (by omega) (by omega)), E, by rw [E 55 70 (by omega) (by omega)]; exact h.K.2.2.1, ?_, fun j hj => by rw [E 57 j (by omega) (by omega)]; exact h.rm hn j hj⟩
  rw [E 55 69 (by omega) (by omega), h.K.2.1]
  have := h.K.1.2.1
  omega
theorem IV.mid {t f c n : Nat} {σ T σ' : am_H} (h : IV t f c n σ) (hn : n ≤ 1000) (hM : RMB f c σ T) (hA : QU W_ac T σ') : MID σ σ' := by
  have hke := hM.keep h.H.1 h.C h.cd h.K.1
  exact h.mid9 hn (lay_qu hke.1 hA) (fun a j h1 h2 => (hA.2.2 a j (by unfold W_ac; omega)).trans (hke.2.2.2.2 a j h2 (by omega)))
theorem IV.midr {t f c n : Nat} {σ σ' : am_H} (h : IV t f c n σ) (hn : n ≤ 1000) {q : Nat} {x : Int} (e : σ' = am_setN σ 54 q x) : MID σ σ' := by
  subst e
  exact h.mid9 hn (((frw.refl (fun a j => a = 54) σ).setN (a := 54) (j := q) rfl).L h.G.L) (fun a j h1 h2 => set_nn (by omega))
theorem MID.cn {σ σ' : am_H} (h : MID σ σ') : cn σ' = cn σ := cn_eq (fun a j h1 h2 => h.2.1 a j (by omega) (by omega))
theorem LF0.told {T : am_H} {f : Nat → Int} (h : LF0 32 T f) {d : Nat} (hd : d < 91) (v : Int) : LF0 32 (am_setN T 34 d v) (fun k => if k = 20 + d then v else f k) := by
  obtain ⟨⟨a0, a1, a2, a3⟩, b, c, e, u, w⟩ := h
  have q : ∀ k, ¬ k = 20 + d → (fun k => if k = 20 + d then v else f k) k = f k := fun k hk => if_neg hk
  refine ⟨⟨?_, ?_, ?_, ?_⟩, ?_, fun p hp => ?_, fun p hp => ?_, fun i hi => ?_, fun i hi => ?_⟩
  · rw [q 0 (by omega), set_nn (by omega)]; exact a0
  · rw [q 1 (by omega), set_nn (by omega)]; exact a1
  · rw [q 2 (by omega), set_nn (by omega)]; exact a2
  · rw [q 3 (by omega), set_nn (by omega)]; exact a3
  · rw [set_nn (by omega)]; exact b
  · rw [q _ (by omega), set_nn (by omega)]; exact c p hp
  · rw [q _ (by omega), set_nn (by omega)]; exact e p hp
  · by_cases g : i = d
    · subst g
      rw [set_eq]
      exact (if_pos rfl).symm
    · rw [q _ (by omega), set_nn (by omega)]; exact u i hi
  · rw [q _ (by omega), set_nn (by omega)]; exact w i hi
theorem LF0.brib {T : am_H} {f : Nat → Int} (h : LF0 32 T f) {d : Nat} (hd : d < 91) (v m : Int) : LF0 32 (am_setN (am_setN T 35 d v) 32 3 m) (fun k => if k = 3 then m else if k = 111 + d then v else f k) := by
  obtain ⟨⟨a0, a1, a2, a3⟩, b, c, e, u, w⟩ := h
  have q : ∀ k, ¬ k = 111 + d → ¬ k = 3 → (fun k => if k = 3 then m else if k = 111 + d then v else f k) k = f k := fun k hk hk3 => by
    show (if k = 3 then m else if k = 111 + d then v else f k) = f k
    rw [if_neg hk3, if_neg hk]
  refine ⟨⟨?_, ?_, ?_, ?_⟩, ?_, fun p hp => ?_, fun p hp => ?_, fun i hi => ?_, fun i hi => ?_⟩
  · rw [q 0 (by omega) (by omega), set_nn (by omega), set_nn (by omega)]; exact a0
  · rw [q 1 (by omega) (by omega), set_nn (by omega), set_nn (by omega)]; exact a1
  · rw [q 2 (by omega) (by omega), set_nn (by omega), set_nn (by omega)]; exact a2
  · rw [set_eq]; exact (if_pos rfl).symm
  · rw [set_nn (by omega), set_nn (by omega)]; exact b
  · rw [q _ (by omega) (by omega), set_nn (by omega), set_nn (by omega)]; exact c p hp
  · rw [q _ (by omega) (by omega), set_nn (by omega), set_nn (by omega)]; exact e p hp
  · rw [q _ (by omega) (by omega), set_nn (by omega), set_nn (by omega)]; exact u i hi
  · by_cases g : i = d
    · subst g
      rw [set_nn (by omega), set_eq]
      show v = if 111 + i = 3 then m else if 111 + i = 111 + i then v else f (111 + i)
      rw [if_neg (by omega), if_pos rfl]
    · rw [q _ (by omega) (by omega), set_nn (by omega), set_nn (by omega)]; exact w i hi
theorem feS_eq9 {σ τ : am_H} (h : cn τ = cn σ) : feS τ = feS σ := by
  funext k; unfold feS; rw [fsD_eq (itS_eq h k)]
theorem chS_eq9 {σ τ : am_H} (h : cn τ = cn σ) (h71 : τ.2.1 55 71 = σ.2.1 55 71) : ∀ n, cn (chS τ n).1 = cn (chS σ n).1 ∧ (chS τ n).2 = (chS σ n).2
  | 0 => ⟨h, by show (τ.2.1 55 71, (0 : Int)) = (σ.2.1 55 71, 0); rw [h71]⟩
  | n + 1 => by
    obtain ⟨e1, e2⟩ := chS_eq9 h h71 n
    have e3 : (fun j => (chS τ n).1.2.1 96 j) = (fun j => (chS σ n).1.2.1 96 j) := funext (fun j => cn_at e1 96 j (by omega) (by omega))
    have e5 : cn (am_setA (chS τ n).1 96 (dF (fun j => (chS τ n).1.2.1 96 j) (chS τ n).2.1 (τ.2.1 92 3) (pN τ)).1) = cn (am_setA (chS σ n).1 96 (dF (fun j => (chS σ n).1.2.1 96 j) (chS σ n).2.1 (σ.2.1 92 3) (pN σ)).1) := by
      rw [e3, e2, cn_at h 92 3 (by omega) (by omega), pN_eq2 h]
      refine cn_eq (fun a j h1 h2 => ?_)
      by_cases g : a = 96
      · subst g; rw [setA_eq, setA_eq]
      · rw [setA_nn g, setA_nn g]; exact cn_at e1 a j (by omega) (by omega)
    refine ⟨dyS_eq e5, ?_⟩
    show ((dF (fun j => (chS τ n).1.2.1 96 j) (chS τ n).2.1 (τ.2.1 92 3) (pN τ)).2.1, (chS τ n).2.2 + (dF (fun j => (chS τ n).1.2.1 96 j) (chS τ n).2.1 (τ.2.1 92 3) (pN τ)).2.2) = _
    rw [e3, e2, cn_at h 92 3 (by omega) (by omega), pN_eq2 h]
    rfl
theorem IV.seed {t f c n : Nat} {σ : am_H} (h : IV t f c n σ) : 0 ≤ σ.2.1 55 71 ∧ σ.2.1 55 71 < 2147483648 := h.F.2.2
theorem op_dies (p : Int) : OPI M_X9_dies M_X10_dies [am_i p] := by
  intro k σ hk ⟨t, f, c, h⟩
  have hcq : ∀ σ', MID σ σ' → (dieC σ' p ↔ dieC σ p) := fun σ' hD => by
    unfold dieC
    rw [hD.2.1 85 5 (by omega) (by omega), hD.2.1 96 _ (by omega) (by omega)]
  have main : ∀ r σ', ((dieC σ p ∧ r = some (am_i 1) ∧ ∃ T, RMB f c σ T ∧ σ' = am_setN T 32 4 (ao_or (σ.2.1 32 4) (ao_shl 1 p))) ∨ (¬ dieC σ p ∧ r = some (am_i 0) ∧ σ' = am_setN σ 54 3 (σ.2.1 54 3 + 1))) → ∃ v : Int, r = some (am_i v) ∧ lay σ' ∧ am_met M_X10_dies [am_r 55, am_i p] σ' (fun r2 σ'' => r2 = some (am_i v) ∧ INV (k + 1) σ'') := by
    intro r σ' hh
    rcases hh with ⟨g1, g2, hT⟩ | ⟨g1, g2, g3⟩
    · refine ⟨_, g2, ?_⟩
      obtain ⟨T, hM, g3⟩ := hT
      have hke := hM.keep h.H.1 h.C h.cd h.K.1
      have hA : QU W_ac T σ' := by rw [g3]; exact QU.of ((frw.refl _ T).setN (by unfold W_ac; omega))
      have hD := h.mid hk hM hA
      have hc := hcq σ' hD
      obtain ⟨hG', E0, h70, h69, h57⟩ := hD
      refine ⟨hG'.L, am_mono (c_X10_dies σ' hG'.L p hG'.R h70 h69 (h57 3 (by omega))) (fun r2 σ'' h2 => ?_)⟩
      rcases h2 with ⟨k1, k2, k3⟩ | ⟨k1, -⟩
      · obtain ⟨m, rfl⟩ := Int.eq_ofNat_of_zero_le g1.1.1
        have hP := h.G.R.P
        have hm : m < pN σ := by unfold pN; have := g1.1.2; omega
        have hm8 : m < 8 := by have := g1.1.2; omega
        have hB : frw W_ma (keH σ') σ'' := by rw [k3]; exact (frw.refl _ _).setN (by unfold W_ma; omega)
        have E5 : ∀ j, ¬ (j = 69 ∨ j = 70) → σ''.2.1 55 j = σ.2.1 55 j := fun j hj => by
          rw [k3, set_nn (by omega), (keH_fr σ').2.2 55 j (by unfold W_ke; omega), E0 55 j (by omega) (by omega)]
        have E0' : σ''.2.1 0 16 = σ.2.1 0 16 := by
          rw [k3, set_nn (by omega), (keH_fr σ').2.2 0 16 (by unfold W_ke; omega), g3, set_nn (by omega)]
          exact hke.2.2.2.2 0 16 (by omega) (by omega)
        refine ⟨k2, h.act3 hM hA hB (fun k => if k = 12 + m then 1 else σ.2.1 96 k) (fun k => ?_) ?_ ?_ (LK_die h.Q.1 hm hm8) (by rw [E0', E5 71 (by omega)]; exact h.F.2) (by rw [E5 59 (by omega)]; exact h.G.o) (by rw [E5 61 (by omega)]; exact h.G.t)⟩
        · rw [k3]
          by_cases g : k = 12 + m
          · subst g
            rw [show ((12 : Int) + (m : Int)).toNat = 12 + m by omega, set_eq, if_pos rfl]
          · rw [set_nn (by omega), (keH_fr σ').2.2 96 k (by unfold W_ke; omega), E0 96 k (by omega) (by omega), if_neg g]
        · rw [g3, ← hke.2.2.2.2 32 4 (by omega) (by omega)]
          exact hke.2.2.1.die hm8
        · rw [g3]
          exact ((h.L.2.cells (fun a j ha => hke.2.2.2.2 a j (by omega) (by omega))).fr (W := fun a j => a = 32 ∧ j = 4) ((frw.refl _ T).setN ⟨rfl, rfl⟩) (by omega) (by omega) (by omega)).g (fun k _ => if_neg (by omega))
      · exact absurd (hc.mpr g1) k1
    · refine ⟨_, g2, ?_⟩
      have hD := h.midr hk g3
      have hc := hcq σ' hD
      obtain ⟨hG', E0, h70, h69, h57⟩ := hD
      refine ⟨hG'.L, am_mono (c_X10_dies σ' hG'.L p hG'.R h70 h69 (h57 3 (by omega))) (fun r2 σ'' h2 => ?_)⟩
      rcases h2 with ⟨k1, -⟩ | ⟨k1, k2, k3⟩
      · exact absurd (hc.mp k1) g1
      · exact ⟨k2, t, f, c, by rw [k3, g3, set_nn (show ¬ (57 = 54 ∧ 3 = 3) by omega)]; exact h.ref 3 (by omega)⟩
  rcases h.H.1 with rfl | rfl
  · exact am_mono (c_dies_3 σ f c h.C h.cd p h.L.2 h.Q.1.2.1 h.K.1 (h.rf hk 3 (by omega))) main
  · exact am_mono (c_dies_15 σ f c h.C h.cd p h.L.2 h.Q.1.2.1 h.K.1 (h.rf hk 3 (by omega))) main
theorem op_tell (p : Int) (d : Int) : OPI M_X9_tell M_X10_tell [am_i p, am_i d] := by
  intro k σ hk ⟨t, f, c, h⟩
  have hcq : ∀ σ', MID σ σ' → (telC σ' p d ↔ telC σ p d) := fun σ' hD => by
    unfold telC
    rw [hD.2.1 85 5 (by omega) (by omega), hD.2.1 85 9 (by omega) (by omega), hD.2.1 96 _ (by omega) (by omega), stM_eq9 hD.cn]
  have main : ∀ r σ', ((telC σ p d ∧ r = some (am_i (if tb (σ.2.1 96 (20 + d).toNat) p = 1 then 0 else 1)) ∧ ∃ T, RMB f c σ T ∧ σ' = am_setN T 34 d.toNat (ao_xor (T.2.1 34 d.toNat) (ao_shl 1 p))) ∨ (¬ telC σ p d ∧ r = some (am_i (-1)) ∧ σ' = am_setN σ 54 3 (σ.2.1 54 3 + 1))) → ∃ v : Int, r = some (am_i v) ∧ lay σ' ∧ am_met M_X10_tell [am_r 55, am_i p, am_i d] σ' (fun r2 σ'' => r2 = some (am_i v) ∧ INV (k + 1) σ'') := by
    intro r σ' hh
    rcases hh with ⟨g1, g2, hT⟩ | ⟨g1, g2, g3⟩
    · refine ⟨_, g2, ?_⟩
      obtain ⟨T, hM, g3⟩ := hT
      have hke := hM.keep h.H.1 h.C h.cd h.K.1
      have hA : QU W_ac T σ' := by rw [g3]; exact QU.of ((frw.refl _ T).setN (by unfold W_ac; omega))
      have hD := h.mid hk hM hA
      have hc := hcq σ' hD
      obtain ⟨hG', E0, h70, h69, h57⟩ := hD
      refine ⟨hG'.L, am_mono (c_X10_tell σ' hG'.L p d hG'.R h70 h69 (h57 3 (by omega))) (fun r2 σ'' h2 => ?_)⟩
      rcases h2 with ⟨k1, k2, k3⟩ | ⟨k1, -⟩
      · obtain ⟨m, rfl⟩ := Int.eq_ofNat_of_zero_le g1.1.1
        obtain ⟨e, rfl⟩ := Int.eq_ofNat_of_zero_le (show 0 ≤ d by have := g1.2.1.1; omega)
        have hP := h.G.R.P
        have hY := h.G.R.Y
        have hm8 : 0 ≤ (m : Int) ∧ (m : Int) < 8 := by have := g1.1.2; omega
        have he : 1 ≤ e ∧ (e : Int) ≤ σ.2.1 85 9 ∧ e ≤ 90 := by have := g1.2.1; omega
        have hT34 : T.2.1 34 e = σ.2.1 96 (20 + e) := hke.2.2.1.2.2.2.2.1 e (by omega)
        have hx := h.G.R.told e (by omega)
        have hv := (xr_get hx hm8).1
        have hB : frw W_ma (keH σ') σ'' := by rw [k3]; exact (frw.refl _ _).setN (by unfold W_ma; omega)
        have E5 : ∀ j, ¬ (j = 69 ∨ j = 70) → σ''.2.1 55 j = σ.2.1 55 j := fun j hj => by
          rw [k3, set_nn (by omega), (keH_fr σ').2.2 55 j (by unfold W_ke; omega), E0 55 j (by omega) (by omega)]
        have E0' : σ''.2.1 0 16 = σ.2.1 0 16 := by
          rw [k3, set_nn (by omega), (keH_fr σ').2.2 0 16 (by unfold W_ke; omega), g3, set_nn (by omega)]
          exact hke.2.2.2.2 0 16 (by omega) (by omega)
        refine ⟨by rw [k2, E0 96 _ (by omega) (by omega)], h.act3 hM hA hB (fun k => if k = 20 + e then ao_xor (σ.2.1 96 (20 + e)) (ao_shl 1 (m : Int)) else σ.2.1 96 k) (fun k => ?_) ?_ ?_ (LK_told h.Q.1 he hv.1 ?_) (by rw [E0', E5 71 (by omega)]; exact h.F.2) (by rw [E5 59 (by omega)]; exact h.G.o) (by rw [E5 61 (by omega)]; exact h.G.t)⟩
        · rw [k3, show ((20 : Int) + (e : Int)).toNat = 20 + e by omega]
          by_cases g : k = 20 + e
          · subst g
            rw [set_eq, if_pos rfl, E0 96 _ (by omega) (by omega)]
          · rw [set_nn (by omega), (keH_fr σ').2.2 96 k (by unfold W_ke; omega), E0 96 k (by omega) (by omega), if_neg g]
        · rw [g3, show ((e : Int)).toNat = e by omega, hT34]
          exact hke.2.2.1.told (by omega) _
        · rw [g3]
          exact ((h.L.2.cells (fun a j ha => hke.2.2.2.2 a j (by omega) (by omega))).fr (W := fun a j => a = 34) ((frw.refl _ T).setN rfl) (by omega) (by omega) (by omega)).g (fun k _ => if_neg (by omega))
        · have h20 : sumN (fun i => bc (σ.2.1 96 (21 + i))) 90 ≤ 30 := h.m20.2
          have h9 := g1.2.2
          rw [show ((20 : Int) + (e : Int)).toNat = 20 + e by omega] at h9
          have h8 := hv.2
          rw [h8]
          by_cases g : tb (σ.2.1 96 (20 + e)) (m : Int) = 1
          · rw [if_pos g]
            omega
          · rw [if_neg g]
            have h7 : ¬ sumN (fun i => bc (σ.2.1 96 (21 + i))) 90 = 30 := h9.resolve_left g
            omega
      · exact absurd (hc.mpr g1) k1
    · refine ⟨_, g2, ?_⟩
      have hD := h.midr hk g3
      have hc := hcq σ' hD
      obtain ⟨hG', E0, h70, h69, h57⟩ := hD
      refine ⟨hG'.L, am_mono (c_X10_tell σ' hG'.L p d hG'.R h70 h69 (h57 3 (by omega))) (fun r2 σ'' h2 => ?_)⟩
      rcases h2 with ⟨k1, -⟩ | ⟨k1, k2, k3⟩
      · exact absurd (hc.mp k1) g1
      · exact ⟨k2, t, f, c, by rw [k3, g3, set_nn (show ¬ (57 = 54 ∧ 3 = 3) by omega)]; exact h.ref 3 (by omega)⟩
  rcases h.H.1 with rfl | rfl
  · exact am_mono (c_tell_3 σ f c h.C h.cd p d h.L.2 h.Q.1.2.1 h.K.1 h.Q.1.2.2.1 h.m20 (h.rf hk 3 (by omega))) main
  · exact am_mono (c_tell_15 σ f c h.C h.cd p d h.L.2 h.Q.1.2.1 h.K.1 h.Q.1.2.2.1 h.m20 (h.rf hk 3 (by omega))) main
theorem op_bribe (p : Int) (d : Int) : OPI M_X9_bribe M_X10_bribe [am_i p, am_i d] := by
  intro k σ hk ⟨t, f, c, h⟩
  have hcq : ∀ σ', MID σ σ' → (briC σ' p d ↔ briC σ p d) := fun σ' hD => by
    unfold briC
    rw [hD.2.1 85 5 (by omega) (by omega), hD.2.1 85 9 (by omega) (by omega), hD.2.1 96 _ (by omega) (by omega), hD.2.1 96 _ (by omega) (by omega), hD.2.1 96 _ (by omega) (by omega), stM_eq9 hD.cn]
  have main : ∀ r σ', ((briC σ p d ∧ r = some (am_i (σ.2.1 88 (8 + p).toNat)) ∧ ∃ T, RMB f c σ T ∧ σ' = am_setN (am_setN T 35 d.toNat (ao_or (σ.2.1 35 d.toNat) (ao_shl 1 p))) 32 3 (min 999999 (σ.2.1 96 3 + σ.2.1 88 (8 + p).toNat))) ∨ (¬ briC σ p d ∧ r = some (am_i (-1)) ∧ σ' = am_setN σ 54 3 (σ.2.1 54 3 + 1))) → ∃ v : Int, r = some (am_i v) ∧ lay σ' ∧ am_met M_X10_bribe [am_r 55, am_i p, am_i d] σ' (fun r2 σ'' => r2 = some (am_i v) ∧ INV (k + 1) σ'') := by
    intro r σ' hh
    rcases hh with ⟨g1, g2, hT⟩ | ⟨g1, g2, g3⟩
    · refine ⟨_, g2, ?_⟩
      obtain ⟨T, hM, g3⟩ := hT
      have hke := hM.keep h.H.1 h.C h.cd h.K.1
      have hA : QU W_ac T σ' := by rw [g3]; exact QU.of (((frw.refl _ T).setN (by unfold W_ac; omega)).setN (by unfold W_ac; omega))
      have hD := h.mid hk hM hA
      have hc := hcq σ' hD
      obtain ⟨hG', E0, h70, h69, h57⟩ := hD
      refine ⟨hG'.L, am_mono (c_X10_bribe σ' hG'.L p d hG'.R h70 h69 (h57 3 (by omega))) (fun r2 σ'' h2 => ?_)⟩
      rcases h2 with ⟨k1, k2, k3⟩ | ⟨k1, -⟩
      · obtain ⟨m, rfl⟩ := Int.eq_ofNat_of_zero_le g1.1.1
        obtain ⟨e, rfl⟩ := Int.eq_ofNat_of_zero_le (show 0 ≤ d by have := g1.2.1.1; omega)
        have hP := h.G.R.P
        have hY := h.G.R.Y
        have hm8 : 0 ≤ (m : Int) ∧ (m : Int) < 8 := by have := g1.1.2; omega
        have he : 1 ≤ e ∧ (e : Int) ≤ σ.2.1 85 9 ∧ e ≤ 90 := by have := g1.2.1; omega
        have hT35 : σ.2.1 35 e = σ.2.1 96 (111 + e) := h.L.1.2.2.2.2.2 e (by omega)
        have hx := h.G.R.brib e (by omega)
        have hv := (xr_get hx hm8).2
        have hco := h.G.R.coins
        have has := h.G.R.ask m (by omega)
        have hB : frw W_ma (keH σ') σ'' := by rw [k3]; exact ((frw.refl _ _).setN (by unfold W_ma; omega)).setN (by unfold W_ma; omega)
        have E5 : ∀ j, ¬ (j = 69 ∨ j = 70) → σ''.2.1 55 j = σ.2.1 55 j := fun j hj => by
          rw [k3, set_nn (by omega), set_nn (by omega), (keH_fr σ').2.2 55 j (by unfold W_ke; omega), E0 55 j (by omega) (by omega)]
        have E0' : σ''.2.1 0 16 = σ.2.1 0 16 := by
          rw [k3, set_nn (by omega), set_nn (by omega), (keH_fr σ').2.2 0 16 (by unfold W_ke; omega), g3, set_nn (by omega), set_nn (by omega)]
          exact hke.2.2.2.2 0 16 (by omega) (by omega)
        have em : min 999999 (σ.2.1 96 3 + σ.2.1 88 (8 + (m : Int)).toNat) = (if 999999 < σ.2.1 96 3 + σ.2.1 88 (8 + (m : Int)).toNat then 999999 else σ.2.1 96 3 + σ.2.1 88 (8 + (m : Int)).toNat) := by
          split <;> omega
        have hmm : 0 ≤ min 999999 (σ.2.1 96 3 + σ.2.1 88 (8 + (m : Int)).toNat) ∧ min 999999 (σ.2.1 96 3 + σ.2.1 88 (8 + (m : Int)).toNat) ≤ 999999 := by
          rw [show ((8 : Int) + (m : Int)).toNat = 8 + m by omega]
          omega
        refine ⟨by rw [k2, E0 88 _ (by omega) (by omega)], h.act3 hM hA hB (fun k => if k = 3 then min 999999 (σ.2.1 96 3 + σ.2.1 88 (8 + (m : Int)).toNat) else if k = 111 + e then ao_or (σ.2.1 96 (111 + e)) (ao_shl 1 (m : Int)) else σ.2.1 96 k) (fun k => ?_) ?_ ?_ (LK_brib h.Q.1 he hv.1 hmm ?_) (by rw [E0', E5 71 (by omega)]; exact h.F.2) (by rw [E5 59 (by omega)]; exact h.G.o) (by rw [E5 61 (by omega)]; exact h.G.t)⟩
        · rw [k3, em, E0 96 3 (by omega) (by omega), E0 88 _ (by omega) (by omega), show ((111 : Int) + (e : Int)).toNat = 111 + e by omega, E0 96 (111 + e) (by omega) (by omega)]
          by_cases g3k : k = 3
          · subst g3k
            rw [set_eq, if_pos rfl]
          · rw [set_nn (by omega), if_neg g3k]
            by_cases g : k = 111 + e
            · subst g
              rw [set_eq, if_pos rfl]
            · rw [set_nn (by omega), (keH_fr σ').2.2 96 k (by unfold W_ke; omega), E0 96 k (by omega) (by omega), if_neg g]
        · rw [g3, show ((e : Int)).toNat = e by omega, hT35]
          exact hke.2.2.1.brib (by omega) _ _
        · rw [g3]
          exact ((h.L.2.cells (fun a j ha => hke.2.2.2.2 a j (by omega) (by omega))).fr (W := fun a j => a = 35 ∨ (a = 32 ∧ j = 3)) (((frw.refl _ T).setN (Or.inl rfl)).setN (Or.inr ⟨rfl, rfl⟩)) (by omega) (by omega) (by omega)).g (fun k hk => by
            show (if k = 3 then _ else if k = 111 + e then _ else _) = _
            rw [if_neg (by omega), if_neg (by omega)])
        · have h20 : sumN (fun i => bc (σ.2.1 96 (112 + i))) 90 ≤ 30 := h.m111.2
          have h7 : ¬ sumN (fun i => bc (σ.2.1 96 (112 + i))) 90 = 30 := g1.2.2.2.2.2
          have h8 := hv.2
          omega
      · exact absurd (hc.mpr g1) k1
    · refine ⟨_, g2, ?_⟩
      have hD := h.midr hk g3
      have hc := hcq σ' hD
      obtain ⟨hG', E0, h70, h69, h57⟩ := hD
      refine ⟨hG'.L, am_mono (c_X10_bribe σ' hG'.L p d hG'.R h70 h69 (h57 3 (by omega))) (fun r2 σ'' h2 => ?_)⟩
      rcases h2 with ⟨k1, -⟩ | ⟨k1, k2, k3⟩
      · exact absurd (hc.mp k1) g1
      · exact ⟨k2, t, f, c, by rw [k3, g3, set_nn (show ¬ (57 = 54 ∧ 3 = 3) by omega)]; exact h.ref 3 (by omega)⟩
  rcases h.H.1 with rfl | rfl
  · exact am_mono (c_bribe_3 σ f c h.C h.cd p d h.L.2 h.Q.1.2.1 h.K.1 h.Q.1.2.2.1 h.m111 (h.rf hk 3 (by omega))) main
  · exact am_mono (c_bribe_15 σ f c h.C h.cd p d h.L.2 h.Q.1.2.1 h.K.1 h.Q.1.2.2.1 h.m111 (h.rf hk 3 (by omega))) main
theorem op_go (n : Int) : OPI M_X9_go M_X10_go [am_i n] := by
  intro k σ hk ⟨t, f, c, h⟩
  have hcq : ∀ σ', MID σ σ' → (goC σ' n ↔ goC σ n) := fun σ' hD => by
    unfold goC
    rw [hD.2.1 55 52 (by omega) (by omega), dl_55 hD.cn (hD.2.1 55 52 (by omega) (by omega))]
  have main : ∀ r σ', ((goC σ n ∧ r = some (am_i (sumN (feS σ) n.toNat)) ∧ (∃ T, RMB f c σ T ∧ CA T σ') ∧ LF0 32 σ' (fun j => (itS n.toNat σ).2.1 96 j) ∧ RWr 32 σ' (fun j => (itS n.toNat σ).2.1 96 j) ∧ ROK (fun j => (itS n.toNat σ).2.1 96 j)) ∨ (¬ goC σ n ∧ r = some (am_i (-1)) ∧ σ' = am_setN σ 54 2 (σ.2.1 54 2 + 1))) → ∃ v : Int, r = some (am_i v) ∧ lay σ' ∧ am_met M_X10_go [am_r 55, am_i n] σ' (fun r2 σ'' => r2 = some (am_i v) ∧ INV (k + 1) σ'') := by
    intro r σ' hh
    rcases hh with ⟨g1, g2, hT⟩ | ⟨g1, g2, g3⟩
    · refine ⟨_, g2, ?_⟩
      obtain ⟨⟨T, hM, hCA⟩, hLF, hRW, hOK⟩ := hT
      have hke := hM.keep h.H.1 h.C h.cd h.K.1
      have hA0 : QU W_ca T σ' := hCA
      have hA : QU W_ac T σ' := hA0.w (fun a j z => by unfold W_ca at z; unfold W_ac; omega)
      have hD := h.mid hk hM hA
      have hc := hcq σ' hD
      have hcn := hD.cn
      obtain ⟨hG', E0, h70, h69, h57⟩ := hD
      refine ⟨hG'.L, am_mono (c_X10_go σ' hG' n h70 h69 (h57 2 (by omega))) (fun r2 σ'' h2 => ?_)⟩
      rcases h2 with ⟨k1, k2, k3, k4, k5⟩ | ⟨k1, -⟩
      · have hnd : ((n.toNat : Nat) : Int) ≤ dlM σ := by have h9 := g1.2; have h8 := g1.1.2; omega
        have hB : frw W_ma (keH σ') σ'' := k3.mono (fun a j z => by unfold W_day at z; unfold W_ma; omega)
        have e96 : ∀ k, σ''.2.1 96 k = (itS n.toNat σ).2.1 96 k := fun k => (cn_at k4 96 k (by omega) (by omega)).trans (cn_at (itS_eq hcn n.toNat) 96 k (by omega) (by omega))
        have E5 : σ''.2.1 55 71 = σ.2.1 55 71 := by
          rw [k3.2.2 55 71 (by unfold W_day; omega), (keH_fr σ').2.2 55 71 (by unfold W_ke; omega), E0 55 71 (by omega) (by omega)]
        have E0' : σ''.2.1 0 16 = σ.2.1 0 16 := by
          rw [k3.2.2 0 16 (by unfold W_day; omega), (keH_fr σ').2.2 0 16 (by unfold W_ke; omega), hA0.2.2 0 16 (by unfold W_ca; omega)]
          exact hke.2.2.2.2 0 16 (by omega) (by omega)
        have hMN := (itS_GD h.G n.toNat hnd).1.R.N
        rw [itS_h85 σ n.toNat 85 9 (by omega)] at hMN
        refine ⟨by rw [k2, feS_eq9 hcn], h.act3 hM hA hB (fun k => (itS n.toNat σ).2.1 96 k) e96 hLF hRW ⟨hMN, hOK, itS_LX h.G h.Q.1.2.2 n.toNat hnd⟩ (by rw [E0', E5]; exact h.F.2) k5.o k5.t⟩
      · exact absurd (hc.mpr g1) k1
    · refine ⟨_, g2, ?_⟩
      have hD := h.midr hk g3
      have hc := hcq σ' hD
      obtain ⟨hG', E0, h70, h69, h57⟩ := hD
      refine ⟨hG'.L, am_mono (c_X10_go σ' hG' n h70 h69 (h57 2 (by omega))) (fun r2 σ'' h2 => ?_)⟩
      rcases h2 with ⟨k1, -⟩ | ⟨k1, k2, k3⟩
      · exact absurd (hc.mp k1) g1
      · exact ⟨k2, t, f, c, by rw [k3, g3, set_nn (show ¬ (57 = 54 ∧ 2 = 2) by omega)]; exact h.ref 2 (by omega)⟩
  rcases h.H.1 with rfl | rfl
  · exact am_mono (c_go_3 σ f c h.C h.cd n h.L.2 h.Q.1.2.1 h.K.1 (h.rf hk 2 (by omega))) main
  · exact am_mono (c_go_15 σ f c h.C h.cd n h.L.2 h.Q.1.2.1 h.K.1 (h.rf hk 2 (by omega))) main
theorem op_chance (n : Int) : OPI M_X9_chance M_X10_chance [am_i n] := by
  intro k σ hk ⟨t, f, c, h⟩
  have hcq : ∀ σ', MID σ σ' → (chC σ' n ↔ chC σ n) := fun σ' hD => by
    unfold chC
    rw [hD.2.1 55 52 (by omega) (by omega), dl_55 hD.cn (hD.2.1 55 52 (by omega) (by omega))]
  have main : ∀ r σ', ((chC σ n ∧ r = some (am_i (chS σ n.toNat).2.2) ∧ (∃ T, RMB f c σ T ∧ CB T σ') ∧ LF0 32 σ' (fun j => (chS σ n.toNat).1.2.1 96 j) ∧ RWr 32 σ' (fun j => (chS σ n.toNat).1.2.1 96 j) ∧ ROK (fun j => (chS σ n.toNat).1.2.1 96 j) ∧ σ'.2.1 0 16 = (chS σ n.toNat).2.1) ∨ (¬ chC σ n ∧ r = some (am_i (-1)) ∧ σ' = am_setN σ 54 2 (σ.2.1 54 2 + 1))) → ∃ v : Int, r = some (am_i v) ∧ lay σ' ∧ am_met M_X10_chance [am_r 55, am_i n] σ' (fun r2 σ'' => r2 = some (am_i v) ∧ INV (k + 1) σ'') := by
    intro r σ' hh
    rcases hh with ⟨g1, g2, hT⟩ | ⟨g1, g2, g3⟩
    · refine ⟨_, g2, ?_⟩
      obtain ⟨⟨T, hM, hCA⟩, hLF, hRW, hOK, h16⟩ := hT
      have hke := hM.keep h.H.1 h.C h.cd h.K.1
      have hA0 : QU W_cb T σ' := hCA
      have hA : QU W_ac T σ' := hA0.w (fun a j z => by unfold W_cb W_ca at z; unfold W_ac; omega)
      have hD := h.mid hk hM hA
      have hc := hcq σ' hD
      have hcn := hD.cn
      obtain ⟨hG', E0, h70, h69, h57⟩ := hD
      refine ⟨hG'.L, am_mono (c_X10_chance σ' hG' n h70 h69 (h57 2 (by omega)) (by rw [E0 55 71 (by omega) (by omega)]; exact h.seed)) (fun r2 σ'' h2 => ?_)⟩
      rcases h2 with ⟨k1, k2, k3, k4, k5, k6⟩ | ⟨k1, -⟩
      · have hnd : ((n.toNat : Nat) : Int) ≤ dlM σ := by have h9 := g1.2; have h8 := g1.1.2; omega
        have hB : frw W_ma (keH σ') σ'' := k3.mono (fun a j z => by unfold W_ch at z; unfold W_ma; omega)
        obtain ⟨q1, q2⟩ := chS_eq9 hcn (E0 55 71 (by omega) (by omega)) n.toNat
        have e96 : ∀ k, σ''.2.1 96 k = (chS σ n.toNat).1.2.1 96 k := fun k => (cn_at k4 96 k (by omega) (by omega)).trans (cn_at q1 96 k (by omega) (by omega))
        have E0' : σ''.2.1 0 16 = (chS σ n.toNat).2.1 := by
          rw [k3.2.2 0 16 (by unfold W_ch; omega), (keH_fr σ').2.2 0 16 (by unfold W_ke; omega)]
          exact h16
        obtain ⟨⟨y1, y2⟩, y3, y4, y5⟩ := chS_GD h.G h.seed n.toNat hnd
        have hMN := y1.R.N
        rw [y5 85 9 (by omega)] at hMN
        refine ⟨by rw [k2, q2], h.act3 hM hA hB (fun k => (chS σ n.toNat).1.2.1 96 k) e96 hLF hRW ⟨hMN, hOK, chS_LX h.G h.seed h.Q.1.2.2 n.toNat hnd⟩ (by rw [E0', k6, q2]; exact ⟨rfl, y3⟩) k5.o k5.t⟩
      · exact absurd (hc.mpr g1) k1
    · refine ⟨_, g2, ?_⟩
      have hD := h.midr hk g3
      have hc := hcq σ' hD
      obtain ⟨hG', E0, h70, h69, h57⟩ := hD
      refine ⟨hG'.L, am_mono (c_X10_chance σ' hG' n h70 h69 (h57 2 (by omega)) (by rw [E0 55 71 (by omega) (by omega)]; exact h.seed)) (fun r2 σ'' h2 => ?_)⟩
      rcases h2 with ⟨k1, -⟩ | ⟨k1, k2, k3⟩
      · exact absurd (hc.mp k1) g1
      · exact ⟨k2, t, f, c, by rw [k3, g3, set_nn (show ¬ (57 = 54 ∧ 2 = 2) by omega)]; exact h.ref 2 (by omega)⟩
  rcases h.H.1 with rfl | rfl
  · exact am_mono (c_chance_3 σ f c h.C h.cd n h.L.2 h.Q.1.2.1 h.K.1 (h.rf hk 2 (by omega)) h.seed h.F.2.1) main
  · exact am_mono (c_chance_15 σ f c h.C h.cd n h.L.2 h.Q.1.2.1 h.K.1 (h.rf hk 2 (by omega)) h.seed h.F.2.1) main
