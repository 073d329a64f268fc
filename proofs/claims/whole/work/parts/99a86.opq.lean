/-- one call of both: the same answer, and what holds between them holds on -/
def OPI (mc mm : am_M) (as : List am_V) : Prop := ∀ (k : Nat) (σ : am_H), k ≤ 1000 → INV k σ → am_met mc (am_r 0 :: as) σ (fun r σ' => ∃ v : Int, r = some (am_i v) ∧ lay σ' ∧ am_met mm (am_r 55 :: as) σ' (fun r2 σ'' => r2 = some (am_i v) ∧ INV (k + 1) σ''))
def OPL (mc mm : am_M) (as : List am_V) : Prop := ∀ (k : Nat) (σ : am_H), k ≤ 1000 → INV k σ → am_met mc (am_r 0 :: as) σ (fun r σ' => ∃ v : Int, r = some (am_l v) ∧ lay σ' ∧ am_met mm (am_r 55 :: as) σ' (fun r2 σ'' => r2 = some (am_l v) ∧ INV (k + 1) σ''))
theorem IV.up {t f c m n : Nat} {σ : am_H} (h : IV t f c m σ) (hmn : m ≤ n) : IV t f c n σ := h.qu hmn ⟨rfl, fun a j _ => rfl, fun a j _ => rfl⟩ h.G
theorem IV.le {t f c n : Nat} {σ : am_H} (h : IV t f c n σ) : t ≤ 15 := by
  rcases h.H.1 with rfl | rfl
  · decide
  · decide
theorem cq_cn {σ τ : am_H} (h : CQ σ τ) : cn τ = cn σ := cn_eq (fun a j h1 h2 => h.2.2 a j (by unfold W_cq; omega))
theorem IV.rf {t f c n : Nat} {σ : am_H} (h : IV t f c n σ) (hn : n ≤ 1000) (j : Nat) (hj : j < 6) : 0 ≤ σ.2.1 54 j ∧ σ.2.1 54 j ≤ 100000 := by
  have h9 := h.R j hj
  omega
theorem IV.rm {t f c n : Nat} {σ : am_H} (h : IV t f c n σ) (hn : n ≤ 1000) (j : Nat) (hj : j < 6) : 0 ≤ σ.2.1 57 j ∧ σ.2.1 57 j ≤ 100000 := by
  have h9 := h.R j hj
  omega
theorem op_later (n : Int) (w : Int) : OPI M_X9_later M_X10_later [am_i n, am_i w] := by
  intro k σ hk ⟨t, f, c, h⟩
  have main : ∀ σ', CQ σ σ' → am_met M_X10_later [am_r 55, am_i n, am_i w] σ' (fun r2 σ'' => r2 = some (am_i (latM σ n w)) ∧ INV (k + 1) σ'') := fun σ' hQ => by
    have hcn := cq_cn hQ
    have h52 : σ'.2.1 55 52 = σ.2.1 55 52 := hQ.2.2 55 52 (by unfold W_cq; omega)
    have hC := h.C.cq hQ h.le
    refine am_mono (c_X10_later σ' hC.G n w) (fun r2 σ'' hh => ⟨?_, t, f, c, h.cqpq (by omega) hQ hh.2⟩)
    rw [hh.1, latM_eq9 hcn h52]
  rcases h.H.1 with rfl | rfl
  · exact am_mono (c_later_3 σ h.C n w) (fun r σ' hh => ⟨_, hh.1, (h.C.cq hh.2 h.le).G.L, main σ' hh.2⟩)
  · exact am_mono (c_later_15 σ h.C n w) (fun r σ' hh => ⟨_, hh.1, (h.C.cq hh.2 h.le).G.L, main σ' hh.2⟩)
theorem op_first (w : Int) : OPI M_X9_first M_X10_first [am_i w] := by
  intro k σ hk ⟨t, f, c, h⟩
  have main : ∀ σ', CQ σ σ' → am_met M_X10_first [am_r 55, am_i w] σ' (fun r2 σ'' => r2 = some (am_i (firM σ w)) ∧ INV (k + 1) σ'') := fun σ' hQ => by
    have hcn := cq_cn hQ
    have h52 : σ'.2.1 55 52 = σ.2.1 55 52 := hQ.2.2 55 52 (by unfold W_cq; omega)
    have hC := h.C.cq hQ h.le
    refine am_mono (c_X10_first σ' hC.G w) (fun r2 σ'' hh => ⟨?_, t, f, c, h.cqpq (by omega) hQ hh.2⟩)
    rw [hh.1, firM_eq9 hcn h52]
  rcases h.H.1 with rfl | rfl
  · exact am_mono (c_first_3 σ h.C w) (fun r σ' hh => ⟨_, hh.1, (h.C.cq hh.2 h.le).G.L, main σ' hh.2⟩)
  · exact am_mono (c_first_15 σ h.C w) (fun r σ' hh => ⟨_, hh.1, (h.C.cq hh.2 h.le).G.L, main σ' hh.2⟩)
theorem op_hangs (n : Int) : OPI M_X9_hangs M_X10_hangs [am_i n] := by
  intro k σ hk ⟨t, f, c, h⟩
  have main : ∀ σ', CQ σ σ' → am_met M_X10_hangs [am_r 55, am_i n] σ' (fun r2 σ'' => r2 = some (am_i (hanM σ n)) ∧ INV (k + 1) σ'') := fun σ' hQ => by
    have hcn := cq_cn hQ
    have h52 : σ'.2.1 55 52 = σ.2.1 55 52 := hQ.2.2 55 52 (by unfold W_cq; omega)
    have hC := h.C.cq hQ h.le
    refine am_mono (c_X10_hangs σ' hC.G n) (fun r2 σ'' hh => ⟨?_, t, f, c, h.cqpq (by omega) hQ hh.2⟩)
    rw [hh.1, hanM_eq9 hcn h52]
  rcases h.H.1 with rfl | rfl
  · exact am_mono (c_hangs_3 σ h.C n) (fun r σ' hh => ⟨_, hh.1, (h.C.cq hh.2 h.le).G.L, main σ' hh.2⟩)
  · exact am_mono (c_hangs_15 σ h.C n) (fun r σ' hh => ⟨_, hh.1, (h.C.cq hh.2 h.le).G.L, main σ' hh.2⟩)
theorem op_sure (n : Int) : OPI M_X9_sure M_X10_sure [am_i n] := by
  intro k σ hk ⟨t, f, c, h⟩
  have main : ∀ σ', CQ σ σ' → am_met M_X10_sure [am_r 55, am_i n] σ' (fun r2 σ'' => r2 = some (am_i (surM σ n)) ∧ INV (k + 1) σ'') := fun σ' hQ => by
    have hcn := cq_cn hQ
    have h52 : σ'.2.1 55 52 = σ.2.1 55 52 := hQ.2.2 55 52 (by unfold W_cq; omega)
    have hC := h.C.cq hQ h.le
    refine am_mono (c_X10_sure σ' hC.G n) (fun r2 σ'' hh => ⟨?_, t, f, c, h.cqpq (by omega) hQ hh.2⟩)
    rw [hh.1, surM_eq9 hcn h52]
  rcases h.H.1 with rfl | rfl
  · exact am_mono (c_sure_3 σ h.C n) (fun r σ' hh => ⟨_, hh.1, (h.C.cq hh.2 h.le).G.L, main σ' hh.2⟩)
  · exact am_mono (c_sure_15 σ h.C n) (fun r σ' hh => ⟨_, hh.1, (h.C.cq hh.2 h.le).G.L, main σ' hh.2⟩)
theorem op_slips (n : Int) : OPI M_X9_slips M_X10_slips [am_i n] := by
  intro k σ hk ⟨t, f, c, h⟩
  have main : ∀ σ', CQ σ σ' → am_met M_X10_slips [am_r 55, am_i n] σ' (fun r2 σ'' => r2 = some (am_i (slpM σ n)) ∧ INV (k + 1) σ'') := fun σ' hQ => by
    have hcn := cq_cn hQ
    have h52 : σ'.2.1 55 52 = σ.2.1 55 52 := hQ.2.2 55 52 (by unfold W_cq; omega)
    have hC := h.C.cq hQ h.le
    refine am_mono (c_X10_slips σ' hC.G n) (fun r2 σ'' hh => ⟨?_, t, f, c, h.cqpq (by omega) hQ hh.2⟩)
    rw [hh.1, slpM_eq9 hcn h52]
  rcases h.H.1 with rfl | rfl
  · exact am_mono (c_slips_3 σ h.C n) (fun r σ' hh => ⟨_, hh.1, (h.C.cq hh.2 h.le).G.L, main σ' hh.2⟩)
  · exact am_mono (c_slips_15 σ h.C n) (fun r σ' hh => ⟨_, hh.1, (h.C.cq hh.2 h.le).G.L, main σ' hh.2⟩)
theorem op_costs (n : Int) : OPI M_X9_costs M_X10_costs [am_i n] := by
  intro k σ hk ⟨t, f, c, h⟩
  have main : ∀ σ', CQ σ σ' → am_met M_X10_costs [am_r 55, am_i n] σ' (fun r2 σ'' => r2 = some (am_i (cosM σ n)) ∧ INV (k + 1) σ'') := fun σ' hQ => by
    have hcn := cq_cn hQ
    have h52 : σ'.2.1 55 52 = σ.2.1 55 52 := hQ.2.2 55 52 (by unfold W_cq; omega)
    have hC := h.C.cq hQ h.le
    refine am_mono (c_X10_costs σ' hC.G n) (fun r2 σ'' hh => ⟨?_, t, f, c, h.cqpq (by omega) hQ hh.2⟩)
    rw [hh.1, cosM_eq9 hcn h52]
  rcases h.H.1 with rfl | rfl
  · exact am_mono (c_costs_3 σ h.C n) (fun r σ' hh => ⟨_, hh.1, (h.C.cq hh.2 h.le).G.L, main σ' hh.2⟩)
  · exact am_mono (c_costs_15 σ h.C n) (fun r σ' hh => ⟨_, hh.1, (h.C.cq hh.2 h.le).G.L, main σ' hh.2⟩)
theorem op_cheapest (w : Int) : OPI M_X9_cheapest M_X10_cheapest [am_i w] := by
  intro k σ hk ⟨t, f, c, h⟩
  have main : ∀ σ', CQ σ σ' → am_met M_X10_cheapest [am_r 55, am_i w] σ' (fun r2 σ'' => r2 = some (am_i (cheM σ w)) ∧ INV (k + 1) σ'') := fun σ' hQ => by
    have hcn := cq_cn hQ
    have h52 : σ'.2.1 55 52 = σ.2.1 55 52 := hQ.2.2 55 52 (by unfold W_cq; omega)
    have hC := h.C.cq hQ h.le
    refine am_mono (c_X10_cheapest σ' hC.G w) (fun r2 σ'' hh => ⟨?_, t, f, c, h.cqpq (by omega) hQ hh.2⟩)
    rw [hh.1, cheM_eq9 hcn h52]
  rcases h.H.1 with rfl | rfl
  · exact am_mono (c_cheapest_3 σ h.C w) (fun r σ' hh => ⟨_, hh.1, (h.C.cq hh.2 h.le).G.L, main σ' hh.2⟩)
  · exact am_mono (c_cheapest_15 σ h.C w) (fun r σ' hh => ⟨_, hh.1, (h.C.cq hh.2 h.le).G.L, main σ' hh.2⟩)
theorem op_enough (w : Int) : OPI M_X9_enough M_X10_enough [am_i w] := by
  intro k σ hk ⟨t, f, c, h⟩
  have main : ∀ σ', CQ σ σ' → am_met M_X10_enough [am_r 55, am_i w] σ' (fun r2 σ'' => r2 = some (am_i (enoM σ w)) ∧ INV (k + 1) σ'') := fun σ' hQ => by
    have hcn := cq_cn hQ
    have h52 : σ'.2.1 55 52 = σ.2.1 55 52 := hQ.2.2 55 52 (by unfold W_cq; omega)
    have hC := h.C.cq hQ h.le
    refine am_mono (c_X10_enough σ' hC.G w) (fun r2 σ'' hh => ⟨?_, t, f, c, h.cqpq (by omega) hQ hh.2⟩)
    rw [hh.1, enoM_eq9 hcn h52]
  rcases h.H.1 with rfl | rfl
  · exact am_mono (c_enough_3 σ h.C w) (fun r σ' hh => ⟨_, hh.1, (h.C.cq hh.2 h.le).G.L, main σ' hh.2⟩)
  · exact am_mono (c_enough_15 σ h.C w) (fun r σ' hh => ⟨_, hh.1, (h.C.cq hh.2 h.le).G.L, main σ' hh.2⟩)
theorem op_turnsOf (n : Int) : OPI M_X9_turnsOf M_X10_turnsOf [am_i n] := by
  intro k σ hk ⟨t, f, c, h⟩
  have main : ∀ σ', CQ σ σ' → am_met M_X10_turnsOf [am_r 55, am_i n] σ' (fun r2 σ'' => r2 = some (am_i (trnM σ n)) ∧ INV (k + 1) σ'') := fun σ' hQ => by
    have hcn := cq_cn hQ
    have h52 : σ'.2.1 55 52 = σ.2.1 55 52 := hQ.2.2 55 52 (by unfold W_cq; omega)
    have hC := h.C.cq hQ h.le
    refine am_mono (c_X10_turnsOf σ' hC.G n) (fun r2 σ'' hh => ⟨?_, t, f, c, h.cqpq (by omega) hQ hh.2⟩)
    rw [hh.1, trnM_eq9 h.G hC.G hcn h52]
  rcases h.H.1 with rfl | rfl
  · exact am_mono (c_turnsOf_3 σ h.C n) (fun r σ' hh => ⟨_, hh.1, (h.C.cq hh.2 h.le).G.L, main σ' hh.2⟩)
  · exact am_mono (c_turnsOf_15 σ h.C n) (fun r σ' hh => ⟨_, hh.1, (h.C.cq hh.2 h.le).G.L, main σ' hh.2⟩)
theorem SNC.cq9 {σ τ : am_H} (h : SNC σ) (hQ : CQ σ τ) : SNC τ := h.c (fun a j ha => hQ.2.2 a j (by unfold W_cq; omega))
theorem op_thought (w : Int) : OPI M_X9_thought M_X10_thought [am_i w] := by
  intro k σ hk ⟨t, f, c, h⟩
  have main : ∀ σ', CQ σ σ' → am_met M_X10_thought [am_r 55, am_i w] σ' (fun r2 σ'' => r2 = some (am_i (thoM σ w)) ∧ INV (k + 1) σ'') := fun σ' hQ => by
    have hcn := cq_cn hQ
    have h52 : σ'.2.1 55 52 = σ.2.1 55 52 := hQ.2.2 55 52 (by unfold W_cq; omega)
    have hC := h.C.cq hQ h.le
    refine am_mono (c_X10_thought σ' hC.G w (h.S.cq9 hQ).1) (fun r2 σ'' hh => ⟨?_, t, f, c, h.cqpq (by omega) hQ hh.2⟩)
    rw [hh.1, thoM_eq9 hcn h52 (hQ.2.2 55 65 (by unfold W_cq; omega)) (fun j => hQ.2.2 100 j (by unfold W_cq; omega))]
  rcases h.H.1 with rfl | rfl
  · exact am_mono (c_thought_3 σ h.C w h.S) (fun r σ' hh => ⟨_, hh.1, (h.C.cq hh.2 h.le).G.L, main σ' hh.2⟩)
  · exact am_mono (c_thought_15 σ h.C w h.S) (fun r σ' hh => ⟨_, hh.1, (h.C.cq hh.2 h.le).G.L, main σ' hh.2⟩)
theorem op_law (w : Int) : OPI M_X9_law M_X10_law [am_i w] := by
  intro k σ hk ⟨t, f, c, h⟩
  have main : ∀ σ', CQ σ σ' → am_met M_X10_law [am_r 55, am_i w] σ' (fun r2 σ'' => r2 = some (am_i (lawM σ w)) ∧ INV (k + 1) σ'') := fun σ' hQ => by
    have hcn := cq_cn hQ
    have h52 : σ'.2.1 55 52 = σ.2.1 55 52 := hQ.2.2 55 52 (by unfold W_cq; omega)
    have hC := h.C.cq hQ h.le
    refine am_mono (c_X10_law σ' hC.G w) (fun r2 σ'' hh => ⟨?_, t, f, c, h.cqpq (by omega) hQ hh.2⟩)
    rw [hh.1, lawM_eq9 hcn]
  rcases h.H.1 with rfl | rfl
  · exact am_mono (c_law_3 σ h.C w h.L.2 h.Q.1.2.1) (fun r σ' hh => ⟨_, hh.1, (h.C.cq hh.2 h.le).G.L, main σ' hh.2⟩)
  · exact am_mono (c_law_15 σ h.C w h.L.2 h.Q.1.2.1) (fun r σ' hh => ⟨_, hh.1, (h.C.cq hh.2 h.le).G.L, main σ' hh.2⟩)
theorem op_fault (n : Int) : OPI M_X9_fault M_X10_fault [am_i n] := by
  intro k σ hk ⟨t, f, c, h⟩
  exact am_mono (c_fault σ h.G.L n h.F.1.1 h.F.1.2) (fun r σ' hh => ⟨_, hh.1, by rw [hh.2]; exact ⟨h.G.L, am_mono (c_X10_fault σ h.G.L n) (fun r2 σ'' h2 => ⟨h2.1, by rw [h2.2]; exact ⟨t, f, c, h.up (by omega)⟩⟩)⟩⟩)
theorem op_status (n : Int) : OPI M_X9_status M_X10_status [am_i n] := by
  intro k σ hk ⟨t, f, c, h⟩
  exact am_mono (c_status σ h.G.L n (fun j hj => (h.R j hj).1)) (fun r σ' hh => ⟨_, hh.1, by rw [hh.2]; exact ⟨h.G.L, am_mono (c_X10_status σ h.G.L n) (fun r2 σ'' h2 => ⟨h2.1, by rw [h2.2]; exact ⟨t, f, c, h.up (by omega)⟩⟩)⟩⟩)
theorem op_octet (n : Int) : OPI M_X9_octet M_X10_octet [am_i n] := by
  intro k σ hk ⟨t, f, c, h⟩
  exact am_mono (c_octet σ h.G.L n h.P.1 h.P.2.1 h.P.2.2) (fun r σ' hh => ⟨_, hh.1, by rw [hh.2]; exact ⟨h.G.L, am_mono (c_X10_octet σ h.G.L n h.P.2.1) (fun r2 σ'' h2 => ⟨h2.1, by rw [h2.2]; exact ⟨t, f, c, h.up (by omega)⟩⟩)⟩⟩)
theorem op_has (n : Int) : OPI M_X9_has M_X10_has [am_i n] := by
  intro k σ hk ⟨t, f, c, h⟩
  rcases h.H.1 with rfl | rfl
  · exact am_mono (c_has_3 σ h.C n h.Q.1.2.2.1 h.L.2 h.S (h.K.1.1.2.trans h.K.2.1.symm)) (fun r σ' hh => ⟨_, hh.1, by rw [hh.2]; exact ⟨h.G.L, am_mono (c_X10_has σ h.G.L n h.G.R) (fun r2 σ'' h2 => ⟨h2.1, by rw [h2.2]; exact ⟨3, f, c, h.up (by omega)⟩⟩)⟩⟩)
  · exact am_mono (c_has_15 σ h.C n h.Q.1.2.2.1 h.L.2 h.S (h.K.1.1.2.trans h.K.2.1.symm)) (fun r σ' hh => ⟨_, hh.1, by rw [hh.2]; exact ⟨h.G.L, am_mono (c_X10_has σ h.G.L n h.G.R) (fun r2 σ'' h2 => ⟨h2.1, by rw [h2.2]; exact ⟨15, f, c, h.up (by omega)⟩⟩)⟩⟩)
theorem op_person (n : Int) (w : Int) : OPI M_X9_person M_X10_person [am_i n, am_i w] := by
  intro k σ hk ⟨t, f, c, h⟩
  rcases h.H.1 with rfl | rfl
  · exact am_mono (c_person_3 σ h.C n w h.Q.1.2.2.1) (fun r σ' hh => ⟨_, hh.1, by rw [hh.2]; exact ⟨h.G.L, am_mono (c_X10_person σ h.G.L n w h.G.R) (fun r2 σ'' h2 => ⟨h2.1, by rw [h2.2]; exact ⟨3, f, c, h.up (by omega)⟩⟩)⟩⟩)
  · exact am_mono (c_person_15 σ h.C n w h.Q.1.2.2.1) (fun r σ' hh => ⟨_, hh.1, by rw [hh.2]; exact ⟨h.G.L, am_mono (c_X10_person σ h.G.L n w h.G.R) (fun r2 σ'' h2 => ⟨h2.1, by rw [h2.2]; exact ⟨15, f, c, h.up (by omega)⟩⟩)⟩⟩)
theorem op_day (n : Int) (w : Int) : OPI M_X9_day M_X10_day [am_i n, am_i w] := by
  intro k σ hk ⟨t, f, c, h⟩
  rcases h.H.1 with rfl | rfl
  · exact am_mono (c_day9_3 σ h.C n w) (fun r σ' hh => ⟨_, hh.1, by rw [hh.2]; exact ⟨h.G.L, am_mono (c_X10_day σ h.G.L n w h.G.R) (fun r2 σ'' h2 => ⟨h2.1, by rw [h2.2]; exact ⟨3, f, c, h.up (by omega)⟩⟩)⟩⟩)
  · exact am_mono (c_day9_15 σ h.C n w) (fun r σ' hh => ⟨_, hh.1, by rw [hh.2]; exact ⟨h.G.L, am_mono (c_X10_day σ h.G.L n w h.G.R) (fun r2 σ'' h2 => ⟨h2.1, by rw [h2.2]; exact ⟨15, f, c, h.up (by omega)⟩⟩)⟩⟩)
theorem op_kept (n : Int) (w : Int) : OPI M_X9_kept M_X10_kept [am_i n, am_i w] := by
  intro k σ hk ⟨t, f, c, h⟩
  rcases h.H.1 with rfl | rfl
  · exact am_mono (c_kept_3 σ h.C n w h.L.2 h.Q.1.2.1) (fun r σ' hh => ⟨_, hh.1, by rw [hh.2]; exact ⟨h.G.L, am_mono (c_X10_kept σ h.G.L n w h.G.R.kept) (fun r2 σ'' h2 => ⟨h2.1, by rw [h2.2]; exact ⟨3, f, c, h.up (by omega)⟩⟩)⟩⟩)
  · exact am_mono (c_kept_15 σ h.C n w h.L.2 h.Q.1.2.1) (fun r σ' hh => ⟨_, hh.1, by rw [hh.2]; exact ⟨h.G.L, am_mono (c_X10_kept σ h.G.L n w h.G.R.kept) (fun r2 σ'' h2 => ⟨h2.1, by rw [h2.2]; exact ⟨15, f, c, h.up (by omega)⟩⟩)⟩⟩)
theorem op_letter (n : Int) (w : Int) : OPI M_X9_letter M_X10_letter [am_i n, am_i w] := by
  intro k σ hk ⟨t, f, c, h⟩
  rcases h.H.1 with rfl | rfl
  · exact am_mono (c_letter_3 σ h.C n w) (fun r σ' hh => ⟨_, hh.1, by rw [hh.2]; exact ⟨h.G.L, am_mono (c_letter9 σ h.G n w h.Q.2) (fun r2 σ'' h2 => ⟨h2.1, by rw [h2.2]; exact ⟨3, f, c, h.up (by omega)⟩⟩)⟩⟩)
  · exact am_mono (c_letter_15 σ h.C n w) (fun r σ' hh => ⟨_, hh.1, by rw [hh.2]; exact ⟨h.G.L, am_mono (c_letter9 σ h.G n w h.Q.2) (fun r2 σ'' h2 => ⟨h2.1, by rw [h2.2]; exact ⟨15, f, c, h.up (by omega)⟩⟩)⟩⟩)
theorem op_hours (n : Int) : OPI M_X9_hours M_X10_hours [am_i n] := by
  intro k σ hk ⟨t, f, c, h⟩
  rcases h.H.1 with rfl | rfl
  · exact am_mono (c_hours_3 σ h.C n) (fun r σ' hh => ⟨_, hh.1, by rw [hh.2]; exact ⟨h.G.L, am_mono (c_X10_hours σ h.G n) (fun r2 σ'' h2 => ⟨h2.1, by rw [h2.2]; exact ⟨3, f, c, h.up (by omega)⟩⟩)⟩⟩)
  · exact am_mono (c_hours_15 σ h.C n) (fun r σ' hh => ⟨_, hh.1, by rw [hh.2]; exact ⟨h.G.L, am_mono (c_X10_hours σ h.G n) (fun r2 σ'' h2 => ⟨h2.1, by rw [h2.2]; exact ⟨15, f, c, h.up (by omega)⟩⟩)⟩⟩)
