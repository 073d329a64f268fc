theorem evQ_cg {e1 e2 of : Int → Int} : ∀ (cs : List Int) (st : List Int), (∀ v ∈ cs, e1 (v - 40) = e2 (v - 40)) → evQ e1 of st cs = evQ e2 of st cs
  | [], st, _ => rfl
  | v :: cs, st, h => by
    have e : ev1q e1 of st v = ev1q e2 of st v := by
      unfold ev1q
      rw [h v (List.mem_cons_self ..)]
    show evQ e1 of (ev1q e1 of st v) cs = evQ e2 of (ev1q e2 of st v) cs
    rw [e]
    exact evQ_cg cs _ (fun w hw => h w (List.mem_cons_of_mem _ hw))
theorem ptM_no {S T : am_H} {p : Nat} {w : Int} (h6 : ¬ w = 6) (h7 : ¬ w = 7) (e96 : ∀ j, S.2.1 96 j = T.2.1 96 j) (e87 : ∀ j, S.2.1 87 j = T.2.1 87 j) (e56 : S.2.1 55 56 = T.2.1 55 56) (e57 : S.2.1 55 57 = T.2.1 55 57) (e61 : S.2.1 55 61 = T.2.1 55 61) : ptM S p w = ptM T p w := by
  unfold ptM
  rw [if_neg h6, if_neg h7, if_neg h6, if_neg h7, e96, e96, e96, e96, e87, e56, e57, e61]
theorem aqL_xy {σ : am_H} {n : Nat} {kd : Int} {cs : List Int} {x y : Int} (hno : ∀ v ∈ cs, ¬ (45 ≤ v ∧ v ≤ 47)) : ∀ i, aqL σ n kd cs x y i = aqL σ n kd cs 0 0 i
  | 0 => rfl
  | i + 1 => by
    have hv : aqV σ n cs x y i = aqV σ n cs 0 0 i := by
      unfold aqV
      rw [evQ_cg (e1 := ptM (aqS σ n x y) i) (e2 := ptM (aqS σ n 0 0) i) cs [] (fun v hv => ?_)]
      have h9 := hno v hv
      exact ptM_no (by omega) (by omega) (fun j => rfl) (fun j => rfl) rfl rfl rfl
    show tkQ kd (aqV σ n cs x y i) (i : Int) (aqL σ n kd cs x y i) _ = tkQ kd (aqV σ n cs 0 0 i) (i : Int) (aqL σ n kd cs 0 0 i) _
    rw [hv, aqL_xy hno i]
theorem lay_qu {W : Nat → Nat → Prop} {σ τ : am_H} (hL : lay σ) (h : QU W σ τ) : lay τ := by
  have ht : ∀ q ∈ RT, ¬ (q.1 = 44 ∧ (q.2.1 = 8 ∨ q.2.1 = 9)) := by decide +kernel
  refine ⟨fun k hk => by rw [h.1]; exact hL.1 k hk, fun i q hq => ?_⟩
  rw [h.2.1 q.1 q.2.1 (ht q (List.mem_of_getElem? hq))]
  exact hL.2 i q hq
theorem ask_fr {a j : Nat} (z : W_ask a j) : W_fr a j := by
  rcases z with z | z | z
  · unfold W_pub at z; unfold W_fr; omega
  · rcases z with (z | z) | z
    · unfold W_sc at z; unfold W_fr; omega
    · unfold W_q at z; unfold W_fr; omega
    · unfold W_fr; omega
  · unfold W_fr; omega
theorem cqk_fr {a j : Nat} (z : W_cq a j ∨ W_ak a j) : W_fr a j ∨ (a = 1 ∧ j = 1) ∨ (a = 0 ∧ (j = 14 ∨ j = 15)) := by
  unfold W_cq W_ak at z; unfold W_fr; omega
theorem op_ask (n : Int) : OPL M_X9_ask M_X10_ask [am_i n] := by
  intro k σ hk ⟨t, f, c', h⟩
  have hT := h.T
  obtain ⟨E, hE⟩ := Int.eq_ofNat_of_zero_le hT.2.2.1.1
  have hE16 : E ≤ 1600 := by have := hT.2.2.1.2; omega
  have hTP : TP (fun j => σ.2.1 56 j) E σ := ⟨fun j _ => hT.2.1 j, hT.1.trans hE, hE16, hT.2.2.2⟩
  -- the model behind the class, whatever that did
  have go : ∀ (σ' : am_H) (v : am_V), QU (fun a j => W_cq a j ∨ W_ak a j) σ σ' → lay σ' → am_met M_X10_ask [am_r 55, am_i n] σ' (fun r τ => aqP (fun j => σ.2.1 56 j) E σ' n r τ ∧ GD σ' ∧ cn σ' = cn σ ∧ σ'.2.1 55 52 = σ.2.1 55 52) := fun σ' v hQ hL => by
    have E0 : ∀ a j, 55 ≤ a → σ'.2.1 a j = σ.2.1 a j := fun a j ha => hQ.2.2 a j (by unfold W_cq W_ak; omega)
    have hC : GD σ' := by
      have hx : frw (fun a j => W_cq a j ∨ W_ak a j) σ (σ.1, σ'.2.1, σ.2.2) := ⟨rfl, rfl, hQ.2.2⟩
      have hy := GD_fr h.G hx (fun a j ha => by unfold W_cq W_ak; omega) (by rw [show ((σ.1, σ'.2.1, σ.2.2) : am_H).2.1 55 59 = σ.2.1 55 59 from E0 _ _ (by omega)]; exact h.G.o) (by rw [show ((σ.1, σ'.2.1, σ.2.2) : am_H).2.1 55 61 = σ.2.1 55 61 from E0 _ _ (by omega)]; exact h.G.t)
      exact ⟨hL, hy.2⟩
    refine am_mono (c_X10_ask (fun j => σ.2.1 56 j) E σ' hC (h.D.1.c9 (fun a j ha => E0 a j (by omega))) ⟨fun j => E0 56 j (by omega), (E0 55 1 (by omega)).trans hE, hE16, hT.2.2.2⟩ (fun cs hcs => aqF_ok hE16 hcs) n) (fun r τ hr => ⟨hr, hC, cn_eq (fun a j h1 h2 => E0 a j (by omega)), E0 _ _ (by omega)⟩)
  have fin : ∀ (σ' σ'' : am_H) (x y : Int), QU (fun a j => W_cq a j ∨ W_ak a j) σ σ' → (σ'.2.1 0 14 = x ∧ σ'.2.1 0 15 = y ∧ σ'.2.1 1 1 = 0) → frw W_ask (am_setN (am_setN (t1H σ') 55 7 x) 55 8 y) σ'' → GD σ'' → INV (k + 1) σ'' := fun σ' σ'' x y hQ hx hF hG => by
    have Es : ∀ a j, ¬ (W_ask a j ∨ (a = 55 ∧ (j = 1 ∨ j = 3 ∨ j = 7 ∨ j = 8))) → σ''.2.1 a j = σ'.2.1 a j := fun a j hw => by
      rw [hF.2.2 a j (fun z => hw (Or.inl z)), set_nn (fun z => hw (by omega)), set_nn (fun z => hw (by omega))]
      unfold t1H
      rw [set_nn (fun z => hw (by omega)), set_nn (fun z => hw (by omega))]
    have Ea : ∀ a j, a = 0 ∨ a = 1 → σ''.2.1 a j = σ'.2.1 a j := fun a j ha => Es a j (fun z => by rcases z with z | z; have z9 := ask_fr z; unfold W_fr at z9; omega; omega)
    have hS1 : σ''.1 = σ'.1 := hF.1
    have hS2 : σ''.2.2 = σ'.2.2 := hF.2.1
    have hQ2 : QU W_sm σ σ'' := ⟨hS1.trans hQ.1, fun a j ha => by rw [hS2]; exact hQ.2.1 a j ha, fun a j hw => by
      rw [Es a j (fun z => hw ?_), hQ.2.2 a j (fun z => hw ?_)]
      · rcases cqk_fr z with z | z
        · exact Or.inl z
        · exact Or.inr (by omega)
      · rcases z with z | z
        · exact Or.inl (ask_fr z)
        · by_cases g : j = 3
          · exact Or.inl (by unfold W_fr; omega)
          · exact Or.inr (by omega)⟩
    have E1 : ∀ a j, ¬ (W_fr a j ∨ (a = 0 ∧ (j = 14 ∨ j = 15)) ∨ (a = 1 ∧ j = 1) ∨ (a = 55 ∧ (j = 1 ∨ j = 7 ∨ j = 8))) → σ''.2.1 a j = σ.2.1 a j := fun a j hw => by
      rw [Es a j (fun z => hw ?_), hQ.2.2 a j (fun z => hw ?_)]
      · rcases cqk_fr z with z | z
        · exact Or.inl z
        · exact Or.inr (by omega)
      · rcases z with z | z
        · exact Or.inl (ask_fr z)
        · by_cases g : j = 3
          · exact Or.inl (by unfold W_fr; omega)
          · exact Or.inr (by omega)
    have y7 : σ''.2.1 55 7 = x := by rw [hF.2.2 55 7 (fun z => by have z9 := ask_fr z; unfold W_fr at z9; omega), set_nn (by omega), set_eq]
    have y8 : σ''.2.1 55 8 = y := by rw [hF.2.2 55 8 (fun z => by have z9 := ask_fr z; unfold W_fr at z9; omega), set_eq]
    have y1 : σ''.2.1 55 1 = 0 := by
      rw [hF.2.2 55 1 (fun z => by have z9 := ask_fr z; unfold W_fr at z9; omega), set_nn (by omega), set_nn (by omega)]
      unfold t1H
      rw [set_eq]
    refine ⟨t, f, c', h.sm hQ2 hG (h.S.c (fun a j ha => E1 a j (by unfold W_fr; omega))) ?_ (h.R.c (by omega) (fun a j ha => E1 a j (by unfold W_fr; omega))) ?_ (h.P.c (fun a j ha => E1 a j (by unfold W_fr; omega)))⟩
    · exact ⟨by rw [y1, Ea 1 1 (by omega)]; exact hx.2.2, fun j => by rw [E1 2 j (by unfold W_fr; omega), E1 56 j (by unfold W_fr; omega)]; exact hT.2.1 j, by rw [y1]; omega, fun j hj => by rw [E1 56 j (by unfold W_fr; omega)]; exact hT.2.2.2 j hj⟩
    · have hF9 := h.F
      exact ⟨⟨by rw [y7, Ea 0 14 (by omega)]; exact hx.1, by rw [y8, Ea 0 15 (by omega)]; exact hx.2.1⟩, by rw [E1 0 16 (by unfold W_fr; omega), E1 55 71 (by unfold W_fr; omega)]; exact hF9.2.1, by rw [E1 55 71 (by unfold W_fr; omega)]; exact hF9.2.2.1, by rw [E1 55 71 (by unfold W_fr; omega)]; exact hF9.2.2.2⟩
  have main : ∀ r σ', ASK (fun j => σ.2.1 56 j) E σ n r σ' → ∃ v : Int, r = some (am_l v) ∧ lay σ' ∧ am_met M_X10_ask [am_r 55, am_i n] σ' (fun r2 σ'' => r2 = some (am_l v) ∧ INV (k + 1) σ'') := by
    intro r σ' hA
    have e50 : ¬ σ.2.1 55 52 = 0 ∨ ¬ ((1 ≤ n ∧ n ≤ 120) ∧ n ≤ dlM σ) := by
      by_cases g : σ.2.1 55 52 = 0
      · refine Or.inr (fun hn => ?_)
        have : dlM σ = 0 := by unfold dlM; rw [if_pos g]
        omega
      · exact Or.inl g
    have hP := h.G.R.P
    unfold ASK at hA
    split at hA
    · rename_i hn
      have h52 : ¬ σ.2.1 55 52 = 0 := e50.resolve_right (fun z => z hn)
      split at hA
      · rename_i cs hcs
        obtain ⟨a1, a2, a3, a4⟩ := hA
        have hQ : QU (fun a j => W_cq a j ∨ W_ak a j) σ σ' := a4
        refine ⟨_, a1, lay_qu h.G.L hQ, am_mono (go σ' (am_i 0) hQ (lay_qu h.G.L hQ)) (fun r2 σ'' h2 => ?_)⟩
        obtain ⟨b1, b2, b3, b4⟩ := h2
        unfold aqP at b1
        rw [if_pos ⟨by rw [b4]; exact h52, by rw [dl_55 b3 b4]; exact hn⟩, hcs] at b1
        obtain ⟨⟨x, y, hr⟩, hF, hG⟩ := b1
        refine ⟨?_, fin σ' σ'' 0 (-1) hQ a3 hF hG⟩
        rw [hr, aqL_xy a2, aqL_cn b3, cn_at b3 85 5 (by omega) (by omega)]
        rfl
      · rename_i e hcs
        obtain ⟨a1, a2, a3, a4⟩ := hA
        have hQ : QU (fun a j => W_cq a j ∨ W_ak a j) σ σ' := a4
        refine ⟨_, a1, lay_qu h.G.L hQ, am_mono (go σ' (am_i 0) hQ (lay_qu h.G.L hQ)) (fun r2 σ'' h2 => ?_)⟩
        obtain ⟨b1, b2, b3, b4⟩ := h2
        unfold aqP at b1
        rw [if_pos ⟨by rw [b4]; exact h52, by rw [dl_55 b3 b4]; exact hn⟩, hcs] at b1
        obtain ⟨hr, -, hF, hG⟩ := b1
        exact ⟨hr, fin σ' σ'' e.1 e.2 hQ a3 hF hG⟩
    · rename_i hn
      obtain ⟨a1, a2⟩ := hA
      have hF0 : frw (fun a j => W_cq a j ∨ W_ak a j) σ σ' := by rw [a2]; exact (frw.refl _ σ).setN (by unfold W_ak; omega)
      refine ⟨_, a1, hF0.L h.G.L, am_mono (go σ' (am_i 0) (QU.of hF0) (hF0.L h.G.L)) (fun r2 σ'' h2 => ?_)⟩
      obtain ⟨b1, b2, b3, b4⟩ := h2
      unfold aqP at b1
      rw [if_neg (fun z => hn (by rw [← dl_55 b3 b4]; exact z.2))] at b1
      refine ⟨b1.1, t, f, c', ?_⟩
      have hF : frw W_sm σ σ'' := by rw [b1.2, a2]; exact ((frw.refl _ σ).setN (by unfold W_sm; omega)).setN (by unfold W_sm; omega)
      have E1 : ∀ a j, ¬ ((a = 1 ∧ j = 1) ∨ (a = 55 ∧ j = 1)) → σ''.2.1 a j = σ.2.1 a j := fun a j hw => by rw [b1.2, a2, set_nn (by omega), set_nn (by omega)]
      refine h.sm (QU.of hF) (h.G.sm hF (E1 _ _ (by omega)) (E1 _ _ (by omega))) (h.S.c (fun a j ha => E1 a j (by omega))) ?_ (h.R.c (by omega) (fun a j ha => E1 a j (by omega))) (h.F.c (fun a j ha => E1 a j (by omega))) (h.P.c (fun a j ha => E1 a j (by omega)))
      have y1 : σ''.2.1 55 1 = 0 := by rw [b1.2, set_eq]
      have y0 : σ''.2.1 1 1 = 0 := by rw [b1.2, set_nn (by omega), a2, set_eq]
      exact ⟨by rw [y1, y0], fun j => by rw [E1 2 j (by omega), E1 56 j (by omega)]; exact hT.2.1 j, by rw [y1]; omega, fun j hj => by rw [E1 56 j (by omega)]; exact hT.2.2.2 j hj⟩
  rcases h.H.1 with rfl | rfl
  · exact am_mono (c_ask_3 (fun j => σ.2.1 56 j) E σ h.C n hTP h.cd) main
  · exact am_mono (c_ask_15 (fun j => σ.2.1 56 j) E σ h.C n hTP h.cd) main
