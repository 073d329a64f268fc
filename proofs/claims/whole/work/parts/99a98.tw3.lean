theorem t_no {a j : Nat} (h : a ≤ 54 ∨ (56 ≤ a ∧ a ≤ 126) ∨ 129 ≤ a ∨ (a = 55 ∧ ¬ (j = 2 ∨ j = 4 ∨ j = 5 ∨ j = 6 ∨ j = 10 ∨ j = 38 ∨ j = 97 ∨ j = 99 ∨ j = 100 ∨ j = 101 ∨ j = 53))) : ¬ W_t a j := by
  intro z
  rcases z with (z | z) | z
  · unfold W_sc at z; omega
  · unfold W_q at z; omega
  · omega
/-- the cells of a town that begins to stand -/
def BEG (H σ' σ'' : am_H) : Prop :=
  (∀ i, i < 5 → σ''.2.1 85 (5 + i) = H.2.1 85 i) ∧
  (∀ a p, (86 ≤ a ∧ a ≤ 89) ∨ a = 91 → p < 8 → σ''.2.1 a (8 + p) = H.2.1 a p ∧ σ''.2.1 a p = H.2.1 a p) ∧
  (∀ a w, 92 ≤ a → a ≤ 94 → w < 2 → σ''.2.1 a (2 + w) = H.2.1 a w) ∧
  (∀ i : Nat, (i : Int) < H.2.1 55 50 → σ''.2.1 95 (1600 + i) = H.2.1 95 i) ∧
  (∀ k, k < 443 → σ''.2.1 96 k = bgL (fun d => H.2.1 90 d) k) ∧
  (∀ a j, a ≤ 54 ∨ (56 ≤ a ∧ a ≤ 84) ∨ (97 ≤ a ∧ a ≤ 126) ∨ 129 ≤ a ∨ (a = 55 ∧ (j = 59 ∨ j = 61 ∨ j = 70 ∨ j = 71 ∨ j = 107)) → σ''.2.1 a j = σ'.2.1 a j) ∧
  (σ''.2.1 55 1 = 0 ∧ σ''.2.1 55 7 = 0 ∧ σ''.2.1 55 8 = -1 ∧ σ''.2.1 55 52 = 1 ∧ σ''.2.1 55 65 = 0 ∧ σ''.2.1 55 69 = 0) ∧ σ''.1 = σ'.1 ∧ σ''.2.2 = σ'.2.2
theorem BEG_of {b : Nat → Int} {E : Nat} {σ' σ'' H H' : am_H} (hH' : tnR b E σ' = .inl H') (hTA : TA H H') (hF : frw W_t (sdH (am_setN (am_setN H' 55 7 0) 55 8 (-1))) σ'') : BEG H σ' σ'' := by
  obtain ⟨fr, f1⟩ := tnR_fr9 hH'
  obtain ⟨t1, t2, t3⟩ := hTA
  have X1 : ∀ a j, ¬ a = 55 → (am_setN (am_setN H' 55 7 0) 55 8 (-1)).2.1 a j = H'.2.1 a j := fun a j ha => by rw [set_nn (by omega), set_nn (by omega)]
  have eA : ∀ a j, ¬ W_t a j → σ''.2.1 a j = (if a = 85 then cpA (am_setN (am_setN H' 55 7 0) 55 8 (-1)) 85 5 5 j else if (86 ≤ a ∧ a ≤ 89) ∨ a = 91 then cpA (am_setN (am_setN H' 55 7 0) 55 8 (-1)) a 8 8 j else if 92 ≤ a ∧ a ≤ 94 then cpA (am_setN (am_setN H' 55 7 0) 55 8 (-1)) a 2 2 j else if a = 95 then s95 (am_setN (am_setN H' 55 7 0) 55 8 (-1)) j else if a = 96 then s96 (am_setN (am_setN H' 55 7 0) 55 8 (-1)) j else if a = 55 ∧ j = 52 then 1 else if a = 55 ∧ (j = 65 ∨ j = 69) then 0 else (am_setN (am_setN H' 55 7 0) 55 8 (-1)).2.1 a j) := fun a j hn => hF.2.2 a j hn
  have eN : ∀ a j, ¬ W_t a j → ¬ (85 ≤ a ∧ a ≤ 96) → ¬ (a = 55 ∧ (j = 52 ∨ j = 65 ∨ j = 69)) → σ''.2.1 a j = (am_setN (am_setN H' 55 7 0) 55 8 (-1)).2.1 a j := fun a j h1 h2 h3 => by
    rw [eA a j h1, if_neg (by omega), if_neg (by omega), if_neg (by omega), if_neg (by omega), if_neg (by omega), if_neg (by omega), if_neg (by omega)]
  refine ⟨fun i hi => ?_, fun a p ha hp => ⟨?_, ?_⟩, fun a w h1 h2 hw => ?_, fun i hi => ?_, fun k hk => ?_, fun a j ha => ?_, ⟨?_, ?_, ?_, ?_, ?_, ?_⟩, hF.1.trans fr.1, hF.2.1.trans fr.2.1⟩
  · rw [eA 85 (5 + i) (t_no (by omega)), if_pos rfl]
    unfold cpA
    rw [if_pos (by omega), X1 85 _ (by omega), show 5 + i - 5 = i by omega]
    exact t1 85 i (by omega)
  · rw [eA a (8 + p) (t_no (by omega)), if_neg (by omega), if_pos ha]
    unfold cpA
    rw [if_pos (by omega), X1 a _ (by omega), show 8 + p - 8 = p by omega]
    exact t1 a p (by omega)
  · rw [eA a p (t_no (by omega)), if_neg (by omega), if_pos ha]
    unfold cpA
    rw [if_neg (by omega), X1 a _ (by omega)]
    exact t1 a p (by omega)
  · rw [eA a (2 + w) (t_no (by omega)), if_neg (by omega), if_neg (by omega), if_pos ⟨h1, h2⟩]
    unfold cpA
    rw [if_pos (by omega), X1 a _ (by omega), show 2 + w - 2 = w by omega]
    exact t1 a w (by omega)
  · rw [eA 95 (1600 + i) (t_no (by omega)), if_neg (by omega), if_neg (by omega), if_neg (by omega), if_pos rfl]
    unfold s95
    rw [set_nn (show ¬ (55 = 55 ∧ 50 = 8) by omega), set_nn (show ¬ (55 = 55 ∧ 50 = 7) by omega), t2, if_pos (by omega), X1 95 _ (by omega), show 1600 + i - 1600 = i by omega]
    exact t1 95 i (by omega)
  · rw [eA 96 k (t_no (by omega)), if_neg (by omega), if_neg (by omega), if_neg (by omega), if_neg (by omega), if_pos rfl]
    unfold s96 bgL
    by_cases g : 20 ≤ k ∧ k < 111
    · rw [if_pos g, if_neg (by omega), if_pos g, X1 90 _ (by omega)]
      exact t1 90 _ (by omega)
    · rw [if_neg g]
      by_cases g0 : k = 0
      · rw [if_pos g0, if_pos g0]
      · rw [if_neg g0, if_neg g0, if_pos hk, if_neg g]
  · by_cases g55 : a = 55
    · have hj : j = 59 ∨ j = 61 ∨ j = 70 ∨ j = 71 ∨ j = 107 := by omega
      rw [eN a j (t_no (by omega)) (by omega) (by omega), set_nn (by omega), set_nn (by omega)]
      exact fr.2.2 a j (by unfold W_y0 W_y9; omega)
    · rw [eN a j (t_no (by omega)) (by omega) (by omega), X1 a j g55]
      exact fr.2.2 a j (by unfold W_y0 W_y9; omega)
  · rw [eN 55 1 (t_no (by omega)) (by omega) (by omega), set_nn (by omega), set_nn (by omega)]
    exact f1
  · rw [eN 55 7 (t_no (by omega)) (by omega) (by omega), set_nn (by omega), set_eq]
  · rw [eN 55 8 (t_no (by omega)) (by omega) (by omega), set_eq]
  · rw [eA 55 52 (t_no (by omega)), if_neg (by omega), if_neg (by omega), if_neg (by omega), if_neg (by omega), if_neg (by omega), if_pos ⟨rfl, rfl⟩]
  · rw [eA 55 65 (t_no (by omega)), if_neg (by omega), if_neg (by omega), if_neg (by omega), if_neg (by omega), if_neg (by omega), if_neg (by omega), if_pos ⟨rfl, Or.inl rfl⟩]
  · rw [eA 55 69 (t_no (by omega)), if_neg (by omega), if_neg (by omega), if_neg (by omega), if_neg (by omega), if_neg (by omega), if_neg (by omega), if_pos ⟨rfl, Or.inr rfl⟩]
theorem LK_beg {b : Nat → Int} {E i P : Nat} {H : am_H} (h : GH b E H i) : LK (H.2.1 85 4) P (bgL (fun d => H.2.1 90 d)) := by
  obtain ⟨⟨hN, hM, hRm, hK, hY, hC, h51⟩, -, -, -, ⟨t1, t2, t3, t4⟩, -, -⟩ := h
  have z : ∀ k, ¬ k = 0 → ¬ (20 ≤ k ∧ k < 111) → bgL (fun d => H.2.1 90 d) k = 0 := fun k h1 h2 => by
    unfold bgL; rw [if_neg h1, if_neg h2]
  have w : ∀ d, d < 91 → bgL (fun d => H.2.1 90 d) (20 + d) = H.2.1 90 d := fun d hd => by
    unfold bgL
    rw [if_neg (by omega), if_pos (by omega), show 20 + d - 20 = d by omega]
  have y0 : bgL (fun d => H.2.1 90 d) 0 = 1 := by unfold bgL; rw [if_pos rfl]
  refine ⟨⟨by rw [y0]; omega, by rw [z 1 (by omega) (by omega)]; omega, by rw [z 2 (by omega) (by omega)]; omega, by rw [z 3 (by omega) (by omega)]; omega, fun p hp => by rw [z _ (by omega) (by omega)]; omega, fun p hp => Or.inl (z _ (by omega) (by omega)), fun d hd => by rw [w d hd]; exact t3 d hd, fun d hd => by rw [z _ (by omega) (by omega)]; omega, by rw [z 202 (by omega) (by omega)]; omega, fun k hk => by rw [z _ (by omega) (by omega)]; omega⟩, fun k hk => by rw [z 202 (by omega) (by omega)] at hk; omega, ⟨by rw [w 0 (by omega)]; exact t1, z 111 (by omega) (by omega), fun d hd hy => by rw [w d hd]; exact t2 d hd hy⟩, fun p hp hq => ⟨z _ (by omega) (by omega), z _ (by omega) (by omega)⟩, ⟨sumN_nn (fun i => bc_nn _) 90, ?_⟩, ⟨sumN_nn (fun i => bc_nn _) 90, ?_⟩⟩
  · rw [sumN_cg (g := fun d => bc (H.2.1 90 (d + 1))) 90 (fun d hd => by rw [show 21 + d = 20 + (d + 1) by omega, w (d + 1) (by omega)])]
    omega
  · rw [sumN_cg (g := fun _ => 0) 90 (fun d hd => by rw [z _ (by omega) (by omega)]; exact bc_0), sumN_z]
    omega
theorem BEG.ru {b : Nat → Int} {E i : Nat} {H σ' σ'' : am_H} (hB : BEG H σ' σ'') (h : GH b E H i) {wh : Nat} (hw : wh < 2) : σ''.2.1 93 (2 + wh) = H.2.1 93 wh ∧ σ''.2.1 94 (2 + wh) = H.2.1 94 wh ∧ (¬ H.2.1 93 wh = -1 → ruM σ'' wh = rlN H wh) ∧ rlB σ'' wh = rlN H wh := by
  obtain ⟨-, -, b3, b4, -⟩ := hB
  have e3 := b3 93 wh (by omega) (by omega) hw
  have e4 := b3 94 wh (by omega) (by omega) hw
  have hm : ¬ H.2.1 93 wh = -1 → ruM σ'' wh = rlN H wh := fun hn => by
    have hg := (h.2.2.1.2 wh hw).resolve_left hn
    unfold ruM rlN rE rB
    rw [e3, e4, if_neg hn]
    refine List.map_congr_left (fun k hk => ?_)
    have hk2 := List.mem_range.mp hk
    rw [Nat.add_assoc]
    exact b4 _ (by omega)
  refine ⟨e3, e4, hm, ?_⟩
  unfold rlB
  rw [e3]
  by_cases g : H.2.1 93 wh = -1
  · rw [if_pos g]; unfold rlN; rw [if_pos g]
  · rw [if_neg g]; exact hm g
theorem BEG.gd {b : Nat → Int} {E i : Nat} {H σ' σ'' : am_H} (hE : E ≤ 1600) (hB : BEG H σ' σ'') (h : GH b E H i) (hL : lay σ'') (hLR : LRG σ'') (h59 : 0 ≤ σ'.2.1 55 59 ∧ σ'.2.1 55 59 ≤ 99) (h61 : 0 ≤ σ'.2.1 55 61 ∧ σ'.2.1 55 61 < 256) : GD σ'' := by
  have hru := fun wh (hw : wh < 2) => hB.ru h hw
  have hK9 := LK_beg (P := 8) h
  obtain ⟨⟨hN, hM, hRm, hK, hY, hC, h51⟩, hz, hRG, ⟨s1, s2⟩, -, hO, hNo⟩ := h
  obtain ⟨b1, b2, b3, b4, b5, b6, ⟨c1, c7, c8, c52, c65, c69⟩, -⟩ := hB
  have hzr := zP_rng b E i
  have c50 : H.2.1 55 50 ≤ 1600 := by omega
  have e5 : σ''.2.1 85 5 = H.2.1 85 0 := b1 0 (by omega)
  have e8 : σ''.2.1 85 8 = H.2.1 85 3 := b1 3 (by omega)
  have e9 : σ''.2.1 85 9 = H.2.1 85 4 := b1 4 (by omega)
  have hMN : MN (σ''.2.1 85 9) (fun k => σ''.2.1 96 k) := by rw [e9]; exact hK9.1.k b5
  have hu : ∀ a p, (86 ≤ a ∧ a ≤ 89) ∨ a = 91 → p < 8 → σ''.2.1 a (8 + p) = σ''.2.1 a p := fun a p ha hp => (b2 a p ha hp).1.trans (b2 a p ha hp).2.symm
  obtain ⟨m0, m1, m2, m3, m4, m5, m6, m7, m8, m9⟩ := hMN
  refine ⟨hL, ⟨by rw [e5]; exact hN, by rw [e8]; exact hK, by rw [e9]; omega, Or.inr ⟨c52, by rw [e9]; omega⟩, fun p hp => by rw [hu 87 p (by omega) hp]; exact (hLR.1 p hp).1, fun p hp => by rw [hu 88 p (by omega) hp]; exact (hLR.1 p hp).2.1, fun p hp => by rw [hu 89 p (by omega) hp]; exact (hLR.1 p hp).2.2, fun k hk => ⟨?_, ?_⟩, m0, m1, m2, m3, m4, m5, m6, m7, m8, m9, by rw [b3 92 0 (by omega) (by omega) (by omega)]; exact s1, by rw [b3 92 1 (by omega) (by omega) (by omega)]; exact s2⟩, fun wh hw => ?_, ?_, by rw [b6 55 59 (by omega)]; exact h59, by rw [b6 55 61 (by omega)]; exact h61⟩
  · have h9 := hLR.2 (2 * k) (by omega)
    rw [hu 91 (2 * k) (by omega) (by omega)]
    rw [if_pos (by omega)] at h9
    exact h9
  · have h9 := hLR.2 (2 * k + 1) (by omega)
    rw [show 9 + 2 * k = 8 + (2 * k + 1) by omega, hu 91 (2 * k + 1) (by omega) (by omega)]
    rw [if_neg (by omega)] at h9
    exact h9
  · obtain ⟨r1, r2, r3, -⟩ := hru wh hw
    rw [r1, r2]
    by_cases g : H.2.1 93 wh = -1
    · exact Or.inl g
    · have hg := (hRG.2 wh hw).resolve_left g
      refine Or.inr ⟨hg.1, by omega, by omega, ?_⟩
      rw [r3 g]
      exact (hO wh hw).resolve_right g
  · obtain ⟨r1, r2, r3, -⟩ := hru 0 (by omega)
    unfold NO
    by_cases g : H.2.1 93 0 = -1
    · exact Or.inl (r1.trans g)
    · right
      rw [r3 g]
      exact hNo
theorem BEG.tw {b : Nat → Int} {E i u : Nat} {H σ' σ'' : am_H} (hB : BEG H σ' σ'') (h : GH b E H i) (g2 : TRr u σ' H) (g3 : RRr u σ' H) (hu : u = 3 ∨ u = 15) : TWr u σ'' σ'' := by
  have hru := fun wh (hw : wh < 2) => hB.ru h hw
  obtain ⟨⟨hN, hM, hRm, hK, hY, hC, h51⟩, -⟩ := h
  obtain ⟨b1, b2, b3, b4, b5, b6, -, q1, q2⟩ := hB
  obtain ⟨ta, tn, tm, tt, tf⟩ := g2
  obtain ⟨a0, a1, a2, a3, a4, a5, a6, a7⟩ := ta
  obtain ⟨k1, k2, -⟩ := g3
  have e5 : σ''.2.1 85 5 = H.2.1 85 0 := b1 0 (by omega)
  have e8 : σ''.2.1 85 8 = H.2.1 85 3 := b1 3 (by omega)
  have e9 : σ''.2.1 85 9 = H.2.1 85 4 := b1 4 (by omega)
  have eP : pN σ'' = (H.2.1 85 0).toNat := by unfold pN; rw [e5]
  have ec : ∀ a j, a ≤ 54 ∨ 129 ≤ a → σ''.2.1 a j = σ'.2.1 a j := fun a j ha => b6 a j (by omega)
  have rl : ∀ r cs, r ≤ 26 → RLr r σ' cs → RLr r σ'' cs := fun r cs hr ⟨x1, c, m, x2, x3, x4, x5, x6, x7⟩ => by
    refine ⟨by rw [q1]; exact x1, c, m, by rw [q2]; exact x2, by rw [q1]; exact x3, x4, x5, by rw [ec r 1 (by omega)]; exact x6, fun i hi => by rw [ec c i (by omega)]; exact x7 i hi⟩
  refine ⟨⟨by rw [ec u 0 (by omega), e9]; exact a0, by rw [ec u 2 (by omega), e5]; exact a2, by rw [ec u 6 (by omega), b3 92 0 (by omega) (by omega) (by omega)]; exact a6, by rw [ec u 7 (by omega), b3 92 1 (by omega) (by omega) (by omega)]; exact a7⟩, fun p hp => ?_, fun p hp => ?_, fun p hp => ?_, fun p hp => ?_, fun p hp => ⟨?_, fun q hq => ?_⟩, fun d hd h1 h2 => ?_, ?_, ?_⟩
  · rw [eP] at hp
    rw [ec (u + 1) p (by omega), (b2 86 p (by omega) (by omega)).1]
    exact (tn p (by omega)).1
  · rw [eP] at hp
    rw [ec (u + 2) p (by omega), (b2 87 p (by omega) (by omega)).1]
    exact (tn p (by omega)).2.1
  · rw [eP] at hp
    rw [ec (u + 3) p (by omega), (b2 88 p (by omega) (by omega)).1]
    exact (tn p (by omega)).2.2
  · rw [eP] at hp
    rw [ec (u + 4) p (by omega), (b2 89 p (by omega) (by omega)).1, (tm p (by omega)).1, if_pos (by omega)]
  · rw [eP] at hp
    rw [ec (u + 5) p (by omega)]
    exact (tm p (by omega)).2.2.1
  · rw [eP] at hp
    rw [ec (u + 5) p (by omega), eP, (tm p (by omega)).2.2.2 q hq, (tm q hq).1, (b2 89 q (by omega) hq).1]
    by_cases g : (q : Int) < H.2.1 85 0
    · rw [if_pos g]
      rcases tb_01 (H.2.1 89 q) (p : Int) with z | z
      · rw [z, if_neg (fun y => absurd y.2 (by decide))]
      · rw [z, if_pos ⟨by omega, rfl⟩]
    · rw [if_neg g, if_neg (by omega)]
      unfold tb
      simp
  · rw [e9] at h2
    rw [ec (u + 7) d (by omega), tf d hd h1 h2]
    have eF : frM σ'' (d : Int) = frN H (d : Int) := by
      unfold frM frN fN
      rw [e8]
      exact anyB_cg (fun q hq => by rw [(b2 91 (2 * q) (by omega) (by omega)).1, show 9 + 2 * q = 8 + (2 * q + 1) by omega, (b2 91 (2 * q + 1) (by omega) (by omega)).1])
    rw [eF]
  · rw [(hru 0 (by omega)).2.2.2]
    exact rl _ _ (by omega) k1
  · rw [(hru 1 (by omega)).2.2.2]
    exact rl _ _ (by omega) k2
