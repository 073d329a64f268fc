/-! where all begins -/
theorem rg_all {n : Nat} {f : Nat → Bool} (h : (List.range n).all f = true) {k : Nat} (hk : k < n) : f k = true := List.all_eq_true.mp h k (List.mem_range.mpr hk)
set_option maxRecDepth 10000000 in
theorem si_zero1 : ∀ j : Nat, s_init.2.1 2 j = 0 := fun j => rfl
set_option maxRecDepth 10000000 in
theorem si_zero2 : ∀ j : Nat, s_init.2.1 56 j = 0 := fun j => rfl
set_option maxRecDepth 10000000 in
theorem si_zero : ∀ j : Nat, s_init.2.1 2 j = 0 ∧ s_init.2.1 56 j = 0 := fun j => ⟨si_zero1 j, si_zero2 j⟩
theorem si_96 : (List.range 443).all (fun j => decide (s_init.2.1 96 j = if j = 0 then 1 else 0)) = true := by decide +kernel
theorem si_life : ((List.range 11).all (fun j => decide (s_init.2.1 32 j = if j = 0 then 1 else 0)) && (List.range 8).all (fun j => decide (s_init.2.1 33 j = 0)) && (List.range 91).all (fun j => decide (s_init.2.1 34 j = 0)) && (List.range 91).all (fun j => decide (s_init.2.1 35 j = 0))) = true := by decide +kernel
theorem si_85 : ((List.range 10).all (fun j => decide (s_init.2.1 85 j = 0)) && (List.range 16).all (fun j => decide (s_init.2.1 87 j = 0) && decide (s_init.2.1 88 j = 0) && decide (s_init.2.1 89 j = 0) && decide (s_init.2.1 91 j = 0) && decide (s_init.2.1 100 j = 0)) && (List.range 4).all (fun j => decide (s_init.2.1 92 j = 0) && decide (s_init.2.1 93 j = -1)) && (List.range 6).all (fun j => decide (s_init.2.1 54 j = 0) && decide (s_init.2.1 57 j = 0))) = true := by decide +kernel
theorem si_55 : (decide (s_init.2.1 55 1 = 0 ∧ s_init.2.1 55 7 = 0 ∧ s_init.2.1 55 8 = -1 ∧ s_init.2.1 55 52 = 0 ∧ s_init.2.1 55 59 = 0 ∧ s_init.2.1 55 61 = 0 ∧ s_init.2.1 55 65 = 0 ∧ s_init.2.1 55 69 = 0 ∧ s_init.2.1 55 70 = 0 ∧ s_init.2.1 55 71 = 1 ∧ s_init.2.1 55 107 = 0) && decide (s_init.2.1 0 11 = 0 ∧ s_init.2.1 0 14 = 0 ∧ s_init.2.1 0 15 = -1 ∧ s_init.2.1 0 16 = 1 ∧ s_init.2.1 1 1 = 0 ∧ s_init.2.1 49 1 = 0 ∧ s_init.2.1 42 1 = 0 ∧ s_init.2.1 42 2 = 0) && decide (s_init.2.1 3 0 = 0 ∧ s_init.2.1 3 2 = 0 ∧ s_init.2.1 3 6 = 0 ∧ s_init.2.1 3 7 = 0 ∧ s_init.2.1 11 1 = 0 ∧ s_init.2.1 13 1 = 0)) = true := by decide +kernel
theorem si_ref : (decide (s_init.2.2 0 2 = some 3 ∧ s_init.2.2 0 3 = some 15 ∧ s_init.2.2 11 0 = some 12 ∧ s_init.2.2 13 0 = some 14 ∧ s_init.2.2 23 0 = some 24 ∧ s_init.2.2 25 0 = some 26) && (List.range 20).all (fun s => decide (s_init.2.2 43 s = none))) = true := by decide +kernel
theorem si_word : WT.all (fun q => (List.range (WL.getD q.2 []).length).all (fun j => decide (s_init.2.1 q.1 j = (WL.getD q.2 []).getD j 0))) = true := by decide +kernel
set_option maxRecDepth 1000000 in
theorem INV_0 : INV 0 s_init := by
  have hL := s_init_lay
  have z := si_zero
  have h96 : ∀ j, j < 443 → s_init.2.1 96 j = if j = 0 then 1 else 0 := fun j hj => of_decide_eq_true (rg_all si_96 hj)
  have hl := si_life
  simp only [Bool.and_eq_true] at hl
  obtain ⟨⟨⟨l0, l1⟩, l2⟩, l3⟩ := hl
  have h32 : ∀ j, j < 11 → s_init.2.1 32 j = if j = 0 then 1 else 0 := fun j hj => of_decide_eq_true (rg_all l0 hj)
  have h33 : ∀ j, j < 8 → s_init.2.1 33 j = 0 := fun j hj => of_decide_eq_true (rg_all l1 hj)
  have h34 : ∀ j, j < 91 → s_init.2.1 34 j = 0 := fun j hj => of_decide_eq_true (rg_all l2 hj)
  have h35 : ∀ j, j < 91 → s_init.2.1 35 j = 0 := fun j hj => of_decide_eq_true (rg_all l3 hj)
  have hm := si_85
  simp only [Bool.and_eq_true] at hm
  obtain ⟨⟨⟨m0, m1⟩, m2⟩, m3⟩ := hm
  have h85 : ∀ j, j < 10 → s_init.2.1 85 j = 0 := fun j hj => of_decide_eq_true (rg_all m0 hj)
  have hq : ∀ j, j < 16 → s_init.2.1 87 j = 0 ∧ s_init.2.1 88 j = 0 ∧ s_init.2.1 89 j = 0 ∧ s_init.2.1 91 j = 0 ∧ s_init.2.1 100 j = 0 := fun j hj => by
    have h9 := rg_all m1 hj
    simp only [Bool.and_eq_true, decide_eq_true_eq] at h9
    exact ⟨h9.1.1.1.1, h9.1.1.1.2, h9.1.1.2, h9.1.2, h9.2⟩
  have h92 : ∀ j, j < 4 → s_init.2.1 92 j = 0 ∧ s_init.2.1 93 j = -1 := fun j hj => by
    have h9 := rg_all m2 hj
    simp only [Bool.and_eq_true, decide_eq_true_eq] at h9
    exact h9
  have h54 : ∀ j, j < 6 → s_init.2.1 54 j = 0 ∧ s_init.2.1 57 j = 0 := fun j hj => by
    have h9 := rg_all m3 hj
    simp only [Bool.and_eq_true, decide_eq_true_eq] at h9
    exact h9
  have h5 := si_55
  simp only [Bool.and_eq_true, decide_eq_true_eq] at h5
  obtain ⟨⟨⟨c1, c7, c8, c52, c59, c61, c65, c69, c70, c71, c107⟩, ⟨d11, d14, d15, d16, d1, d49, d421, d422⟩⟩, ⟨t0, t2, t6, t7, t11, t13⟩⟩ := h5
  have hr := si_ref
  simp only [Bool.and_eq_true, decide_eq_true_eq] at hr
  obtain ⟨⟨r2, r3, r11, r13, r23, r25⟩, r43⟩ := hr
  have h43 : ∀ s, s < 20 → s_init.2.2 43 s = none := fun s hs => of_decide_eq_true (rg_all r43 hs)
  have hP : pN s_init = 0 := by unfold pN; rw [h85 5 (by decide)]; rfl
  have z96 : ∀ j, 1 ≤ j → j < 443 → s_init.2.1 96 j = 0 := fun j h1 h2 => by rw [h96 j h2, if_neg (by omega)]
  have o96 : s_init.2.1 96 0 = 1 := by rw [h96 0 (by decide), if_pos rfl]
  have hMN : MN (s_init.2.1 85 9) (fun k => s_init.2.1 96 k) := by
    rw [h85 9 (by decide)]
    refine ⟨?_, ?_, ?_, ?_, fun p hp => ?_, fun p hp => Or.inl (z96 _ (by omega) (by omega)), fun p hp => ?_, fun p hp => ?_, ?_, fun p hp => ?_⟩
    · show 1 ≤ s_init.2.1 96 0 ∧ s_init.2.1 96 0 ≤ 999
      rw [o96]; omega
    · show 0 ≤ s_init.2.1 96 1 ∧ s_init.2.1 96 1 ≤ 0
      rw [z96 1 (by omega) (by omega)]; omega
    · show 0 ≤ s_init.2.1 96 2 ∧ s_init.2.1 96 2 ≤ 90
      rw [z96 2 (by omega) (by omega)]; omega
    · show 0 ≤ s_init.2.1 96 3 ∧ s_init.2.1 96 3 ≤ 999999
      rw [z96 3 (by omega) (by omega)]; omega
    · show 0 ≤ s_init.2.1 96 (4 + p) ∧ s_init.2.1 96 (4 + p) ≤ 99
      rw [z96 _ (by omega) (by omega)]; omega
    · show 0 ≤ s_init.2.1 96 (20 + p) ∧ s_init.2.1 96 (20 + p) < 256
      rw [z96 _ (by omega) (by omega)]; omega
    · show 0 ≤ s_init.2.1 96 (111 + p) ∧ s_init.2.1 96 (111 + p) < 256
      rw [z96 _ (by omega) (by omega)]; omega
    · show 0 ≤ s_init.2.1 96 202 ∧ s_init.2.1 96 202 ≤ 60
      rw [z96 202 (by omega) (by omega)]; omega
    · show 0 ≤ s_init.2.1 96 (204 + 4 * p) ∧ s_init.2.1 96 (204 + 4 * p) ≤ 90
      rw [z96 _ (by omega) (by omega)]; omega
  have hMN2 := hMN
  obtain ⟨a0, a1, a2, a3, a4, a5, a6, a7, a8, a9⟩ := hMN2
  have hG : GD s_init := by
    refine ⟨hL, ⟨by rw [h85 5 (by decide)]; omega, by rw [h85 8 (by decide)]; omega, by rw [h85 9 (by decide)]; omega, Or.inl ⟨c52, h85 9 (by decide), h85 5 (by decide)⟩, fun p hp => by rw [(hq (8 + p) (by omega)).1]; omega, fun p hp => by rw [(hq (8 + p) (by omega)).2.1]; omega, fun p hp => by rw [(hq (8 + p) (by omega)).2.2.1]; omega, fun k hk => by rw [(hq (8 + 2 * k) (by omega)).2.2.2.1, (hq (9 + 2 * k) (by omega)).2.2.2.1]; omega, a0, a1, a2, a3, a4, a5, a6, a7, a8, a9, by rw [(h92 2 (by decide)).1]; omega, by rw [(h92 3 (by decide)).1]; omega⟩, fun wh hw => Or.inl (h92 (2 + wh) (by omega)).2, Or.inl (h92 2 (by decide)).2, by rw [c59]; omega, by rw [c61]; omega⟩
  have sh : ∀ k, k < 131 → s_init.1[k]? = SH[k]? := hL.1
  have rl : ∀ r c, s_init.1[r]? = some (5, 2) → s_init.2.2 r 0 = some c → s_init.1[c]? = some (11, 0) → (c = 12 ∨ c = 14) → s_init.2.1 r 1 = 0 → RLr r s_init [] := fun r c x1 x2 x3 x4 x5 => ⟨x1, c, 0, x2, x3, by omega, ⟨Nat.le_refl 0, by omega⟩, x5, fun i hi => absurd hi (Nat.not_lt_zero i)⟩
  have rb : ∀ wh, wh < 2 → rlB s_init wh = [] := fun wh hw => by unfold rlB; rw [if_pos (h92 (2 + wh) (by omega)).2]
  refine ⟨3, 0, 0, hG, ⟨Or.inl rfl, ⟨r2, r3⟩, ⟨⟨12, 0, 14, 0, ⟨r11, (sh 12 (by decide)).trans rfl, by unfold cdC0; omega, by omega⟩, ⟨r13, (sh 14 (by decide)).trans rfl, by unfold cdC0; omega, by omega⟩, by omega⟩, ⟨24, 0, 26, 0, ⟨r23, (sh 24 (by decide)).trans rfl, by unfold cdC0; omega, by omega⟩, ⟨r25, (sh 26 (by decide)).trans rfl, by unfold cdC0; omega, by omega⟩, by omega⟩⟩, fun r s x hr hs hx hy => ?_, fun r x hr hx => ?_⟩, ?_, ⟨?_, ?_⟩, ⟨?_, fun q hq9 => ?_⟩, ⟨⟨by rw [c65]; omega, fun k hk => by rw [(hq (2 * k) (by omega)).2.2.2.2]; omega⟩, by rw [d11, c65], fun k hk => by rw [c65] at hk; omega⟩, ⟨by rw [d1, c1], fun j => by rw [(z j).1, (z j).2], by rw [c1]; omega, fun j hj => by rw [(z j).2]; omega⟩, fun j hj => by rw [(h54 j hj).1, (h54 j hj).2]; omega, ⟨⟨by rw [d14, c7], by rw [d15, c8]⟩, by rw [d16, c71], by rw [c71]; omega, by rw [c71]; omega⟩, ⟨by rw [d49, c107], by rw [c107]; omega, fun j hj => by rw [c107] at hj; omega⟩, ⟨fun q hq9 j hj => ?_, fun p hp => by rw [(hq p (by omega)).1, (hq p (by omega)).2.1, (hq p (by omega)).2.2.1]; omega, fun k hk => by rw [(hq k (by omega)).2.2.2.1]; split <;> omega⟩, ⟨⟨⟨d421, d422⟩, ⟨by omega, by omega⟩, fun s L hs hL9 => ?_, fun s s' L L' hs hs' hn h1 h2 => ?_⟩, c69, by rw [c70]; omega, fun j hj => absurd hj (Nat.not_lt_zero j)⟩⟩
  · rcases hr with rfl | rfl <;> rcases hs with rfl | rfl
    · rw [r11] at hx; rw [r23] at hy; have e1 := Option.some.inj hx; have e2 := Option.some.inj hy; omega
    · rw [r11] at hx; rw [r25] at hy; have e1 := Option.some.inj hx; have e2 := Option.some.inj hy; omega
    · rw [r13] at hx; rw [r23] at hy; have e1 := Option.some.inj hx; have e2 := Option.some.inj hy; omega
    · rw [r13] at hx; rw [r25] at hy; have e1 := Option.some.inj hx; have e2 := Option.some.inj hy; omega
  · left
    rcases hr with rfl | rfl | rfl | rfl
    · rw [r11] at hx; have := Option.some.inj hx; omega
    · rw [r13] at hx; have := Option.some.inj hx; omega
    · rw [r23] at hx; have := Option.some.inj hx; omega
    · rw [r25] at hx; have := Option.some.inj hx; omega
  · refine ⟨⟨by rw [t0, h85 9 (by decide)], by rw [t2, h85 5 (by decide)], by rw [t6, (h92 2 (by decide)).1], by rw [t7, (h92 3 (by decide)).1]⟩, fun p hp => by rw [hP] at hp; omega, fun p hp => by rw [hP] at hp; omega, fun p hp => by rw [hP] at hp; omega, fun p hp => by rw [hP] at hp; omega, fun p hp => by rw [hP] at hp; omega, fun d hd h1 h2 => by rw [h85 9 (by decide)] at h2; omega, ?_, ?_⟩
    · rw [rb 0 (by decide)]
      exact rl 11 12 ((sh 11 (by decide)).trans rfl) r11 ((sh 12 (by decide)).trans rfl) (Or.inl rfl) t11
    · rw [rb 1 (by decide)]
      exact rl 13 14 ((sh 13 (by decide)).trans rfl) r13 ((sh 14 (by decide)).trans rfl) (Or.inr rfl) t13
  · refine ⟨⟨?_, ?_, ?_, ?_⟩, ?_, fun p hp => ?_, fun p hp => ?_, fun d hd => ?_, fun d hd => ?_⟩
    · exact ((h32 0 (by decide)).trans (if_pos rfl)).trans o96.symm
    · exact ((h32 1 (by decide)).trans (if_neg (by decide))).trans (z96 1 (by omega) (by omega)).symm
    · exact ((h32 2 (by decide)).trans (if_neg (by decide))).trans (z96 2 (by omega) (by omega)).symm
    · exact ((h32 3 (by decide)).trans (if_neg (by decide))).trans (z96 3 (by omega) (by omega)).symm
    · rw [h32 4 (by decide)]; decide
    · have e4 : tb (s_init.2.1 32 4) (p : Int) = 0 := by
        rw [h32 4 (by decide), if_neg (by decide)]; unfold tb; simp
      exact e4.trans (z96 (12 + p) (by omega) (by omega)).symm
    · exact (h33 p hp).trans (z96 (4 + p) (by omega) (by omega)).symm
    · exact (h34 d hd).trans (z96 (20 + d) (by omega) (by omega)).symm
    · exact (h35 d hd).trans (z96 (111 + d) (by omega) (by omega)).symm
  · exact RWr_0 (by rw [h32 9 (by decide)]; rfl) (by rw [h32 10 (by decide)]; rfl) (z96 202 (by omega) (by omega))
  · refine ⟨hMN, fun k hk => ?_, ⟨z96 20 (by omega) (by omega), z96 111 (by omega) (by omega), fun d hd hy => z96 _ (by omega) (by omega)⟩, fun p hp hq9 => ⟨z96 _ (by omega) (by omega), z96 _ (by omega) (by omega)⟩, ⟨sumN_nn (fun i => bc_nn _) 90, ?_⟩, ⟨sumN_nn (fun i => bc_nn _) 90, ?_⟩⟩
    · have h9 : (k : Int) < s_init.2.1 96 202 := hk
      rw [z96 202 (by omega) (by omega)] at h9
      omega
    · rw [sumN_cg (g := fun _ => 0) 90 (fun d hd => (congrArg bc (z96 (21 + d) (by omega) (by omega))).trans bc_0), sumN_z]; omega
    · rw [sumN_cg (g := fun _ => 0) 90 (fun d hd => (congrArg bc (z96 (112 + d) (by omega) (by omega))).trans bc_0), sumN_z]; omega
  · rw [h85 5 (by decide)] at hq9; omega
  · have h9 := List.all_eq_true.mp si_word q hq9
    exact of_decide_eq_true (rg_all h9 hj)
  · rw [h43 s hs] at hL9; exact absurd hL9 (by simp)
  · rw [h43 s hs] at h1; exact absurd h1 (by simp)
