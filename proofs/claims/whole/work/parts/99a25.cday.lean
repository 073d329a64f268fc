/-- what an act changes of the class's life -/
def W_ca (a j : Nat) : Prop := (32 ≤ a ∧ a ≤ 41) ∨ (44 ≤ a ∧ a ≤ 48) ∨ a = 53
def CA (σ τ : am_H) : Prop := τ.1 = σ.1 ∧ (∀ a j, ¬ (a = 44 ∧ (j = 8 ∨ j = 9)) → τ.2.2 a j = σ.2.2 a j) ∧ ∀ a j, ¬ W_ca a j → τ.2.1 a j = σ.2.1 a j
theorem CA.refl (σ : am_H) : CA σ σ := ⟨rfl, fun _ _ _ => rfl, fun _ _ _ => rfl⟩
theorem CA.trans {σ τ υ : am_H} (h1 : CA σ τ) (h2 : CA τ υ) : CA σ υ := ⟨h2.1.trans h1.1, fun a j h => (h2.2.1 a j h).trans (h1.2.1 a j h), fun a j h => (h2.2.2 a j h).trans (h1.2.2 a j h)⟩
theorem frw.ca {W : Nat → Nat → Prop} {σ τ : am_H} (h : frw W σ τ) (hW : ∀ a j, W a j → W_ca a j) : CA σ τ := ⟨h.1, fun a j _ => by rw [h.2.1], fun a j hh => h.2.2 a j (fun hw => hh (hW a j hw))⟩
theorem CQ.ca {σ τ : am_H} (h : CQ σ τ) : CA σ τ := ⟨h.1, h.2.1, fun a j hh => h.2.2 a j (fun hw => hh (by unfold W_cq at hw; unfold W_ca; omega))⟩
theorem CA.L {σ τ : am_H} (h : CA σ τ) (hL : lay σ) : lay τ := by
  refine ⟨fun k hk => by rw [h.1]; exact hL.1 k hk, fun i q hi => ?_⟩
  have hq : ∀ q ∈ RT, ¬ (q.1 = 44 ∧ (q.2.1 = 8 ∨ q.2.1 = 9)) := by decide +kernel
  rw [h.2.1 _ _ (hq q (List.mem_of_getElem? hi))]
  exact hL.2 i q hi
theorem RLr.ca {r : Nat} {σ τ : am_H} {cs : List Int} (h : RLr r σ cs) (hQ : CA σ τ) (hr : r ≤ 31) : RLr r τ cs := by
  obtain ⟨h1, c, m, h2, h3, h4, h5, h6, h7⟩ := h
  refine ⟨by rw [hQ.1]; exact h1, c, m, by rw [hQ.2.1 r 0 (by omega)]; exact h2, by rw [hQ.1]; exact h3, h4, h5, by rw [hQ.2.2 r 1 (by unfold W_ca; omega)]; exact h6, fun i hi => ?_⟩
  rw [hQ.2.2 c i (by unfold W_ca; omega)]
  exact h7 i hi
theorem TWr.ca {t : Nat} {σ τ H : am_H} (h : TWr t σ H) (hQ : CA σ τ) (ht : t ≤ 15) : TWr t τ H := by
  have e : ∀ i j, i ≤ 11 → τ.2.1 (t + i) j = σ.2.1 (t + i) j := fun i j hi => hQ.2.2 (t + i) j (by unfold W_ca; omega)
  have e0 : ∀ j, τ.2.1 t j = σ.2.1 t j := fun j => e 0 j (by omega)
  obtain ⟨h1, h2, h3, h4, h5, h6, h7, h8, h9⟩ := h
  exact ⟨by rw [e0, e0, e0, e0]; exact h1, fun p hp => by rw [e 1 p (by omega)]; exact h2 p hp, fun p hp => by rw [e 2 p (by omega)]; exact h3 p hp, fun p hp => by rw [e 3 p (by omega)]; exact h4 p hp, fun p hp => by rw [e 4 p (by omega)]; exact h5 p hp, fun p hp => by rw [e 5 p (by omega)]; exact h6 p hp, fun d h1 h2 h3 => by rw [e 7 d (by omega)]; exact h7 d h1 h2 h3, h8.ca hQ (by omega), h9.ca hQ (by omega)⟩
theorem LF0.fr5 {W : Nat → Nat → Prop} {l : Nat} {σ τ : am_H} {g : Nat → Int} (h : LF0 l σ g) (hF : frw W σ τ) (h0 : ∀ j, j ≤ 4 → ¬ W l j) (hW : ∀ a j, (l + 1 ≤ a ∧ a ≤ l + 3) → ¬ W a j) : LF0 l τ g := by
  have e : ∀ i j, 1 ≤ i ∧ i ≤ 3 → τ.2.1 (l + i) j = σ.2.1 (l + i) j := fun i j hi => hF.2.2 (l + i) j (hW _ _ (by omega))
  have e0 : ∀ j, j ≤ 4 → τ.2.1 l j = σ.2.1 l j := fun j hj => hF.2.2 l j (h0 j hj)
  obtain ⟨h1, h2, h3, h4, h5, h6⟩ := h
  exact ⟨by rw [e0 0 (by omega), e0 1 (by omega), e0 2 (by omega), e0 3 (by omega)]; exact h1, by rw [e0 4 (by omega)]; exact h2, fun p hp => by rw [e0 4 (by omega)]; exact h3 p hp, fun p hp => by rw [e 1 p (by omega)]; exact h4 p hp, fun d hd => by rw [e 2 d (by omega)]; exact h5 d hd, fun d hd => by rw [e 3 d (by omega)]; exact h6 d hd⟩
theorem rwV_cg {f g : Nat → Int} (h : ∀ k, 202 ≤ k → g k = f k) (k : Nat) : rwV g k = rwV f k := by
  unfold rwV
  rw [h _ (by omega), h _ (by omega), h _ (by omega), h _ (by omega)]
theorem RWr.g {l : Nat} {σ : am_H} {f g : Nat → Int} (h : RWr l σ f) (hg : ∀ k, 202 ≤ k → g k = f k) : RWr l σ g := by
  obtain ⟨h1, h2, h3⟩ := h
  exact ⟨h1, by rw [hg 202 (by omega)]; exact h2, fun k hk => by rw [rwV_cg hg]; exact h3 k (by rw [← hg 202 (by omega)]; exact hk)⟩
theorem ROK.g {f g : Nat → Int} (h : ROK f) (hg : ∀ k, 202 ≤ k → g k = f k) : ROK g := by
  intro k hk
  rw [hg _ (by omega), hg _ (by omega), hg _ (by omega), hg _ (by omega)]
  exact h k (by rw [← hg 202 (by omega)]; exact hk)
theorem noD_202 {H : am_H} (hG : GD H) (hc : cc H) (k : Nat) (hk : 202 ≤ k) : noD H k = H.2.1 96 k := by
  have hb := bg1_rng hG hc
  have hY := hG.R.Y
  have h8 : pN H ≤ 8 := by have := hG.R.P; unfold pN; omega
  rw [noD_far (by omega) (by omega) (by omega), bgN_far (by omega)]
theorem noD_01 {H : am_H} (hG : GD H) (hc : cc H) : noD H 0 = bgN H 0 ∧ noD H 1 = bgN H 1 := ⟨noD_far (by omega) (by omega) (by omega), noD_far (by omega) (by omega) (by omega)⟩
set_option maxRecDepth 100000 in
theorem c_liveOneDay_3 (S H : am_H) (hL : lay S) (hG : GD H)  (hT : TWr 3 S H) (hF : LF0 32 S (fun k => H.2.1 96 k)) (hR : RWr 32 S (fun k => H.2.1 96 k)) (hO : ROK (fun k => H.2.1 96 k)) (ht : S.2.2 0 2 = some 3) (hdl : 1 ≤ dlM H) : am_met M_X9_liveOneDay [am_r 0] S (fun r σ' => r = some (am_i (fsD H)) ∧ LF0 32 σ' (fun k => (dyS H).2.1 96 k) ∧ RWr 32 σ' (fun k => (dyS H).2.1 96 k) ∧ ROK (fun k => (dyS H).2.1 96 k) ∧ CA S σ') := by
  refine am_qq (fun Q hQ => ?_)
  refine am_enter (show plainFor yX9_liveOneDay = true by decide +kernel) rfl (Nat.le_of_ble_eq_true rfl) (fun _ _ _ => trivial) ?_
  have hc := cc_of hG.R hdl
  have hGD := (itS_GD hG 1 hdl).1
  have hR9 := hGD.R
  have hno := noD_01 hG hc
  have hy9 : 0 ≤ noD H 0 ∧ noD H 0 ≤ 999 := by
    have h1 := hR9.year
    rw [show (itS 1 H).2.1 96 0 = noD H 0 from nwD_lt (by decide)] at h1
    omega
  have hd9 : 0 ≤ noD H 1 ∧ noD H 1 ≤ 90 := by
    have h1 := hR9.day
    have h2 := hR9.Y
    rw [show (itS 1 H).2.1 96 1 = noD H 1 from nwD_lt (by decide)] at h1
    omega
  have hn9 := (bc1_eq (thD_rng hG hc)).2
  have hb9 := fsD01 H
  refine am_aload_n (q := 1) rfl (am_tab tk_X9_liveOneDay 0 rfl) rfl ?_
  refine am_getR (q := 4) (a := 0) (k := 9) (n := 17) (j := 7) (r := some (44)) (Ls_0 hL) (by decide) rfl (Lr_0_7 hL) (by decide) (Or.inl kf_X9_57) (am_tab tk_X9_liveOneDay 1 rfl) rfl ?_
  refine am_aload_n (q := 5) rfl (am_tab tk_X9_liveOneDay 2 rfl) rfl ?_
  refine am_getR (q := 8) (a := 0) (k := 9) (n := 17) (j := 2) (r := some (3)) (Ls_0 hL) (by decide) rfl ht (by decide) (Or.inl kf_X9_19) (am_tab tk_X9_liveOneDay 3 rfl) rfl ?_
  refine am_aload_n (q := 9) rfl (am_tab tk_X9_liveOneDay 4 rfl) rfl ?_
  refine am_getR (q := 12) (a := 0) (k := 9) (n := 17) (j := 4) (r := some (32)) (Ls_0 hL) (by decide) rfl (Lr_0_4 hL) (by decide) (Or.inl kf_X9_38) (am_tab tk_X9_liveOneDay 5 rfl) rfl ?_
  refine am_callVr (q := 15) (me2 := M_X0_lookAt) (b := 44) (kb := 0) (nb := 14) (As := [am_r 3, am_r 32]) (rest := []) (c_lookAt_3_32 S H hL hG hT hF) ⟨rfl, rfl⟩ (Ls_44 hL) (by decide) ⟨Or.inr km_X9_247, kc_X0_lookAt, kn_X0, kd_X0_lookAt, ⟨(Nat.le_of_ble_eq_true rfl), (Nat.le_of_ble_eq_true rfl)⟩, ⟨(Nat.le_of_ble_eq_true rfl), (Nat.le_of_ble_eq_true rfl)⟩, (Nat.le_of_ble_eq_true rfl)⟩ ki_X0_lookAt ks_X0_lookAt rfl (am_tab tk_X9_liveOneDay 6 rfl) rfl ?_
  rintro r T1 hlk
  rw [if_pos hdl] at hlk
  obtain ⟨rfl, hDA, hF1⟩ := hlk
  have hq1 : CA S T1 := (CQ.base hF1).ca
  have hA1 : LF0 32 T1 (fun k => H.2.1 96 k) := LF0.fr (σ := am_setR (am_setR S 44 8 (some 3)) 44 9 (some 32)) hF hF1 (by unfold W_da; omega)
  have hR1 : RWr 32 T1 (fun k => H.2.1 96 k) := RWr.fr (σ := am_setR (am_setR S 44 8 (some 3)) 44 9 (some 32)) hR hF1 (by unfold W_da; omega) (by unfold W_da; omega) (by unfold W_da; omega)
  refine am_st (st2 := [am_i 1]) rfl ?_
  refine am_pop (q := 16) rfl (am_tab tk_X9_liveOneDay 7 rfl) rfl ?_
  refine am_aload_n (q := 17) rfl (am_tab tk_X9_liveOneDay 8 rfl) rfl ?_
  refine am_getR (q := 20) (a := 0) (k := 9) (n := 17) (j := 7) (r := some (44)) (Ls_0 (hq1.L hL)) (by decide) rfl (Lr_0_7 (hq1.L hL)) (by decide) (Or.inl kf_X9_57) (am_tab tk_X9_liveOneDay 9 rfl) rfl ?_
  refine am_callVr (q := 23) (me2 := M_X0_settle) (b := 44) (kb := 0) (nb := 14) (As := []) (rest := []) (c_settle_3_32 T1 H (hq1.L hL) hG hc hA1 _ hDA) ⟨rfl, rfl⟩ (Ls_44 (hq1.L hL)) (by decide) ⟨Or.inr km_X9_251, kc_X0_settle, kn_X0, kd_X0_settle, ⟨(Nat.le_of_ble_eq_true rfl), (Nat.le_of_ble_eq_true rfl)⟩, ⟨(Nat.le_of_ble_eq_true rfl), (Nat.le_of_ble_eq_true rfl)⟩, (Nat.le_of_ble_eq_true rfl)⟩ ki_X0_settle ks_X0_settle rfl (am_tab tk_X9_liveOneDay 10 rfl) rfl ?_
  rintro r T2 ⟨rfl, hA2, hF2⟩
  have hq2 : CA S T2 := hq1.trans (hF2.ca (by unfold W_se W_ca; omega))
  have hR2 : RWr 32 T2 (fun k => H.2.1 96 k) := hR1.fr hF2 (by unfold W_se; omega) (by unfold W_se; omega) (by unfold W_se; omega)
  have h45 : T2.2.1 44 5 = thD H := (hF2.2.2 44 5 (by unfold W_se; omega)).trans hDA.2.2.2.2.1
  have h46 : T2.2.1 44 6 = fsD H := (hF2.2.2 44 6 (by unfold W_se; omega)).trans hDA.2.2.2.2.2.1
  refine am_st (st2 := []) rfl ?_
  refine am_aload_n (q := 24) rfl (am_tab tk_X9_liveOneDay 11 rfl) rfl ?_
  refine am_getR (q := 27) (a := 0) (k := 9) (n := 17) (j := 4) (r := some (32)) (Ls_0 (hq2.L hL)) (by decide) rfl (Lr_0_4 (hq2.L hL)) (by decide) (Or.inl kf_X9_38) (am_tab tk_X9_liveOneDay 12 rfl) rfl ?_
  refine am_aload_n (q := 28) rfl (am_tab tk_X9_liveOneDay 13 rfl) rfl ?_
  refine am_getR (q := 31) (a := 0) (k := 9) (n := 17) (j := 7) (r := some (44)) (Ls_0 (hq2.L hL)) (by decide) rfl (Lr_0_7 (hq2.L hL)) (by decide) (Or.inl kf_X9_57) (am_tab tk_X9_liveOneDay 14 rfl) rfl ?_
  refine am_getI (q := 34) (a := 44) (k := 0) (n := 14) (j := 5) (x := (thD H)) (Ls_44 (hq2.L hL)) (by decide) rfl h45 (by decide) (Or.inr kf_X9_225) (am_tab tk_X9_liveOneDay 15 rfl) rfl ?_
  refine am_callS0 (q := 37) (me2 := M_J6_bitCount_0f7a4) (As := [am_i ((thD H))]) (rest := [am_r 32]) (out := [am_i (bc (thD H)), am_r 32]) (c_bc T2 (thD H) (thD_rng hG hc)) ⟨rfl, rfl⟩ ⟨Or.inl km_X9_133, kc_J6_bitCount_0f7a4, kn_J6, kd_J6_bitCount_0f7a4, ⟨(Nat.le_of_ble_eq_true rfl), (Nat.le_of_ble_eq_true rfl)⟩, ⟨(Nat.le_of_ble_eq_true rfl), (Nat.le_of_ble_eq_true rfl)⟩, (Nat.le_of_ble_eq_true rfl)⟩ ki_J6_bitCount_0f7a4 rfl rfl (am_tab tk_X9_liveOneDay 16 rfl) rfl ?_
  refine am_aload_n (q := 38) rfl (am_tab tk_X9_liveOneDay 17 rfl) rfl ?_
  refine am_getR (q := 41) (a := 0) (k := 9) (n := 17) (j := 7) (r := some (44)) (Ls_0 (hq2.L hL)) (by decide) rfl (Lr_0_7 (hq2.L hL)) (by decide) (Or.inl kf_X9_57) (am_tab tk_X9_liveOneDay 18 rfl) rfl ?_
  refine am_getI (q := 44) (a := 44) (k := 0) (n := 14) (j := 6) (x := (fsD H)) (Ls_44 (hq2.L hL)) (by decide) rfl h46 (by decide) (Or.inr kf_X9_230) (am_tab tk_X9_liveOneDay 19 rfl) rfl ?_
  refine am_callVr (q := 47) (me2 := M_X1_addRow) (b := 32) (kb := 1) (nb := 11) (As := [am_i (bc (thD H)), am_i ((fsD H))]) (rest := []) (c_addRow T2 (hq2.L hL) (bc (thD H)) (fsD H) (noD H) (noD H 0) (noD H 1) (hA2.1.1.trans (nwD_lt (by decide))) (hA2.1.2.1.trans (nwD_lt (by decide))) (hR2.g (noD_202 hG hc)) (by rw [noD_202 hG hc 202 (by decide)]; exact hG.R.kept) hy9 hd9 hn9 hb9) ⟨rfl, rfl⟩ (Ls_32 (hq2.L hL)) (by decide) ⟨Or.inr km_X9_360, kc_X1_addRow, kn_X1, kd_X1_addRow, ⟨(Nat.le_of_ble_eq_true rfl), (Nat.le_of_ble_eq_true rfl)⟩, ⟨(Nat.le_of_ble_eq_true rfl), (Nat.le_of_ble_eq_true rfl)⟩, (Nat.le_of_ble_eq_true rfl)⟩ ki_X1_addRow ks_X1_addRow rfl (am_tab tk_X9_liveOneDay 20 rfl) rfl ?_
  rintro r T3 ⟨rfl, hR3, hF3⟩
  have hq3 : CA S T3 := hq2.trans (hF3.ca (by unfold W_ro W_ca; omega))
  have hA3 : LF0 32 T3 (fun k => (dyS H).2.1 96 k) := hA2.fr5 hF3 (by unfold W_ro; omega) (by unfold W_ro; omega)
  have h463 : T3.2.1 44 6 = fsD H := (hF3.2.2 44 6 (by unfold W_ro; omega)).trans h46
  refine am_st (st2 := []) rfl ?_
  refine am_aload_n (q := 48) rfl (am_tab tk_X9_liveOneDay 21 rfl) rfl ?_
  refine am_getR (q := 51) (a := 0) (k := 9) (n := 17) (j := 7) (r := some (44)) (Ls_0 (hq3.L hL)) (by decide) rfl (Lr_0_7 (hq3.L hL)) (by decide) (Or.inl kf_X9_57) (am_tab tk_X9_liveOneDay 22 rfl) rfl ?_
  refine am_getI (q := 54) (a := 44) (k := 0) (n := 14) (j := 6) (x := (fsD H)) (Ls_44 (hq3.L hL)) (by decide) rfl h463 (by decide) (Or.inr kf_X9_230) (am_tab tk_X9_liveOneDay 23 rfl) rfl ?_
  refine am_if_eq (q := 57) (t := 61) (am_tab tk_X9_liveOneDay 24 rfl) (by decide) rfl (fun h54 => ?_) (fun h54 => ?_)
  · refine am_iconst (q := 62) (n := 0) (by decide) (am_tab tk_X9_liveOneDay 27 rfl) rfl ?_
    refine am_iret (Or.inl rfl) (Nat.le_of_ble_eq_true rfl) (Nat.le_of_ble_eq_true rfl) (am_tab tk_X9_liveOneDay 28 rfl) ?_
    refine hQ _ _ ?_
    have hk9 := hG.R.kept
    refine ⟨congrArg (fun z => some (am_i z)) (by omega), hA3, hR3, ?_, hq3⟩
    exact ROK_kp (by rw [noD_202 hG hc 202 (by decide)]; exact hk9) (hO.g (noD_202 hG hc)) hy9 hd9 hn9 (by omega)
  · refine am_iconst (q := 58) (n := 1) (by decide) (am_tab tk_X9_liveOneDay 25 rfl) rfl ?_
    refine am_goto (t := 62) (am_tab tk_X9_liveOneDay 26 rfl) (by decide) ?_
    refine am_iret (Or.inl rfl) (Nat.le_of_ble_eq_true rfl) (Nat.le_of_ble_eq_true rfl) (am_tab tk_X9_liveOneDay 28 rfl) ?_
    refine hQ _ _ ?_
    have hk9 := hG.R.kept
    refine ⟨congrArg (fun z => some (am_i z)) (by omega), hA3, hR3, ?_, hq3⟩
    exact ROK_kp (by rw [noD_202 hG hc 202 (by decide)]; exact hk9) (hO.g (noD_202 hG hc)) hy9 hd9 hn9 (by omega)
set_option maxRecDepth 100000 in
theorem c_liveOneDay_15 (S H : am_H) (hL : lay S) (hG : GD H)  (hT : TWr 15 S H) (hF : LF0 32 S (fun k => H.2.1 96 k)) (hR : RWr 32 S (fun k => H.2.1 96 k)) (hO : ROK (fun k => H.2.1 96 k)) (ht : S.2.2 0 2 = some 15) (hdl : 1 ≤ dlM H) : am_met M_X9_liveOneDay [am_r 0] S (fun r σ' => r = some (am_i (fsD H)) ∧ LF0 32 σ' (fun k => (dyS H).2.1 96 k) ∧ RWr 32 σ' (fun k => (dyS H).2.1 96 k) ∧ ROK (fun k => (dyS H).2.1 96 k) ∧ CA S σ') := by
  refine am_qq (fun Q hQ => ?_)
  refine am_enter (show plainFor yX9_liveOneDay = true by decide +kernel) rfl (Nat.le_of_ble_eq_true rfl) (fun _ _ _ => trivial) ?_
  have hc := cc_of hG.R hdl
  have hGD := (itS_GD hG 1 hdl).1
  have hR9 := hGD.R
  have hno := noD_01 hG hc
  have hy9 : 0 ≤ noD H 0 ∧ noD H 0 ≤ 999 := by
    have h1 := hR9.year
    rw [show (itS 1 H).2.1 96 0 = noD H 0 from nwD_lt (by decide)] at h1
    omega
  have hd9 : 0 ≤ noD H 1 ∧ noD H 1 ≤ 90 := by
    have h1 := hR9.day
    have h2 := hR9.Y
    rw [show (itS 1 H).2.1 96 1 = noD H 1 from nwD_lt (by decide)] at h1
    omega
  have hn9 := (bc1_eq (thD_rng hG hc)).2
  have hb9 := fsD01 H
  refine am_aload_n (q := 1) rfl (am_tab tk_X9_liveOneDay 0 rfl) rfl ?_
  refine am_getR (q := 4) (a := 0) (k := 9) (n := 17) (j := 7) (r := some (44)) (Ls_0 hL) (by decide) rfl (Lr_0_7 hL) (by decide) (Or.inl kf_X9_57) (am_tab tk_X9_liveOneDay 1 rfl) rfl ?_
  refine am_aload_n (q := 5) rfl (am_tab tk_X9_liveOneDay 2 rfl) rfl ?_
  refine am_getR (q := 8) (a := 0) (k := 9) (n := 17) (j := 2) (r := some (15)) (Ls_0 hL) (by decide) rfl ht (by decide) (Or.inl kf_X9_19) (am_tab tk_X9_liveOneDay 3 rfl) rfl ?_
  refine am_aload_n (q := 9) rfl (am_tab tk_X9_liveOneDay 4 rfl) rfl ?_
  refine am_getR (q := 12) (a := 0) (k := 9) (n := 17) (j := 4) (r := some (32)) (Ls_0 hL) (by decide) rfl (Lr_0_4 hL) (by decide) (Or.inl kf_X9_38) (am_tab tk_X9_liveOneDay 5 rfl) rfl ?_
  refine am_callVr (q := 15) (me2 := M_X0_lookAt) (b := 44) (kb := 0) (nb := 14) (As := [am_r 15, am_r 32]) (rest := []) (c_lookAt_15_32 S H hL hG hT hF) ⟨rfl, rfl⟩ (Ls_44 hL) (by decide) ⟨Or.inr km_X9_247, kc_X0_lookAt, kn_X0, kd_X0_lookAt, ⟨(Nat.le_of_ble_eq_true rfl), (Nat.le_of_ble_eq_true rfl)⟩, ⟨(Nat.le_of_ble_eq_true rfl), (Nat.le_of_ble_eq_true rfl)⟩, (Nat.le_of_ble_eq_true rfl)⟩ ki_X0_lookAt ks_X0_lookAt rfl (am_tab tk_X9_liveOneDay 6 rfl) rfl ?_
  rintro r T1 hlk
  rw [if_pos hdl] at hlk
  obtain ⟨rfl, hDA, hF1⟩ := hlk
  have hq1 : CA S T1 := (CQ.base hF1).ca
  have hA1 : LF0 32 T1 (fun k => H.2.1 96 k) := LF0.fr (σ := am_setR (am_setR S 44 8 (some 15)) 44 9 (some 32)) hF hF1 (by unfold W_da; omega)
  have hR1 : RWr 32 T1 (fun k => H.2.1 96 k) := RWr.fr (σ := am_setR (am_setR S 44 8 (some 15)) 44 9 (some 32)) hR hF1 (by unfold W_da; omega) (by unfold W_da; omega) (by unfold W_da; omega)
  refine am_st (st2 := [am_i 1]) rfl ?_
  refine am_pop (q := 16) rfl (am_tab tk_X9_liveOneDay 7 rfl) rfl ?_
  refine am_aload_n (q := 17) rfl (am_tab tk_X9_liveOneDay 8 rfl) rfl ?_
  refine am_getR (q := 20) (a := 0) (k := 9) (n := 17) (j := 7) (r := some (44)) (Ls_0 (hq1.L hL)) (by decide) rfl (Lr_0_7 (hq1.L hL)) (by decide) (Or.inl kf_X9_57) (am_tab tk_X9_liveOneDay 9 rfl) rfl ?_
  refine am_callVr (q := 23) (me2 := M_X0_settle) (b := 44) (kb := 0) (nb := 14) (As := []) (rest := []) (c_settle_15_32 T1 H (hq1.L hL) hG hc hA1 _ hDA) ⟨rfl, rfl⟩ (Ls_44 (hq1.L hL)) (by decide) ⟨Or.inr km_X9_251, kc_X0_settle, kn_X0, kd_X0_settle, ⟨(Nat.le_of_ble_eq_true rfl), (Nat.le_of_ble_eq_true rfl)⟩, ⟨(Nat.le_of_ble_eq_true rfl), (Nat.le_of_ble_eq_true rfl)⟩, (Nat.le_of_ble_eq_true rfl)⟩ ki_X0_settle ks_X0_settle rfl (am_tab tk_X9_liveOneDay 10 rfl) rfl ?_
  rintro r T2 ⟨rfl, hA2, hF2⟩
  have hq2 : CA S T2 := hq1.trans (hF2.ca (by unfold W_se W_ca; omega))
  have hR2 : RWr 32 T2 (fun k => H.2.1 96 k) := hR1.fr hF2 (by unfold W_se; omega) (by unfold W_se; omega) (by unfold W_se; omega)
  have h45 : T2.2.1 44 5 = thD H := (hF2.2.2 44 5 (by unfold W_se; omega)).trans hDA.2.2.2.2.1
  have h46 : T2.2.1 44 6 = fsD H := (hF2.2.2 44 6 (by unfold W_se; omega)).trans hDA.2.2.2.2.2.1
  refine am_st (st2 := []) rfl ?_
  refine am_aload_n (q := 24) rfl (am_tab tk_X9_liveOneDay 11 rfl) rfl ?_
  refine am_getR (q := 27) (a := 0) (k := 9) (n := 17) (j := 4) (r := some (32)) (Ls_0 (hq2.L hL)) (by decide) rfl (Lr_0_4 (hq2.L hL)) (by decide) (Or.inl kf_X9_38) (am_tab tk_X9_liveOneDay 12 rfl) rfl ?_
  refine am_aload_n (q := 28) rfl (am_tab tk_X9_liveOneDay 13 rfl) rfl ?_
  refine am_getR (q := 31) (a := 0) (k := 9) (n := 17) (j := 7) (r := some (44)) (Ls_0 (hq2.L hL)) (by decide) rfl (Lr_0_7 (hq2.L hL)) (by decide) (Or.inl kf_X9_57) (am_tab tk_X9_liveOneDay 14 rfl) rfl ?_
  refine am_getI (q := 34) (a := 44) (k := 0) (n := 14) (j := 5) (x := (thD H)) (Ls_44 (hq2.L hL)) (by decide) rfl h45 (by decide) (Or.inr kf_X9_225) (am_tab tk_X9_liveOneDay 15 rfl) rfl ?_
  refine am_callS0 (q := 37) (me2 := M_J6_bitCount_0f7a4) (As := [am_i ((thD H))]) (rest := [am_r 32]) (out := [am_i (bc (thD H)), am_r 32]) (c_bc T2 (thD H) (thD_rng hG hc)) ⟨rfl, rfl⟩ ⟨Or.inl km_X9_133, kc_J6_bitCount_0f7a4, kn_J6, kd_J6_bitCount_0f7a4, ⟨(Nat.le_of_ble_eq_true rfl), (Nat.le_of_ble_eq_true rfl)⟩, ⟨(Nat.le_of_ble_eq_true rfl), (Nat.le_of_ble_eq_true rfl)⟩, (Nat.le_of_ble_eq_true rfl)⟩ ki_J6_bitCount_0f7a4 rfl rfl (am_tab tk_X9_liveOneDay 16 rfl) rfl ?_
  refine am_aload_n (q := 38) rfl (am_tab tk_X9_liveOneDay 17 rfl) rfl ?_
  refine am_getR (q := 41) (a := 0) (k := 9) (n := 17) (j := 7) (r := some (44)) (Ls_0 (hq2.L hL)) (by decide) rfl (Lr_0_7 (hq2.L hL)) (by decide) (Or.inl kf_X9_57) (am_tab tk_X9_liveOneDay 18 rfl) rfl ?_
  refine am_getI (q := 44) (a := 44) (k := 0) (n := 14) (j := 6) (x := (fsD H)) (Ls_44 (hq2.L hL)) (by decide) rfl h46 (by decide) (Or.inr kf_X9_230) (am_tab tk_X9_liveOneDay 19 rfl) rfl ?_
  refine am_callVr (q := 47) (me2 := M_X1_addRow) (b := 32) (kb := 1) (nb := 11) (As := [am_i (bc (thD H)), am_i ((fsD H))]) (rest := []) (c_addRow T2 (hq2.L hL) (bc (thD H)) (fsD H) (noD H) (noD H 0) (noD H 1) (hA2.1.1.trans (nwD_lt (by decide))) (hA2.1.2.1.trans (nwD_lt (by decide))) (hR2.g (noD_202 hG hc)) (by rw [noD_202 hG hc 202 (by decide)]; exact hG.R.kept) hy9 hd9 hn9 hb9) ⟨rfl, rfl⟩ (Ls_32 (hq2.L hL)) (by decide) ⟨Or.inr km_X9_360, kc_X1_addRow, kn_X1, kd_X1_addRow, ⟨(Nat.le_of_ble_eq_true rfl), (Nat.le_of_ble_eq_true rfl)⟩, ⟨(Nat.le_of_ble_eq_true rfl), (Nat.le_of_ble_eq_true rfl)⟩, (Nat.le_of_ble_eq_true rfl)⟩ ki_X1_addRow ks_X1_addRow rfl (am_tab tk_X9_liveOneDay 20 rfl) rfl ?_
  rintro r T3 ⟨rfl, hR3, hF3⟩
  have hq3 : CA S T3 := hq2.trans (hF3.ca (by unfold W_ro W_ca; omega))
  have hA3 : LF0 32 T3 (fun k => (dyS H).2.1 96 k) := hA2.fr5 hF3 (by unfold W_ro; omega) (by unfold W_ro; omega)
  have h463 : T3.2.1 44 6 = fsD H := (hF3.2.2 44 6 (by unfold W_ro; omega)).trans h46
  refine am_st (st2 := []) rfl ?_
  refine am_aload_n (q := 48) rfl (am_tab tk_X9_liveOneDay 21 rfl) rfl ?_
  refine am_getR (q := 51) (a := 0) (k := 9) (n := 17) (j := 7) (r := some (44)) (Ls_0 (hq3.L hL)) (by decide) rfl (Lr_0_7 (hq3.L hL)) (by decide) (Or.inl kf_X9_57) (am_tab tk_X9_liveOneDay 22 rfl) rfl ?_
  refine am_getI (q := 54) (a := 44) (k := 0) (n := 14) (j := 6) (x := (fsD H)) (Ls_44 (hq3.L hL)) (by decide) rfl h463 (by decide) (Or.inr kf_X9_230) (am_tab tk_X9_liveOneDay 23 rfl) rfl ?_
  refine am_if_eq (q := 57) (t := 61) (am_tab tk_X9_liveOneDay 24 rfl) (by decide) rfl (fun h54 => ?_) (fun h54 => ?_)
  · refine am_iconst (q := 62) (n := 0) (by decide) (am_tab tk_X9_liveOneDay 27 rfl) rfl ?_
    refine am_iret (Or.inl rfl) (Nat.le_of_ble_eq_true rfl) (Nat.le_of_ble_eq_true rfl) (am_tab tk_X9_liveOneDay 28 rfl) ?_
    refine hQ _ _ ?_
    have hk9 := hG.R.kept
    refine ⟨congrArg (fun z => some (am_i z)) (by omega), hA3, hR3, ?_, hq3⟩
    exact ROK_kp (by rw [noD_202 hG hc 202 (by decide)]; exact hk9) (hO.g (noD_202 hG hc)) hy9 hd9 hn9 (by omega)
  · refine am_iconst (q := 58) (n := 1) (by decide) (am_tab tk_X9_liveOneDay 25 rfl) rfl ?_
    refine am_goto (t := 62) (am_tab tk_X9_liveOneDay 26 rfl) (by decide) ?_
    refine am_iret (Or.inl rfl) (Nat.le_of_ble_eq_true rfl) (Nat.le_of_ble_eq_true rfl) (am_tab tk_X9_liveOneDay 28 rfl) ?_
    refine hQ _ _ ?_
    have hk9 := hG.R.kept
    refine ⟨congrArg (fun z => some (am_i z)) (by omega), hA3, hR3, ?_, hq3⟩
    exact ROK_kp (by rw [noD_202 hG hc 202 (by decide)]; exact hk9) (hO.g (noD_202 hG hc)) hy9 hd9 hn9 (by omega)
