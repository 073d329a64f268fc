theorem CR.ref {r s : Nat} {σ τ : am_H} (h : CR r s σ τ) (a j : Nat) (h1 : ¬ (a = r ∧ j = 0)) (h2 : a < σ.1.length) : τ.2.2 a j = σ.2.2 a j := by
  obtain ⟨_, _, _, _, _, _, _, _, _, _, _, h9⟩ := h
  exact h9 a j h1 h2
def W_ru (a j : Nat) : Prop := W_ps a j ∨ (a = 27 ∧ j = 12)
/-- what a rule leaves -/
theorem rule_post {b : Nat → Int} {E : Nat} {cv : Nat → Int} {M : Nat} {t wh i s : Nat} {σ T3 T4 τ H : am_H} {p : PZ} (ht : t = 3 ∨ t = 15) (hw : wh = 0 ∨ wh = 1) (hT : TRr t σ H) (hRR : RRr t σ H) (hC : CDt t σ) (hiM : i + 1 ≤ M) (hc : HC b E i (¬ H.2.1 93 wh = -1) (H.2.1 55 51) p) (hs7 : H.2.1 55 51 ≤ 70)
    (hF3 : frw W_ru σ T3) (hX3 : RX b E cv M (wh : Int) T3 (testB b E (factX b E (wh : Int) 6) (sx0 p))) (hs : T3.2.1 28 1 = (s : Int)) (hCR : CR (t + 8 + 2 * wh) s T3 T4) (hF : frw W_rz (am_setN T4 t 1 (T4.2.1 t 1 + 1)) τ)
    (hR : H.2.1 93 wh = -1 → stR b E H i = (match tsF b E (wh : Int) 1700 (i + 1) [] [] 0 with | .inl q => .inl q.1 | .inr e => .inr e)) (hR2 : ¬ H.2.1 93 wh = -1 → stR b E H i = .inr (5, (zP b E i : Int))) (hG : stG b E H i = cdH H (wh : Int) (cdC b E (wh : Int) (i + 1))) :
    sgF b E 59 (ruP b E (wh : Int) p) = stF b E H i ∧ ((stF b E H i).isLeft = true → TRr t τ (stH b E H i) ∧ RRr t τ (stH b E H i) ∧ τ.2.1 27 7 = 0) ∧ CDt t τ ∧ GFR t σ τ ∧ τ.2.1 27 11 = σ.2.1 27 11 ∧ τ.2.2 27 2 = σ.2.2 27 2 := by
  have hL3 := hX3.1.1
  have hE : E ≤ 1600 := hX3.1.2.1.2.1.2
  have hiz := tk_iz hX3.1.2.1 (i + 1) hiM
  have hC3 := hC.fr hF3
  obtain ⟨hL4, hC4, hG4⟩ := hCR.cd ht hw hL3 hC3
  have hru : ∀ a j, W_ru a j → 27 ≤ a ∧ a ≤ 31 := fun a j h => by unfold W_ru W_ps at h; omega
  have ht0 := test_0 hE (show ((wh : Nat) : Int) = 0 ∨ ((wh : Nat) : Int) = 1 ∨ ((wh : Nat) : Int) = 2 by omega) (i + 1) hiz
  have hTc : ∀ a j, t ≤ a ∧ a ≤ t + 7 → T4.2.1 a j = σ.2.1 a j := fun a j h => by
    rw [hCR.cells ht hw hL3 hC3 a j (by omega), hF3.2.2 a j (fun z => by have := hru a j z; omega)]
  have e1 : T4.2.1 t 1 = H.2.1 55 51 := by rw [hTc t 1 (by omega)]; exact hT.1.2.1
  have hFs : frw (W_ts t) T4 τ := ((frw.refl (W_ts t) T4).setN (by unfold W_ts; omega)).trans (hF.mono (fun a j h => Or.inr h))
  have hts : ∀ a j, W_ts t a j → (t ≤ a ∧ a ≤ t + 7) ∨ (27 ≤ a ∧ a ≤ 31) := fun a j h => by unfold W_ts W_rz at h; omega
  have he : sgF b E 59 (ruP b E (wh : Int) p) = stF b E H i := by
    refine st_eq (G := fun p => ruP b E (wh : Int) p) (fun e => ruP_r e) hc hs7 (fun hf => ?_) hR2
    rw [hR (Decidable.of_not_not hf)]
    show _ = SZ (testB b E (factX b E (wh : Int) 6) (.inl (i + 1, [], 0)))
    rcases hq : testB b E (factX b E (wh : Int) 6) (.inl (i + 1, [], 0)) with q | q
    · rw [hq] at ht0
      obtain ⟨_, _, ns, h1, _, h2⟩ := ht0
      rw [h2]
      rfl
    · rw [hq] at ht0
      rw [show tsF b E (wh : Int) 1700 (i + 1) [] [] 0 = .inr q.1 from ht0]
      rfl
  refine ⟨he, fun hl => ?_, hC4.fr hFs, (GFR.of hF3 (fun a j h => Or.inr (hru a j h))).trans (hG4.trans (GFR.of hFs (fun a j h => by have := hts a j h; omega))), ?_⟩
  · rw [← he] at hl
    obtain ⟨hp, hf, _, hl2⟩ := st_l (G := fun p => ruP b E (wh : Int) p) (fun e => ruP_r e) hc hl
    have hf2 : H.2.1 93 wh = -1 := Decidable.of_not_not hf
    rw [hp] at hl2 hX3
    have hl3 : (SZ (testB b E (factX b E (wh : Int) 6) (.inl (i + 1, [], 0)))).isLeft = true := hl2
    have hX4 : RX b E cv M (wh : Int) T3 (testB b E (factX b E (wh : Int) 6) (.inl (i + 1, [], 0))) := hX3
    rcases hq : testB b E (factX b E (wh : Int) 6) (.inl (i + 1, [], 0)) with q | q
    · rw [hq] at ht0 hX4
      obtain ⟨ho, _, cs, h1, h2, h3⟩ := ht0
      rw [List.nil_append] at h1
      obtain ⟨_, _, x3, x4, x5, _⟩ := hX4.2
      rw [h1] at x3 x4
      have hne := tyR_ne h2
      have hcd : cdC b E (wh : Int) (i + 1) = cs.reverse := by
        unfold cdC
        rw [h3]
      have hR3 := hRR.fr hC hF3 (fun a j h => Or.inr (hru a j h)) ht
      have hrc : ¬ cs.reverse = [] := fun z => hne (List.reverse_eq_nil_iff.mp z)
      obtain ⟨r1, r2, r3⟩ := rlN_cd (wh := wh) (by omega) hRR.2.2 hf2 hrc
      rw [List.reverse_reverse] at r1
      have hsh : T3.1[t + 8 + 2 * wh]? = some (5, 2) := by
        rcases hw with rfl | rfl
        · exact hR3.1.1
        · exact hR3.2.1.1
      have hA := hCR.rl ht hw hL3 hC3 (cs := cs) (by omega) x4 hsh
      have hRR4 : RRr t T4 (cdH H (wh : Int) cs.reverse) := by
        rcases hw with rfl | rfl
        · exact ⟨by rw [r1]; exact hA, by rw [r2]; exact hCR.ro ht (Or.inl rfl) hL3 hC3 hR3.2.1, r3⟩
        · exact ⟨by rw [r2]; exact hCR.ro ht (Or.inr rfl) hL3 hC3 hR3.1, by rw [r1]; exact hA, r3⟩
      have hTR4 : TRr t T4 (cdH H (wh : Int) cs.reverse) := by
        refine (hT.cells hTc).H (fun a j h => ?_) ?_
        · unfold cdH
          rw [set_nn (by omega), set_nn (by omega), setA_nn (by omega), set_nn (by omega)]
        · unfold cdH
          rw [set_nn (by omega), set_nn (by omega), setA_nn (by omega), set_nn (by omega)]
      have h4 := hTR4.st ht (T4.2.1 t 1 + 1)
      rw [e1] at h4 hF
      unfold stH
      rw [hG, hcd]
      refine ⟨h4.fr hF (fun a j h => by unfold W_rz; omega), ?_, ?_⟩
      · have h5 := hRR4.fr hC4 hFs hts ht
        exact h5.H (fun a j h1 h2 => set_nn (by omega)) (set_nn (by omega))
      · rw [hF.2.2 27 7 (by unfold W_rz; omega), set_nn (by omega), hCR.cells ht hw hL3 hC3 27 7 (by omega), x5]
        exact ho
    · rw [hq] at hl3
      exact absurd (show false = true from hl3) (by decide)
  · refine ⟨?_, ?_⟩
    rotate_left
    · rw [hF.2.1]
      show T4.2.2 27 2 = _
      rw [hCR.ref 27 2 (by omega) (by have := len131 hL3; omega), hF3.2.1]
    rw [hF.2.2 27 11 (by unfold W_rz; omega), set_nn (by omega), hCR.cells ht hw hL3 hC3 27 11 (by omega), hF3.2.2 27 11 (by unfold W_ru W_ps; omega)]
theorem c_ruleOf_3_137 (σ : am_H) (hL : lay σ)   : am_met M_X8_ruleOf [am_r 3, am_i 137] σ (fun r σ' => r = some (am_r 11) ∧ σ' = σ) := by
  refine am_qq (fun Q hQ => ?_)
  refine am_enter (show plainFor yX8_ruleOf = true by decide +kernel) rfl (Nat.le_of_ble_eq_true rfl) (fun _ _ _ => trivial) ?_
  refine am_iload_n (q := 1) rfl (am_tab tk_X8_ruleOf 0 rfl) rfl ?_
  refine am_sipush (q := 4) (n := 138) (by decide) rfl (am_tab tk_X8_ruleOf 1 rfl) rfl ?_
  refine am_icmp_ne (q := 7) (t := 14) (am_tab tk_X8_ruleOf 2 rfl) (by decide) rfl (fun h4 => ?_) (fun h4 => ?_)
  · refine am_aload_n (q := 15) rfl (am_tab tk_X8_ruleOf 6 rfl) rfl ?_
    refine am_getR (q := 18) (a := 3) (k := 8) (n := 17) (j := 15) (r := some (11)) (Ls_3 hL) (by decide) rfl (Lr_3_15 hL) (by decide) (Or.inl kf_X8_38) (am_tab tk_X8_ruleOf 7 rfl) rfl ?_
    refine am_aret ⟨_, rfl⟩ (Nat.le_of_ble_eq_true rfl) (Nat.le_of_ble_eq_true rfl) (am_tab tk_X8_ruleOf 8 rfl) ?_
    refine hQ _ _ ?_
    exact ⟨rfl, rfl⟩
  · exact absurd h4 (by decide)
theorem c_ruleOf_3_138 (σ : am_H) (hL : lay σ)   : am_met M_X8_ruleOf [am_r 3, am_i 138] σ (fun r σ' => r = some (am_r 13) ∧ σ' = σ) := by
  refine am_qq (fun Q hQ => ?_)
  refine am_enter (show plainFor yX8_ruleOf = true by decide +kernel) rfl (Nat.le_of_ble_eq_true rfl) (fun _ _ _ => trivial) ?_
  refine am_iload_n (q := 1) rfl (am_tab tk_X8_ruleOf 0 rfl) rfl ?_
  refine am_sipush (q := 4) (n := 138) (by decide) rfl (am_tab tk_X8_ruleOf 1 rfl) rfl ?_
  refine am_icmp_ne (q := 7) (t := 14) (am_tab tk_X8_ruleOf 2 rfl) (by decide) rfl (fun h4 => ?_) (fun h4 => ?_)
  · exact absurd rfl h4
  · refine am_aload_n (q := 8) rfl (am_tab tk_X8_ruleOf 3 rfl) rfl ?_
    refine am_getR (q := 11) (a := 3) (k := 8) (n := 17) (j := 16) (r := some (13)) (Ls_3 hL) (by decide) rfl (Lr_3_16 hL) (by decide) (Or.inl kf_X8_42) (am_tab tk_X8_ruleOf 4 rfl) rfl ?_
    refine am_goto (t := 18) (am_tab tk_X8_ruleOf 5 rfl) (by decide) ?_
    refine am_aret ⟨_, rfl⟩ (Nat.le_of_ble_eq_true rfl) (Nat.le_of_ble_eq_true rfl) (am_tab tk_X8_ruleOf 8 rfl) ?_
    refine hQ _ _ ?_
    exact ⟨rfl, rfl⟩
theorem c_ruleOf_15_137 (σ : am_H) (hL : lay σ)   : am_met M_X8_ruleOf [am_r 15, am_i 137] σ (fun r σ' => r = some (am_r 23) ∧ σ' = σ) := by
  refine am_qq (fun Q hQ => ?_)
  refine am_enter (show plainFor yX8_ruleOf = true by decide +kernel) rfl (Nat.le_of_ble_eq_true rfl) (fun _ _ _ => trivial) ?_
  refine am_iload_n (q := 1) rfl (am_tab tk_X8_ruleOf 0 rfl) rfl ?_
  refine am_sipush (q := 4) (n := 138) (by decide) rfl (am_tab tk_X8_ruleOf 1 rfl) rfl ?_
  refine am_icmp_ne (q := 7) (t := 14) (am_tab tk_X8_ruleOf 2 rfl) (by decide) rfl (fun h4 => ?_) (fun h4 => ?_)
  · refine am_aload_n (q := 15) rfl (am_tab tk_X8_ruleOf 6 rfl) rfl ?_
    refine am_getR (q := 18) (a := 15) (k := 8) (n := 17) (j := 15) (r := some (23)) (Ls_15 hL) (by decide) rfl (Lr_15_15 hL) (by decide) (Or.inl kf_X8_38) (am_tab tk_X8_ruleOf 7 rfl) rfl ?_
    refine am_aret ⟨_, rfl⟩ (Nat.le_of_ble_eq_true rfl) (Nat.le_of_ble_eq_true rfl) (am_tab tk_X8_ruleOf 8 rfl) ?_
    refine hQ _ _ ?_
    exact ⟨rfl, rfl⟩
  · exact absurd h4 (by decide)
theorem c_ruleOf_15_138 (σ : am_H) (hL : lay σ)   : am_met M_X8_ruleOf [am_r 15, am_i 138] σ (fun r σ' => r = some (am_r 25) ∧ σ' = σ) := by
  refine am_qq (fun Q hQ => ?_)
  refine am_enter (show plainFor yX8_ruleOf = true by decide +kernel) rfl (Nat.le_of_ble_eq_true rfl) (fun _ _ _ => trivial) ?_
  refine am_iload_n (q := 1) rfl (am_tab tk_X8_ruleOf 0 rfl) rfl ?_
  refine am_sipush (q := 4) (n := 138) (by decide) rfl (am_tab tk_X8_ruleOf 1 rfl) rfl ?_
  refine am_icmp_ne (q := 7) (t := 14) (am_tab tk_X8_ruleOf 2 rfl) (by decide) rfl (fun h4 => ?_) (fun h4 => ?_)
  · exact absurd rfl h4
  · refine am_aload_n (q := 8) rfl (am_tab tk_X8_ruleOf 3 rfl) rfl ?_
    refine am_getR (q := 11) (a := 15) (k := 8) (n := 17) (j := 16) (r := some (25)) (Ls_15 hL) (by decide) rfl (Lr_15_16 hL) (by decide) (Or.inl kf_X8_42) (am_tab tk_X8_ruleOf 4 rfl) rfl ?_
    refine am_goto (t := 18) (am_tab tk_X8_ruleOf 5 rfl) (by decide) ?_
    refine am_aret ⟨_, rfl⟩ (Nat.le_of_ble_eq_true rfl) (Nat.le_of_ble_eq_true rfl) (am_tab tk_X8_ruleOf 8 rfl) ?_
    refine hQ _ _ ?_
    exact ⟨rfl, rfl⟩
