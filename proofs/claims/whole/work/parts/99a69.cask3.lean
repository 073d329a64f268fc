theorem TWr.cd {W : Nat → Nat → Prop} {t : Nat} {σ τ H : am_H} (h : TWr t σ H) (hC : CDt t σ) (hF : frw W σ τ) (hW : ∀ a j, (t ≤ a ∧ a ≤ t + 10) ∨ cdC0 a → ¬ W a j) : TWr t τ H := by
  have e : ∀ i j, i ≤ 10 → τ.2.1 (t + i) j = σ.2.1 (t + i) j := fun i j hi => hF.2.2 _ _ (hW _ _ (Or.inl (by omega)))
  have e0 : ∀ j, τ.2.1 t j = σ.2.1 t j := fun j => e 0 j (by decide)
  have c1 := fun c hc => hC.c0 (t + 8) (Or.inl rfl) c hc
  have c2 := fun c hc => hC.c0 (t + 10) (Or.inr rfl) c hc
  obtain ⟨⟨a1, a2, a3, a4⟩, b1, b2, b3, b4, b5, b6, r1, r2⟩ := h
  refine ⟨⟨(e0 0).trans a1, (e0 2).trans a2, (e0 6).trans a3, (e0 7).trans a4⟩, fun p hp => ?_, fun p hp => (e 2 p (by decide)).trans (b2 p hp), fun p hp => (e 3 p (by decide)).trans (b3 p hp), fun p hp => (e 4 p (by decide)).trans (b4 p hp), fun p hp => ?_, fun d g1 g2 g3 => (e 7 d (by decide)).trans (b6 d g1 g2 g3), ?_, ?_⟩
  · rw [e 1 p (by decide)]; exact b1 p hp
  · rw [e 5 p (by decide)]; exact b5 p hp
  · exact r1.fr2 c1 hF (hW _ _ (Or.inl (by omega))) (fun a j hc => hW a j (Or.inr hc))
  · exact r2.fr2 c2 hF (hW _ _ (Or.inl (by omega))) (fun a j hc => hW a j (Or.inr hc))
theorem CI.fr {W : Nat → Nat → Prop} {t : Nat} {σ τ : am_H} (ht : t = 3 ∨ t = 15) (h : CI t σ) (hC : CDt t σ) (hF : frw W σ τ) (hW : ∀ a j, W a j → (27 ≤ a ∧ a ≤ 31) ∨ a ≤ 2 ∨ (37 ≤ a ∧ a ≤ 54)) : CI t τ := by
  have e : ∀ a j, 55 ≤ a ∧ a ≤ 130 → τ.2.1 a j = σ.2.1 a j := fun a j ha => hF.2.2 a j (fun z => by have := hW a j z; omega)
  refine ⟨GD_fr h.G hF (fun a j ha z => by have := hW a j z; omega) (by rw [e 55 59 (by decide)]; exact h.G.o) (by rw [e 55 61 (by decide)]; exact h.G.t), by rw [hF.2.1]; exact h.t, ?_, ?_⟩
  · exact (h.W.cd hC hF (fun a j ha z => by unfold cdC0 at ha; have := hW a j z; omega)).H (fun a j h1 h2 => e a j (by omega))
  · have h2 := h.F.fr hF (fun a j ha z => by have := hW a j z; omega)
    rw [show (fun k => τ.2.1 96 k) = (fun k => σ.2.1 96 k) from funext (fun k => e 96 k (by decide))]
    exact h2
theorem dl_55 {σ τ : am_H} (h : cn τ = cn σ) (h2 : τ.2.1 55 52 = σ.2.1 55 52) : dlM τ = dlM σ := by
  unfold dlM
  rw [h2, cn_at h 96 0 (by decide) (by decide), cn_at h 85 9 (by decide) (by decide), cn_at h 96 1 (by decide) (by decide)]
theorem aqL_cn {σ τ : am_H} {n : Nat} {kd : Int} {cs : List Int} {x y : Int} (h : cn τ = cn σ) : ∀ i, aqL τ n kd cs x y i = aqL σ n kd cs x y i
  | 0 => rfl
  | i + 1 => by
    have hi := itS_eq h n
    have hv : aqV τ n cs x y i = aqV σ n cs x y i := by
      unfold aqV
      rw [ofQ_eq (S := τ) (T := σ) (cn_at h 85 5 (by decide) (by decide)) (fun j => cn_at h 89 j (by decide) (by decide)), ptM_eq (S := aqS τ n x y) (T := aqS σ n x y) (fun j => cn_at hi 96 j (by decide) (by decide)) (fun j => cn_at hi 87 j (by decide) (by decide)) ?_ ?_ rfl rfl (thD_eq (itS_eq h (n - 1)))]
      · show (itS n τ).2.1 96 (20 + (itS n τ).2.1 96 1).toNat = (itS n σ).2.1 96 (20 + (itS n σ).2.1 96 1).toNat
        rw [cn_at hi 96 1 (by decide) (by decide), cn_at hi 96 _ (by decide) (by decide)]
      · show (if fsD (itS (n - 1) τ) = 0 then (0 : Int) else 1) = (if fsD (itS (n - 1) σ) = 0 then 0 else 1)
        rw [fsD_eq (itS_eq h (n - 1))]
    show tkQ kd (aqV τ n cs x y i) (i : Int) (aqL τ n kd cs x y i) _ = tkQ kd (aqV σ n cs x y i) (i : Int) (aqL σ n kd cs x y i) _
    rw [hv, aqL_cn h i]
/-- the class's cells that a question changes -/
def W_ak (a j : Nat) : Prop := (27 ≤ a ∧ a ≤ 31) ∨ (a = 1 ∧ j = 1) ∨ (a = 0 ∧ (j = 14 ∨ j = 15))
def CK9 (σ τ : am_H) : Prop := τ.1 = σ.1 ∧ (∀ a j, ¬ (a = 44 ∧ (j = 8 ∨ j = 9)) → τ.2.2 a j = σ.2.2 a j) ∧ ∀ a j, ¬ (W_cq a j ∨ W_ak a j) → τ.2.1 a j = σ.2.1 a j
theorem CK9.of {σ T τ : am_H} (hF : frw W_ak σ T) (hQ : CQ T τ) : CK9 σ τ := ⟨hQ.1.trans hF.1, fun a j hn => (hQ.2.1 a j hn).trans (by rw [hF.2.1]), fun a j hn => (hQ.2.2 a j (fun z => hn (Or.inl z))).trans (hF.2.2 a j (fun z => hn (Or.inr z)))⟩
/-- the class's answer to a question -/
def ASK (b : Nat → Int) (E : Nat) (σ : am_H) (n : Int) (r : Option am_V) (τ : am_H) : Prop :=
  if (1 ≤ n ∧ n ≤ 120) ∧ n ≤ dlM σ then (match aqF b E with
    | .inl cs => r = some (am_l (aqL σ n.toNat (zK b E 0 - 155) cs 0 0 (pN σ))) ∧ (∀ v ∈ cs, ¬ (45 ≤ v ∧ v ≤ 47)) ∧ (τ.2.1 0 14 = 0 ∧ τ.2.1 0 15 = -1 ∧ τ.2.1 1 1 = 0) ∧ CK9 σ τ
    | .inr e => r = some (am_l (-1000000000000000)) ∧ ¬ e.1 = 0 ∧ (τ.2.1 0 14 = e.1 ∧ τ.2.1 0 15 = e.2 ∧ τ.2.1 1 1 = 0) ∧ CK9 σ τ)
  else r = some (am_l (-1000000000000000)) ∧ τ = am_setN σ 1 1 0
set_option maxRecDepth 100000 in
theorem c_answerOf_3 (σ S0 : am_H) (n : Nat) (cs : List Int) (hC : CI 3 σ) (K : Int) (hV : VQ 3 n cs σ S0) (hn : 1 ≤ n ∧ (n : Int) ≤ dlM σ) (hok : okQ cs [] = true) (hno : ∀ v ∈ cs, ¬ (45 ≤ v ∧ v ≤ 47)) (hK : 155 ≤ K ∧ K ≤ 160) (h01 : K ≤ 157 → tyR 2 [] cs = some [true]) : am_met M_X9_answerOf [am_r 0, am_i K] S0 (fun r σ' => r = some (am_l (aqL σ n (K - 155) cs 0 0 (pN σ))) ∧ CQ σ σ') := by
  refine am_qq (fun Q hQ => ?_)
  refine am_enter (show plainFor yX9_answerOf = true by decide +kernel) rfl (Nat.le_of_ble_eq_true rfl) (fun _ _ _ => trivial) ?_
  have h8 := pN_8 hC.G.R
  have hNe := pN_eq hC.G.R
  have L25 : ∀ (n25 : Nat) (k : Nat) (S : am_H), pN σ - k < n25 → k ≤ pN σ → VQ 3 n cs σ S → am_wp M_X9_answerOf Q 0 0 25 [(0, am_r 0), (1, am_i K), (2, am_l ((aqL σ n (K - 155) cs 0 0 k))), (4, am_i ((k : Int)))] [] S := by
    intro n25
    induction n25 with
    | zero => intro k S hn25; exact absurd hn25 (Nat.not_lt_zero _)
    | succ n25 ih25 =>
      intro k S hn25 hk hVk
      refine am_iload (q := 27) rfl (am_tab tk_X9_answerOf 12 rfl) rfl ?_
      refine am_aload_n (q := 28) rfl (am_tab tk_X9_answerOf 13 rfl) rfl ?_
      refine am_getR (q := 31) (a := 0) (k := 9) (n := 17) (j := 2) (r := some (3)) (Ls_0 (hVk.1.L hC.G.L)) (by decide) rfl ((hVk.1.2.1 0 2 (by omega)).trans hC.t) (by decide) (Or.inl kf_X9_19) (am_tab tk_X9_answerOf 14 rfl) rfl ?_
      refine am_getI (q := 34) (a := 3) (k := 8) (n := 17) (j := 2) (x := (σ.2.1 85 5)) (Ls_3 (hVk.1.L hC.G.L)) (by decide) rfl (hC.W.cq hVk.1 (by decide)).people (by decide) (Or.inr kf_X9_126) (am_tab tk_X9_answerOf 15 rfl) rfl ?_
      refine am_icmp_ge (q := 37) (t := 196) (am_tab tk_X9_answerOf 16 rfl) (by decide) rfl (fun h34 => ?_) (fun h34 => ?_)
      · refine am_lload_n (q := 197) rfl (am_tab tk_X9_answerOf 78 rfl) rfl ?_
        refine am_lret rfl (Nat.le_of_ble_eq_true rfl) (Nat.le_of_ble_eq_true rfl) (am_tab tk_X9_answerOf 79 rfl) ?_
        refine hQ _ _ ?_
        refine ⟨congrArg (fun z => some (am_l z)) ?_, hVk.1⟩
        rw [show k = pN σ by omega]
      · have hkp : k < pN σ := by omega
        have hAr := aqL_rng (σ := σ) (n := n) (kd := K - 155) (x := 0) (y := 0) hok k (by omega)
        have hvr : -1000000 ≤ aqV σ n cs 0 0 k ∧ aqV σ n cs 0 0 k ≤ 1000000 := evQ_rng (ts := []) (st := []) trivial hok
        have hv1 : K ≤ 157 → aqV σ n cs 0 0 k = 0 ∨ aqV σ n cs 0 0 k = 1 := fun z => aqV_01 (h01 z) k
        refine am_aload_n (q := 38) rfl (am_tab tk_X9_answerOf 17 rfl) rfl ?_
        refine am_getR (q := 41) (a := 0) (k := 9) (n := 17) (j := 7) (r := some (44)) (Ls_0 (hVk.1.L hC.G.L)) (by decide) rfl (Lr_0_7 (hVk.1.L hC.G.L)) (by decide) (Or.inl kf_X9_57) (am_tab tk_X9_answerOf 18 rfl) rfl ?_
        refine am_aload_n (q := 42) rfl (am_tab tk_X9_answerOf 19 rfl) rfl ?_
        refine am_getR (q := 45) (a := 0) (k := 9) (n := 17) (j := 1) (r := some (27)) (Ls_0 (hVk.1.L hC.G.L)) (by decide) rfl (Lr_0_1 (hVk.1.L hC.G.L)) (by decide) (Or.inl kf_X9_31) (am_tab tk_X9_answerOf 20 rfl) rfl ?_
        refine am_getR (q := 48) (a := 27) (k := 4) (n := 13) (j := 1) (r := some (28)) (Ls_27 (hVk.1.L hC.G.L)) (by decide) rfl (Lr_27_1 (hVk.1.L hC.G.L)) (by decide) (Or.inr kf_X9_379) (am_tab tk_X9_answerOf 21 rfl) rfl ?_
        refine am_aload_n (q := 49) rfl (am_tab tk_X9_answerOf 22 rfl) rfl ?_
        refine am_getR (q := 52) (a := 0) (k := 9) (n := 17) (j := 5) (r := some (37)) (Ls_0 (hVk.1.L hC.G.L)) (by decide) rfl (Lr_0_5 (hVk.1.L hC.G.L)) (by decide) (Or.inl kf_X9_42) (am_tab tk_X9_answerOf 23 rfl) rfl ?_
        refine am_iload (q := 54) rfl (am_tab tk_X9_answerOf 24 rfl) rfl ?_
        refine am_callVr (q := 57) (me2 := M_X0_valueFor) (b := 44) (kb := 0) (nb := 14) (As := [am_r 28, am_r 37, am_i ((k : Int))]) (rest := []) (c_valueFor_3 σ S n cs hC k hVk hn hok hno hkp) ⟨rfl, rfl⟩ (Ls_44 (hVk.1.L hC.G.L)) (by decide) ⟨Or.inr km_X9_383, kc_X0_valueFor, kn_X0, kd_X0_valueFor, ⟨(Nat.le_of_ble_eq_true rfl), (Nat.le_of_ble_eq_true rfl)⟩, ⟨(Nat.le_of_ble_eq_true rfl), (Nat.le_of_ble_eq_true rfl)⟩, (Nat.le_of_ble_eq_true rfl)⟩ ki_X0_valueFor ks_X0_valueFor rfl (am_tab tk_X9_answerOf 25 rfl) rfl ?_
        rintro r T9 ⟨rfl, hF9⟩
        have hV9 := hVk.fr hF9
        refine am_istore (q := 59) (by decide) (ls2 := [(5, am_i ((aqV σ n cs 0 0 k))), (0, am_r 0), (1, am_i K), (2, am_l ((aqL σ n (K - 155) cs 0 0 k))), (4, am_i ((k : Int)))]) rfl (am_tab tk_X9_answerOf 26 rfl) rfl ?_
        refine am_iload_n (q := 60) rfl (am_tab tk_X9_answerOf 27 rfl) rfl ?_
        rcases (show K = 155 ∨ K = 156 ∨ K = 157 ∨ K = 158 ∨ K = 159 ∨ K = 160 ∨ (K < 155 ∨ 160 < K) by omega) with e60 | e60 | e60 | e60 | e60 | e60 | e60
        · refine am_tableIn (t := 100) (off := 40) (by omega) (by omega) (by rw [e60]; rfl) dsw_X9_answerOf_60 (by decide) ?_
          refine am_lload_n (q := 101) rfl (am_tab tk_X9_answerOf 29 rfl) rfl ?_
          refine am_ldc2 (q := 104) (n := (-1)) (by decide) kk_X9_377 (am_tab tk_X9_answerOf 30 rfl) rfl ?_
          refine am_lcmp (q := 105) (am_tab tk_X9_answerOf 31 rfl) rfl ?_
          refine am_if_ne (q := 108) (t := 119) (am_tab tk_X9_answerOf 32 rfl) (by decide) rfl (fun h105 => ?_) (fun h105 => ?_)
          · rw [ao_cmp_eq] at h105
            refine am_lload_n (q := 120) rfl (am_tab tk_X9_answerOf 38 rfl) rfl ?_
            refine am_lstore_n (q := 121) (by decide) (ls2 := [(2, am_l ((aqL σ n (K - 155) cs 0 0 k))), (5, am_i ((aqV σ n cs 0 0 k))), (0, am_r 0), (1, am_i K), (4, am_i ((k : Int)))]) rfl (am_tab tk_X9_answerOf 39 rfl) rfl ?_
            refine am_goto (t := 190) (am_tab tk_X9_answerOf 40 rfl) (by decide) ?_
            refine am_iinc (q := 193) rfl (by omega) (by decide) (ls2 := [(4, am_i (((k : Int) + 1))), (2, am_l ((aqL σ n (K - 155) cs 0 0 k))), (5, am_i ((aqV σ n cs 0 0 k))), (0, am_r 0), (1, am_i K)]) rfl (am_tab tk_X9_answerOf 76 rfl) rfl ?_
            refine am_goto (t := 25) (am_tab tk_X9_answerOf 77 rfl) (by decide) ?_
            have he : aqL σ n (K - 155) cs 0 0 (k + 1) = (aqL σ n (K - 155) cs 0 0 k) := by
              show tkQ (K - 155) (aqV σ n cs 0 0 k) (k : Int) (aqL σ n (K - 155) cs 0 0 k) (if k = 0 then 1 else 0) = _
              by_cases hk0 : k = 0
              · rw [if_pos hk0]; unfold tkQ; (repeat' split) <;> omega
              · rw [if_neg hk0]; unfold tkQ; (repeat' split) <;> omega
            exact am_less (by intro q hq; simp only [List.mem_cons, List.not_mem_nil, or_false] at hq; rcases hq with rfl | rfl | rfl | rfl <;> simp [he]) (ih25 (k + 1) T9 (by omega) (by omega) hV9)
          · rw [ao_cmp_eq] at h105
            refine am_iload (q := 110) rfl (am_tab tk_X9_answerOf 33 rfl) rfl ?_
            refine am_if_eq (q := 113) (t := 119) (am_tab tk_X9_answerOf 34 rfl) (by decide) rfl (fun h110 => ?_) (fun h110 => ?_)
            · refine am_lload_n (q := 120) rfl (am_tab tk_X9_answerOf 38 rfl) rfl ?_
              refine am_lstore_n (q := 121) (by decide) (ls2 := [(2, am_l ((aqL σ n (K - 155) cs 0 0 k))), (5, am_i ((aqV σ n cs 0 0 k))), (0, am_r 0), (1, am_i K), (4, am_i ((k : Int)))]) rfl (am_tab tk_X9_answerOf 39 rfl) rfl ?_
              refine am_goto (t := 190) (am_tab tk_X9_answerOf 40 rfl) (by decide) ?_
              refine am_iinc (q := 193) rfl (by omega) (by decide) (ls2 := [(4, am_i (((k : Int) + 1))), (2, am_l ((aqL σ n (K - 155) cs 0 0 k))), (5, am_i ((aqV σ n cs 0 0 k))), (0, am_r 0), (1, am_i K)]) rfl (am_tab tk_X9_answerOf 76 rfl) rfl ?_
              refine am_goto (t := 25) (am_tab tk_X9_answerOf 77 rfl) (by decide) ?_
              have he : aqL σ n (K - 155) cs 0 0 (k + 1) = (aqL σ n (K - 155) cs 0 0 k) := by
                show tkQ (K - 155) (aqV σ n cs 0 0 k) (k : Int) (aqL σ n (K - 155) cs 0 0 k) (if k = 0 then 1 else 0) = _
                by_cases hk0 : k = 0
                · rw [if_pos hk0]; unfold tkQ; (repeat' split) <;> omega
                · rw [if_neg hk0]; unfold tkQ; (repeat' split) <;> omega
              exact am_less (by intro q hq; simp only [List.mem_cons, List.not_mem_nil, or_false] at hq; rcases hq with rfl | rfl | rfl | rfl <;> simp [he]) (ih25 (k + 1) T9 (by omega) (by omega) hV9)
            · refine am_iload (q := 115) rfl (am_tab tk_X9_answerOf 35 rfl) rfl ?_
              refine am_i2l (q := 116) (am_tab tk_X9_answerOf 36 rfl) rfl ?_
              refine am_goto (t := 120) (am_tab tk_X9_answerOf 37 rfl) (by decide) ?_
              refine am_lstore_n (q := 121) (by decide) (ls2 := [(2, am_l ((k : Int))), (5, am_i ((aqV σ n cs 0 0 k))), (0, am_r 0), (1, am_i K), (4, am_i ((k : Int)))]) rfl (am_tab tk_X9_answerOf 39 rfl) rfl ?_
              refine am_goto (t := 190) (am_tab tk_X9_answerOf 40 rfl) (by decide) ?_
              refine am_iinc (q := 193) rfl (by omega) (by decide) (ls2 := [(4, am_i (((k : Int) + 1))), (2, am_l ((k : Int))), (5, am_i ((aqV σ n cs 0 0 k))), (0, am_r 0), (1, am_i K)]) rfl (am_tab tk_X9_answerOf 76 rfl) rfl ?_
              refine am_goto (t := 25) (am_tab tk_X9_answerOf 77 rfl) (by decide) ?_
              have he : aqL σ n (K - 155) cs 0 0 (k + 1) = (k : Int) := by
                show tkQ (K - 155) (aqV σ n cs 0 0 k) (k : Int) (aqL σ n (K - 155) cs 0 0 k) (if k = 0 then 1 else 0) = _
                by_cases hk0 : k = 0
                · rw [if_pos hk0]; unfold tkQ; (repeat' split) <;> omega
                · rw [if_neg hk0]; unfold tkQ; (repeat' split) <;> omega
              exact am_less (by intro q hq; simp only [List.mem_cons, List.not_mem_nil, or_false] at hq; rcases hq with rfl | rfl | rfl | rfl <;> simp [he]) (ih25 (k + 1) T9 (by omega) (by omega) hV9)
        · refine am_tableIn (t := 124) (off := 64) (by omega) (by omega) (by rw [e60]; rfl) dsw_X9_answerOf_60 (by decide) ?_
          refine am_iload (q := 126) rfl (am_tab tk_X9_answerOf 41 rfl) rfl ?_
          refine am_if_eq (q := 129) (t := 135) (am_tab tk_X9_answerOf 42 rfl) (by decide) rfl (fun h126 => ?_) (fun h126 => ?_)
          · refine am_lload_n (q := 136) rfl (am_tab tk_X9_answerOf 46 rfl) rfl ?_
            refine am_lstore_n (q := 137) (by decide) (ls2 := [(2, am_l ((aqL σ n (K - 155) cs 0 0 k))), (5, am_i ((aqV σ n cs 0 0 k))), (0, am_r 0), (1, am_i K), (4, am_i ((k : Int)))]) rfl (am_tab tk_X9_answerOf 47 rfl) rfl ?_
            refine am_goto (t := 190) (am_tab tk_X9_answerOf 48 rfl) (by decide) ?_
            refine am_iinc (q := 193) rfl (by omega) (by decide) (ls2 := [(4, am_i (((k : Int) + 1))), (2, am_l ((aqL σ n (K - 155) cs 0 0 k))), (5, am_i ((aqV σ n cs 0 0 k))), (0, am_r 0), (1, am_i K)]) rfl (am_tab tk_X9_answerOf 76 rfl) rfl ?_
            refine am_goto (t := 25) (am_tab tk_X9_answerOf 77 rfl) (by decide) ?_
            have he : aqL σ n (K - 155) cs 0 0 (k + 1) = (aqL σ n (K - 155) cs 0 0 k) := by
              show tkQ (K - 155) (aqV σ n cs 0 0 k) (k : Int) (aqL σ n (K - 155) cs 0 0 k) (if k = 0 then 1 else 0) = _
              by_cases hk0 : k = 0
              · rw [if_pos hk0]; unfold tkQ; (repeat' split) <;> omega
              · rw [if_neg hk0]; unfold tkQ; (repeat' split) <;> omega
            exact am_less (by intro q hq; simp only [List.mem_cons, List.not_mem_nil, or_false] at hq; rcases hq with rfl | rfl | rfl | rfl <;> simp [he]) (ih25 (k + 1) T9 (by omega) (by omega) hV9)
          · refine am_iload (q := 131) rfl (am_tab tk_X9_answerOf 43 rfl) rfl ?_
            refine am_i2l (q := 132) (am_tab tk_X9_answerOf 44 rfl) rfl ?_
            refine am_goto (t := 136) (am_tab tk_X9_answerOf 45 rfl) (by decide) ?_
            refine am_lstore_n (q := 137) (by decide) (ls2 := [(2, am_l ((k : Int))), (5, am_i ((aqV σ n cs 0 0 k))), (0, am_r 0), (1, am_i K), (4, am_i ((k : Int)))]) rfl (am_tab tk_X9_answerOf 47 rfl) rfl ?_
            refine am_goto (t := 190) (am_tab tk_X9_answerOf 48 rfl) (by decide) ?_
            refine am_iinc (q := 193) rfl (by omega) (by decide) (ls2 := [(4, am_i (((k : Int) + 1))), (2, am_l ((k : Int))), (5, am_i ((aqV σ n cs 0 0 k))), (0, am_r 0), (1, am_i K)]) rfl (am_tab tk_X9_answerOf 76 rfl) rfl ?_
            refine am_goto (t := 25) (am_tab tk_X9_answerOf 77 rfl) (by decide) ?_
            have he : aqL σ n (K - 155) cs 0 0 (k + 1) = (k : Int) := by
              show tkQ (K - 155) (aqV σ n cs 0 0 k) (k : Int) (aqL σ n (K - 155) cs 0 0 k) (if k = 0 then 1 else 0) = _
              by_cases hk0 : k = 0
              · rw [if_pos hk0]; unfold tkQ; (repeat' split) <;> omega
              · rw [if_neg hk0]; unfold tkQ; (repeat' split) <;> omega
            exact am_less (by intro q hq; simp only [List.mem_cons, List.not_mem_nil, or_false] at hq; rcases hq with rfl | rfl | rfl | rfl <;> simp [he]) (ih25 (k + 1) T9 (by omega) (by omega) hV9)
        · refine am_tableIn (t := 184) (off := 124) (by omega) (by omega) (by rw [e60]; rfl) dsw_X9_answerOf_60 (by decide) ?_
          refine am_lload_n (q := 185) rfl (am_tab tk_X9_answerOf 71 rfl) rfl ?_
          refine am_iload (q := 187) rfl (am_tab tk_X9_answerOf 72 rfl) rfl ?_
          refine am_i2l (q := 188) (am_tab tk_X9_answerOf 73 rfl) rfl ?_
          refine am_ladd (q := 189) (by omega) (am_tab tk_X9_answerOf 74 rfl) rfl ?_
          refine am_lstore_n (q := 190) (by decide) (ls2 := [(2, am_l (((aqL σ n (K - 155) cs 0 0 k) + (aqV σ n cs 0 0 k)))), (5, am_i ((aqV σ n cs 0 0 k))), (0, am_r 0), (1, am_i K), (4, am_i ((k : Int)))]) rfl (am_tab tk_X9_answerOf 75 rfl) rfl ?_
          refine am_iinc (q := 193) rfl (by omega) (by decide) (ls2 := [(4, am_i (((k : Int) + 1))), (2, am_l (((aqL σ n (K - 155) cs 0 0 k) + (aqV σ n cs 0 0 k)))), (5, am_i ((aqV σ n cs 0 0 k))), (0, am_r 0), (1, am_i K)]) rfl (am_tab tk_X9_answerOf 76 rfl) rfl ?_
          refine am_goto (t := 25) (am_tab tk_X9_answerOf 77 rfl) (by decide) ?_
          have he : aqL σ n (K - 155) cs 0 0 (k + 1) = ((aqL σ n (K - 155) cs 0 0 k) + (aqV σ n cs 0 0 k)) := by
            show tkQ (K - 155) (aqV σ n cs 0 0 k) (k : Int) (aqL σ n (K - 155) cs 0 0 k) (if k = 0 then 1 else 0) = _
            by_cases hk0 : k = 0
            · rw [if_pos hk0]; unfold tkQ; (repeat' split) <;> omega
            · rw [if_neg hk0]; unfold tkQ; (repeat' split) <;> omega
          exact am_less (by intro q hq; simp only [List.mem_cons, List.not_mem_nil, or_false] at hq; rcases hq with rfl | rfl | rfl | rfl <;> simp [he]) (ih25 (k + 1) T9 (by omega) (by omega) hV9)
        · refine am_tableIn (t := 184) (off := 124) (by omega) (by omega) (by rw [e60]; rfl) dsw_X9_answerOf_60 (by decide) ?_
          refine am_lload_n (q := 185) rfl (am_tab tk_X9_answerOf 71 rfl) rfl ?_
          refine am_iload (q := 187) rfl (am_tab tk_X9_answerOf 72 rfl) rfl ?_
          refine am_i2l (q := 188) (am_tab tk_X9_answerOf 73 rfl) rfl ?_
          refine am_ladd (q := 189) (by omega) (am_tab tk_X9_answerOf 74 rfl) rfl ?_
          refine am_lstore_n (q := 190) (by decide) (ls2 := [(2, am_l (((aqL σ n (K - 155) cs 0 0 k) + (aqV σ n cs 0 0 k)))), (5, am_i ((aqV σ n cs 0 0 k))), (0, am_r 0), (1, am_i K), (4, am_i ((k : Int)))]) rfl (am_tab tk_X9_answerOf 75 rfl) rfl ?_
          refine am_iinc (q := 193) rfl (by omega) (by decide) (ls2 := [(4, am_i (((k : Int) + 1))), (2, am_l (((aqL σ n (K - 155) cs 0 0 k) + (aqV σ n cs 0 0 k)))), (5, am_i ((aqV σ n cs 0 0 k))), (0, am_r 0), (1, am_i K)]) rfl (am_tab tk_X9_answerOf 76 rfl) rfl ?_
          refine am_goto (t := 25) (am_tab tk_X9_answerOf 77 rfl) (by decide) ?_
          have he : aqL σ n (K - 155) cs 0 0 (k + 1) = ((aqL σ n (K - 155) cs 0 0 k) + (aqV σ n cs 0 0 k)) := by
            show tkQ (K - 155) (aqV σ n cs 0 0 k) (k : Int) (aqL σ n (K - 155) cs 0 0 k) (if k = 0 then 1 else 0) = _
            by_cases hk0 : k = 0
            · rw [if_pos hk0]; unfold tkQ; (repeat' split) <;> omega
            · rw [if_neg hk0]; unfold tkQ; (repeat' split) <;> omega
          exact am_less (by intro q hq; simp only [List.mem_cons, List.not_mem_nil, or_false] at hq; rcases hq with rfl | rfl | rfl | rfl <;> simp [he]) (ih25 (k + 1) T9 (by omega) (by omega) hV9)
        · refine am_tableIn (t := 140) (off := 80) (by omega) (by omega) (by rw [e60]; rfl) dsw_X9_answerOf_60 (by decide) ?_
          refine am_iload (q := 142) rfl (am_tab tk_X9_answerOf 49 rfl) rfl ?_
          refine am_if_ne (q := 145) (t := 151) (am_tab tk_X9_answerOf 50 rfl) (by decide) rfl (fun h142 => ?_) (fun h142 => ?_)
          · refine am_lload_n (q := 152) rfl (am_tab tk_X9_answerOf 54 rfl) rfl ?_
            refine am_iload (q := 154) rfl (am_tab tk_X9_answerOf 55 rfl) rfl ?_
            refine am_i2l (q := 155) (am_tab tk_X9_answerOf 56 rfl) rfl ?_
            refine am_callS0 (q := 158) (me2 := M_J9_max_f86c9) (As := [am_l ((aqL σ n (K - 155) cs 0 0 k)), am_l ((aqV σ n cs 0 0 k))]) (rest := []) (out := [am_l (max (aqL σ n (K - 155) cs 0 0 k) (aqV σ n cs 0 0 k))]) (c_maxl T9 (aqL σ n (K - 155) cs 0 0 k) (aqV σ n cs 0 0 k)) ⟨rfl, rfl⟩ ⟨Or.inl km_X9_387, kc_J9_max_f86c9, kn_J9, kd_J9_max_f86c9, ⟨(Nat.le_of_ble_eq_true rfl), (Nat.le_of_ble_eq_true rfl)⟩, ⟨(Nat.le_of_ble_eq_true rfl), (Nat.le_of_ble_eq_true rfl)⟩, (Nat.le_of_ble_eq_true rfl)⟩ ki_J9_max_f86c9 rfl rfl (am_tab tk_X9_answerOf 57 rfl) rfl ?_
            refine am_lstore_n (q := 159) (by decide) (ls2 := [(2, am_l (max (aqL σ n (K - 155) cs 0 0 k) (aqV σ n cs 0 0 k))), (5, am_i ((aqV σ n cs 0 0 k))), (0, am_r 0), (1, am_i K), (4, am_i ((k : Int)))]) rfl (am_tab tk_X9_answerOf 58 rfl) rfl ?_
            refine am_goto (t := 190) (am_tab tk_X9_answerOf 59 rfl) (by decide) ?_
            refine am_iinc (q := 193) rfl (by omega) (by decide) (ls2 := [(4, am_i (((k : Int) + 1))), (2, am_l (max (aqL σ n (K - 155) cs 0 0 k) (aqV σ n cs 0 0 k))), (5, am_i ((aqV σ n cs 0 0 k))), (0, am_r 0), (1, am_i K)]) rfl (am_tab tk_X9_answerOf 76 rfl) rfl ?_
            refine am_goto (t := 25) (am_tab tk_X9_answerOf 77 rfl) (by decide) ?_
            have he : aqL σ n (K - 155) cs 0 0 (k + 1) = max (aqL σ n (K - 155) cs 0 0 k) (aqV σ n cs 0 0 k) := by
              show tkQ (K - 155) (aqV σ n cs 0 0 k) (k : Int) (aqL σ n (K - 155) cs 0 0 k) (if k = 0 then 1 else 0) = _
              by_cases hk0 : k = 0
              · rw [if_pos hk0]; unfold tkQ; (repeat' split) <;> omega
              · rw [if_neg hk0]; unfold tkQ; (repeat' split) <;> omega
            exact am_less (by intro q hq; simp only [List.mem_cons, List.not_mem_nil, or_false] at hq; rcases hq with rfl | rfl | rfl | rfl <;> simp [he]) (ih25 (k + 1) T9 (by omega) (by omega) hV9)
          · refine am_iload (q := 147) rfl (am_tab tk_X9_answerOf 51 rfl) rfl ?_
            refine am_i2l (q := 148) (am_tab tk_X9_answerOf 52 rfl) rfl ?_
            refine am_goto (t := 158) (am_tab tk_X9_answerOf 53 rfl) (by decide) ?_
            refine am_lstore_n (q := 159) (by decide) (ls2 := [(2, am_l ((aqV σ n cs 0 0 k))), (5, am_i ((aqV σ n cs 0 0 k))), (0, am_r 0), (1, am_i K), (4, am_i ((k : Int)))]) rfl (am_tab tk_X9_answerOf 58 rfl) rfl ?_
            refine am_goto (t := 190) (am_tab tk_X9_answerOf 59 rfl) (by decide) ?_
            refine am_iinc (q := 193) rfl (by omega) (by decide) (ls2 := [(4, am_i (((k : Int) + 1))), (2, am_l ((aqV σ n cs 0 0 k))), (5, am_i ((aqV σ n cs 0 0 k))), (0, am_r 0), (1, am_i K)]) rfl (am_tab tk_X9_answerOf 76 rfl) rfl ?_
            refine am_goto (t := 25) (am_tab tk_X9_answerOf 77 rfl) (by decide) ?_
            have he : aqL σ n (K - 155) cs 0 0 (k + 1) = (aqV σ n cs 0 0 k) := by
              show tkQ (K - 155) (aqV σ n cs 0 0 k) (k : Int) (aqL σ n (K - 155) cs 0 0 k) (if k = 0 then 1 else 0) = _
              by_cases hk0 : k = 0
              · rw [if_pos hk0]; unfold tkQ; (repeat' split) <;> omega
              · rw [if_neg hk0]; unfold tkQ; (repeat' split) <;> omega
            exact am_less (by intro q hq; simp only [List.mem_cons, List.not_mem_nil, or_false] at hq; rcases hq with rfl | rfl | rfl | rfl <;> simp [he]) (ih25 (k + 1) T9 (by omega) (by omega) hV9)
        · refine am_tableIn (t := 162) (off := 102) (by omega) (by omega) (by rw [e60]; rfl) dsw_X9_answerOf_60 (by decide) ?_
          refine am_iload (q := 164) rfl (am_tab tk_X9_answerOf 60 rfl) rfl ?_
          refine am_if_ne (q := 167) (t := 173) (am_tab tk_X9_answerOf 61 rfl) (by decide) rfl (fun h164 => ?_) (fun h164 => ?_)
          · refine am_lload_n (q := 174) rfl (am_tab tk_X9_answerOf 65 rfl) rfl ?_
            refine am_iload (q := 176) rfl (am_tab tk_X9_answerOf 66 rfl) rfl ?_
            refine am_i2l (q := 177) (am_tab tk_X9_answerOf 67 rfl) rfl ?_
            refine am_callS0 (q := 180) (me2 := M_J9_min_f86c9) (As := [am_l ((aqL σ n (K - 155) cs 0 0 k)), am_l ((aqV σ n cs 0 0 k))]) (rest := []) (out := [am_l (min (aqL σ n (K - 155) cs 0 0 k) (aqV σ n cs 0 0 k))]) (c_minl T9 (aqL σ n (K - 155) cs 0 0 k) (aqV σ n cs 0 0 k)) ⟨rfl, rfl⟩ ⟨Or.inl km_X9_390, kc_J9_min_f86c9, kn_J9, kd_J9_min_f86c9, ⟨(Nat.le_of_ble_eq_true rfl), (Nat.le_of_ble_eq_true rfl)⟩, ⟨(Nat.le_of_ble_eq_true rfl), (Nat.le_of_ble_eq_true rfl)⟩, (Nat.le_of_ble_eq_true rfl)⟩ ki_J9_min_f86c9 rfl rfl (am_tab tk_X9_answerOf 68 rfl) rfl ?_
            refine am_lstore_n (q := 181) (by decide) (ls2 := [(2, am_l (min (aqL σ n (K - 155) cs 0 0 k) (aqV σ n cs 0 0 k))), (5, am_i ((aqV σ n cs 0 0 k))), (0, am_r 0), (1, am_i K), (4, am_i ((k : Int)))]) rfl (am_tab tk_X9_answerOf 69 rfl) rfl ?_
            refine am_goto (t := 190) (am_tab tk_X9_answerOf 70 rfl) (by decide) ?_
            refine am_iinc (q := 193) rfl (by omega) (by decide) (ls2 := [(4, am_i (((k : Int) + 1))), (2, am_l (min (aqL σ n (K - 155) cs 0 0 k) (aqV σ n cs 0 0 k))), (5, am_i ((aqV σ n cs 0 0 k))), (0, am_r 0), (1, am_i K)]) rfl (am_tab tk_X9_answerOf 76 rfl) rfl ?_
            refine am_goto (t := 25) (am_tab tk_X9_answerOf 77 rfl) (by decide) ?_
            have he : aqL σ n (K - 155) cs 0 0 (k + 1) = min (aqL σ n (K - 155) cs 0 0 k) (aqV σ n cs 0 0 k) := by
              show tkQ (K - 155) (aqV σ n cs 0 0 k) (k : Int) (aqL σ n (K - 155) cs 0 0 k) (if k = 0 then 1 else 0) = _
              by_cases hk0 : k = 0
              · rw [if_pos hk0]; unfold tkQ; (repeat' split) <;> omega
              · rw [if_neg hk0]; unfold tkQ; (repeat' split) <;> omega
            exact am_less (by intro q hq; simp only [List.mem_cons, List.not_mem_nil, or_false] at hq; rcases hq with rfl | rfl | rfl | rfl <;> simp [he]) (ih25 (k + 1) T9 (by omega) (by omega) hV9)
          · refine am_iload (q := 169) rfl (am_tab tk_X9_answerOf 62 rfl) rfl ?_
            refine am_i2l (q := 170) (am_tab tk_X9_answerOf 63 rfl) rfl ?_
            refine am_goto (t := 180) (am_tab tk_X9_answerOf 64 rfl) (by decide) ?_
            refine am_lstore_n (q := 181) (by decide) (ls2 := [(2, am_l ((aqV σ n cs 0 0 k))), (5, am_i ((aqV σ n cs 0 0 k))), (0, am_r 0), (1, am_i K), (4, am_i ((k : Int)))]) rfl (am_tab tk_X9_answerOf 69 rfl) rfl ?_
            refine am_goto (t := 190) (am_tab tk_X9_answerOf 70 rfl) (by decide) ?_
            refine am_iinc (q := 193) rfl (by omega) (by decide) (ls2 := [(4, am_i (((k : Int) + 1))), (2, am_l ((aqV σ n cs 0 0 k))), (5, am_i ((aqV σ n cs 0 0 k))), (0, am_r 0), (1, am_i K)]) rfl (am_tab tk_X9_answerOf 76 rfl) rfl ?_
            refine am_goto (t := 25) (am_tab tk_X9_answerOf 77 rfl) (by decide) ?_
            have he : aqL σ n (K - 155) cs 0 0 (k + 1) = (aqV σ n cs 0 0 k) := by
              show tkQ (K - 155) (aqV σ n cs 0 0 k) (k : Int) (aqL σ n (K - 155) cs 0 0 k) (if k = 0 then 1 else 0) = _
              by_cases hk0 : k = 0
              · rw [if_pos hk0]; unfold tkQ; (repeat' split) <;> omega
              · rw [if_neg hk0]; unfold tkQ; (repeat' split) <;> omega
            exact am_less (by intro q hq; simp only [List.mem_cons, List.not_mem_nil, or_false] at hq; rcases hq with rfl | rfl | rfl | rfl <;> simp [he]) (ih25 (k + 1) T9 (by omega) (by omega) hV9)
        · refine am_tableOut (t := 184) e60 dsw_X9_answerOf_60 (by decide) ?_
          refine am_lload_n (q := 185) rfl (am_tab tk_X9_answerOf 71 rfl) rfl ?_
          refine am_iload (q := 187) rfl (am_tab tk_X9_answerOf 72 rfl) rfl ?_
          refine am_i2l (q := 188) (am_tab tk_X9_answerOf 73 rfl) rfl ?_
          refine am_ladd (q := 189) (by omega) (am_tab tk_X9_answerOf 74 rfl) rfl ?_
          refine am_lstore_n (q := 190) (by decide) (ls2 := [(2, am_l (((aqL σ n (K - 155) cs 0 0 k) + (aqV σ n cs 0 0 k)))), (5, am_i ((aqV σ n cs 0 0 k))), (0, am_r 0), (1, am_i K), (4, am_i ((k : Int)))]) rfl (am_tab tk_X9_answerOf 75 rfl) rfl ?_
          refine am_iinc (q := 193) rfl (by omega) (by decide) (ls2 := [(4, am_i (((k : Int) + 1))), (2, am_l (((aqL σ n (K - 155) cs 0 0 k) + (aqV σ n cs 0 0 k)))), (5, am_i ((aqV σ n cs 0 0 k))), (0, am_r 0), (1, am_i K)]) rfl (am_tab tk_X9_answerOf 76 rfl) rfl ?_
          refine am_goto (t := 25) (am_tab tk_X9_answerOf 77 rfl) (by decide) ?_
          have he : aqL σ n (K - 155) cs 0 0 (k + 1) = ((aqL σ n (K - 155) cs 0 0 k) + (aqV σ n cs 0 0 k)) := by
            show tkQ (K - 155) (aqV σ n cs 0 0 k) (k : Int) (aqL σ n (K - 155) cs 0 0 k) (if k = 0 then 1 else 0) = _
            by_cases hk0 : k = 0
            · rw [if_pos hk0]; unfold tkQ; (repeat' split) <;> omega
            · rw [if_neg hk0]; unfold tkQ; (repeat' split) <;> omega
          exact am_less (by intro q hq; simp only [List.mem_cons, List.not_mem_nil, or_false] at hq; rcases hq with rfl | rfl | rfl | rfl <;> simp [he]) (ih25 (k + 1) T9 (by omega) (by omega) hV9)
  refine am_iload_n (q := 1) rfl (am_tab tk_X9_answerOf 0 rfl) rfl ?_
  refine am_sipush (q := 4) (n := 155) (by decide) rfl (am_tab tk_X9_answerOf 1 rfl) rfl ?_
  refine am_icmp_eq (q := 7) (t := 14) (am_tab tk_X9_answerOf 2 rfl) (by decide) rfl (fun h4 => ?_) (fun h4 => ?_)
  · refine am_ldc2 (q := 17) (n := (-1)) (by decide) kk_X9_377 (am_tab tk_X9_answerOf 6 rfl) rfl ?_
    refine am_goto (t := 21) (am_tab tk_X9_answerOf 7 rfl) (by decide) ?_
    refine am_lstore_n (q := 22) (by decide) (ls2 := [(2, am_l ((-1))), (0, am_r 0), (1, am_i K)]) rfl (am_tab tk_X9_answerOf 9 rfl) rfl ?_
    refine am_iconst (q := 23) (n := 0) (by decide) (am_tab tk_X9_answerOf 10 rfl) rfl ?_
    refine am_istore (q := 25) (by decide) (ls2 := [(4, am_i 0), (2, am_l ((-1))), (0, am_r 0), (1, am_i K)]) rfl (am_tab tk_X9_answerOf 11 rfl) rfl ?_
    have he0 : aqL σ n (K - 155) cs 0 0 0 = (-1) := by
      show (if K - 155 < 2 then (-1 : Int) else 0) = _
      first | (rw [if_pos (by omega)]; done) | (rw [if_neg (by omega)]; done)
    refine am_less (by intro q hq; simp only [List.mem_cons, List.not_mem_nil, or_false] at hq; rcases hq with rfl | rfl | rfl | rfl <;> simp [he0]) (L25 (_ + 1) 0 S0 (by exact Nat.lt_succ_self _) (Nat.zero_le _) hV)
  · refine am_iload_n (q := 8) rfl (am_tab tk_X9_answerOf 3 rfl) rfl ?_
    refine am_sipush (q := 11) (n := 156) (by decide) rfl (am_tab tk_X9_answerOf 4 rfl) rfl ?_
    refine am_icmp_ne (q := 14) (t := 20) (am_tab tk_X9_answerOf 5 rfl) (by decide) rfl (fun h11 => ?_) (fun h11 => ?_)
    · refine am_lconst0 (q := 21) (am_tab tk_X9_answerOf 8 rfl) rfl ?_
      refine am_lstore_n (q := 22) (by decide) (ls2 := [(2, am_l 0), (0, am_r 0), (1, am_i K)]) rfl (am_tab tk_X9_answerOf 9 rfl) rfl ?_
      refine am_iconst (q := 23) (n := 0) (by decide) (am_tab tk_X9_answerOf 10 rfl) rfl ?_
      refine am_istore (q := 25) (by decide) (ls2 := [(4, am_i 0), (2, am_l 0), (0, am_r 0), (1, am_i K)]) rfl (am_tab tk_X9_answerOf 11 rfl) rfl ?_
      have he0 : aqL σ n (K - 155) cs 0 0 0 = 0 := by
        show (if K - 155 < 2 then (-1 : Int) else 0) = _
        first | (rw [if_pos (by omega)]; done) | (rw [if_neg (by omega)]; done)
      refine am_less (by intro q hq; simp only [List.mem_cons, List.not_mem_nil, or_false] at hq; rcases hq with rfl | rfl | rfl | rfl <;> simp [he0]) (L25 (_ + 1) 0 S0 (by exact Nat.lt_succ_self _) (Nat.zero_le _) hV)
    · refine am_ldc2 (q := 17) (n := (-1)) (by decide) kk_X9_377 (am_tab tk_X9_answerOf 6 rfl) rfl ?_
      refine am_goto (t := 21) (am_tab tk_X9_answerOf 7 rfl) (by decide) ?_
      refine am_lstore_n (q := 22) (by decide) (ls2 := [(2, am_l ((-1))), (0, am_r 0), (1, am_i K)]) rfl (am_tab tk_X9_answerOf 9 rfl) rfl ?_
      refine am_iconst (q := 23) (n := 0) (by decide) (am_tab tk_X9_answerOf 10 rfl) rfl ?_
      refine am_istore (q := 25) (by decide) (ls2 := [(4, am_i 0), (2, am_l ((-1))), (0, am_r 0), (1, am_i K)]) rfl (am_tab tk_X9_answerOf 11 rfl) rfl ?_
      have he0 : aqL σ n (K - 155) cs 0 0 0 = (-1) := by
        show (if K - 155 < 2 then (-1 : Int) else 0) = _
        first | (rw [if_pos (by omega)]; done) | (rw [if_neg (by omega)]; done)
      refine am_less (by intro q hq; simp only [List.mem_cons, List.not_mem_nil, or_false] at hq; rcases hq with rfl | rfl | rfl | rfl <;> simp [he0]) (L25 (_ + 1) 0 S0 (by exact Nat.lt_succ_self _) (Nat.zero_le _) hV)
set_option maxRecDepth 100000 in
theorem c_answerOf_15 (σ S0 : am_H) (n : Nat) (cs : List Int) (hC : CI 15 σ) (K : Int) (hV : VQ 15 n cs σ S0) (hn : 1 ≤ n ∧ (n : Int) ≤ dlM σ) (hok : okQ cs [] = true) (hno : ∀ v ∈ cs, ¬ (45 ≤ v ∧ v ≤ 47)) (hK : 155 ≤ K ∧ K ≤ 160) (h01 : K ≤ 157 → tyR 2 [] cs = some [true]) : am_met M_X9_answerOf [am_r 0, am_i K] S0 (fun r σ' => r = some (am_l (aqL σ n (K - 155) cs 0 0 (pN σ))) ∧ CQ σ σ') := by
  refine am_qq (fun Q hQ => ?_)
  refine am_enter (show plainFor yX9_answerOf = true by decide +kernel) rfl (Nat.le_of_ble_eq_true rfl) (fun _ _ _ => trivial) ?_
  have h8 := pN_8 hC.G.R
  have hNe := pN_eq hC.G.R
  have L25 : ∀ (n25 : Nat) (k : Nat) (S : am_H), pN σ - k < n25 → k ≤ pN σ → VQ 15 n cs σ S → am_wp M_X9_answerOf Q 0 0 25 [(0, am_r 0), (1, am_i K), (2, am_l ((aqL σ n (K - 155) cs 0 0 k))), (4, am_i ((k : Int)))] [] S := by
    intro n25
    induction n25 with
    | zero => intro k S hn25; exact absurd hn25 (Nat.not_lt_zero _)
    | succ n25 ih25 =>
      intro k S hn25 hk hVk
      refine am_iload (q := 27) rfl (am_tab tk_X9_answerOf 12 rfl) rfl ?_
      refine am_aload_n (q := 28) rfl (am_tab tk_X9_answerOf 13 rfl) rfl ?_
      refine am_getR (q := 31) (a := 0) (k := 9) (n := 17) (j := 2) (r := some (15)) (Ls_0 (hVk.1.L hC.G.L)) (by decide) rfl ((hVk.1.2.1 0 2 (by omega)).trans hC.t) (by decide) (Or.inl kf_X9_19) (am_tab tk_X9_answerOf 14 rfl) rfl ?_
      refine am_getI (q := 34) (a := 15) (k := 8) (n := 17) (j := 2) (x := (σ.2.1 85 5)) (Ls_15 (hVk.1.L hC.G.L)) (by decide) rfl (hC.W.cq hVk.1 (by decide)).people (by decide) (Or.inr kf_X9_126) (am_tab tk_X9_answerOf 15 rfl) rfl ?_
      refine am_icmp_ge (q := 37) (t := 196) (am_tab tk_X9_answerOf 16 rfl) (by decide) rfl (fun h34 => ?_) (fun h34 => ?_)
      · refine am_lload_n (q := 197) rfl (am_tab tk_X9_answerOf 78 rfl) rfl ?_
        refine am_lret rfl (Nat.le_of_ble_eq_true rfl) (Nat.le_of_ble_eq_true rfl) (am_tab tk_X9_answerOf 79 rfl) ?_
        refine hQ _ _ ?_
        refine ⟨congrArg (fun z => some (am_l z)) ?_, hVk.1⟩
        rw [show k = pN σ by omega]
      · have hkp : k < pN σ := by omega
        have hAr := aqL_rng (σ := σ) (n := n) (kd := K - 155) (x := 0) (y := 0) hok k (by omega)
        have hvr : -1000000 ≤ aqV σ n cs 0 0 k ∧ aqV σ n cs 0 0 k ≤ 1000000 := evQ_rng (ts := []) (st := []) trivial hok
        have hv1 : K ≤ 157 → aqV σ n cs 0 0 k = 0 ∨ aqV σ n cs 0 0 k = 1 := fun z => aqV_01 (h01 z) k
        refine am_aload_n (q := 38) rfl (am_tab tk_X9_answerOf 17 rfl) rfl ?_
        refine am_getR (q := 41) (a := 0) (k := 9) (n := 17) (j := 7) (r := some (44)) (Ls_0 (hVk.1.L hC.G.L)) (by decide) rfl (Lr_0_7 (hVk.1.L hC.G.L)) (by decide) (Or.inl kf_X9_57) (am_tab tk_X9_answerOf 18 rfl) rfl ?_
        refine am_aload_n (q := 42) rfl (am_tab tk_X9_answerOf 19 rfl) rfl ?_
        refine am_getR (q := 45) (a := 0) (k := 9) (n := 17) (j := 1) (r := some (27)) (Ls_0 (hVk.1.L hC.G.L)) (by decide) rfl (Lr_0_1 (hVk.1.L hC.G.L)) (by decide) (Or.inl kf_X9_31) (am_tab tk_X9_answerOf 20 rfl) rfl ?_
        refine am_getR (q := 48) (a := 27) (k := 4) (n := 13) (j := 1) (r := some (28)) (Ls_27 (hVk.1.L hC.G.L)) (by decide) rfl (Lr_27_1 (hVk.1.L hC.G.L)) (by decide) (Or.inr kf_X9_379) (am_tab tk_X9_answerOf 21 rfl) rfl ?_
        refine am_aload_n (q := 49) rfl (am_tab tk_X9_answerOf 22 rfl) rfl ?_
        refine am_getR (q := 52) (a := 0) (k := 9) (n := 17) (j := 5) (r := some (37)) (Ls_0 (hVk.1.L hC.G.L)) (by decide) rfl (Lr_0_5 (hVk.1.L hC.G.L)) (by decide) (Or.inl kf_X9_42) (am_tab tk_X9_answerOf 23 rfl) rfl ?_
        refine am_iload (q := 54) rfl (am_tab tk_X9_answerOf 24 rfl) rfl ?_
        refine am_callVr (q := 57) (me2 := M_X0_valueFor) (b := 44) (kb := 0) (nb := 14) (As := [am_r 28, am_r 37, am_i ((k : Int))]) (rest := []) (c_valueFor_15 σ S n cs hC k hVk hn hok hno hkp) ⟨rfl, rfl⟩ (Ls_44 (hVk.1.L hC.G.L)) (by decide) ⟨Or.inr km_X9_383, kc_X0_valueFor, kn_X0, kd_X0_valueFor, ⟨(Nat.le_of_ble_eq_true rfl), (Nat.le_of_ble_eq_true rfl)⟩, ⟨(Nat.le_of_ble_eq_true rfl), (Nat.le_of_ble_eq_true rfl)⟩, (Nat.le_of_ble_eq_true rfl)⟩ ki_X0_valueFor ks_X0_valueFor rfl (am_tab tk_X9_answerOf 25 rfl) rfl ?_
        rintro r T9 ⟨rfl, hF9⟩
        have hV9 := hVk.fr hF9
        refine am_istore (q := 59) (by decide) (ls2 := [(5, am_i ((aqV σ n cs 0 0 k))), (0, am_r 0), (1, am_i K), (2, am_l ((aqL σ n (K - 155) cs 0 0 k))), (4, am_i ((k : Int)))]) rfl (am_tab tk_X9_answerOf 26 rfl) rfl ?_
        refine am_iload_n (q := 60) rfl (am_tab tk_X9_answerOf 27 rfl) rfl ?_
        rcases (show K = 155 ∨ K = 156 ∨ K = 157 ∨ K = 158 ∨ K = 159 ∨ K = 160 ∨ (K < 155 ∨ 160 < K) by omega) with e60 | e60 | e60 | e60 | e60 | e60 | e60
        · refine am_tableIn (t := 100) (off := 40) (by omega) (by omega) (by rw [e60]; rfl) dsw_X9_answerOf_60 (by decide) ?_
          refine am_lload_n (q := 101) rfl (am_tab tk_X9_answerOf 29 rfl) rfl ?_
          refine am_ldc2 (q := 104) (n := (-1)) (by decide) kk_X9_377 (am_tab tk_X9_answerOf 30 rfl) rfl ?_
          refine am_lcmp (q := 105) (am_tab tk_X9_answerOf 31 rfl) rfl ?_
          refine am_if_ne (q := 108) (t := 119) (am_tab tk_X9_answerOf 32 rfl) (by decide) rfl (fun h105 => ?_) (fun h105 => ?_)
          · rw [ao_cmp_eq] at h105
            refine am_lload_n (q := 120) rfl (am_tab tk_X9_answerOf 38 rfl) rfl ?_
            refine am_lstore_n (q := 121) (by decide) (ls2 := [(2, am_l ((aqL σ n (K - 155) cs 0 0 k))), (5, am_i ((aqV σ n cs 0 0 k))), (0, am_r 0), (1, am_i K), (4, am_i ((k : Int)))]) rfl (am_tab tk_X9_answerOf 39 rfl) rfl ?_
            refine am_goto (t := 190) (am_tab tk_X9_answerOf 40 rfl) (by decide) ?_
            refine am_iinc (q := 193) rfl (by omega) (by decide) (ls2 := [(4, am_i (((k : Int) + 1))), (2, am_l ((aqL σ n (K - 155) cs 0 0 k))), (5, am_i ((aqV σ n cs 0 0 k))), (0, am_r 0), (1, am_i K)]) rfl (am_tab tk_X9_answerOf 76 rfl) rfl ?_
            refine am_goto (t := 25) (am_tab tk_X9_answerOf 77 rfl) (by decide) ?_
            have he : aqL σ n (K - 155) cs 0 0 (k + 1) = (aqL σ n (K - 155) cs 0 0 k) := by
              show tkQ (K - 155) (aqV σ n cs 0 0 k) (k : Int) (aqL σ n (K - 155) cs 0 0 k) (if k = 0 then 1 else 0) = _
              by_cases hk0 : k = 0
              · rw [if_pos hk0]; unfold tkQ; (repeat' split) <;> omega
              · rw [if_neg hk0]; unfold tkQ; (repeat' split) <;> omega
            exact am_less (by intro q hq; simp only [List.mem_cons, List.not_mem_nil, or_false] at hq; rcases hq with rfl | rfl | rfl | rfl <;> simp [he]) (ih25 (k + 1) T9 (by omega) (by omega) hV9)
          · rw [ao_cmp_eq] at h105
            refine am_iload (q := 110) rfl (am_tab tk_X9_answerOf 33 rfl) rfl ?_
            refine am_if_eq (q := 113) (t := 119) (am_tab tk_X9_answerOf 34 rfl) (by decide) rfl (fun h110 => ?_) (fun h110 => ?_)
            · refine am_lload_n (q := 120) rfl (am_tab tk_X9_answerOf 38 rfl) rfl ?_
              refine am_lstore_n (q := 121) (by decide) (ls2 := [(2, am_l ((aqL σ n (K - 155) cs 0 0 k))), (5, am_i ((aqV σ n cs 0 0 k))), (0, am_r 0), (1, am_i K), (4, am_i ((k : Int)))]) rfl (am_tab tk_X9_answerOf 39 rfl) rfl ?_
              refine am_goto (t := 190) (am_tab tk_X9_answerOf 40 rfl) (by decide) ?_
              refine am_iinc (q := 193) rfl (by omega) (by decide) (ls2 := [(4, am_i (((k : Int) + 1))), (2, am_l ((aqL σ n (K - 155) cs 0 0 k))), (5, am_i ((aqV σ n cs 0 0 k))), (0, am_r 0), (1, am_i K)]) rfl (am_tab tk_X9_answerOf 76 rfl) rfl ?_
              refine am_goto (t := 25) (am_tab tk_X9_answerOf 77 rfl) (by decide) ?_
              have he : aqL σ n (K - 155) cs 0 0 (k + 1) = (aqL σ n (K - 155) cs 0 0 k) := by
                show tkQ (K - 155) (aqV σ n cs 0 0 k) (k : Int) (aqL σ n (K - 155) cs 0 0 k) (if k = 0 then 1 else 0) = _
                by_cases hk0 : k = 0
                · rw [if_pos hk0]; unfold tkQ; (repeat' split) <;> omega
                · rw [if_neg hk0]; unfold tkQ; (repeat' split) <;> omega
              exact am_less (by intro q hq; simp only [List.mem_cons, List.not_mem_nil, or_false] at hq; rcases hq with rfl | rfl | rfl | rfl <;> simp [he]) (ih25 (k + 1) T9 (by omega) (by omega) hV9)
            · refine am_iload (q := 115) rfl (am_tab tk_X9_answerOf 35 rfl) rfl ?_
              refine am_i2l (q := 116) (am_tab tk_X9_answerOf 36 rfl) rfl ?_
              refine am_goto (t := 120) (am_tab tk_X9_answerOf 37 rfl) (by decide) ?_
              refine am_lstore_n (q := 121) (by decide) (ls2 := [(2, am_l ((k : Int))), (5, am_i ((aqV σ n cs 0 0 k))), (0, am_r 0), (1, am_i K), (4, am_i ((k : Int)))]) rfl (am_tab tk_X9_answerOf 39 rfl) rfl ?_
              refine am_goto (t := 190) (am_tab tk_X9_answerOf 40 rfl) (by decide) ?_
              refine am_iinc (q := 193) rfl (by omega) (by decide) (ls2 := [(4, am_i (((k : Int) + 1))), (2, am_l ((k : Int))), (5, am_i ((aqV σ n cs 0 0 k))), (0, am_r 0), (1, am_i K)]) rfl (am_tab tk_X9_answerOf 76 rfl) rfl ?_
              refine am_goto (t := 25) (am_tab tk_X9_answerOf 77 rfl) (by decide) ?_
              have he : aqL σ n (K - 155) cs 0 0 (k + 1) = (k : Int) := by
                show tkQ (K - 155) (aqV σ n cs 0 0 k) (k : Int) (aqL σ n (K - 155) cs 0 0 k) (if k = 0 then 1 else 0) = _
                by_cases hk0 : k = 0
                · rw [if_pos hk0]; unfold tkQ; (repeat' split) <;> omega
                · rw [if_neg hk0]; unfold tkQ; (repeat' split) <;> omega
              exact am_less (by intro q hq; simp only [List.mem_cons, List.not_mem_nil, or_false] at hq; rcases hq with rfl | rfl | rfl | rfl <;> simp [he]) (ih25 (k + 1) T9 (by omega) (by omega) hV9)
        · refine am_tableIn (t := 124) (off := 64) (by omega) (by omega) (by rw [e60]; rfl) dsw_X9_answerOf_60 (by decide) ?_
          refine am_iload (q := 126) rfl (am_tab tk_X9_answerOf 41 rfl) rfl ?_
          refine am_if_eq (q := 129) (t := 135) (am_tab tk_X9_answerOf 42 rfl) (by decide) rfl (fun h126 => ?_) (fun h126 => ?_)
          · refine am_lload_n (q := 136) rfl (am_tab tk_X9_answerOf 46 rfl) rfl ?_
            refine am_lstore_n (q := 137) (by decide) (ls2 := [(2, am_l ((aqL σ n (K - 155) cs 0 0 k))), (5, am_i ((aqV σ n cs 0 0 k))), (0, am_r 0), (1, am_i K), (4, am_i ((k : Int)))]) rfl (am_tab tk_X9_answerOf 47 rfl) rfl ?_
            refine am_goto (t := 190) (am_tab tk_X9_answerOf 48 rfl) (by decide) ?_
            refine am_iinc (q := 193) rfl (by omega) (by decide) (ls2 := [(4, am_i (((k : Int) + 1))), (2, am_l ((aqL σ n (K - 155) cs 0 0 k))), (5, am_i ((aqV σ n cs 0 0 k))), (0, am_r 0), (1, am_i K)]) rfl (am_tab tk_X9_answerOf 76 rfl) rfl ?_
            refine am_goto (t := 25) (am_tab tk_X9_answerOf 77 rfl) (by decide) ?_
            have he : aqL σ n (K - 155) cs 0 0 (k + 1) = (aqL σ n (K - 155) cs 0 0 k) := by
              show tkQ (K - 155) (aqV σ n cs 0 0 k) (k : Int) (aqL σ n (K - 155) cs 0 0 k) (if k = 0 then 1 else 0) = _
              by_cases hk0 : k = 0
              · rw [if_pos hk0]; unfold tkQ; (repeat' split) <;> omega
              · rw [if_neg hk0]; unfold tkQ; (repeat' split) <;> omega
            exact am_less (by intro q hq; simp only [List.mem_cons, List.not_mem_nil, or_false] at hq; rcases hq with rfl | rfl | rfl | rfl <;> simp [he]) (ih25 (k + 1) T9 (by omega) (by omega) hV9)
          · refine am_iload (q := 131) rfl (am_tab tk_X9_answerOf 43 rfl) rfl ?_
            refine am_i2l (q := 132) (am_tab tk_X9_answerOf 44 rfl) rfl ?_
            refine am_goto (t := 136) (am_tab tk_X9_answerOf 45 rfl) (by decide) ?_
            refine am_lstore_n (q := 137) (by decide) (ls2 := [(2, am_l ((k : Int))), (5, am_i ((aqV σ n cs 0 0 k))), (0, am_r 0), (1, am_i K), (4, am_i ((k : Int)))]) rfl (am_tab tk_X9_answerOf 47 rfl) rfl ?_
            refine am_goto (t := 190) (am_tab tk_X9_answerOf 48 rfl) (by decide) ?_
            refine am_iinc (q := 193) rfl (by omega) (by decide) (ls2 := [(4, am_i (((k : Int) + 1))), (2, am_l ((k : Int))), (5, am_i ((aqV σ n cs 0 0 k))), (0, am_r 0), (1, am_i K)]) rfl (am_tab tk_X9_answerOf 76 rfl) rfl ?_
            refine am_goto (t := 25) (am_tab tk_X9_answerOf 77 rfl) (by decide) ?_
            have he : aqL σ n (K - 155) cs 0 0 (k + 1) = (k : Int) := by
              show tkQ (K - 155) (aqV σ n cs 0 0 k) (k : Int) (aqL σ n (K - 155) cs 0 0 k) (if k = 0 then 1 else 0) = _
              by_cases hk0 : k = 0
              · rw [if_pos hk0]; unfold tkQ; (repeat' split) <;> omega
              · rw [if_neg hk0]; unfold tkQ; (repeat' split) <;> omega
            exact am_less (by intro q hq; simp only [List.mem_cons, List.not_mem_nil, or_false] at hq; rcases hq with rfl | rfl | rfl | rfl <;> simp [he]) (ih25 (k + 1) T9 (by omega) (by omega) hV9)
        · refine am_tableIn (t := 184) (off := 124) (by omega) (by omega) (by rw [e60]; rfl) dsw_X9_answerOf_60 (by decide) ?_
          refine am_lload_n (q := 185) rfl (am_tab tk_X9_answerOf 71 rfl) rfl ?_
          refine am_iload (q := 187) rfl (am_tab tk_X9_answerOf 72 rfl) rfl ?_
          refine am_i2l (q := 188) (am_tab tk_X9_answerOf 73 rfl) rfl ?_
          refine am_ladd (q := 189) (by omega) (am_tab tk_X9_answerOf 74 rfl) rfl ?_
          refine am_lstore_n (q := 190) (by decide) (ls2 := [(2, am_l (((aqL σ n (K - 155) cs 0 0 k) + (aqV σ n cs 0 0 k)))), (5, am_i ((aqV σ n cs 0 0 k))), (0, am_r 0), (1, am_i K), (4, am_i ((k : Int)))]) rfl (am_tab tk_X9_answerOf 75 rfl) rfl ?_
          refine am_iinc (q := 193) rfl (by omega) (by decide) (ls2 := [(4, am_i (((k : Int) + 1))), (2, am_l (((aqL σ n (K - 155) cs 0 0 k) + (aqV σ n cs 0 0 k)))), (5, am_i ((aqV σ n cs 0 0 k))), (0, am_r 0), (1, am_i K)]) rfl (am_tab tk_X9_answerOf 76 rfl) rfl ?_
          refine am_goto (t := 25) (am_tab tk_X9_answerOf 77 rfl) (by decide) ?_
          have he : aqL σ n (K - 155) cs 0 0 (k + 1) = ((aqL σ n (K - 155) cs 0 0 k) + (aqV σ n cs 0 0 k)) := by
            show tkQ (K - 155) (aqV σ n cs 0 0 k) (k : Int) (aqL σ n (K - 155) cs 0 0 k) (if k = 0 then 1 else 0) = _
            by_cases hk0 : k = 0
            · rw [if_pos hk0]; unfold tkQ; (repeat' split) <;> omega
            · rw [if_neg hk0]; unfold tkQ; (repeat' split) <;> omega
          exact am_less (by intro q hq; simp only [List.mem_cons, List.not_mem_nil, or_false] at hq; rcases hq with rfl | rfl | rfl | rfl <;> simp [he]) (ih25 (k + 1) T9 (by omega) (by omega) hV9)
        · refine am_tableIn (t := 184) (off := 124) (by omega) (by omega) (by rw [e60]; rfl) dsw_X9_answerOf_60 (by decide) ?_
          refine am_lload_n (q := 185) rfl (am_tab tk_X9_answerOf 71 rfl) rfl ?_
          refine am_iload (q := 187) rfl (am_tab tk_X9_answerOf 72 rfl) rfl ?_
          refine am_i2l (q := 188) (am_tab tk_X9_answerOf 73 rfl) rfl ?_
          refine am_ladd (q := 189) (by omega) (am_tab tk_X9_answerOf 74 rfl) rfl ?_
          refine am_lstore_n (q := 190) (by decide) (ls2 := [(2, am_l (((aqL σ n (K - 155) cs 0 0 k) + (aqV σ n cs 0 0 k)))), (5, am_i ((aqV σ n cs 0 0 k))), (0, am_r 0), (1, am_i K), (4, am_i ((k : Int)))]) rfl (am_tab tk_X9_answerOf 75 rfl) rfl ?_
          refine am_iinc (q := 193) rfl (by omega) (by decide) (ls2 := [(4, am_i (((k : Int) + 1))), (2, am_l (((aqL σ n (K - 155) cs 0 0 k) + (aqV σ n cs 0 0 k)))), (5, am_i ((aqV σ n cs 0 0 k))), (0, am_r 0), (1, am_i K)]) rfl (am_tab tk_X9_answerOf 76 rfl) rfl ?_
          refine am_goto (t := 25) (am_tab tk_X9_answerOf 77 rfl) (by decide) ?_
          have he : aqL σ n (K - 155) cs 0 0 (k + 1) = ((aqL σ n (K - 155) cs 0 0 k) + (aqV σ n cs 0 0 k)) := by
            show tkQ (K - 155) (aqV σ n cs 0 0 k) (k : Int) (aqL σ n (K - 155) cs 0 0 k) (if k = 0 then 1 else 0) = _
            by_cases hk0 : k = 0
            · rw [if_pos hk0]; unfold tkQ; (repeat' split) <;> omega
            · rw [if_neg hk0]; unfold tkQ; (repeat' split) <;> omega
          exact am_less (by intro q hq; simp only [List.mem_cons, List.not_mem_nil, or_false] at hq; rcases hq with rfl | rfl | rfl | rfl <;> simp [he]) (ih25 (k + 1) T9 (by omega) (by omega) hV9)
        · refine am_tableIn (t := 140) (off := 80) (by omega) (by omega) (by rw [e60]; rfl) dsw_X9_answerOf_60 (by decide) ?_
          refine am_iload (q := 142) rfl (am_tab tk_X9_answerOf 49 rfl) rfl ?_
          refine am_if_ne (q := 145) (t := 151) (am_tab tk_X9_answerOf 50 rfl) (by decide) rfl (fun h142 => ?_) (fun h142 => ?_)
          · refine am_lload_n (q := 152) rfl (am_tab tk_X9_answerOf 54 rfl) rfl ?_
            refine am_iload (q := 154) rfl (am_tab tk_X9_answerOf 55 rfl) rfl ?_
            refine am_i2l (q := 155) (am_tab tk_X9_answerOf 56 rfl) rfl ?_
            refine am_callS0 (q := 158) (me2 := M_J9_max_f86c9) (As := [am_l ((aqL σ n (K - 155) cs 0 0 k)), am_l ((aqV σ n cs 0 0 k))]) (rest := []) (out := [am_l (max (aqL σ n (K - 155) cs 0 0 k) (aqV σ n cs 0 0 k))]) (c_maxl T9 (aqL σ n (K - 155) cs 0 0 k) (aqV σ n cs 0 0 k)) ⟨rfl, rfl⟩ ⟨Or.inl km_X9_387, kc_J9_max_f86c9, kn_J9, kd_J9_max_f86c9, ⟨(Nat.le_of_ble_eq_true rfl), (Nat.le_of_ble_eq_true rfl)⟩, ⟨(Nat.le_of_ble_eq_true rfl), (Nat.le_of_ble_eq_true rfl)⟩, (Nat.le_of_ble_eq_true rfl)⟩ ki_J9_max_f86c9 rfl rfl (am_tab tk_X9_answerOf 57 rfl) rfl ?_
            refine am_lstore_n (q := 159) (by decide) (ls2 := [(2, am_l (max (aqL σ n (K - 155) cs 0 0 k) (aqV σ n cs 0 0 k))), (5, am_i ((aqV σ n cs 0 0 k))), (0, am_r 0), (1, am_i K), (4, am_i ((k : Int)))]) rfl (am_tab tk_X9_answerOf 58 rfl) rfl ?_
            refine am_goto (t := 190) (am_tab tk_X9_answerOf 59 rfl) (by decide) ?_
            refine am_iinc (q := 193) rfl (by omega) (by decide) (ls2 := [(4, am_i (((k : Int) + 1))), (2, am_l (max (aqL σ n (K - 155) cs 0 0 k) (aqV σ n cs 0 0 k))), (5, am_i ((aqV σ n cs 0 0 k))), (0, am_r 0), (1, am_i K)]) rfl (am_tab tk_X9_answerOf 76 rfl) rfl ?_
            refine am_goto (t := 25) (am_tab tk_X9_answerOf 77 rfl) (by decide) ?_
            have he : aqL σ n (K - 155) cs 0 0 (k + 1) = max (aqL σ n (K - 155) cs 0 0 k) (aqV σ n cs 0 0 k) := by
              show tkQ (K - 155) (aqV σ n cs 0 0 k) (k : Int) (aqL σ n (K - 155) cs 0 0 k) (if k = 0 then 1 else 0) = _
              by_cases hk0 : k = 0
              · rw [if_pos hk0]; unfold tkQ; (repeat' split) <;> omega
              · rw [if_neg hk0]; unfold tkQ; (repeat' split) <;> omega
            exact am_less (by intro q hq; simp only [List.mem_cons, List.not_mem_nil, or_false] at hq; rcases hq with rfl | rfl | rfl | rfl <;> simp [he]) (ih25 (k + 1) T9 (by omega) (by omega) hV9)
          · refine am_iload (q := 147) rfl (am_tab tk_X9_answerOf 51 rfl) rfl ?_
            refine am_i2l (q := 148) (am_tab tk_X9_answerOf 52 rfl) rfl ?_
            refine am_goto (t := 158) (am_tab tk_X9_answerOf 53 rfl) (by decide) ?_
            refine am_lstore_n (q := 159) (by decide) (ls2 := [(2, am_l ((aqV σ n cs 0 0 k))), (5, am_i ((aqV σ n cs 0 0 k))), (0, am_r 0), (1, am_i K), (4, am_i ((k : Int)))]) rfl (am_tab tk_X9_answerOf 58 rfl) rfl ?_
            refine am_goto (t := 190) (am_tab tk_X9_answerOf 59 rfl) (by decide) ?_
            refine am_iinc (q := 193) rfl (by omega) (by decide) (ls2 := [(4, am_i (((k : Int) + 1))), (2, am_l ((aqV σ n cs 0 0 k))), (5, am_i ((aqV σ n cs 0 0 k))), (0, am_r 0), (1, am_i K)]) rfl (am_tab tk_X9_answerOf 76 rfl) rfl ?_
            refine am_goto (t := 25) (am_tab tk_X9_answerOf 77 rfl) (by decide) ?_
            have he : aqL σ n (K - 155) cs 0 0 (k + 1) = (aqV σ n cs 0 0 k) := by
              show tkQ (K - 155) (aqV σ n cs 0 0 k) (k : Int) (aqL σ n (K - 155) cs 0 0 k) (if k = 0 then 1 else 0) = _
              by_cases hk0 : k = 0
              · rw [if_pos hk0]; unfold tkQ; (repeat' split) <;> omega
              · rw [if_neg hk0]; unfold tkQ; (repeat' split) <;> omega
            exact am_less (by intro q hq; simp only [List.mem_cons, List.not_mem_nil, or_false] at hq; rcases hq with rfl | rfl | rfl | rfl <;> simp [he]) (ih25 (k + 1) T9 (by omega) (by omega) hV9)
        · refine am_tableIn (t := 162) (off := 102) (by omega) (by omega) (by rw [e60]; rfl) dsw_X9_answerOf_60 (by decide) ?_
          refine am_iload (q := 164) rfl (am_tab tk_X9_answerOf 60 rfl) rfl ?_
          refine am_if_ne (q := 167) (t := 173) (am_tab tk_X9_answerOf 61 rfl) (by decide) rfl (fun h164 => ?_) (fun h164 => ?_)
          · refine am_lload_n (q := 174) rfl (am_tab tk_X9_answerOf 65 rfl) rfl ?_
            refine am_iload (q := 176) rfl (am_tab tk_X9_answerOf 66 rfl) rfl ?_
            refine am_i2l (q := 177) (am_tab tk_X9_answerOf 67 rfl) rfl ?_
            refine am_callS0 (q := 180) (me2 := M_J9_min_f86c9) (As := [am_l ((aqL σ n (K - 155) cs 0 0 k)), am_l ((aqV σ n cs 0 0 k))]) (rest := []) (out := [am_l (min (aqL σ n (K - 155) cs 0 0 k) (aqV σ n cs 0 0 k))]) (c_minl T9 (aqL σ n (K - 155) cs 0 0 k) (aqV σ n cs 0 0 k)) ⟨rfl, rfl⟩ ⟨Or.inl km_X9_390, kc_J9_min_f86c9, kn_J9, kd_J9_min_f86c9, ⟨(Nat.le_of_ble_eq_true rfl), (Nat.le_of_ble_eq_true rfl)⟩, ⟨(Nat.le_of_ble_eq_true rfl), (Nat.le_of_ble_eq_true rfl)⟩, (Nat.le_of_ble_eq_true rfl)⟩ ki_J9_min_f86c9 rfl rfl (am_tab tk_X9_answerOf 68 rfl) rfl ?_
            refine am_lstore_n (q := 181) (by decide) (ls2 := [(2, am_l (min (aqL σ n (K - 155) cs 0 0 k) (aqV σ n cs 0 0 k))), (5, am_i ((aqV σ n cs 0 0 k))), (0, am_r 0), (1, am_i K), (4, am_i ((k : Int)))]) rfl (am_tab tk_X9_answerOf 69 rfl) rfl ?_
            refine am_goto (t := 190) (am_tab tk_X9_answerOf 70 rfl) (by decide) ?_
            refine am_iinc (q := 193) rfl (by omega) (by decide) (ls2 := [(4, am_i (((k : Int) + 1))), (2, am_l (min (aqL σ n (K - 155) cs 0 0 k) (aqV σ n cs 0 0 k))), (5, am_i ((aqV σ n cs 0 0 k))), (0, am_r 0), (1, am_i K)]) rfl (am_tab tk_X9_answerOf 76 rfl) rfl ?_
            refine am_goto (t := 25) (am_tab tk_X9_answerOf 77 rfl) (by decide) ?_
            have he : aqL σ n (K - 155) cs 0 0 (k + 1) = min (aqL σ n (K - 155) cs 0 0 k) (aqV σ n cs 0 0 k) := by
              show tkQ (K - 155) (aqV σ n cs 0 0 k) (k : Int) (aqL σ n (K - 155) cs 0 0 k) (if k = 0 then 1 else 0) = _
              by_cases hk0 : k = 0
              · rw [if_pos hk0]; unfold tkQ; (repeat' split) <;> omega
              · rw [if_neg hk0]; unfold tkQ; (repeat' split) <;> omega
            exact am_less (by intro q hq; simp only [List.mem_cons, List.not_mem_nil, or_false] at hq; rcases hq with rfl | rfl | rfl | rfl <;> simp [he]) (ih25 (k + 1) T9 (by omega) (by omega) hV9)
          · refine am_iload (q := 169) rfl (am_tab tk_X9_answerOf 62 rfl) rfl ?_
            refine am_i2l (q := 170) (am_tab tk_X9_answerOf 63 rfl) rfl ?_
            refine am_goto (t := 180) (am_tab tk_X9_answerOf 64 rfl) (by decide) ?_
            refine am_lstore_n (q := 181) (by decide) (ls2 := [(2, am_l ((aqV σ n cs 0 0 k))), (5, am_i ((aqV σ n cs 0 0 k))), (0, am_r 0), (1, am_i K), (4, am_i ((k : Int)))]) rfl (am_tab tk_X9_answerOf 69 rfl) rfl ?_
            refine am_goto (t := 190) (am_tab tk_X9_answerOf 70 rfl) (by decide) ?_
            refine am_iinc (q := 193) rfl (by omega) (by decide) (ls2 := [(4, am_i (((k : Int) + 1))), (2, am_l ((aqV σ n cs 0 0 k))), (5, am_i ((aqV σ n cs 0 0 k))), (0, am_r 0), (1, am_i K)]) rfl (am_tab tk_X9_answerOf 76 rfl) rfl ?_
            refine am_goto (t := 25) (am_tab tk_X9_answerOf 77 rfl) (by decide) ?_
            have he : aqL σ n (K - 155) cs 0 0 (k + 1) = (aqV σ n cs 0 0 k) := by
              show tkQ (K - 155) (aqV σ n cs 0 0 k) (k : Int) (aqL σ n (K - 155) cs 0 0 k) (if k = 0 then 1 else 0) = _
              by_cases hk0 : k = 0
              · rw [if_pos hk0]; unfold tkQ; (repeat' split) <;> omega
              · rw [if_neg hk0]; unfold tkQ; (repeat' split) <;> omega
            exact am_less (by intro q hq; simp only [List.mem_cons, List.not_mem_nil, or_false] at hq; rcases hq with rfl | rfl | rfl | rfl <;> simp [he]) (ih25 (k + 1) T9 (by omega) (by omega) hV9)
        · refine am_tableOut (t := 184) e60 dsw_X9_answerOf_60 (by decide) ?_
          refine am_lload_n (q := 185) rfl (am_tab tk_X9_answerOf 71 rfl) rfl ?_
          refine am_iload (q := 187) rfl (am_tab tk_X9_answerOf 72 rfl) rfl ?_
          refine am_i2l (q := 188) (am_tab tk_X9_answerOf 73 rfl) rfl ?_
          refine am_ladd (q := 189) (by omega) (am_tab tk_X9_answerOf 74 rfl) rfl ?_
          refine am_lstore_n (q := 190) (by decide) (ls2 := [(2, am_l (((aqL σ n (K - 155) cs 0 0 k) + (aqV σ n cs 0 0 k)))), (5, am_i ((aqV σ n cs 0 0 k))), (0, am_r 0), (1, am_i K), (4, am_i ((k : Int)))]) rfl (am_tab tk_X9_answerOf 75 rfl) rfl ?_
          refine am_iinc (q := 193) rfl (by omega) (by decide) (ls2 := [(4, am_i (((k : Int) + 1))), (2, am_l (((aqL σ n (K - 155) cs 0 0 k) + (aqV σ n cs 0 0 k)))), (5, am_i ((aqV σ n cs 0 0 k))), (0, am_r 0), (1, am_i K)]) rfl (am_tab tk_X9_answerOf 76 rfl) rfl ?_
          refine am_goto (t := 25) (am_tab tk_X9_answerOf 77 rfl) (by decide) ?_
          have he : aqL σ n (K - 155) cs 0 0 (k + 1) = ((aqL σ n (K - 155) cs 0 0 k) + (aqV σ n cs 0 0 k)) := by
            show tkQ (K - 155) (aqV σ n cs 0 0 k) (k : Int) (aqL σ n (K - 155) cs 0 0 k) (if k = 0 then 1 else 0) = _
            by_cases hk0 : k = 0
            · rw [if_pos hk0]; unfold tkQ; (repeat' split) <;> omega
            · rw [if_neg hk0]; unfold tkQ; (repeat' split) <;> omega
          exact am_less (by intro q hq; simp only [List.mem_cons, List.not_mem_nil, or_false] at hq; rcases hq with rfl | rfl | rfl | rfl <;> simp [he]) (ih25 (k + 1) T9 (by omega) (by omega) hV9)
  refine am_iload_n (q := 1) rfl (am_tab tk_X9_answerOf 0 rfl) rfl ?_
  refine am_sipush (q := 4) (n := 155) (by decide) rfl (am_tab tk_X9_answerOf 1 rfl) rfl ?_
  refine am_icmp_eq (q := 7) (t := 14) (am_tab tk_X9_answerOf 2 rfl) (by decide) rfl (fun h4 => ?_) (fun h4 => ?_)
  · refine am_ldc2 (q := 17) (n := (-1)) (by decide) kk_X9_377 (am_tab tk_X9_answerOf 6 rfl) rfl ?_
    refine am_goto (t := 21) (am_tab tk_X9_answerOf 7 rfl) (by decide) ?_
    refine am_lstore_n (q := 22) (by decide) (ls2 := [(2, am_l ((-1))), (0, am_r 0), (1, am_i K)]) rfl (am_tab tk_X9_answerOf 9 rfl) rfl ?_
    refine am_iconst (q := 23) (n := 0) (by decide) (am_tab tk_X9_answerOf 10 rfl) rfl ?_
    refine am_istore (q := 25) (by decide) (ls2 := [(4, am_i 0), (2, am_l ((-1))), (0, am_r 0), (1, am_i K)]) rfl (am_tab tk_X9_answerOf 11 rfl) rfl ?_
    have he0 : aqL σ n (K - 155) cs 0 0 0 = (-1) := by
      show (if K - 155 < 2 then (-1 : Int) else 0) = _
      first | (rw [if_pos (by omega)]; done) | (rw [if_neg (by omega)]; done)
    refine am_less (by intro q hq; simp only [List.mem_cons, List.not_mem_nil, or_false] at hq; rcases hq with rfl | rfl | rfl | rfl <;> simp [he0]) (L25 (_ + 1) 0 S0 (by exact Nat.lt_succ_self _) (Nat.zero_le _) hV)
  · refine am_iload_n (q := 8) rfl (am_tab tk_X9_answerOf 3 rfl) rfl ?_
    refine am_sipush (q := 11) (n := 156) (by decide) rfl (am_tab tk_X9_answerOf 4 rfl) rfl ?_
    refine am_icmp_ne (q := 14) (t := 20) (am_tab tk_X9_answerOf 5 rfl) (by decide) rfl (fun h11 => ?_) (fun h11 => ?_)
    · refine am_lconst0 (q := 21) (am_tab tk_X9_answerOf 8 rfl) rfl ?_
      refine am_lstore_n (q := 22) (by decide) (ls2 := [(2, am_l 0), (0, am_r 0), (1, am_i K)]) rfl (am_tab tk_X9_answerOf 9 rfl) rfl ?_
      refine am_iconst (q := 23) (n := 0) (by decide) (am_tab tk_X9_answerOf 10 rfl) rfl ?_
      refine am_istore (q := 25) (by decide) (ls2 := [(4, am_i 0), (2, am_l 0), (0, am_r 0), (1, am_i K)]) rfl (am_tab tk_X9_answerOf 11 rfl) rfl ?_
      have he0 : aqL σ n (K - 155) cs 0 0 0 = 0 := by
        show (if K - 155 < 2 then (-1 : Int) else 0) = _
        first | (rw [if_pos (by omega)]; done) | (rw [if_neg (by omega)]; done)
      refine am_less (by intro q hq; simp only [List.mem_cons, List.not_mem_nil, or_false] at hq; rcases hq with rfl | rfl | rfl | rfl <;> simp [he0]) (L25 (_ + 1) 0 S0 (by exact Nat.lt_succ_self _) (Nat.zero_le _) hV)
    · refine am_ldc2 (q := 17) (n := (-1)) (by decide) kk_X9_377 (am_tab tk_X9_answerOf 6 rfl) rfl ?_
      refine am_goto (t := 21) (am_tab tk_X9_answerOf 7 rfl) (by decide) ?_
      refine am_lstore_n (q := 22) (by decide) (ls2 := [(2, am_l ((-1))), (0, am_r 0), (1, am_i K)]) rfl (am_tab tk_X9_answerOf 9 rfl) rfl ?_
      refine am_iconst (q := 23) (n := 0) (by decide) (am_tab tk_X9_answerOf 10 rfl) rfl ?_
      refine am_istore (q := 25) (by decide) (ls2 := [(4, am_i 0), (2, am_l ((-1))), (0, am_r 0), (1, am_i K)]) rfl (am_tab tk_X9_answerOf 11 rfl) rfl ?_
      have he0 : aqL σ n (K - 155) cs 0 0 0 = (-1) := by
        show (if K - 155 < 2 then (-1 : Int) else 0) = _
        first | (rw [if_pos (by omega)]; done) | (rw [if_neg (by omega)]; done)
      refine am_less (by intro q hq; simp only [List.mem_cons, List.not_mem_nil, or_false] at hq; rcases hq with rfl | rfl | rfl | rfl <;> simp [he0]) (L25 (_ + 1) 0 S0 (by exact Nat.lt_succ_self _) (Nat.zero_le _) hV)
