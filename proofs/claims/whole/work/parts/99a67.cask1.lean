theorem zK_160 {b : Nat → Int} {E i : Nat} : zK b E i ≤ 160 := by
  unfold zK zk
  split
  · decide
  · have hw := wkI_r b (zP b E i) (rn isL b E (zP b E i))
    split
    · split
      · decide
      · split
        · split <;> decide
        · omega
    · split
      · split
        · decide
        · split <;> decide
      · split
        · rename_i h
          have h2 : (40 ≤ b (zP b E i) ∧ b (zP b E i) ≤ 45) ∨ b (zP b E i) = 47 ∨ (59 ≤ b (zP b E i) ∧ b (zP b E i) ≤ 62) ∨ b (zP b E i) = 91 ∨ b (zP b E i) = 93 := of_decide_eq_true h
          omega
        · decide
theorem aq_one {b : Nat → Int} {E : Nat} (hk : 155 ≤ zK b E 0) : 1 ≤ zP b E 1 := by
  have h := akF_i (b := b) (E := E) (w := (zK b E 0 - 128).toNat) (p := .inl 0) (Nat.zero_le _)
  have e : akF b E (zK b E 0 - 128).toNat (.inl 0) = .inl 1 := if_pos (by show zK b E 0 = 128 + (((zK b E 0 - 128).toNat : Nat) : Int); omega)
  rw [e] at h
  exact h
/-- a question's rule, as the class has read it -/
def AQs (b : Nat → Int) (E : Nat) : SX → Prop
  | .inl q => (∃ t : List Bool, t.length = 1 ∧ tyR 2 [] q.2.1 = some t ∧ (zK b E 0 ≤ 157 → t = [true])) ∧ 155 ≤ zK b E 0 ∧ aqQ b E = .inl (q.1, q.2.1.reverse)
  | .inr q => aqQ b E = .inr q.1
theorem aq_T {b : Nat → Int} {E : Nat} (hE : E ≤ 1600) (h1 : 155 ≤ zK b E 0) (h2 : zK b E 0 ≤ 157) : AQs b E (testB b E (factX b E 2 6) (.inl (1, [], 0))) := by
  have ht := test_0 (b := b) hE (show (2 : Int) = 0 ∨ (2 : Int) = 1 ∨ (2 : Int) = 2 by decide) 1 (aq_one h1)
  have e : aqQ b E = tsF b E 2 1700 1 [] [] 0 := by
    unfold aqQ
    rw [if_pos ⟨h1, by omega⟩, if_pos (by omega)]
  cases hr : testB b E (factX b E 2 6) (.inl (1, [], 0)) with
  | inr q =>
    rw [hr] at ht
    exact e.trans ht
  | inl q =>
    rw [hr] at ht
    obtain ⟨_, _, ns, g1, g2, g3⟩ := ht
    rw [List.nil_append] at g1
    rw [← g1] at g2 g3
    exact ⟨⟨_, rfl, g2, fun _ => rfl⟩, h1, e.trans g3⟩
theorem aq_S {b : Nat → Int} {E : Nat} (hE : E ≤ 1600) (h1 : 157 < zK b E 0) : AQs b E (sumB b E (partX b E 2 6) (.inl (1, [], 0))) := by
  have h3 := zK_160 (b := b) (E := E) (i := 0)
  have ht := sum_0 (b := b) hE (show (2 : Int) = 0 ∨ (2 : Int) = 1 ∨ (2 : Int) = 2 by decide) 1 (aq_one (by omega))
  have e : aqQ b E = smF b E 2 1700 1 [] [] 0 := by
    unfold aqQ
    rw [if_pos ⟨by omega, h3⟩, if_neg (by omega)]
  cases hr : sumB b E (partX b E 2 6) (.inl (1, [], 0)) with
  | inr q =>
    rw [hr] at ht
    exact e.trans ht
  | inl q =>
    rw [hr] at ht
    obtain ⟨_, _, ns, g1, g2, g3⟩ := ht
    rw [List.nil_append] at g1
    rw [← g1] at g2 g3
    exact ⟨⟨_, rfl, g2, fun z => by omega⟩, by omega, e.trans g3⟩
theorem aq_N {b : Nat → Int} {E : Nat} (h1 : zK b E 0 < 155) : AQs b E (testB b E (factX b E 2 6) (.inr ((1, (zP b E 0 : Int)), 0))) := by
  rw [testX_r]
  show aqQ b E = .inr (1, (zP b E 0 : Int))
  unfold aqQ
  rw [if_neg (by omega)]
theorem RX_2 {b : Nat → Int} {E : Nat} {cv : Nat → Int} {M : Nat} {σ : am_H} {p : PZ} (hX : RY b E cv M σ p) (h7 : σ.2.1 27 7 = 0) (h11 : σ.2.1 27 11 = 1) (h28 : σ.2.1 28 1 = 0) : RX b E cv M 2 σ (sx0 p) := by
  refine ⟨⟨hX.1, hX.2.1, hX.2.2.1, by omega, ?_, fun h => absurd rfl h⟩, ?_⟩
  · rw [h11]; rfl
  · cases p with
    | inl i => exact ⟨hX.2.2.2.1, hX.2.2.2.2, ⟨h28, Nat.zero_le _⟩, fun k hk => absurd hk (Nat.not_lt_zero _), h7, (show (0 : Int) ≤ 0 by decide), (show (0 : Int) ≤ 6 by decide)⟩
    | inr e =>
      refine ⟨hX.2.2.2.1, by omega, ?_, (show (0 : Int) ≤ 0 by decide), (show (0 : Int) ≤ 6 by decide)⟩
      show (0 : Int) ≤ σ.2.1 27 7 ∧ σ.2.1 27 7 ≤ 0 + 1
      omega
/-- a question as the class has read it -/
def AQP (b : Nat → Int) (E : Nat) (r : Option am_V) (τ : am_H) : List Int ⊕ (Int × Int) → Prop
  | .inl cs => r = some (am_i 1) ∧ RLr 28 τ cs ∧ (okQ cs [] = true ∧ ∀ v ∈ cs, ¬ (45 ≤ v ∧ v ≤ 47)) ∧ (155 ≤ zK b E 0 ∧ zK b E 0 ≤ 160) ∧ (zK b E 0 ≤ 157 → tyR 2 [] cs = some [true]) ∧ τ.2.1 27 10 = zK b E 0 ∧ τ.2.1 27 8 = 0 ∧ τ.2.1 27 9 = -1
  | .inr e => r = some (am_i 0) ∧ ¬ e.1 = 0 ∧ τ.2.1 27 8 = e.1 ∧ τ.2.1 27 9 = e.2
theorem aq_ok {b : Nat → Int} {E : Nat} {q : Nat × List Int × Int} (h : AQs b E (.inl q)) : okQ q.2.1 [] = true ∧ ∀ v ∈ q.2.1, ¬ (45 ≤ v ∧ v ≤ 47) := by
  obtain ⟨⟨t, h1, h2, _⟩, _, _⟩ := h
  exact ⟨okQ_of _ _ _ h1 h2, no_4567 _ _ _ h2⟩
/-- the codes of a question are well made -/
theorem aqF_ok {b : Nat → Int} {E : Nat} (hE : E ≤ 1600) {cs : List Int} (h : aqF b E = .inl cs) : okQ cs [] = true := by
  have fin : ∀ s, AQs b E s → okQ cs [] = true := fun s hs => by
    cases s with
    | inr q =>
      have e : aqQ b E = .inr q.1 := hs
      unfold aqF at h
      rw [e] at h
      exact absurd h (by simp)
    | inl q =>
      have e : aqQ b E = .inl (q.1, q.2.1.reverse) := hs.2.2
      have g := aq_ok hs
      unfold aqF at h
      rw [e] at h
      have h2 : (if zK b E q.1 = 6 then (.inl q.2.1.reverse.reverse : List Int ⊕ (Int × Int)) else .inr (1, (zP b E q.1 : Int))) = .inl cs := h
      by_cases g6 : zK b E q.1 = 6
      · rw [if_pos g6, List.reverse_reverse] at h2
        rw [← Sum.inl.inj h2]
        exact g.1
      · rw [if_neg g6] at h2
        exact absurd h2 (by simp)
  by_cases g1 : zK b E 0 < 155
  · exact fin _ (aq_N g1)
  · by_cases g2 : zK b E 0 ≤ 157
    · exact fin _ (aq_T hE (by omega) g2)
    · exact fin _ (aq_S hE (by omega))
theorem aq_fail {b : Nat → Int} {E : Nat} {cv : Nat → Int} {M : Nat} {T T4 : am_H} {s : SX} (hX4 : RY b E cv M T4 (flZ 1 (T.2.1 27 5) (SZ s))) (hX : RY b E cv M T (SZ s)) (hA : AQs b E s) (h6 : ¬ kdZ b E (SZ s) = 6) : ∃ e, RY b E cv M T4 (.inr e) ∧ aqF b E = .inr e := by
  cases s with
  | inr q => exact absurd rfl h6
  | inl q =>
    refine ⟨_, hX4, ?_⟩
    have e : aqQ b E = .inl (q.1, q.2.1.reverse) := hA.2.2
    have h5 : T.2.1 27 5 = (zP b E q.1 : Int) := hX.2.2.2.1.2.2.1
    unfold aqF
    rw [e, h5]
    exact if_neg h6
theorem aq_fin1 {b : Nat → Int} {E : Nat} {cv : Nat → Int} {M : Nat} {T : am_H} {s : SX} (hX : RX b E cv M 2 T s) (hA : AQs b E s) (h10 : T.2.1 27 10 = zK b E 0) (h6 : kdZ b E (SZ s) = 6) (v : Int) (hv : (fkZ (SZ s) = 0 → v = 1) ∧ (¬ fkZ (SZ s) = 0 → v = 0)) : AQP b E (some (am_i v)) T (aqF b E) := by
  have hL := hX.1.1
  cases s with
  | inl q =>
    have e : aqQ b E = .inl (q.1, q.2.1.reverse) := hA.2.2
    have e2 : aqF b E = .inl q.2.1 := by
      unfold aqF
      rw [e]
      refine (if_pos h6).trans ?_
      rw [List.reverse_reverse]
    obtain ⟨h1, h2, h3, h4, h5, _⟩ := hX.2
    rw [e2, hv.1 rfl]
    exact ⟨rfl, ⟨Ls_28 hL, 29, 1600, Lr_28_0 hL, Ls_29 hL, by decide, ⟨h3.2, by decide⟩, h3.1, h4⟩, aq_ok hA, ⟨hA.2.1, zK_160⟩, fun z => by obtain ⟨t, _, g2, g3⟩ := hA.1; rw [g2, g3 z], h10, h1.2.2.2.2.1, h1.2.2.2.2.2⟩
  | inr q =>
    have e : aqQ b E = .inr q.1 := hA
    have e2 : aqF b E = .inr q.1 := by
      unfold aqF
      rw [e]
    have hz := hX.2.1.2.1
    rw [e2, hv.2 hz]
    exact ⟨rfl, hz, hX.2.1.1, hX.2.1.2.2.1⟩
theorem aq_fin2 {b : Nat → Int} {E : Nat} {cv : Nat → Int} {M : Nat} {T : am_H} {e : Int × Int} (hX : RY b E cv M T (.inr e)) (hE : aqF b E = .inr e) (v : Int) (hv : (fkZ (.inr e) = 0 → v = 1) ∧ (¬ fkZ (.inr e) = 0 → v = 0)) : AQP b E (some (am_i v)) T (aqF b E) := by
  have hz : ¬ e.1 = 0 := hX.2.2.2.1.2.1
  rw [hE, hv.2 hz]
  exact ⟨rfl, hz, hX.2.2.2.1.1, hX.2.2.2.1.2.2.1⟩
def W_rq (a j : Nat) : Prop := 27 ≤ a ∧ a ≤ 31
theorem W_ps_rq {S T : am_H} (h : frw W_ps S T) : frw W_rq S T := h.mono (fun a j z => by unfold W_ps at z; unfold W_rq; omega)
theorem W_rz_rq {S T : am_H} (h : frw W_rz S T) : frw W_rq S T := h.mono (fun a j z => by unfold W_rz at z; unfold W_rq; omega)
set_option maxRecDepth 100000 in
theorem c_readQuestion (b : Nat → Int) (E : Nat) (σ : am_H) (hL : lay σ)  (hT : TP b E σ) : am_met M_X4_readQuestion [am_r 27] σ (fun r σ' => AQP b E r σ' (aqF b E) ∧ frw W_rq σ σ') := by
  refine am_qq (fun Q hQ => ?_)
  refine am_enter (show plainFor yX4_readQuestion = true by decide +kernel) rfl (Nat.le_of_ble_eq_true rfl) (fun _ _ _ => trivial) ?_
  refine am_aload_n (q := 1) rfl (am_tab tk_X4_readQuestion 0 rfl) rfl ?_
  refine am_callVr (q := 4) (me2 := M_X4_begin) (b := 27) (kb := 4) (nb := 13) (As := []) (rest := []) (c_begin b E σ hL hT) ⟨rfl, rfl⟩ (Ls_27 hL) (by decide) ⟨Or.inl km_X4_33, kc_X4_begin, kn_X4, kd_X4_begin, ⟨(Nat.le_of_ble_eq_true rfl), (Nat.le_of_ble_eq_true rfl)⟩, ⟨(Nat.le_of_ble_eq_true rfl), (Nat.le_of_ble_eq_true rfl)⟩, (Nat.le_of_ble_eq_true rfl)⟩ ki_X4_begin ks_X4_begin rfl (am_tab tk_X4_readQuestion 1 rfl) rfl ?_
  rintro r T1 ⟨rfl, M, hTK, hRZ, h7, hF1⟩
  have hE := hTK.2.1.2
  refine am_aload_n (q := 5) rfl (am_tab tk_X4_readQuestion 2 rfl) rfl ?_
  refine am_iconst (q := 6) (n := 1) (by decide) (am_tab tk_X4_readQuestion 3 rfl) rfl ?_
  refine am_putZ (q := 9) (k := 4) (n := 13) (j := 11) (Ls_27 (hF1.L hL)) (by decide) rfl (by first | exact Or.inl rfl | exact Or.inr rfl | omega) (by decide) (Or.inl ⟨kf_X4_36, rfl⟩) (am_tab tk_X4_readQuestion 4 rfl) rfl ?_
  refine am_aload_n (q := 10) rfl (am_tab tk_X4_readQuestion 5 rfl) rfl ?_
  refine am_getR (q := 13) (a := 27) (k := 4) (n := 13) (j := 1) (r := some (28)) (Ls_27 (hF1.L hL)) (by decide) rfl (Lr_27_1 (hF1.L hL)) (by decide) (Or.inl kf_X4_14) (am_tab tk_X4_readQuestion 6 rfl) rfl ?_
  refine am_iconst (q := 14) (n := 0) (by decide) (am_tab tk_X4_readQuestion 7 rfl) rfl ?_
  refine am_putI (q := 17) (k := 5) (n := 2) (j := 1) (Ls_28 (hF1.L hL)) (by decide) rfl (by decide) (Or.inr (Or.inl ⟨kf_X4_65, rfl⟩)) (am_tab tk_X4_readQuestion 8 rfl) rfl ?_
  refine am_aload_n (q := 18) rfl (am_tab tk_X4_readQuestion 9 rfl) rfl ?_
  refine am_aload_n (q := 19) rfl (am_tab tk_X4_readQuestion 10 rfl) rfl ?_
  refine am_getI (q := 22) (a := 27) (k := 4) (n := 13) (j := 4) (x := (zK b E 0)) (Ls_27 (hF1.L hL)) (by decide) rfl hRZ.2.1 (by decide) (Or.inl kf_X4_45) (am_tab tk_X4_readQuestion 11 rfl) rfl ?_
  refine am_putI (q := 25) (k := 4) (n := 13) (j := 10) (Ls_27 (hF1.L hL)) (by decide) rfl (by decide) (Or.inl ⟨kf_X4_68, rfl⟩) (am_tab tk_X4_readQuestion 12 rfl) rfl ?_
  have hX : RY b E (cV b E) M (am_setN (am_setN (am_setN T1 27 11 1) 28 1 0) 27 10 (zK b E 0)) (.inl 0) := ⟨hF1.L hL, ⟨hTK.1, hTK.2⟩, TKv_cV b E M, hRZ, Nat.zero_le _⟩
  refine am_aload_n (q := 26) rfl (am_tab tk_X4_readQuestion 13 rfl) rfl ?_
  refine am_aload_n (q := 27) rfl (am_tab tk_X4_readQuestion 14 rfl) rfl ?_
  refine am_getI (q := 30) (a := 27) (k := 4) (n := 13) (j := 10) (x := (zK b E 0)) (Ls_27 (hF1.L hL)) (by decide) rfl rfl (by decide) (Or.inl kf_X4_68) (am_tab tk_X4_readQuestion 15 rfl) rfl ?_
  refine am_sipush (q := 33) (n := 155) (by decide) rfl (am_tab tk_X4_readQuestion 16 rfl) rfl ?_
  refine am_icmp_lt (q := 36) (t := 40) (am_tab tk_X4_readQuestion 17 rfl) (by decide) rfl (fun h33 => ?_) (fun h33 => ?_)
  · refine am_iconst (q := 41) (n := 0) (by decide) (am_tab tk_X4_readQuestion 20 rfl) rfl ?_
    refine am_iconst (q := 42) (n := 1) (by decide) (am_tab tk_X4_readQuestion 21 rfl) rfl ?_
    refine am_callVr (q := 45) (me2 := M_X4_pass) (b := 27) (kb := 4) (nb := 13) (As := [am_i 0, am_i 1]) (rest := []) (c_passYF hX 1 (by decide)) ⟨rfl, rfl⟩ (Ls_27 (hF1.L hL)) (by decide) ⟨Or.inl km_X4_71, kc_X4_pass, kn_X4, kd_X4_pass, ⟨(Nat.le_of_ble_eq_true rfl), (Nat.le_of_ble_eq_true rfl)⟩, ⟨(Nat.le_of_ble_eq_true rfl), (Nat.le_of_ble_eq_true rfl)⟩, (Nat.le_of_ble_eq_true rfl)⟩ ki_X4_pass ks_X4_pass rfl (am_tab tk_X4_readQuestion 22 rfl) rfl ?_
    rintro r T2 ⟨rfl, hX2a, hG2⟩
    have hX2 : RY b E (cV b E) M T2 (.inr (1, (zP b E 0 : Int)) : PZ) := hX2a
    have h10 : T2.2.1 27 10 = zK b E 0 := hG2.2.2 27 10 (by unfold W_rz; omega)
    have hXs : RX b E (cV b E) M 2 T2 (sx0 (.inr (1, (zP b E 0 : Int)) : PZ)) := RX_2 hX2 ((hG2.2.2 27 7 (by unfold W_rz; omega)).trans h7) (hG2.2.2 27 11 (by unfold W_rz; omega)) (hG2.2.2 28 1 (by unfold W_rz; omega))
    have hF2 : frw W_rq σ T2 := ((((hF1.mono (fun a j z => by unfold W_bg W_tk at z; unfold W_rq; omega)).setN (by unfold W_rq; omega)).setN (by unfold W_rq; omega)).setN (by unfold W_rq; omega)).trans (W_rz_rq hG2)
    refine am_aload_n (q := 46) rfl (am_tab tk_X4_readQuestion 23 rfl) rfl ?_
    refine am_getI (q := 49) (a := 27) (k := 4) (n := 13) (j := 10) (x := (zK b E 0)) (Ls_27 hX2.1) (by decide) rfl h10 (by decide) (Or.inl kf_X4_68) (am_tab tk_X4_readQuestion 24 rfl) rfl ?_
    refine am_sipush (q := 52) (n := 157) (by decide) rfl (am_tab tk_X4_readQuestion 25 rfl) rfl ?_
    refine am_icmp_gt (q := 55) (t := 62) (am_tab tk_X4_readQuestion 26 rfl) (by decide) rfl (fun h52 => ?_) (fun h52 => ?_)
    · exact absurd h52 (by omega)
    · refine am_aload_n (q := 56) rfl (am_tab tk_X4_readQuestion 27 rfl) rfl ?_
      refine am_callVr (q := 59) (me2 := (M_X4_readTest 6)) (b := 27) (kb := 4) (nb := 13) (As := []) (rest := []) (RC_test b E (cV b E) M 2 6 T2 (sx0 (.inr (1, (zP b E 0 : Int)) : PZ)) hXs rfl) ⟨rfl, rfl⟩ (Ls_27 hX2.1) (by decide) ⟨Or.inl km_X4_75, kc_X4_readTest, kn_X4, kd_X4_readTest, ⟨(Nat.le_of_ble_eq_true rfl), (Nat.le_of_ble_eq_true rfl)⟩, ⟨(Nat.le_of_ble_eq_true rfl), (Nat.le_of_ble_eq_true rfl)⟩, (Nat.le_of_ble_eq_true rfl)⟩ ki_X4_readTest ks_X4_readTest rfl (am_tab tk_X4_readQuestion 28 rfl) rfl ?_
      rintro r T3 ⟨rfl, hX3a, hF3a⟩
      obtain ⟨s, hX3, hA⟩ : ∃ s, RX b E (cV b E) M 2 T3 s ∧ AQs b E s := ⟨_, hX3a, aq_N h33⟩
      have hF3 := hF2.trans (W_ps_rq hF3a)
      have h103 : T3.2.1 27 10 = zK b E 0 := (hF3a.2.2 27 10 (by unfold W_ps; omega)).trans h10
      refine am_goto (t := 66) (am_tab tk_X4_readQuestion 29 rfl) (by decide) ?_
      refine am_aload_n (q := 67) rfl (am_tab tk_X4_readQuestion 32 rfl) rfl ?_
      refine am_getI (q := 70) (a := 27) (k := 4) (n := 13) (j := 4) (x := (kdZ b E (SZ s))) (Ls_27 hX3.1.1) (by decide) rfl hX3.ry.kd (by decide) (Or.inl kf_X4_45) (am_tab tk_X4_readQuestion 33 rfl) rfl ?_
      refine am_bipush (q := 72) (n := 6) (by decide) rfl (am_tab tk_X4_readQuestion 34 rfl) rfl ?_
      refine am_icmp_eq (q := 75) (t := 84) (am_tab tk_X4_readQuestion 35 rfl) (by decide) rfl (fun h72 => ?_) (fun h72 => ?_)
      · refine am_aload_n (q := 85) rfl (am_tab tk_X4_readQuestion 41 rfl) rfl ?_
        refine am_getI (q := 88) (a := 27) (k := 4) (n := 13) (j := 8) (x := (fkZ (SZ s))) (Ls_27 hX3.1.1) (by decide) rfl hX3.ry.fk (by decide) (Or.inl kf_X4_62) (am_tab tk_X4_readQuestion 42 rfl) rfl ?_
        refine am_if_ne (q := 91) (t := 95) (am_tab tk_X4_readQuestion 43 rfl) (by decide) rfl (fun h88 => ?_) (fun h88 => ?_)
        · refine am_iconst (q := 96) (n := 0) (by decide) (am_tab tk_X4_readQuestion 46 rfl) rfl ?_
          refine am_iret (Or.inr ⟨rfl, by first | exact Or.inl rfl | exact Or.inr rfl | omega⟩) (Nat.le_of_ble_eq_true rfl) (Nat.le_of_ble_eq_true rfl) (am_tab tk_X4_readQuestion 47 rfl) ?_
          refine hQ _ _ ?_
          exact ⟨aq_fin1 hX3 hA h103 h72 _ ⟨fun z => absurd z h88, fun _ => rfl⟩, hF3⟩
        · refine am_iconst (q := 92) (n := 1) (by decide) (am_tab tk_X4_readQuestion 44 rfl) rfl ?_
          refine am_goto (t := 96) (am_tab tk_X4_readQuestion 45 rfl) (by decide) ?_
          refine am_iret (Or.inr ⟨rfl, by first | exact Or.inl rfl | exact Or.inr rfl | omega⟩) (Nat.le_of_ble_eq_true rfl) (Nat.le_of_ble_eq_true rfl) (am_tab tk_X4_readQuestion 47 rfl) ?_
          refine hQ _ _ ?_
          exact ⟨aq_fin1 hX3 hA h103 h72 _ ⟨fun _ => rfl, fun z => absurd h88 z⟩, hF3⟩
      · refine am_aload_n (q := 76) rfl (am_tab tk_X4_readQuestion 36 rfl) rfl ?_
        refine am_iconst (q := 77) (n := 1) (by decide) (am_tab tk_X4_readQuestion 37 rfl) rfl ?_
        refine am_aload_n (q := 78) rfl (am_tab tk_X4_readQuestion 38 rfl) rfl ?_
        refine am_getI (q := 81) (a := 27) (k := 4) (n := 13) (j := 5) (x := (T3.2.1 27 5)) (Ls_27 hX3.1.1) (by decide) rfl rfl (by decide) (Or.inl kf_X4_55) (am_tab tk_X4_readQuestion 39 rfl) rfl ?_
        refine am_callVr (q := 84) (me2 := M_X4_fail) (b := 27) (kb := 4) (nb := 13) (As := [am_i 1, am_i ((T3.2.1 27 5))]) (rest := []) (c_failY hX3.ry 1 _ (by decide)) ⟨rfl, rfl⟩ (Ls_27 hX3.1.1) (by decide) ⟨Or.inl km_X4_58, kc_X4_fail, kn_X4, kd_X4_fail, ⟨(Nat.le_of_ble_eq_true rfl), (Nat.le_of_ble_eq_true rfl)⟩, ⟨(Nat.le_of_ble_eq_true rfl), (Nat.le_of_ble_eq_true rfl)⟩, (Nat.le_of_ble_eq_true rfl)⟩ ki_X4_fail ks_X4_fail rfl (am_tab tk_X4_readQuestion 40 rfl) rfl ?_
        rintro r T4 ⟨rfl, hX4a, hF4a⟩
        obtain ⟨e4, hX4, hR4⟩ := aq_fail hX4a hX3.ry hA h72
        have hF4 := hF3.trans (W_rz_rq hF4a)
        refine am_aload_n (q := 85) rfl (am_tab tk_X4_readQuestion 41 rfl) rfl ?_
        refine am_getI (q := 88) (a := 27) (k := 4) (n := 13) (j := 8) (x := (fkZ (.inr e4 : PZ))) (Ls_27 hX4.1) (by decide) rfl hX4.fk (by decide) (Or.inl kf_X4_62) (am_tab tk_X4_readQuestion 42 rfl) rfl ?_
        refine am_if_ne (q := 91) (t := 95) (am_tab tk_X4_readQuestion 43 rfl) (by decide) rfl (fun h88 => ?_) (fun h88 => ?_)
        · refine am_iconst (q := 96) (n := 0) (by decide) (am_tab tk_X4_readQuestion 46 rfl) rfl ?_
          refine am_iret (Or.inr ⟨rfl, by first | exact Or.inl rfl | exact Or.inr rfl | omega⟩) (Nat.le_of_ble_eq_true rfl) (Nat.le_of_ble_eq_true rfl) (am_tab tk_X4_readQuestion 47 rfl) ?_
          refine hQ _ _ ?_
          exact ⟨aq_fin2 hX4 hR4 _ ⟨fun z => absurd z h88, fun _ => rfl⟩, hF4⟩
        · refine am_iconst (q := 92) (n := 1) (by decide) (am_tab tk_X4_readQuestion 44 rfl) rfl ?_
          refine am_goto (t := 96) (am_tab tk_X4_readQuestion 45 rfl) (by decide) ?_
          refine am_iret (Or.inr ⟨rfl, by first | exact Or.inl rfl | exact Or.inr rfl | omega⟩) (Nat.le_of_ble_eq_true rfl) (Nat.le_of_ble_eq_true rfl) (am_tab tk_X4_readQuestion 47 rfl) ?_
          refine hQ _ _ ?_
          exact ⟨aq_fin2 hX4 hR4 _ ⟨fun _ => rfl, fun z => absurd h88 z⟩, hF4⟩
  · refine am_iconst (q := 37) (n := 1) (by decide) (am_tab tk_X4_readQuestion 18 rfl) rfl ?_
    refine am_goto (t := 41) (am_tab tk_X4_readQuestion 19 rfl) (by decide) ?_
    refine am_iconst (q := 42) (n := 1) (by decide) (am_tab tk_X4_readQuestion 21 rfl) rfl ?_
    refine am_callVr (q := 45) (me2 := M_X4_pass) (b := 27) (kb := 4) (nb := 13) (As := [am_i 1, am_i 1]) (rest := []) (c_passYT hX (show ¬ zK b E 0 = 6 by omega) 1) ⟨rfl, rfl⟩ (Ls_27 (hF1.L hL)) (by decide) ⟨Or.inl km_X4_71, kc_X4_pass, kn_X4, kd_X4_pass, ⟨(Nat.le_of_ble_eq_true rfl), (Nat.le_of_ble_eq_true rfl)⟩, ⟨(Nat.le_of_ble_eq_true rfl), (Nat.le_of_ble_eq_true rfl)⟩, (Nat.le_of_ble_eq_true rfl)⟩ ki_X4_pass ks_X4_pass rfl (am_tab tk_X4_readQuestion 22 rfl) rfl ?_
    rintro r T2 ⟨rfl, hX2a, hG2⟩
    have hX2 : RY b E (cV b E) M T2 (.inl 1 : PZ) := hX2a
    have h10 : T2.2.1 27 10 = zK b E 0 := hG2.2.2 27 10 (by unfold W_rz; omega)
    have hXs : RX b E (cV b E) M 2 T2 (sx0 (.inl 1 : PZ)) := RX_2 hX2 ((hG2.2.2 27 7 (by unfold W_rz; omega)).trans h7) (hG2.2.2 27 11 (by unfold W_rz; omega)) (hG2.2.2 28 1 (by unfold W_rz; omega))
    have hF2 : frw W_rq σ T2 := ((((hF1.mono (fun a j z => by unfold W_bg W_tk at z; unfold W_rq; omega)).setN (by unfold W_rq; omega)).setN (by unfold W_rq; omega)).setN (by unfold W_rq; omega)).trans (W_rz_rq hG2)
    refine am_aload_n (q := 46) rfl (am_tab tk_X4_readQuestion 23 rfl) rfl ?_
    refine am_getI (q := 49) (a := 27) (k := 4) (n := 13) (j := 10) (x := (zK b E 0)) (Ls_27 hX2.1) (by decide) rfl h10 (by decide) (Or.inl kf_X4_68) (am_tab tk_X4_readQuestion 24 rfl) rfl ?_
    refine am_sipush (q := 52) (n := 157) (by decide) rfl (am_tab tk_X4_readQuestion 25 rfl) rfl ?_
    refine am_icmp_gt (q := 55) (t := 62) (am_tab tk_X4_readQuestion 26 rfl) (by decide) rfl (fun h52 => ?_) (fun h52 => ?_)
    · refine am_aload_n (q := 63) rfl (am_tab tk_X4_readQuestion 30 rfl) rfl ?_
      refine am_callVr (q := 66) (me2 := (M_X4_readSum 6)) (b := 27) (kb := 4) (nb := 13) (As := []) (rest := []) (RC_sum b E (cV b E) M 2 6 T2 (sx0 (.inl 1 : PZ)) hXs rfl) ⟨rfl, rfl⟩ (Ls_27 hX2.1) (by decide) ⟨Or.inl km_X4_78, kc_X4_readSum, kn_X4, kd_X4_readSum, ⟨(Nat.le_of_ble_eq_true rfl), (Nat.le_of_ble_eq_true rfl)⟩, ⟨(Nat.le_of_ble_eq_true rfl), (Nat.le_of_ble_eq_true rfl)⟩, (Nat.le_of_ble_eq_true rfl)⟩ ki_X4_readSum ks_X4_readSum rfl (am_tab tk_X4_readQuestion 31 rfl) rfl ?_
      rintro r T3 ⟨rfl, hX3a, hF3a⟩
      obtain ⟨s, hX3, hA⟩ : ∃ s, RX b E (cV b E) M 2 T3 s ∧ AQs b E s := ⟨_, hX3a, aq_S hE (by omega)⟩
      have hF3 := hF2.trans (W_ps_rq hF3a)
      have h103 : T3.2.1 27 10 = zK b E 0 := (hF3a.2.2 27 10 (by unfold W_ps; omega)).trans h10
      refine am_aload_n (q := 67) rfl (am_tab tk_X4_readQuestion 32 rfl) rfl ?_
      refine am_getI (q := 70) (a := 27) (k := 4) (n := 13) (j := 4) (x := (kdZ b E (SZ s))) (Ls_27 hX3.1.1) (by decide) rfl hX3.ry.kd (by decide) (Or.inl kf_X4_45) (am_tab tk_X4_readQuestion 33 rfl) rfl ?_
      refine am_bipush (q := 72) (n := 6) (by decide) rfl (am_tab tk_X4_readQuestion 34 rfl) rfl ?_
      refine am_icmp_eq (q := 75) (t := 84) (am_tab tk_X4_readQuestion 35 rfl) (by decide) rfl (fun h72 => ?_) (fun h72 => ?_)
      · refine am_aload_n (q := 85) rfl (am_tab tk_X4_readQuestion 41 rfl) rfl ?_
        refine am_getI (q := 88) (a := 27) (k := 4) (n := 13) (j := 8) (x := (fkZ (SZ s))) (Ls_27 hX3.1.1) (by decide) rfl hX3.ry.fk (by decide) (Or.inl kf_X4_62) (am_tab tk_X4_readQuestion 42 rfl) rfl ?_
        refine am_if_ne (q := 91) (t := 95) (am_tab tk_X4_readQuestion 43 rfl) (by decide) rfl (fun h88 => ?_) (fun h88 => ?_)
        · refine am_iconst (q := 96) (n := 0) (by decide) (am_tab tk_X4_readQuestion 46 rfl) rfl ?_
          refine am_iret (Or.inr ⟨rfl, by first | exact Or.inl rfl | exact Or.inr rfl | omega⟩) (Nat.le_of_ble_eq_true rfl) (Nat.le_of_ble_eq_true rfl) (am_tab tk_X4_readQuestion 47 rfl) ?_
          refine hQ _ _ ?_
          exact ⟨aq_fin1 hX3 hA h103 h72 _ ⟨fun z => absurd z h88, fun _ => rfl⟩, hF3⟩
        · refine am_iconst (q := 92) (n := 1) (by decide) (am_tab tk_X4_readQuestion 44 rfl) rfl ?_
          refine am_goto (t := 96) (am_tab tk_X4_readQuestion 45 rfl) (by decide) ?_
          refine am_iret (Or.inr ⟨rfl, by first | exact Or.inl rfl | exact Or.inr rfl | omega⟩) (Nat.le_of_ble_eq_true rfl) (Nat.le_of_ble_eq_true rfl) (am_tab tk_X4_readQuestion 47 rfl) ?_
          refine hQ _ _ ?_
          exact ⟨aq_fin1 hX3 hA h103 h72 _ ⟨fun _ => rfl, fun z => absurd h88 z⟩, hF3⟩
      · refine am_aload_n (q := 76) rfl (am_tab tk_X4_readQuestion 36 rfl) rfl ?_
        refine am_iconst (q := 77) (n := 1) (by decide) (am_tab tk_X4_readQuestion 37 rfl) rfl ?_
        refine am_aload_n (q := 78) rfl (am_tab tk_X4_readQuestion 38 rfl) rfl ?_
        refine am_getI (q := 81) (a := 27) (k := 4) (n := 13) (j := 5) (x := (T3.2.1 27 5)) (Ls_27 hX3.1.1) (by decide) rfl rfl (by decide) (Or.inl kf_X4_55) (am_tab tk_X4_readQuestion 39 rfl) rfl ?_
        refine am_callVr (q := 84) (me2 := M_X4_fail) (b := 27) (kb := 4) (nb := 13) (As := [am_i 1, am_i ((T3.2.1 27 5))]) (rest := []) (c_failY hX3.ry 1 _ (by decide)) ⟨rfl, rfl⟩ (Ls_27 hX3.1.1) (by decide) ⟨Or.inl km_X4_58, kc_X4_fail, kn_X4, kd_X4_fail, ⟨(Nat.le_of_ble_eq_true rfl), (Nat.le_of_ble_eq_true rfl)⟩, ⟨(Nat.le_of_ble_eq_true rfl), (Nat.le_of_ble_eq_true rfl)⟩, (Nat.le_of_ble_eq_true rfl)⟩ ki_X4_fail ks_X4_fail rfl (am_tab tk_X4_readQuestion 40 rfl) rfl ?_
        rintro r T4 ⟨rfl, hX4a, hF4a⟩
        obtain ⟨e4, hX4, hR4⟩ := aq_fail hX4a hX3.ry hA h72
        have hF4 := hF3.trans (W_rz_rq hF4a)
        refine am_aload_n (q := 85) rfl (am_tab tk_X4_readQuestion 41 rfl) rfl ?_
        refine am_getI (q := 88) (a := 27) (k := 4) (n := 13) (j := 8) (x := (fkZ (.inr e4 : PZ))) (Ls_27 hX4.1) (by decide) rfl hX4.fk (by decide) (Or.inl kf_X4_62) (am_tab tk_X4_readQuestion 42 rfl) rfl ?_
        refine am_if_ne (q := 91) (t := 95) (am_tab tk_X4_readQuestion 43 rfl) (by decide) rfl (fun h88 => ?_) (fun h88 => ?_)
        · refine am_iconst (q := 96) (n := 0) (by decide) (am_tab tk_X4_readQuestion 46 rfl) rfl ?_
          refine am_iret (Or.inr ⟨rfl, by first | exact Or.inl rfl | exact Or.inr rfl | omega⟩) (Nat.le_of_ble_eq_true rfl) (Nat.le_of_ble_eq_true rfl) (am_tab tk_X4_readQuestion 47 rfl) ?_
          refine hQ _ _ ?_
          exact ⟨aq_fin2 hX4 hR4 _ ⟨fun z => absurd z h88, fun _ => rfl⟩, hF4⟩
        · refine am_iconst (q := 92) (n := 1) (by decide) (am_tab tk_X4_readQuestion 44 rfl) rfl ?_
          refine am_goto (t := 96) (am_tab tk_X4_readQuestion 45 rfl) (by decide) ?_
          refine am_iret (Or.inr ⟨rfl, by first | exact Or.inl rfl | exact Or.inr rfl | omega⟩) (Nat.le_of_ble_eq_true rfl) (Nat.le_of_ble_eq_true rfl) (am_tab tk_X4_readQuestion 47 rfl) ?_
          refine hQ _ _ ?_
          exact ⟨aq_fin2 hX4 hR4 _ ⟨fun _ => rfl, fun z => absurd h88 z⟩, hF4⟩
    · refine am_aload_n (q := 56) rfl (am_tab tk_X4_readQuestion 27 rfl) rfl ?_
      refine am_callVr (q := 59) (me2 := (M_X4_readTest 6)) (b := 27) (kb := 4) (nb := 13) (As := []) (rest := []) (RC_test b E (cV b E) M 2 6 T2 (sx0 (.inl 1 : PZ)) hXs rfl) ⟨rfl, rfl⟩ (Ls_27 hX2.1) (by decide) ⟨Or.inl km_X4_75, kc_X4_readTest, kn_X4, kd_X4_readTest, ⟨(Nat.le_of_ble_eq_true rfl), (Nat.le_of_ble_eq_true rfl)⟩, ⟨(Nat.le_of_ble_eq_true rfl), (Nat.le_of_ble_eq_true rfl)⟩, (Nat.le_of_ble_eq_true rfl)⟩ ki_X4_readTest ks_X4_readTest rfl (am_tab tk_X4_readQuestion 28 rfl) rfl ?_
      rintro r T3 ⟨rfl, hX3a, hF3a⟩
      obtain ⟨s, hX3, hA⟩ : ∃ s, RX b E (cV b E) M 2 T3 s ∧ AQs b E s := ⟨_, hX3a, aq_T hE (by omega) (by omega)⟩
      have hF3 := hF2.trans (W_ps_rq hF3a)
      have h103 : T3.2.1 27 10 = zK b E 0 := (hF3a.2.2 27 10 (by unfold W_ps; omega)).trans h10
      refine am_goto (t := 66) (am_tab tk_X4_readQuestion 29 rfl) (by decide) ?_
      refine am_aload_n (q := 67) rfl (am_tab tk_X4_readQuestion 32 rfl) rfl ?_
      refine am_getI (q := 70) (a := 27) (k := 4) (n := 13) (j := 4) (x := (kdZ b E (SZ s))) (Ls_27 hX3.1.1) (by decide) rfl hX3.ry.kd (by decide) (Or.inl kf_X4_45) (am_tab tk_X4_readQuestion 33 rfl) rfl ?_
      refine am_bipush (q := 72) (n := 6) (by decide) rfl (am_tab tk_X4_readQuestion 34 rfl) rfl ?_
      refine am_icmp_eq (q := 75) (t := 84) (am_tab tk_X4_readQuestion 35 rfl) (by decide) rfl (fun h72 => ?_) (fun h72 => ?_)
      · refine am_aload_n (q := 85) rfl (am_tab tk_X4_readQuestion 41 rfl) rfl ?_
        refine am_getI (q := 88) (a := 27) (k := 4) (n := 13) (j := 8) (x := (fkZ (SZ s))) (Ls_27 hX3.1.1) (by decide) rfl hX3.ry.fk (by decide) (Or.inl kf_X4_62) (am_tab tk_X4_readQuestion 42 rfl) rfl ?_
        refine am_if_ne (q := 91) (t := 95) (am_tab tk_X4_readQuestion 43 rfl) (by decide) rfl (fun h88 => ?_) (fun h88 => ?_)
        · refine am_iconst (q := 96) (n := 0) (by decide) (am_tab tk_X4_readQuestion 46 rfl) rfl ?_
          refine am_iret (Or.inr ⟨rfl, by first | exact Or.inl rfl | exact Or.inr rfl | omega⟩) (Nat.le_of_ble_eq_true rfl) (Nat.le_of_ble_eq_true rfl) (am_tab tk_X4_readQuestion 47 rfl) ?_
          refine hQ _ _ ?_
          exact ⟨aq_fin1 hX3 hA h103 h72 _ ⟨fun z => absurd z h88, fun _ => rfl⟩, hF3⟩
        · refine am_iconst (q := 92) (n := 1) (by decide) (am_tab tk_X4_readQuestion 44 rfl) rfl ?_
          refine am_goto (t := 96) (am_tab tk_X4_readQuestion 45 rfl) (by decide) ?_
          refine am_iret (Or.inr ⟨rfl, by first | exact Or.inl rfl | exact Or.inr rfl | omega⟩) (Nat.le_of_ble_eq_true rfl) (Nat.le_of_ble_eq_true rfl) (am_tab tk_X4_readQuestion 47 rfl) ?_
          refine hQ _ _ ?_
          exact ⟨aq_fin1 hX3 hA h103 h72 _ ⟨fun _ => rfl, fun z => absurd h88 z⟩, hF3⟩
      · refine am_aload_n (q := 76) rfl (am_tab tk_X4_readQuestion 36 rfl) rfl ?_
        refine am_iconst (q := 77) (n := 1) (by decide) (am_tab tk_X4_readQuestion 37 rfl) rfl ?_
        refine am_aload_n (q := 78) rfl (am_tab tk_X4_readQuestion 38 rfl) rfl ?_
        refine am_getI (q := 81) (a := 27) (k := 4) (n := 13) (j := 5) (x := (T3.2.1 27 5)) (Ls_27 hX3.1.1) (by decide) rfl rfl (by decide) (Or.inl kf_X4_55) (am_tab tk_X4_readQuestion 39 rfl) rfl ?_
        refine am_callVr (q := 84) (me2 := M_X4_fail) (b := 27) (kb := 4) (nb := 13) (As := [am_i 1, am_i ((T3.2.1 27 5))]) (rest := []) (c_failY hX3.ry 1 _ (by decide)) ⟨rfl, rfl⟩ (Ls_27 hX3.1.1) (by decide) ⟨Or.inl km_X4_58, kc_X4_fail, kn_X4, kd_X4_fail, ⟨(Nat.le_of_ble_eq_true rfl), (Nat.le_of_ble_eq_true rfl)⟩, ⟨(Nat.le_of_ble_eq_true rfl), (Nat.le_of_ble_eq_true rfl)⟩, (Nat.le_of_ble_eq_true rfl)⟩ ki_X4_fail ks_X4_fail rfl (am_tab tk_X4_readQuestion 40 rfl) rfl ?_
        rintro r T4 ⟨rfl, hX4a, hF4a⟩
        obtain ⟨e4, hX4, hR4⟩ := aq_fail hX4a hX3.ry hA h72
        have hF4 := hF3.trans (W_rz_rq hF4a)
        refine am_aload_n (q := 85) rfl (am_tab tk_X4_readQuestion 41 rfl) rfl ?_
        refine am_getI (q := 88) (a := 27) (k := 4) (n := 13) (j := 8) (x := (fkZ (.inr e4 : PZ))) (Ls_27 hX4.1) (by decide) rfl hX4.fk (by decide) (Or.inl kf_X4_62) (am_tab tk_X4_readQuestion 42 rfl) rfl ?_
        refine am_if_ne (q := 91) (t := 95) (am_tab tk_X4_readQuestion 43 rfl) (by decide) rfl (fun h88 => ?_) (fun h88 => ?_)
        · refine am_iconst (q := 96) (n := 0) (by decide) (am_tab tk_X4_readQuestion 46 rfl) rfl ?_
          refine am_iret (Or.inr ⟨rfl, by first | exact Or.inl rfl | exact Or.inr rfl | omega⟩) (Nat.le_of_ble_eq_true rfl) (Nat.le_of_ble_eq_true rfl) (am_tab tk_X4_readQuestion 47 rfl) ?_
          refine hQ _ _ ?_
          exact ⟨aq_fin2 hX4 hR4 _ ⟨fun z => absurd z h88, fun _ => rfl⟩, hF4⟩
        · refine am_iconst (q := 92) (n := 1) (by decide) (am_tab tk_X4_readQuestion 44 rfl) rfl ?_
          refine am_goto (t := 96) (am_tab tk_X4_readQuestion 45 rfl) (by decide) ?_
          refine am_iret (Or.inr ⟨rfl, by first | exact Or.inl rfl | exact Or.inr rfl | omega⟩) (Nat.le_of_ble_eq_true rfl) (Nat.le_of_ble_eq_true rfl) (am_tab tk_X4_readQuestion 47 rfl) ?_
          refine hQ _ _ ?_
          exact ⟨aq_fin2 hX4 hR4 _ ⟨fun _ => rfl, fun z => absurd h88 z⟩, hF4⟩
