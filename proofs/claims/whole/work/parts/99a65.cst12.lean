theorem clH_fr (t : Nat) (σ : am_H) : frw (fun a _ => t ≤ a ∧ a ≤ t + 10) σ (clH t σ) := by
  refine ⟨rfl, rfl, fun a j h => ?_⟩
  show (if a = t ∧ j < 8 then (0 : Int) else if (a = t + 4 ∨ a = t + 5) ∧ j < 8 then 0 else if (a = t + 6 ∨ a = t + 7) ∧ j < 91 then 0 else if (a = t + 8 ∨ a = t + 10) ∧ j = 1 then 0 else σ.2.1 a j) = _
  rw [if_neg (by omega), if_neg (by omega), if_neg (by omega), if_neg (by omega)]
theorem clH_CL (t : Nat) (σ : am_H) : CLt t 0 0 (clH t σ) := by
  have e0 : ∀ j, j < 8 → (clH t σ).2.1 t j = 0 := fun j hj => by
    show (if t = t ∧ j < 8 then (0 : Int) else _) = 0
    exact if_pos ⟨rfl, hj⟩
  have e4 : ∀ a j, (a = t + 4 ∨ a = t + 5) → j < 8 → (clH t σ).2.1 a j = 0 := fun a j ha hj => by
    show (if a = t ∧ j < 8 then (0 : Int) else if (a = t + 4 ∨ a = t + 5) ∧ j < 8 then 0 else _) = 0
    rw [if_neg (by omega)]
    exact if_pos ⟨ha, hj⟩
  have e6 : ∀ a j, (a = t + 6 ∨ a = t + 7) → j < 91 → (clH t σ).2.1 a j = 0 := fun a j ha hj => by
    show (if a = t ∧ j < 8 then (0 : Int) else if (a = t + 4 ∨ a = t + 5) ∧ j < 8 then 0 else if (a = t + 6 ∨ a = t + 7) ∧ j < 91 then 0 else _) = 0
    rw [if_neg (by omega), if_neg (by omega)]
    exact if_pos ⟨ha, hj⟩
  have e8 : ∀ a, (a = t + 8 ∨ a = t + 10) → (clH t σ).2.1 a 1 = 0 := fun a ha => by
    show (if a = t ∧ 1 < 8 then (0 : Int) else if (a = t + 4 ∨ a = t + 5) ∧ 1 < 8 then 0 else if (a = t + 6 ∨ a = t + 7) ∧ 1 < 91 then 0 else if (a = t + 8 ∨ a = t + 10) ∧ 1 = 1 then 0 else _) = 0
    rw [if_neg (by omega), if_neg (by omega), if_neg (by omega)]
    exact if_pos ⟨ha, rfl⟩
  exact ⟨⟨e0 0 (by decide), e0 1 (by decide), fun j _ h => e0 j h⟩, fun j hj => ⟨e4 _ j (Or.inl rfl) hj, e4 _ j (Or.inr rfl) hj⟩, fun j hj => ⟨e6 _ j (Or.inl rfl) hj, e6 _ j (Or.inr rfl) hj⟩, e8 _ (Or.inl rfl), e8 _ (Or.inr rfl)⟩
theorem GFR.R {t : Nat} (ht : t = 3 ∨ t = 15) (σ : am_H) (x : Option Nat) : GFR t σ (am_setR σ 27 2 x) := by
  refine ⟨⟨[], (List.append_nil _).symm⟩, fun r hr => Or.inl ?_, fun _ _ _ _ _ _ _ => rfl, fun a j _ h _ => ?_⟩
  · show (if r = 27 ∧ 0 = 2 then x else σ.2.2 r 0) = _
    exact if_neg (by omega)
  · show (if a = 27 ∧ j = 2 then x else σ.2.2 a j) = _
    exact if_neg h
theorem CDt.R {t : Nat} {σ τ : am_H} (h : CDt t σ) (h1 : τ.1 = σ.1) (h2 : ∀ r, r = t + 8 ∨ r = t + 10 → τ.2.2 r 0 = σ.2.2 r 0) : CDt t τ := by
  unfold CDt
  rw [h1, h2 _ (Or.inl rfl), h2 _ (Or.inr rfl)]
  exact h
set_option maxRecDepth 100000 in
theorem tl_init {b : Nat → Int} {E M t : Nat} {S0 σ T1 : am_H} (ht : t = 3 ∨ t = 15) (hL : lay σ) (hC : CDt t σ) (hTK : TKc b E (cV b E) M T1) (hRZ : RZ b E (cV b E) T1 (.inl 0)) (h7 : T1.2.1 27 7 = 0) (hF : frw W_bg σ T1) :
    lay (am_setR (am_setN T1 27 11 0) 27 2 (some t)) ∧ TLI t b E (cV b E) M S0 σ 0 0 (clH t (am_setR (am_setN T1 27 11 0) 27 2 (some t))) (.inl 0) := by
  have hLa : lay (am_setN T1 27 11 0) := hF.L hL
  have hL1 : lay (am_setR (am_setN T1 27 11 0) 27 2 (some t)) := lay_R hLa (by decide)
  have hFc := clH_fr t (am_setR (am_setN T1 27 11 0) 27 2 (some t))
  have hc : ∀ a j, 27 ≤ a ∧ a ≤ 31 → ¬ (a = 27 ∧ j = 11) → (clH t (am_setR (am_setN T1 27 11 0) 27 2 (some t))).2.1 a j = T1.2.1 a j := fun a j h1 h2 => by
    rw [hFc.2.2 a j (by omega)]
    show (if a = 27 ∧ j = 11 then (0 : Int) else T1.2.1 a j) = _
    exact if_neg h2
  have hL3 := hFc.L hL1
  refine ⟨hL1, ⟨⟨hL3, ⟨(hc 30 2 (by decide) (by decide)).trans hTK.1, hTK.2.1, fun i hi => (hc 31 i (by decide) (by omega)).trans (hTK.2.2.1 i hi), hTK.2.2.2⟩, TKv_cV b E M, ?_, Nat.zero_le _⟩, ?_, ?_, ?_⟩, ?_, ?_, Or.inl ⟨rfl, rfl, rfl, clH_CL _ _⟩⟩
  · obtain ⟨g1, g2, g3, g4, g5, g6⟩ := hRZ
    exact ⟨(hc 27 3 (by decide) (by decide)).trans g1, (hc 27 4 (by decide) (by decide)).trans g2, (hc 27 5 (by decide) (by decide)).trans g3, (hc 27 6 (by decide) (by decide)).trans g4, (hc 27 8 (by decide) (by decide)).trans g5, (hc 27 9 (by decide) (by decide)).trans g6⟩
  · rw [hFc.2.1]
    show (if 27 = 27 ∧ 2 = 2 then some t else (am_setN T1 27 11 0).2.2 27 2) = some t
    exact if_pos ⟨rfl, rfl⟩
  · have h1 : CDt t (am_setN T1 27 11 0) := hC.fr (hF.setN (x := 0) (show W_bg 27 3 by unfold W_bg; omega) |> fun _ => ((hF.mono (W2 := fun a _ => 27 ≤ a ∧ a ≤ 31) (fun a j h => by unfold W_bg W_tk at h; omega)).setN (x := 0) (a := 27) (j := 11) (by omega)))
    refine (h1.R (τ := am_setR (am_setN T1 27 11 0) 27 2 (some t)) rfl (fun r hr => ?_)).fr hFc
    show (if r = 27 ∧ 0 = 2 then some t else (am_setN T1 27 11 0).2.2 r 0) = _
    exact if_neg (by omega)
  · refine (GFR.of ((hF.mono (W2 := fun a _ => 27 ≤ a ∧ a ≤ 31) (fun a j h => by unfold W_bg W_tk at h; omega)).setN (x := 0) (a := 27) (j := 11) (by omega)) (fun a j h => Or.inr h)).trans ((GFR.R ht _ _).trans (GFR.of hFc (fun a j h => Or.inl ⟨h.1, by omega⟩)))
  · rw [hc 27 7 (by decide) (by decide)]; exact h7
  · rw [hFc.2.2 27 11 (by omega)]
    show (am_setN T1 27 11 0).2.1 27 11 = 0
    exact set_eq
def TWo (H : am_H) : Prop := ∃ i, TWI H i
def TNP (t : Nat) (σ : am_H) (r : Option am_V) (τ : am_H) : am_H ⊕ (Int × Int) → Prop
  | .inl H => r = some (am_i 1) ∧ TRr t τ H ∧ RRr t τ H ∧ (1 ≤ H.2.1 55 51 ∧ H.2.1 55 51 ≤ 70) ∧ TWo H ∧ τ.2.1 27 8 = 0 ∧ τ.2.1 27 9 = -1
  | .inr e => r = some (am_i 0) ∧ ¬ e.1 = 0 ∧ τ.2.1 27 8 = e.1 ∧ τ.2.1 27 9 = e.2
/-- where the statements end -/
def ENo (t : Nat) (T : am_H) (R : am_H ⊕ (Int × Int)) : PZ → Prop
  | .inl _ => ∃ H, R = .inl H ∧ TRr t T H ∧ RRr t T H ∧ (1 ≤ H.2.1 55 51 ∧ H.2.1 55 51 ≤ 70) ∧ TWo H
  | .inr e => R = .inr e
theorem tl_end {t : Nat} {b : Nat → Int} {E : Nat} {cv : Nat → Int} {M : Nat} {S0 σ : am_H} {k c : Nat} {T : am_H} {p : PZ} (hI : TLI t b E cv M S0 σ k c T p) (hk : 70 < k ∨ kdZ b E p = 6) : (T.2.1 t 1 = 0 ∧ p = .inl 0 ∧ tnR b E S0 = .inr (1, (zP b E 0 : Int))) ∨ (p.isLeft = true → ¬ T.2.1 t 1 = 0) ∧ ENo t T (tnR b E S0) p := by
  cases p with
  | inr e => exact Or.inr ⟨fun h => absurd h (by simp), hI.2.2⟩
  | inl i =>
    have h6 : zK b E i = 6 := hk.resolve_left (by have := hI.c2; omega)
    obtain ⟨⟨hX, hR, hC, hG⟩, h7, h11, hh⟩ := hI
    rcases hh with ⟨rfl, rfl, hc0, hCL⟩ | ⟨hk1, H, hTW, h51, hT, hRR, hcu, hF⟩
    · refine Or.inl ⟨hCL.1.2.1, rfl, ?_⟩
      have hR0 : tnR b E S0 = tnF b E 80 (t0H S0 (vZ b E (akF b E 0 (.inl 0)))) (dyF b E (.inl 0)) := rfl
      rw [dy_bad (by omega)] at hR0
      exact hR0
    · have h70 := hTW.2.2.2.2.2.2
      have e1 : T.2.1 t 1 = H.2.1 55 51 := hT.1.2.1
      refine Or.inr ⟨fun _ => by omega, H, ?_, hT, hRR, by omega, i, hTW⟩
      rw [show 81 - k = (80 - k) + 1 by omega] at hF
      exact hF.symm.trans (if_pos h6)
theorem tl_fin {t : Nat} {b : Nat → Int} {E : Nat} {cv : Nat → Int} {M : Nat} {S0 σ : am_H} {T : am_H} {p : PZ} (hX : RY b E cv M T p) (hE : ENo t T (tnR b E S0) p) (v : Int) (hv : (fkZ p = 0 → v = 1) ∧ (¬ fkZ p = 0 → v = 0)) : TNP t σ (some (am_i v)) T (tnR b E S0) := by
  cases p with
  | inl i =>
    obtain ⟨H, h1, h2, h3, h4, h5⟩ := hE
    rw [h1, hv.1 rfl]
    exact ⟨rfl, h2, h3, h4, h5, hX.2.2.2.1.2.2.2.2.1, hX.2.2.2.1.2.2.2.2.2⟩
  | inr e =>
    have h1 : tnR b E S0 = .inr e := hE
    have hz : ¬ e.1 = 0 := hX.2.2.2.1.2.1
    rw [h1, hv.2 hz]
    exact ⟨rfl, hz, hX.2.2.2.1.1, hX.2.2.2.1.2.2.1⟩
theorem tl_f0 {t : Nat} {b : Nat → Int} {E : Nat} {cv : Nat → Int} {M : Nat} {S0 σ : am_H} {k c : Nat} {T T4 : am_H} {p : PZ} (hX4 : RY b E cv M T4 (flZ 1 (T.2.1 27 5) p)) (hI : TLI t b E cv M S0 σ k c T p) (h0 : T.2.1 t 1 = 0) (hen : (T.2.1 t 1 = 0 ∧ p = .inl 0 ∧ tnR b E S0 = .inr (1, (zP b E 0 : Int))) ∨ (p.isLeft = true → ¬ T.2.1 t 1 = 0) ∧ ENo t T (tnR b E S0) p) : ∃ e, RY b E cv M T4 (.inr e) ∧ tnR b E S0 = .inr e := by
  rcases hen with ⟨_, rfl, h2⟩ | ⟨h1, h2⟩
  · refine ⟨_, hX4, ?_⟩
    rw [h2]
    have h5 : T.2.1 27 5 = (zP b E 0 : Int) := hI.com.1.2.2.2.1.2.2.1
    rw [h5]
  · cases p with
    | inl i => exact absurd h0 (h1 rfl)
    | inr e => exact ⟨e, hX4, h2⟩
set_option maxRecDepth 100000 in
theorem c_readTown_3 (b : Nat → Int) (E : Nat) (S0 σ : am_H) (hL : lay σ)  (hT : TP b E σ) (hC : CDt 3 σ) : am_met M_X4_readTown [am_r 27, am_r 3] σ (fun r σ' => TNP 3 σ r σ' (tnR b E S0) ∧ lay σ' ∧ CDt 3 σ' ∧ GFR 3 σ σ') := by
  refine am_qq (fun Q hQ => ?_)
  refine am_enter (show plainFor yX4_readTown = true by decide +kernel) rfl (Nat.le_of_ble_eq_true rfl) (fun _ _ _ => trivial) ?_
  refine am_aload_n (q := 1) rfl (am_tab tk_X4_readTown 0 rfl) rfl ?_
  refine am_callVr (q := 4) (me2 := M_X4_begin) (b := 27) (kb := 4) (nb := 13) (As := []) (rest := []) (c_begin b E σ hL hT) ⟨rfl, rfl⟩ (Ls_27 hL) (by decide) ⟨Or.inl km_X4_33, kc_X4_begin, kn_X4, kd_X4_begin, ⟨(Nat.le_of_ble_eq_true rfl), (Nat.le_of_ble_eq_true rfl)⟩, ⟨(Nat.le_of_ble_eq_true rfl), (Nat.le_of_ble_eq_true rfl)⟩, (Nat.le_of_ble_eq_true rfl)⟩ ki_X4_begin ks_X4_begin rfl (am_tab tk_X4_readTown 1 rfl) rfl ?_
  rintro r T1 ⟨rfl, M, hTK, hRZ, h7, hF1⟩
  obtain ⟨hL2, hI0⟩ := tl_init (t := 3) (S0 := S0) (Or.inl rfl) hL hC hTK hRZ h7 hF1
  refine am_aload_n (q := 5) rfl (am_tab tk_X4_readTown 2 rfl) rfl ?_
  refine am_iconst (q := 6) (n := 0) (by decide) (am_tab tk_X4_readTown 3 rfl) rfl ?_
  refine am_putZ (q := 9) (k := 4) (n := 13) (j := 11) (Ls_27 (hF1.L hL)) (by decide) rfl (by first | exact Or.inl rfl | exact Or.inr rfl | omega) (by decide) (Or.inl ⟨kf_X4_36, rfl⟩) (am_tab tk_X4_readTown 4 rfl) rfl ?_
  refine am_aload_n (q := 10) rfl (am_tab tk_X4_readTown 5 rfl) rfl ?_
  refine am_aload_n (q := 11) rfl (am_tab tk_X4_readTown 6 rfl) rfl ?_
  refine am_putR (q := 14) (k := 4) (n := 13) (j := 2) (Ls_27 (hF1.L hL)) (by decide) rfl (by decide) (Or.inl ⟨kf_X4_29, rfl⟩) (am_tab tk_X4_readTown 7 rfl) rfl ?_
  refine am_aload_n (q := 15) rfl (am_tab tk_X4_readTown 8 rfl) rfl ?_
  refine am_getR (q := 18) (a := 27) (k := 4) (n := 13) (j := 2) (r := some (3)) (Ls_27 hL2) (by decide) rfl rfl (by decide) (Or.inl kf_X4_29) (am_tab tk_X4_readTown 9 rfl) rfl ?_
  refine am_callVr (q := 21) (me2 := M_X8_clear) (b := 3) (kb := 8) (nb := 17) (As := []) (rest := []) (c_clear_3 (am_setR (am_setN T1 27 11 0) 27 2 (some (3))) hL2) ⟨rfl, rfl⟩ (Ls_3 hL2) (by decide) ⟨Or.inr km_X4_40, kc_X8_clear, kn_X8, kd_X8_clear, ⟨(Nat.le_of_ble_eq_true rfl), (Nat.le_of_ble_eq_true rfl)⟩, ⟨(Nat.le_of_ble_eq_true rfl), (Nat.le_of_ble_eq_true rfl)⟩, (Nat.le_of_ble_eq_true rfl)⟩ ki_X8_clear ks_X8_clear rfl (am_tab tk_X4_readTown 10 rfl) rfl ?_
  rintro r T3 ⟨rfl, hT3⟩
  have hI3 : TLI 3 b E (cV b E) M S0 σ 0 0 T3 (.inl 0) := by rw [hT3]; exact hI0
  have hL3 := hI3.com.1.1
  refine am_iconst (q := 22) (n := 0) (by decide) (am_tab tk_X4_readTown 11 rfl) rfl ?_
  refine am_istore_n (q := 23) (by decide) (ls2 := [(2, am_i 0), (0, am_r 27), (1, am_r 3)]) rfl (am_tab tk_X4_readTown 12 rfl) rfl ?_
  have L23 : ∀ (n23 : Nat) (k : Nat) (c : Nat) (s : Nat) (p : PZ) (T : am_H), 71 - k < n23 → TLI 3 b E (cV b E) M S0 σ k c T p → s = 1600 * c → k ≤ 71 → am_wp M_X4_readTown Q c s 23 [(0, am_r 27), (1, am_r 3), (2, am_i ((k : Int)))] [] T := by
    intro n23
    induction n23 with
    | zero => intro k c s p T hn23; exact absurd hn23 (Nat.not_lt_zero _)
    | succ n23 ih23 =>
      intro k c s p T hn23 hI hs hk
      have hLT := hI.com.1.1
      have hc3 := hI.c3
      refine am_iload_n (q := 24) rfl (am_tab tk_X4_readTown 13 rfl) rfl ?_
      refine am_bipush (q := 26) (n := 70) (by decide) rfl (am_tab tk_X4_readTown 14 rfl) rfl ?_
      refine am_icmp_gt (q := 29) (t := 48) (am_tab tk_X4_readTown 15 rfl) (by decide) rfl (fun h26 => ?_) (fun h26 => ?_)
      · have hen := tl_end hI (Or.inl (by omega))
        refine am_aload_n (q := 49) rfl (am_tab tk_X4_readTown 24 rfl) rfl ?_
        refine am_getR (q := 52) (a := 27) (k := 4) (n := 13) (j := 2) (r := some (3)) (Ls_27 hLT) (by decide) rfl hI.com.2.1 (by decide) (Or.inl kf_X4_29) (am_tab tk_X4_readTown 25 rfl) rfl ?_
        refine am_getI (q := 55) (a := 3) (k := 8) (n := 17) (j := 1) (x := (T.2.1 3 1)) (Ls_3 hLT) (by decide) rfl rfl (by decide) (Or.inr kf_X4_52) (am_tab tk_X4_readTown 26 rfl) rfl ?_
        refine am_if_ne (q := 58) (t := 67) (am_tab tk_X4_readTown 27 rfl) (by decide) rfl (fun h55 => ?_) (fun h55 => ?_)
        · refine am_aload_n (q := 68) rfl (am_tab tk_X4_readTown 33 rfl) rfl ?_
          refine am_getI (q := 71) (a := 27) (k := 4) (n := 13) (j := 8) (x := (fkZ p)) (Ls_27 hLT) (by decide) rfl hI.com.1.fk (by decide) (Or.inl kf_X4_62) (am_tab tk_X4_readTown 34 rfl) rfl ?_
          refine am_if_ne (q := 74) (t := 78) (am_tab tk_X4_readTown 35 rfl) (by decide) rfl (fun h71 => ?_) (fun h71 => ?_)
          · refine am_iconst (q := 79) (n := 0) (by decide) (am_tab tk_X4_readTown 38 rfl) rfl ?_
            refine am_iret (Or.inr ⟨rfl, by first | exact Or.inl rfl | exact Or.inr rfl | omega⟩) (show c ≤ 3 by omega) (show s ≤ 4800 by omega) (am_tab tk_X4_readTown 39 rfl) ?_
            refine hQ _ _ ?_
            have hen2 := hen.resolve_left (fun z => h55 z.1)
            exact ⟨tl_fin hI.com.1 hen2.2 _ ⟨fun z => absurd z h71, fun _ => rfl⟩, hI.com.1.1, hI.com.2.2.1, hI.com.2.2.2⟩
          · refine am_iconst (q := 75) (n := 1) (by decide) (am_tab tk_X4_readTown 36 rfl) rfl ?_
            refine am_goto (t := 79) (am_tab tk_X4_readTown 37 rfl) (by decide) ?_
            refine am_iret (Or.inr ⟨rfl, by first | exact Or.inl rfl | exact Or.inr rfl | omega⟩) (show c ≤ 3 by omega) (show s ≤ 4800 by omega) (am_tab tk_X4_readTown 39 rfl) ?_
            refine hQ _ _ ?_
            have hen2 := hen.resolve_left (fun z => h55 z.1)
            exact ⟨tl_fin hI.com.1 hen2.2 _ ⟨fun _ => rfl, fun z => absurd h71 z⟩, hI.com.1.1, hI.com.2.2.1, hI.com.2.2.2⟩
        · refine am_aload_n (q := 59) rfl (am_tab tk_X4_readTown 28 rfl) rfl ?_
          refine am_iconst (q := 60) (n := 1) (by decide) (am_tab tk_X4_readTown 29 rfl) rfl ?_
          refine am_aload_n (q := 61) rfl (am_tab tk_X4_readTown 30 rfl) rfl ?_
          refine am_getI (q := 64) (a := 27) (k := 4) (n := 13) (j := 5) (x := (T.2.1 27 5)) (Ls_27 hLT) (by decide) rfl rfl (by decide) (Or.inl kf_X4_55) (am_tab tk_X4_readTown 31 rfl) rfl ?_
          refine am_callVr (q := 67) (me2 := M_X4_fail) (b := 27) (kb := 4) (nb := 13) (As := [am_i 1, am_i ((T.2.1 27 5))]) (rest := []) (c_failY hI.com.1 1 _ (by decide)) ⟨rfl, rfl⟩ (Ls_27 hLT) (by decide) ⟨Or.inl km_X4_58, kc_X4_fail, kn_X4, kd_X4_fail, ⟨(Nat.le_of_ble_eq_true rfl), (Nat.le_of_ble_eq_true rfl)⟩, ⟨(show c + 0 ≤ 3 by omega), (show s + 0 ≤ 4800 by omega)⟩, (Nat.le_of_ble_eq_true rfl)⟩ ki_X4_fail ks_X4_fail rfl (am_tab tk_X4_readTown 32 rfl) rfl ?_
          rintro r T4 ⟨rfl, hX4a, hF4⟩
          obtain ⟨e4, hX4, hR4⟩ : ∃ e, RY b E (cV b E) M T4 (.inr e) ∧ tnR b E S0 = .inr e := tl_f0 hX4a hI h55 hen
          refine am_aload_n (q := 68) rfl (am_tab tk_X4_readTown 33 rfl) rfl ?_
          refine am_getI (q := 71) (a := 27) (k := 4) (n := 13) (j := 8) (x := (fkZ (.inr e4 : PZ))) (Ls_27 hX4.1) (by decide) rfl hX4.fk (by decide) (Or.inl kf_X4_62) (am_tab tk_X4_readTown 34 rfl) rfl ?_
          refine am_if_ne (q := 74) (t := 78) (am_tab tk_X4_readTown 35 rfl) (by decide) rfl (fun h71 => ?_) (fun h71 => ?_)
          · refine am_iconst (q := 79) (n := 0) (by decide) (am_tab tk_X4_readTown 38 rfl) rfl ?_
            refine am_iret (Or.inr ⟨rfl, by first | exact Or.inl rfl | exact Or.inr rfl | omega⟩) (show c ≤ 3 by omega) (show s ≤ 4800 by omega) (am_tab tk_X4_readTown 39 rfl) ?_
            refine hQ _ _ ?_
            have hF5 : frw W_rz T T4 := hF4
            exact ⟨tl_fin (p := .inr e4) hX4 hR4 _ ⟨fun z => absurd z h71, fun _ => rfl⟩, hX4.1, hI.com.2.2.1.fr hF5, hI.com.2.2.2.trans (GFR.of hF5 (fun a j h => Or.inr (by unfold W_rz at h; omega)))⟩
          · refine am_iconst (q := 75) (n := 1) (by decide) (am_tab tk_X4_readTown 36 rfl) rfl ?_
            refine am_goto (t := 79) (am_tab tk_X4_readTown 37 rfl) (by decide) ?_
            refine am_iret (Or.inr ⟨rfl, by first | exact Or.inl rfl | exact Or.inr rfl | omega⟩) (show c ≤ 3 by omega) (show s ≤ 4800 by omega) (am_tab tk_X4_readTown 39 rfl) ?_
            refine hQ _ _ ?_
            have hF5 : frw W_rz T T4 := hF4
            exact ⟨tl_fin (p := .inr e4) hX4 hR4 _ ⟨fun _ => rfl, fun z => absurd h71 z⟩, hX4.1, hI.com.2.2.1.fr hF5, hI.com.2.2.2.trans (GFR.of hF5 (fun a j h => Or.inr (by unfold W_rz at h; omega)))⟩
      · refine am_aload_n (q := 30) rfl (am_tab tk_X4_readTown 16 rfl) rfl ?_
        refine am_getI (q := 33) (a := 27) (k := 4) (n := 13) (j := 4) (x := (kdZ b E p)) (Ls_27 hLT) (by decide) rfl hI.com.1.kd (by decide) (Or.inl kf_X4_45) (am_tab tk_X4_readTown 17 rfl) rfl ?_
        refine am_bipush (q := 35) (n := 6) (by decide) rfl (am_tab tk_X4_readTown 18 rfl) rfl ?_
        refine am_icmp_eq (q := 38) (t := 48) (am_tab tk_X4_readTown 19 rfl) (by decide) rfl (fun h35 => ?_) (fun h35 => ?_)
        · have hen := tl_end hI (Or.inr h35)
          refine am_aload_n (q := 49) rfl (am_tab tk_X4_readTown 24 rfl) rfl ?_
          refine am_getR (q := 52) (a := 27) (k := 4) (n := 13) (j := 2) (r := some (3)) (Ls_27 hLT) (by decide) rfl hI.com.2.1 (by decide) (Or.inl kf_X4_29) (am_tab tk_X4_readTown 25 rfl) rfl ?_
          refine am_getI (q := 55) (a := 3) (k := 8) (n := 17) (j := 1) (x := (T.2.1 3 1)) (Ls_3 hLT) (by decide) rfl rfl (by decide) (Or.inr kf_X4_52) (am_tab tk_X4_readTown 26 rfl) rfl ?_
          refine am_if_ne (q := 58) (t := 67) (am_tab tk_X4_readTown 27 rfl) (by decide) rfl (fun h55 => ?_) (fun h55 => ?_)
          · refine am_aload_n (q := 68) rfl (am_tab tk_X4_readTown 33 rfl) rfl ?_
            refine am_getI (q := 71) (a := 27) (k := 4) (n := 13) (j := 8) (x := (fkZ p)) (Ls_27 hLT) (by decide) rfl hI.com.1.fk (by decide) (Or.inl kf_X4_62) (am_tab tk_X4_readTown 34 rfl) rfl ?_
            refine am_if_ne (q := 74) (t := 78) (am_tab tk_X4_readTown 35 rfl) (by decide) rfl (fun h71 => ?_) (fun h71 => ?_)
            · refine am_iconst (q := 79) (n := 0) (by decide) (am_tab tk_X4_readTown 38 rfl) rfl ?_
              refine am_iret (Or.inr ⟨rfl, by first | exact Or.inl rfl | exact Or.inr rfl | omega⟩) (show c ≤ 3 by omega) (show s ≤ 4800 by omega) (am_tab tk_X4_readTown 39 rfl) ?_
              refine hQ _ _ ?_
              have hen2 := hen.resolve_left (fun z => h55 z.1)
              exact ⟨tl_fin hI.com.1 hen2.2 _ ⟨fun z => absurd z h71, fun _ => rfl⟩, hI.com.1.1, hI.com.2.2.1, hI.com.2.2.2⟩
            · refine am_iconst (q := 75) (n := 1) (by decide) (am_tab tk_X4_readTown 36 rfl) rfl ?_
              refine am_goto (t := 79) (am_tab tk_X4_readTown 37 rfl) (by decide) ?_
              refine am_iret (Or.inr ⟨rfl, by first | exact Or.inl rfl | exact Or.inr rfl | omega⟩) (show c ≤ 3 by omega) (show s ≤ 4800 by omega) (am_tab tk_X4_readTown 39 rfl) ?_
              refine hQ _ _ ?_
              have hen2 := hen.resolve_left (fun z => h55 z.1)
              exact ⟨tl_fin hI.com.1 hen2.2 _ ⟨fun _ => rfl, fun z => absurd h71 z⟩, hI.com.1.1, hI.com.2.2.1, hI.com.2.2.2⟩
          · refine am_aload_n (q := 59) rfl (am_tab tk_X4_readTown 28 rfl) rfl ?_
            refine am_iconst (q := 60) (n := 1) (by decide) (am_tab tk_X4_readTown 29 rfl) rfl ?_
            refine am_aload_n (q := 61) rfl (am_tab tk_X4_readTown 30 rfl) rfl ?_
            refine am_getI (q := 64) (a := 27) (k := 4) (n := 13) (j := 5) (x := (T.2.1 27 5)) (Ls_27 hLT) (by decide) rfl rfl (by decide) (Or.inl kf_X4_55) (am_tab tk_X4_readTown 31 rfl) rfl ?_
            refine am_callVr (q := 67) (me2 := M_X4_fail) (b := 27) (kb := 4) (nb := 13) (As := [am_i 1, am_i ((T.2.1 27 5))]) (rest := []) (c_failY hI.com.1 1 _ (by decide)) ⟨rfl, rfl⟩ (Ls_27 hLT) (by decide) ⟨Or.inl km_X4_58, kc_X4_fail, kn_X4, kd_X4_fail, ⟨(Nat.le_of_ble_eq_true rfl), (Nat.le_of_ble_eq_true rfl)⟩, ⟨(show c + 0 ≤ 3 by omega), (show s + 0 ≤ 4800 by omega)⟩, (Nat.le_of_ble_eq_true rfl)⟩ ki_X4_fail ks_X4_fail rfl (am_tab tk_X4_readTown 32 rfl) rfl ?_
            rintro r T4 ⟨rfl, hX4a, hF4⟩
            obtain ⟨e4, hX4, hR4⟩ : ∃ e, RY b E (cV b E) M T4 (.inr e) ∧ tnR b E S0 = .inr e := tl_f0 hX4a hI h55 hen
            refine am_aload_n (q := 68) rfl (am_tab tk_X4_readTown 33 rfl) rfl ?_
            refine am_getI (q := 71) (a := 27) (k := 4) (n := 13) (j := 8) (x := (fkZ (.inr e4 : PZ))) (Ls_27 hX4.1) (by decide) rfl hX4.fk (by decide) (Or.inl kf_X4_62) (am_tab tk_X4_readTown 34 rfl) rfl ?_
            refine am_if_ne (q := 74) (t := 78) (am_tab tk_X4_readTown 35 rfl) (by decide) rfl (fun h71 => ?_) (fun h71 => ?_)
            · refine am_iconst (q := 79) (n := 0) (by decide) (am_tab tk_X4_readTown 38 rfl) rfl ?_
              refine am_iret (Or.inr ⟨rfl, by first | exact Or.inl rfl | exact Or.inr rfl | omega⟩) (show c ≤ 3 by omega) (show s ≤ 4800 by omega) (am_tab tk_X4_readTown 39 rfl) ?_
              refine hQ _ _ ?_
              have hF5 : frw W_rz T T4 := hF4
              exact ⟨tl_fin (p := .inr e4) hX4 hR4 _ ⟨fun z => absurd z h71, fun _ => rfl⟩, hX4.1, hI.com.2.2.1.fr hF5, hI.com.2.2.2.trans (GFR.of hF5 (fun a j h => Or.inr (by unfold W_rz at h; omega)))⟩
            · refine am_iconst (q := 75) (n := 1) (by decide) (am_tab tk_X4_readTown 36 rfl) rfl ?_
              refine am_goto (t := 79) (am_tab tk_X4_readTown 37 rfl) (by decide) ?_
              refine am_iret (Or.inr ⟨rfl, by first | exact Or.inl rfl | exact Or.inr rfl | omega⟩) (show c ≤ 3 by omega) (show s ≤ 4800 by omega) (am_tab tk_X4_readTown 39 rfl) ?_
              refine hQ _ _ ?_
              have hF5 : frw W_rz T T4 := hF4
              exact ⟨tl_fin (p := .inr e4) hX4 hR4 _ ⟨fun _ => rfl, fun z => absurd h71 z⟩, hX4.1, hI.com.2.2.1.fr hF5, hI.com.2.2.2.trans (GFR.of hF5 (fun a j h => Or.inr (by unfold W_rz at h; omega)))⟩
        · obtain ⟨i, rfl, hk6⟩ := kd_l h35
          refine am_aload_n (q := 39) rfl (am_tab tk_X4_readTown 20 rfl) rfl ?_
          by_cases rule : zK b E i = 137 ∨ zK b E i = 138
          · by_cases K7 : zK b E i = 137
            · have h137 := K7
              have hc2 := hI.c2.1
              refine am_callV (q := 42) (me2 := (M_X4_readStatement 1 1600)) (b := 27) (kb := 4) (nb := 13) (As := []) (rest := []) (c_tstep_thinks_3 b E (cV b E) M S0 σ k c i T hI hk6 h137) (Ls_27 hLT) (by decide) ⟨Or.inl km_X4_49, kc_X4_readStatement, kn_X4, kd_X4_readStatement, ⟨(Nat.le_of_ble_eq_true rfl), (Nat.le_of_ble_eq_true rfl)⟩, ⟨(show c + 1 ≤ 3 by omega), (show s + 1600 ≤ 4800 by omega)⟩, (Nat.le_of_ble_eq_true rfl)⟩ ki_X4_readStatement ks_X4_readStatement rfl (am_tab tk_X4_readTown 21 rfl) rfl ?_
              rintro r T9 ⟨rfl, p9, hI9⟩
              refine am_iinc (q := 45) rfl (by omega) (by decide) (ls2 := [(2, am_i (((k : Int) + 1))), (0, am_r 27), (1, am_r 3)]) rfl (am_tab tk_X4_readTown 22 rfl) rfl ?_
              refine am_goto (t := 23) (am_tab tk_X4_readTown 23 rfl) (by decide) ?_
              exact am_less (by intro q hq; simp only [List.mem_cons, List.not_mem_nil, or_false] at hq; rcases hq with rfl | rfl | rfl <;> simp) (ih23 (k + 1) (c + 1) (s + 1600) p9 T9 (by omega) hI9 (by omega) (by omega))
            · have h137 := K7
              have hc2 := hI.c2.1
              refine am_callV (q := 42) (me2 := (M_X4_readStatement 1 1600)) (b := 27) (kb := 4) (nb := 13) (As := []) (rest := []) (c_tstep_hears_3 b E (cV b E) M S0 σ k c i T hI hk6 (rule.resolve_left h137)) (Ls_27 hLT) (by decide) ⟨Or.inl km_X4_49, kc_X4_readStatement, kn_X4, kd_X4_readStatement, ⟨(Nat.le_of_ble_eq_true rfl), (Nat.le_of_ble_eq_true rfl)⟩, ⟨(show c + 1 ≤ 3 by omega), (show s + 1600 ≤ 4800 by omega)⟩, (Nat.le_of_ble_eq_true rfl)⟩ ki_X4_readStatement ks_X4_readStatement rfl (am_tab tk_X4_readTown 21 rfl) rfl ?_
              rintro r T9 ⟨rfl, p9, hI9⟩
              refine am_iinc (q := 45) rfl (by omega) (by decide) (ls2 := [(2, am_i (((k : Int) + 1))), (0, am_r 27), (1, am_r 3)]) rfl (am_tab tk_X4_readTown 22 rfl) rfl ?_
              refine am_goto (t := 23) (am_tab tk_X4_readTown 23 rfl) (by decide) ?_
              exact am_less (by intro q hq; simp only [List.mem_cons, List.not_mem_nil, or_false] at hq; rcases hq with rfl | rfl | rfl <;> simp) (ih23 (k + 1) (c + 1) (s + 1600) p9 T9 (by omega) hI9 (by omega) (by omega))
          · have hc2 := hI.c2.1
            refine am_callVr (q := 42) (me2 := (M_X4_readStatement 0 0)) (b := 27) (kb := 4) (nb := 13) (As := []) (rest := []) (c_tstepN_3 b E (cV b E) M S0 σ k c i T hI hk6 rule) ⟨rfl, rfl⟩ (Ls_27 hLT) (by decide) ⟨Or.inl km_X4_49, kc_X4_readStatement, kn_X4, kd_X4_readStatement, ⟨(Nat.le_of_ble_eq_true rfl), (Nat.le_of_ble_eq_true rfl)⟩, ⟨(show c + 0 ≤ 3 by omega), (show s + 0 ≤ 4800 by omega)⟩, (Nat.le_of_ble_eq_true rfl)⟩ ki_X4_readStatement ks_X4_readStatement rfl (am_tab tk_X4_readTown 21 rfl) rfl ?_
            rintro r T9 ⟨rfl, p9, hI9⟩
            refine am_iinc (q := 45) rfl (by omega) (by decide) (ls2 := [(2, am_i (((k : Int) + 1))), (0, am_r 27), (1, am_r 3)]) rfl (am_tab tk_X4_readTown 22 rfl) rfl ?_
            refine am_goto (t := 23) (am_tab tk_X4_readTown 23 rfl) (by decide) ?_
            exact am_less (by intro q hq; simp only [List.mem_cons, List.not_mem_nil, or_false] at hq; rcases hq with rfl | rfl | rfl <;> simp) (ih23 (k + 1) c s p9 T9 (by omega) hI9 (by omega) (by omega))
  refine am_less (by intro q hq; simp only [List.mem_cons, List.not_mem_nil, or_false] at hq; rcases hq with rfl | rfl | rfl <;> simp) (L23 (_ + 1) 0 0 0 (.inl 0) T3 (by exact Nat.lt_succ_self _) hI3 rfl (by decide))
set_option maxRecDepth 100000 in
theorem c_readTown_15 (b : Nat → Int) (E : Nat) (S0 σ : am_H) (hL : lay σ)  (hT : TP b E σ) (hC : CDt 15 σ) : am_met M_X4_readTown [am_r 27, am_r 15] σ (fun r σ' => TNP 15 σ r σ' (tnR b E S0) ∧ lay σ' ∧ CDt 15 σ' ∧ GFR 15 σ σ') := by
  refine am_qq (fun Q hQ => ?_)
  refine am_enter (show plainFor yX4_readTown = true by decide +kernel) rfl (Nat.le_of_ble_eq_true rfl) (fun _ _ _ => trivial) ?_
  refine am_aload_n (q := 1) rfl (am_tab tk_X4_readTown 0 rfl) rfl ?_
  refine am_callVr (q := 4) (me2 := M_X4_begin) (b := 27) (kb := 4) (nb := 13) (As := []) (rest := []) (c_begin b E σ hL hT) ⟨rfl, rfl⟩ (Ls_27 hL) (by decide) ⟨Or.inl km_X4_33, kc_X4_begin, kn_X4, kd_X4_begin, ⟨(Nat.le_of_ble_eq_true rfl), (Nat.le_of_ble_eq_true rfl)⟩, ⟨(Nat.le_of_ble_eq_true rfl), (Nat.le_of_ble_eq_true rfl)⟩, (Nat.le_of_ble_eq_true rfl)⟩ ki_X4_begin ks_X4_begin rfl (am_tab tk_X4_readTown 1 rfl) rfl ?_
  rintro r T1 ⟨rfl, M, hTK, hRZ, h7, hF1⟩
  obtain ⟨hL2, hI0⟩ := tl_init (t := 15) (S0 := S0) (Or.inr rfl) hL hC hTK hRZ h7 hF1
  refine am_aload_n (q := 5) rfl (am_tab tk_X4_readTown 2 rfl) rfl ?_
  refine am_iconst (q := 6) (n := 0) (by decide) (am_tab tk_X4_readTown 3 rfl) rfl ?_
  refine am_putZ (q := 9) (k := 4) (n := 13) (j := 11) (Ls_27 (hF1.L hL)) (by decide) rfl (by first | exact Or.inl rfl | exact Or.inr rfl | omega) (by decide) (Or.inl ⟨kf_X4_36, rfl⟩) (am_tab tk_X4_readTown 4 rfl) rfl ?_
  refine am_aload_n (q := 10) rfl (am_tab tk_X4_readTown 5 rfl) rfl ?_
  refine am_aload_n (q := 11) rfl (am_tab tk_X4_readTown 6 rfl) rfl ?_
  refine am_putR (q := 14) (k := 4) (n := 13) (j := 2) (Ls_27 (hF1.L hL)) (by decide) rfl (by decide) (Or.inl ⟨kf_X4_29, rfl⟩) (am_tab tk_X4_readTown 7 rfl) rfl ?_
  refine am_aload_n (q := 15) rfl (am_tab tk_X4_readTown 8 rfl) rfl ?_
  refine am_getR (q := 18) (a := 27) (k := 4) (n := 13) (j := 2) (r := some (15)) (Ls_27 hL2) (by decide) rfl rfl (by decide) (Or.inl kf_X4_29) (am_tab tk_X4_readTown 9 rfl) rfl ?_
  refine am_callVr (q := 21) (me2 := M_X8_clear) (b := 15) (kb := 8) (nb := 17) (As := []) (rest := []) (c_clear_15 (am_setR (am_setN T1 27 11 0) 27 2 (some (15))) hL2) ⟨rfl, rfl⟩ (Ls_15 hL2) (by decide) ⟨Or.inr km_X4_40, kc_X8_clear, kn_X8, kd_X8_clear, ⟨(Nat.le_of_ble_eq_true rfl), (Nat.le_of_ble_eq_true rfl)⟩, ⟨(Nat.le_of_ble_eq_true rfl), (Nat.le_of_ble_eq_true rfl)⟩, (Nat.le_of_ble_eq_true rfl)⟩ ki_X8_clear ks_X8_clear rfl (am_tab tk_X4_readTown 10 rfl) rfl ?_
  rintro r T3 ⟨rfl, hT3⟩
  have hI3 : TLI 15 b E (cV b E) M S0 σ 0 0 T3 (.inl 0) := by rw [hT3]; exact hI0
  have hL3 := hI3.com.1.1
  refine am_iconst (q := 22) (n := 0) (by decide) (am_tab tk_X4_readTown 11 rfl) rfl ?_
  refine am_istore_n (q := 23) (by decide) (ls2 := [(2, am_i 0), (0, am_r 27), (1, am_r 15)]) rfl (am_tab tk_X4_readTown 12 rfl) rfl ?_
  have L23 : ∀ (n23 : Nat) (k : Nat) (c : Nat) (s : Nat) (p : PZ) (T : am_H), 71 - k < n23 → TLI 15 b E (cV b E) M S0 σ k c T p → s = 1600 * c → k ≤ 71 → am_wp M_X4_readTown Q c s 23 [(0, am_r 27), (1, am_r 15), (2, am_i ((k : Int)))] [] T := by
    intro n23
    induction n23 with
    | zero => intro k c s p T hn23; exact absurd hn23 (Nat.not_lt_zero _)
    | succ n23 ih23 =>
      intro k c s p T hn23 hI hs hk
      have hLT := hI.com.1.1
      have hc3 := hI.c3
      refine am_iload_n (q := 24) rfl (am_tab tk_X4_readTown 13 rfl) rfl ?_
      refine am_bipush (q := 26) (n := 70) (by decide) rfl (am_tab tk_X4_readTown 14 rfl) rfl ?_
      refine am_icmp_gt (q := 29) (t := 48) (am_tab tk_X4_readTown 15 rfl) (by decide) rfl (fun h26 => ?_) (fun h26 => ?_)
      · have hen := tl_end hI (Or.inl (by omega))
        refine am_aload_n (q := 49) rfl (am_tab tk_X4_readTown 24 rfl) rfl ?_
        refine am_getR (q := 52) (a := 27) (k := 4) (n := 13) (j := 2) (r := some (15)) (Ls_27 hLT) (by decide) rfl hI.com.2.1 (by decide) (Or.inl kf_X4_29) (am_tab tk_X4_readTown 25 rfl) rfl ?_
        refine am_getI (q := 55) (a := 15) (k := 8) (n := 17) (j := 1) (x := (T.2.1 15 1)) (Ls_15 hLT) (by decide) rfl rfl (by decide) (Or.inr kf_X4_52) (am_tab tk_X4_readTown 26 rfl) rfl ?_
        refine am_if_ne (q := 58) (t := 67) (am_tab tk_X4_readTown 27 rfl) (by decide) rfl (fun h55 => ?_) (fun h55 => ?_)
        · refine am_aload_n (q := 68) rfl (am_tab tk_X4_readTown 33 rfl) rfl ?_
          refine am_getI (q := 71) (a := 27) (k := 4) (n := 13) (j := 8) (x := (fkZ p)) (Ls_27 hLT) (by decide) rfl hI.com.1.fk (by decide) (Or.inl kf_X4_62) (am_tab tk_X4_readTown 34 rfl) rfl ?_
          refine am_if_ne (q := 74) (t := 78) (am_tab tk_X4_readTown 35 rfl) (by decide) rfl (fun h71 => ?_) (fun h71 => ?_)
          · refine am_iconst (q := 79) (n := 0) (by decide) (am_tab tk_X4_readTown 38 rfl) rfl ?_
            refine am_iret (Or.inr ⟨rfl, by first | exact Or.inl rfl | exact Or.inr rfl | omega⟩) (show c ≤ 3 by omega) (show s ≤ 4800 by omega) (am_tab tk_X4_readTown 39 rfl) ?_
            refine hQ _ _ ?_
            have hen2 := hen.resolve_left (fun z => h55 z.1)
            exact ⟨tl_fin hI.com.1 hen2.2 _ ⟨fun z => absurd z h71, fun _ => rfl⟩, hI.com.1.1, hI.com.2.2.1, hI.com.2.2.2⟩
          · refine am_iconst (q := 75) (n := 1) (by decide) (am_tab tk_X4_readTown 36 rfl) rfl ?_
            refine am_goto (t := 79) (am_tab tk_X4_readTown 37 rfl) (by decide) ?_
            refine am_iret (Or.inr ⟨rfl, by first | exact Or.inl rfl | exact Or.inr rfl | omega⟩) (show c ≤ 3 by omega) (show s ≤ 4800 by omega) (am_tab tk_X4_readTown 39 rfl) ?_
            refine hQ _ _ ?_
            have hen2 := hen.resolve_left (fun z => h55 z.1)
            exact ⟨tl_fin hI.com.1 hen2.2 _ ⟨fun _ => rfl, fun z => absurd h71 z⟩, hI.com.1.1, hI.com.2.2.1, hI.com.2.2.2⟩
        · refine am_aload_n (q := 59) rfl (am_tab tk_X4_readTown 28 rfl) rfl ?_
          refine am_iconst (q := 60) (n := 1) (by decide) (am_tab tk_X4_readTown 29 rfl) rfl ?_
          refine am_aload_n (q := 61) rfl (am_tab tk_X4_readTown 30 rfl) rfl ?_
          refine am_getI (q := 64) (a := 27) (k := 4) (n := 13) (j := 5) (x := (T.2.1 27 5)) (Ls_27 hLT) (by decide) rfl rfl (by decide) (Or.inl kf_X4_55) (am_tab tk_X4_readTown 31 rfl) rfl ?_
          refine am_callVr (q := 67) (me2 := M_X4_fail) (b := 27) (kb := 4) (nb := 13) (As := [am_i 1, am_i ((T.2.1 27 5))]) (rest := []) (c_failY hI.com.1 1 _ (by decide)) ⟨rfl, rfl⟩ (Ls_27 hLT) (by decide) ⟨Or.inl km_X4_58, kc_X4_fail, kn_X4, kd_X4_fail, ⟨(Nat.le_of_ble_eq_true rfl), (Nat.le_of_ble_eq_true rfl)⟩, ⟨(show c + 0 ≤ 3 by omega), (show s + 0 ≤ 4800 by omega)⟩, (Nat.le_of_ble_eq_true rfl)⟩ ki_X4_fail ks_X4_fail rfl (am_tab tk_X4_readTown 32 rfl) rfl ?_
          rintro r T4 ⟨rfl, hX4a, hF4⟩
          obtain ⟨e4, hX4, hR4⟩ : ∃ e, RY b E (cV b E) M T4 (.inr e) ∧ tnR b E S0 = .inr e := tl_f0 hX4a hI h55 hen
          refine am_aload_n (q := 68) rfl (am_tab tk_X4_readTown 33 rfl) rfl ?_
          refine am_getI (q := 71) (a := 27) (k := 4) (n := 13) (j := 8) (x := (fkZ (.inr e4 : PZ))) (Ls_27 hX4.1) (by decide) rfl hX4.fk (by decide) (Or.inl kf_X4_62) (am_tab tk_X4_readTown 34 rfl) rfl ?_
          refine am_if_ne (q := 74) (t := 78) (am_tab tk_X4_readTown 35 rfl) (by decide) rfl (fun h71 => ?_) (fun h71 => ?_)
          · refine am_iconst (q := 79) (n := 0) (by decide) (am_tab tk_X4_readTown 38 rfl) rfl ?_
            refine am_iret (Or.inr ⟨rfl, by first | exact Or.inl rfl | exact Or.inr rfl | omega⟩) (show c ≤ 3 by omega) (show s ≤ 4800 by omega) (am_tab tk_X4_readTown 39 rfl) ?_
            refine hQ _ _ ?_
            have hF5 : frw W_rz T T4 := hF4
            exact ⟨tl_fin (p := .inr e4) hX4 hR4 _ ⟨fun z => absurd z h71, fun _ => rfl⟩, hX4.1, hI.com.2.2.1.fr hF5, hI.com.2.2.2.trans (GFR.of hF5 (fun a j h => Or.inr (by unfold W_rz at h; omega)))⟩
          · refine am_iconst (q := 75) (n := 1) (by decide) (am_tab tk_X4_readTown 36 rfl) rfl ?_
            refine am_goto (t := 79) (am_tab tk_X4_readTown 37 rfl) (by decide) ?_
            refine am_iret (Or.inr ⟨rfl, by first | exact Or.inl rfl | exact Or.inr rfl | omega⟩) (show c ≤ 3 by omega) (show s ≤ 4800 by omega) (am_tab tk_X4_readTown 39 rfl) ?_
            refine hQ _ _ ?_
            have hF5 : frw W_rz T T4 := hF4
            exact ⟨tl_fin (p := .inr e4) hX4 hR4 _ ⟨fun _ => rfl, fun z => absurd h71 z⟩, hX4.1, hI.com.2.2.1.fr hF5, hI.com.2.2.2.trans (GFR.of hF5 (fun a j h => Or.inr (by unfold W_rz at h; omega)))⟩
      · refine am_aload_n (q := 30) rfl (am_tab tk_X4_readTown 16 rfl) rfl ?_
        refine am_getI (q := 33) (a := 27) (k := 4) (n := 13) (j := 4) (x := (kdZ b E p)) (Ls_27 hLT) (by decide) rfl hI.com.1.kd (by decide) (Or.inl kf_X4_45) (am_tab tk_X4_readTown 17 rfl) rfl ?_
        refine am_bipush (q := 35) (n := 6) (by decide) rfl (am_tab tk_X4_readTown 18 rfl) rfl ?_
        refine am_icmp_eq (q := 38) (t := 48) (am_tab tk_X4_readTown 19 rfl) (by decide) rfl (fun h35 => ?_) (fun h35 => ?_)
        · have hen := tl_end hI (Or.inr h35)
          refine am_aload_n (q := 49) rfl (am_tab tk_X4_readTown 24 rfl) rfl ?_
          refine am_getR (q := 52) (a := 27) (k := 4) (n := 13) (j := 2) (r := some (15)) (Ls_27 hLT) (by decide) rfl hI.com.2.1 (by decide) (Or.inl kf_X4_29) (am_tab tk_X4_readTown 25 rfl) rfl ?_
          refine am_getI (q := 55) (a := 15) (k := 8) (n := 17) (j := 1) (x := (T.2.1 15 1)) (Ls_15 hLT) (by decide) rfl rfl (by decide) (Or.inr kf_X4_52) (am_tab tk_X4_readTown 26 rfl) rfl ?_
          refine am_if_ne (q := 58) (t := 67) (am_tab tk_X4_readTown 27 rfl) (by decide) rfl (fun h55 => ?_) (fun h55 => ?_)
          · refine am_aload_n (q := 68) rfl (am_tab tk_X4_readTown 33 rfl) rfl ?_
            refine am_getI (q := 71) (a := 27) (k := 4) (n := 13) (j := 8) (x := (fkZ p)) (Ls_27 hLT) (by decide) rfl hI.com.1.fk (by decide) (Or.inl kf_X4_62) (am_tab tk_X4_readTown 34 rfl) rfl ?_
            refine am_if_ne (q := 74) (t := 78) (am_tab tk_X4_readTown 35 rfl) (by decide) rfl (fun h71 => ?_) (fun h71 => ?_)
            · refine am_iconst (q := 79) (n := 0) (by decide) (am_tab tk_X4_readTown 38 rfl) rfl ?_
              refine am_iret (Or.inr ⟨rfl, by first | exact Or.inl rfl | exact Or.inr rfl | omega⟩) (show c ≤ 3 by omega) (show s ≤ 4800 by omega) (am_tab tk_X4_readTown 39 rfl) ?_
              refine hQ _ _ ?_
              have hen2 := hen.resolve_left (fun z => h55 z.1)
              exact ⟨tl_fin hI.com.1 hen2.2 _ ⟨fun z => absurd z h71, fun _ => rfl⟩, hI.com.1.1, hI.com.2.2.1, hI.com.2.2.2⟩
            · refine am_iconst (q := 75) (n := 1) (by decide) (am_tab tk_X4_readTown 36 rfl) rfl ?_
              refine am_goto (t := 79) (am_tab tk_X4_readTown 37 rfl) (by decide) ?_
              refine am_iret (Or.inr ⟨rfl, by first | exact Or.inl rfl | exact Or.inr rfl | omega⟩) (show c ≤ 3 by omega) (show s ≤ 4800 by omega) (am_tab tk_X4_readTown 39 rfl) ?_
              refine hQ _ _ ?_
              have hen2 := hen.resolve_left (fun z => h55 z.1)
              exact ⟨tl_fin hI.com.1 hen2.2 _ ⟨fun _ => rfl, fun z => absurd h71 z⟩, hI.com.1.1, hI.com.2.2.1, hI.com.2.2.2⟩
          · refine am_aload_n (q := 59) rfl (am_tab tk_X4_readTown 28 rfl) rfl ?_
            refine am_iconst (q := 60) (n := 1) (by decide) (am_tab tk_X4_readTown 29 rfl) rfl ?_
            refine am_aload_n (q := 61) rfl (am_tab tk_X4_readTown 30 rfl) rfl ?_
            refine am_getI (q := 64) (a := 27) (k := 4) (n := 13) (j := 5) (x := (T.2.1 27 5)) (Ls_27 hLT) (by decide) rfl rfl (by decide) (Or.inl kf_X4_55) (am_tab tk_X4_readTown 31 rfl) rfl ?_
            refine am_callVr (q := 67) (me2 := M_X4_fail) (b := 27) (kb := 4) (nb := 13) (As := [am_i 1, am_i ((T.2.1 27 5))]) (rest := []) (c_failY hI.com.1 1 _ (by decide)) ⟨rfl, rfl⟩ (Ls_27 hLT) (by decide) ⟨Or.inl km_X4_58, kc_X4_fail, kn_X4, kd_X4_fail, ⟨(Nat.le_of_ble_eq_true rfl), (Nat.le_of_ble_eq_true rfl)⟩, ⟨(show c + 0 ≤ 3 by omega), (show s + 0 ≤ 4800 by omega)⟩, (Nat.le_of_ble_eq_true rfl)⟩ ki_X4_fail ks_X4_fail rfl (am_tab tk_X4_readTown 32 rfl) rfl ?_
            rintro r T4 ⟨rfl, hX4a, hF4⟩
            obtain ⟨e4, hX4, hR4⟩ : ∃ e, RY b E (cV b E) M T4 (.inr e) ∧ tnR b E S0 = .inr e := tl_f0 hX4a hI h55 hen
            refine am_aload_n (q := 68) rfl (am_tab tk_X4_readTown 33 rfl) rfl ?_
            refine am_getI (q := 71) (a := 27) (k := 4) (n := 13) (j := 8) (x := (fkZ (.inr e4 : PZ))) (Ls_27 hX4.1) (by decide) rfl hX4.fk (by decide) (Or.inl kf_X4_62) (am_tab tk_X4_readTown 34 rfl) rfl ?_
            refine am_if_ne (q := 74) (t := 78) (am_tab tk_X4_readTown 35 rfl) (by decide) rfl (fun h71 => ?_) (fun h71 => ?_)
            · refine am_iconst (q := 79) (n := 0) (by decide) (am_tab tk_X4_readTown 38 rfl) rfl ?_
              refine am_iret (Or.inr ⟨rfl, by first | exact Or.inl rfl | exact Or.inr rfl | omega⟩) (show c ≤ 3 by omega) (show s ≤ 4800 by omega) (am_tab tk_X4_readTown 39 rfl) ?_
              refine hQ _ _ ?_
              have hF5 : frw W_rz T T4 := hF4
              exact ⟨tl_fin (p := .inr e4) hX4 hR4 _ ⟨fun z => absurd z h71, fun _ => rfl⟩, hX4.1, hI.com.2.2.1.fr hF5, hI.com.2.2.2.trans (GFR.of hF5 (fun a j h => Or.inr (by unfold W_rz at h; omega)))⟩
            · refine am_iconst (q := 75) (n := 1) (by decide) (am_tab tk_X4_readTown 36 rfl) rfl ?_
              refine am_goto (t := 79) (am_tab tk_X4_readTown 37 rfl) (by decide) ?_
              refine am_iret (Or.inr ⟨rfl, by first | exact Or.inl rfl | exact Or.inr rfl | omega⟩) (show c ≤ 3 by omega) (show s ≤ 4800 by omega) (am_tab tk_X4_readTown 39 rfl) ?_
              refine hQ _ _ ?_
              have hF5 : frw W_rz T T4 := hF4
              exact ⟨tl_fin (p := .inr e4) hX4 hR4 _ ⟨fun _ => rfl, fun z => absurd h71 z⟩, hX4.1, hI.com.2.2.1.fr hF5, hI.com.2.2.2.trans (GFR.of hF5 (fun a j h => Or.inr (by unfold W_rz at h; omega)))⟩
        · obtain ⟨i, rfl, hk6⟩ := kd_l h35
          refine am_aload_n (q := 39) rfl (am_tab tk_X4_readTown 20 rfl) rfl ?_
          by_cases rule : zK b E i = 137 ∨ zK b E i = 138
          · by_cases K7 : zK b E i = 137
            · have h137 := K7
              have hc2 := hI.c2.1
              refine am_callV (q := 42) (me2 := (M_X4_readStatement 1 1600)) (b := 27) (kb := 4) (nb := 13) (As := []) (rest := []) (c_tstep_thinks_15 b E (cV b E) M S0 σ k c i T hI hk6 h137) (Ls_27 hLT) (by decide) ⟨Or.inl km_X4_49, kc_X4_readStatement, kn_X4, kd_X4_readStatement, ⟨(Nat.le_of_ble_eq_true rfl), (Nat.le_of_ble_eq_true rfl)⟩, ⟨(show c + 1 ≤ 3 by omega), (show s + 1600 ≤ 4800 by omega)⟩, (Nat.le_of_ble_eq_true rfl)⟩ ki_X4_readStatement ks_X4_readStatement rfl (am_tab tk_X4_readTown 21 rfl) rfl ?_
              rintro r T9 ⟨rfl, p9, hI9⟩
              refine am_iinc (q := 45) rfl (by omega) (by decide) (ls2 := [(2, am_i (((k : Int) + 1))), (0, am_r 27), (1, am_r 15)]) rfl (am_tab tk_X4_readTown 22 rfl) rfl ?_
              refine am_goto (t := 23) (am_tab tk_X4_readTown 23 rfl) (by decide) ?_
              exact am_less (by intro q hq; simp only [List.mem_cons, List.not_mem_nil, or_false] at hq; rcases hq with rfl | rfl | rfl <;> simp) (ih23 (k + 1) (c + 1) (s + 1600) p9 T9 (by omega) hI9 (by omega) (by omega))
            · have h137 := K7
              have hc2 := hI.c2.1
              refine am_callV (q := 42) (me2 := (M_X4_readStatement 1 1600)) (b := 27) (kb := 4) (nb := 13) (As := []) (rest := []) (c_tstep_hears_15 b E (cV b E) M S0 σ k c i T hI hk6 (rule.resolve_left h137)) (Ls_27 hLT) (by decide) ⟨Or.inl km_X4_49, kc_X4_readStatement, kn_X4, kd_X4_readStatement, ⟨(Nat.le_of_ble_eq_true rfl), (Nat.le_of_ble_eq_true rfl)⟩, ⟨(show c + 1 ≤ 3 by omega), (show s + 1600 ≤ 4800 by omega)⟩, (Nat.le_of_ble_eq_true rfl)⟩ ki_X4_readStatement ks_X4_readStatement rfl (am_tab tk_X4_readTown 21 rfl) rfl ?_
              rintro r T9 ⟨rfl, p9, hI9⟩
              refine am_iinc (q := 45) rfl (by omega) (by decide) (ls2 := [(2, am_i (((k : Int) + 1))), (0, am_r 27), (1, am_r 15)]) rfl (am_tab tk_X4_readTown 22 rfl) rfl ?_
              refine am_goto (t := 23) (am_tab tk_X4_readTown 23 rfl) (by decide) ?_
              exact am_less (by intro q hq; simp only [List.mem_cons, List.not_mem_nil, or_false] at hq; rcases hq with rfl | rfl | rfl <;> simp) (ih23 (k + 1) (c + 1) (s + 1600) p9 T9 (by omega) hI9 (by omega) (by omega))
          · have hc2 := hI.c2.1
            refine am_callVr (q := 42) (me2 := (M_X4_readStatement 0 0)) (b := 27) (kb := 4) (nb := 13) (As := []) (rest := []) (c_tstepN_15 b E (cV b E) M S0 σ k c i T hI hk6 rule) ⟨rfl, rfl⟩ (Ls_27 hLT) (by decide) ⟨Or.inl km_X4_49, kc_X4_readStatement, kn_X4, kd_X4_readStatement, ⟨(Nat.le_of_ble_eq_true rfl), (Nat.le_of_ble_eq_true rfl)⟩, ⟨(show c + 0 ≤ 3 by omega), (show s + 0 ≤ 4800 by omega)⟩, (Nat.le_of_ble_eq_true rfl)⟩ ki_X4_readStatement ks_X4_readStatement rfl (am_tab tk_X4_readTown 21 rfl) rfl ?_
            rintro r T9 ⟨rfl, p9, hI9⟩
            refine am_iinc (q := 45) rfl (by omega) (by decide) (ls2 := [(2, am_i (((k : Int) + 1))), (0, am_r 27), (1, am_r 15)]) rfl (am_tab tk_X4_readTown 22 rfl) rfl ?_
            refine am_goto (t := 23) (am_tab tk_X4_readTown 23 rfl) (by decide) ?_
            exact am_less (by intro q hq; simp only [List.mem_cons, List.not_mem_nil, or_false] at hq; rcases hq with rfl | rfl | rfl <;> simp) (ih23 (k + 1) c s p9 T9 (by omega) hI9 (by omega) (by omega))
  refine am_less (by intro q hq; simp only [List.mem_cons, List.not_mem_nil, or_false] at hq; rcases hq with rfl | rfl | rfl <;> simp) (L23 (_ + 1) 0 0 0 (.inl 0) T3 (by exact Nat.lt_succ_self _) hI3 rfl (by decide))
