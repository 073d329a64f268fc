theorem GFR.cells {t : Nat} {σ τ : am_H} (ht : t = 3 ∨ t = 15) (h : GFR t σ τ) (hL : lay σ) (hC : CDt t σ) (a j : Nat) (ha : a ≤ 2 ∨ (32 ≤ a ∧ a ≤ 130)) : τ.2.1 a j = σ.2.1 a j := by
  have hlen := len131 hL
  refine h.2.2.1 a j (by omega) (by omega) (by omega) (fun z => ?_) (fun z => ?_)
  · have := hC.c0 _ (Or.inl rfl) a z; unfold cdC0 at this; omega
  · have := hC.c0 _ (Or.inr rfl) a z; unfold cdC0 at this; omega
theorem GFR.ref {t : Nat} {σ τ : am_H} (h : GFR t σ τ) (hL : lay σ) (a j : Nat) (ha : a ≤ 130) (h1 : ¬ (a = 27 ∧ j = 2)) (h2 : ¬ ((a = t + 8 ∨ a = t + 10) ∧ j = 0)) : τ.2.2 a j = σ.2.2 a j := by
  have hlen := len131 hL
  exact h.2.2.2 a j (by omega) h1 h2
/-- heaps that agree but in some cells and in which town stands -/
def EQX (W : Nat → Nat → Prop) (σ τ : am_H) : Prop := τ.1 = σ.1 ∧ (∀ a j, ¬ (a = 0 ∧ (j = 2 ∨ j = 3)) → τ.2.2 a j = σ.2.2 a j) ∧ ∀ a j, ¬ W a j → τ.2.1 a j = σ.2.1 a j
theorem EQX.refl (W : Nat → Nat → Prop) (σ : am_H) : EQX W σ σ := ⟨rfl, fun _ _ _ => rfl, fun _ _ _ => rfl⟩
theorem EQX.F {W W2 : Nat → Nat → Prop} {σ τ υ : am_H} (h : EQX W σ τ) (hF : frw W2 τ υ) (hW : ∀ a j, W2 a j → W a j) : EQX W σ υ := ⟨hF.1.trans h.1, fun a j hn => by rw [hF.2.1]; exact h.2.1 a j hn, fun a j hn => (hF.2.2 a j (fun z => hn (hW a j z))).trans (h.2.2 a j hn)⟩
theorem EQX.N {W : Nat → Nat → Prop} {σ τ : am_H} (h : EQX W σ τ) (a j : Nat) (x : Int) (hw : W a j) : EQX W σ (am_setN τ a j x) := h.F ((frw.refl W τ).setN hw) (fun _ _ z => z)
theorem EQX.R {W : Nat → Nat → Prop} {σ τ : am_H} (h : EQX W σ τ) (j : Nat) (x : Option Nat) (hj : j = 2 ∨ j = 3) : EQX W σ (am_setR τ 0 j x) := by
  refine ⟨h.1, fun a k hn => ?_, h.2.2⟩
  show (if a = 0 ∧ k = j then x else τ.2.2 a k) = _
  rw [if_neg (by omega)]
  exact h.2.1 a k hn
/-- what a call of town leaves as it is -/
def GTF (t : Nat) (W : Nat → Nat → Prop) (σ τ : am_H) : Prop := (∃ ext, τ.1 = σ.1 ++ ext) ∧ (∀ r, r = t + 8 ∨ r = t + 10 → τ.2.2 r 0 = σ.2.2 r 0 ∨ ∃ c, τ.2.2 r 0 = some c ∧ σ.1.length ≤ c) ∧ (∀ a j, a < σ.1.length → ¬ (t ≤ a ∧ a ≤ t + 11) → ¬ (27 ≤ a ∧ a ≤ 31) → ¬ σ.2.2 (t + 8) 0 = some a → ¬ σ.2.2 (t + 10) 0 = some a → ¬ W a j → τ.2.1 a j = σ.2.1 a j) ∧ ∀ a j, a < σ.1.length → ¬ (a = 27 ∧ j = 2) → ¬ ((a = t + 8 ∨ a = t + 10) ∧ j = 0) → ¬ (a = 0 ∧ (j = 2 ∨ j = 3)) → τ.2.2 a j = σ.2.2 a j
theorem GFR.T {W : Nat → Nat → Prop} {t : Nat} {σ τ υ : am_H} (h : GFR t σ τ) (hE : EQX W τ υ) : GTF t W σ υ := by
  refine ⟨by rw [hE.1]; exact h.1, fun r hr => ?_, fun a j h1 h2 h3 h4 h5 h6 => (hE.2.2 a j h6).trans (h.2.2.1 a j h1 h2 h3 h4 h5), fun a j h1 h2 h3 h4 => (hE.2.1 a j h4).trans (h.2.2.2 a j h1 h2 h3)⟩
  rw [hE.2.1 r 0 (by omega)]
  exact h.2.1 r hr
theorem RRr.eq {W : Nat → Nat → Prop} {t : Nat} {σ τ H : am_H} (ht : t = 3 ∨ t = 15) (h : RRr t σ H) (hC : CDt t σ) (hE : EQX W σ τ) (hW : ∀ a j, (3 ≤ a ∧ a ≤ 31) ∨ 131 ≤ a → ¬ W a j) : RRr t τ H := by
  have one : ∀ r cs, r = t + 8 ∨ r = t + 10 → RLr r σ cs → RLr r τ cs := fun r cs hr g => by
    obtain ⟨g1, c, m, g2, g3, g4, g5, g6, g7⟩ := g
    refine ⟨by rw [hE.1]; exact g1, c, m, by rw [hE.2.1 r 0 (by omega)]; exact g2, by rw [hE.1]; exact g3, g4, g5, by rw [hE.2.2 r 1 (hW r 1 (by omega))]; exact g6, fun i hi => ?_⟩
    rw [hE.2.2 c i (hW c i (by omega))]
    exact g7 i hi
  exact ⟨one _ _ (Or.inl rfl) h.1, one _ _ (Or.inr rfl) h.2.1, h.2.2⟩
theorem CDt.E {W : Nat → Nat → Prop} {t : Nat} {σ τ : am_H} (ht : t = 3 ∨ t = 15) (h : CDt t σ) (hE : EQX W σ τ) : CDt t τ := h.R hE.1 (fun r hr => hE.2.1 r 0 (by omega))
theorem isL2 {R : am_H ⊕ (Int × Int)} (h : R.isLeft = true) : ∃ H, R = .inl H := by
  cases R with
  | inl H => exact ⟨H, rfl⟩
  | inr e => exact absurd h (by simp)
theorem isR2 {R : am_H ⊕ (Int × Int)} (h : ¬ R.isLeft = true) : ∃ e, R = .inr e := by
  cases R with
  | inl H => exact absurd rfl h
  | inr e => exact ⟨e, rfl⟩
def W_to (a j : Nat) : Prop := (a = 1 ∧ j = 1) ∨ (a = 0 ∧ (j = 11 ∨ j = 14 ∨ j = 15)) ∨ (32 ≤ a ∧ a ≤ 36) ∨ (a = 42 ∧ j = 2)
def W_tb (a j : Nat) : Prop := (a = 1 ∧ j = 1) ∨ (a = 0 ∧ (j = 14 ∨ j = 15)) ∨ (a = 54 ∧ j = 1)
/-- the class's call of town, by what the text tells -/
def TWN (u : Nat) (σ : am_H) (r : Option am_V) (τ : am_H) : am_H ⊕ (Int × Int) → Prop
  | .inl H => r = some (am_i (H.2.1 55 51)) ∧ TRr u τ H ∧ RRr u τ H ∧ (1 ≤ H.2.1 55 51 ∧ H.2.1 55 51 ≤ 70) ∧ TWo H ∧ LF0 32 τ (bgL (fun d => τ.2.1 (u + 6) d)) ∧ (τ.2.1 32 9 = 0 ∧ τ.2.1 32 10 = 0) ∧ (τ.2.2 0 2 = some u ∧ τ.2.2 0 3 = some (18 - u)) ∧ (τ.2.1 42 2 = 0 ∧ τ.2.1 0 11 = 0 ∧ τ.2.1 0 14 = 0 ∧ τ.2.1 0 15 = -1 ∧ τ.2.1 1 1 = 0) ∧ GTF u W_to σ τ
  | .inr e => r = some (am_i (-1)) ∧ ¬ e.1 = 0 ∧ (τ.2.1 0 14 = e.1 ∧ τ.2.1 0 15 = e.2 ∧ τ.2.1 1 1 = 0 ∧ τ.2.1 54 1 = σ.2.1 54 1 + 1) ∧ (τ.2.2 0 2 = some (18 - u) ∧ τ.2.2 0 3 = some u) ∧ GTF u W_tb σ τ
theorem c_noteFault (σ : am_H) (v8 v9 : Int) (hL : lay σ)  (h8 : σ.2.1 27 8 = v8) (h9 : σ.2.1 27 9 = v9) : am_met M_X9_noteFault [am_r 0] σ (fun r σ' => r = none ∧ σ' = am_setN (am_setN σ 0 14 v8) 0 15 v9) := by
  refine am_qq (fun Q hQ => ?_)
  refine am_enter (show plainFor yX9_noteFault = true by decide +kernel) rfl (Nat.le_of_ble_eq_true rfl) (fun _ _ _ => trivial) ?_
  refine am_aload_n (q := 1) rfl (am_tab tk_X9_noteFault 0 rfl) rfl ?_
  refine am_aload_n (q := 2) rfl (am_tab tk_X9_noteFault 1 rfl) rfl ?_
  refine am_getR (q := 5) (a := 0) (k := 9) (n := 17) (j := 1) (r := some (27)) (Ls_0 hL) (by decide) rfl (Lr_0_1 hL) (by decide) (Or.inl kf_X9_31) (am_tab tk_X9_noteFault 2 rfl) rfl ?_
  refine am_getI (q := 8) (a := 27) (k := 4) (n := 13) (j := 8) (x := v8) (Ls_27 hL) (by decide) rfl h8 (by decide) (Or.inr kf_X9_333) (am_tab tk_X9_noteFault 3 rfl) rfl ?_
  refine am_putI (q := 11) (k := 9) (n := 17) (j := 14) (Ls_0 hL) (by decide) rfl (by decide) (Or.inl ⟨kf_X9_120, rfl⟩) (am_tab tk_X9_noteFault 4 rfl) rfl ?_
  refine am_aload_n (q := 12) rfl (am_tab tk_X9_noteFault 5 rfl) rfl ?_
  refine am_aload_n (q := 13) rfl (am_tab tk_X9_noteFault 6 rfl) rfl ?_
  refine am_getR (q := 16) (a := 0) (k := 9) (n := 17) (j := 1) (r := some (27)) (Ls_0 hL) (by decide) rfl (Lr_0_1 hL) (by decide) (Or.inl kf_X9_31) (am_tab tk_X9_noteFault 7 rfl) rfl ?_
  refine am_getI (q := 19) (a := 27) (k := 4) (n := 13) (j := 9) (x := v9) (Ls_27 hL) (by decide) rfl h9 (by decide) (Or.inr kf_X9_336) (am_tab tk_X9_noteFault 8 rfl) rfl ?_
  refine am_putI (q := 22) (k := 9) (n := 17) (j := 15) (Ls_0 hL) (by decide) rfl (by decide) (Or.inl ⟨kf_X9_81, rfl⟩) (am_tab tk_X9_noteFault 9 rfl) rfl ?_
  refine am_vret rfl (Nat.le_of_ble_eq_true rfl) (Nat.le_of_ble_eq_true rfl) (am_tab tk_X9_noteFault 10 rfl) ?_
  refine hQ _ _ ?_
  exact ⟨rfl, rfl⟩
set_option maxRecDepth 100000 in
theorem c_town_3 (b : Nat → Int) (E : Nat) (S0 σ : am_H) (hL : lay σ)  (hT : TP b E σ) (hC : CDt 15 σ) (hta : σ.2.2 0 2 = some 3) (hua : σ.2.2 0 3 = some 15) (hr : 0 ≤ σ.2.1 54 1 ∧ σ.2.1 54 1 ≤ 100000) : am_met M_X9_town [am_r 0] σ (fun r σ' => TWN 15 σ r σ' (tnR b E S0) ∧ lay σ' ∧ CDt 15 σ') := by
  refine am_qq (fun Q hQ => ?_)
  refine am_enter (show plainFor yX9_town = true by decide +kernel) rfl (Nat.le_of_ble_eq_true rfl) (fun _ _ _ => trivial) ?_
  by_cases lf : (tnR b E S0).isLeft = true
  · refine am_aload_n (q := 1) rfl (am_tab tk_X9_town 0 rfl) rfl ?_
    refine am_getR (q := 4) (a := 0) (k := 9) (n := 17) (j := 1) (r := some (27)) (Ls_0 hL) (by decide) rfl (Lr_0_1 hL) (by decide) (Or.inl kf_X9_31) (am_tab tk_X9_town 1 rfl) rfl ?_
    refine am_aload_n (q := 5) rfl (am_tab tk_X9_town 2 rfl) rfl ?_
    refine am_getR (q := 8) (a := 0) (k := 9) (n := 17) (j := 3) (r := some (15)) (Ls_0 hL) (by decide) rfl hua (by decide) (Or.inl kf_X9_23) (am_tab tk_X9_town 3 rfl) rfl ?_
    refine am_callV (q := 11) (me2 := M_X4_readTown) (b := 27) (kb := 4) (nb := 13) (As := [am_r 15]) (rest := []) (c_readTown_15 b E S0 σ hL hT hC) (Ls_27 hL) (by decide) ⟨Or.inr km_X9_100, kc_X4_readTown, kn_X4, kd_X4_readTown, ⟨(Nat.le_of_ble_eq_true rfl), (Nat.le_of_ble_eq_true rfl)⟩, ⟨(Nat.le_of_ble_eq_true rfl), (Nat.le_of_ble_eq_true rfl)⟩, (Nat.le_of_ble_eq_true rfl)⟩ ki_X4_readTown ks_X4_readTown rfl (am_tab tk_X9_town 4 rfl) rfl ?_
    rintro r T1 ⟨hN, hL1, hC1, hG1⟩
    obtain ⟨H, hH⟩ := isL2 lf
    rw [hH] at hN
    obtain ⟨rfl, hTR, hRR, h51, hTW, h8, h9⟩ := hN
    have hta1 : T1.2.2 0 2 = some 3 := (hG1.ref hL 0 2 (by decide) (by decide) (by decide)).trans hta
    have hua1 : T1.2.2 0 3 = some 15 := (hG1.ref hL 0 3 (by decide) (by decide) (by decide)).trans hua
    have e54 : T1.2.1 54 1 = σ.2.1 54 1 := hG1.cells (Or.inr rfl) hL hC 54 1 (by omega)
    refine am_istore_n (q := 12) (by decide) (ls2 := [(1, am_i 1), (0, am_r 0)]) rfl (am_tab tk_X9_town 5 rfl) rfl ?_
    refine am_aload_n (q := 13) rfl (am_tab tk_X9_town 6 rfl) rfl ?_
    refine am_getR (q := 16) (a := 0) (k := 9) (n := 17) (j := 0) (r := some (1)) (Ls_0 hL1) (by decide) rfl (Lr_0_0 hL1) (by decide) (Or.inl kf_X9_12) (am_tab tk_X9_town 7 rfl) rfl ?_
    refine am_iconst (q := 17) (n := 0) (by decide) (am_tab tk_X9_town 8 rfl) rfl ?_
    refine am_putI (q := 20) (k := 6) (n := 2) (j := 1) (Ls_1 hL1) (by decide) rfl (by decide) (Or.inr (Or.inl ⟨kf_X9_89, rfl⟩)) (am_tab tk_X9_town 9 rfl) rfl ?_
    refine am_aload_n (q := 21) rfl (am_tab tk_X9_town 10 rfl) rfl ?_
    refine am_callVr (q := 24) (me2 := M_X9_noteFault) (b := 0) (kb := 9) (nb := 17) (As := []) (rest := []) (c_noteFault (am_setN T1 1 1 0) 0 (-1) hL1 h8 h9) ⟨rfl, rfl⟩ (Ls_0 hL1) (by decide) ⟨Or.inl km_X9_104, kc_X9_noteFault, kn_X9, kd_X9_noteFault, ⟨(Nat.le_of_ble_eq_true rfl), (Nat.le_of_ble_eq_true rfl)⟩, ⟨(Nat.le_of_ble_eq_true rfl), (Nat.le_of_ble_eq_true rfl)⟩, (Nat.le_of_ble_eq_true rfl)⟩ ki_X9_noteFault ks_X9_noteFault rfl (am_tab tk_X9_town 11 rfl) rfl ?_
    rintro r τ9 ⟨rfl, rfl⟩
    refine am_iload_n (q := 25) rfl (am_tab tk_X9_town 12 rfl) rfl ?_
    refine am_if_ne (q := 28) (t := 34) (am_tab tk_X9_town 13 rfl) (by decide) rfl (fun h25 => ?_) (fun h25 => ?_)
    · refine am_aload_n (q := 35) rfl (am_tab tk_X9_town 18 rfl) rfl ?_
      refine am_getR (q := 38) (a := 0) (k := 9) (n := 17) (j := 2) (r := some (3)) (Ls_0 hL1) (by decide) rfl hta1 (by decide) (Or.inl kf_X9_19) (am_tab tk_X9_town 19 rfl) rfl ?_
      refine am_astore_n (q := 39) (by decide) (ls2 := [(2, am_r 3), (1, am_i 1), (0, am_r 0)]) rfl (am_tab tk_X9_town 20 rfl) rfl ?_
      refine am_aload_n (q := 40) rfl (am_tab tk_X9_town 21 rfl) rfl ?_
      refine am_aload_n (q := 41) rfl (am_tab tk_X9_town 22 rfl) rfl ?_
      refine am_getR (q := 44) (a := 0) (k := 9) (n := 17) (j := 3) (r := some (15)) (Ls_0 hL1) (by decide) rfl hua1 (by decide) (Or.inl kf_X9_23) (am_tab tk_X9_town 23 rfl) rfl ?_
      refine am_putR (q := 47) (k := 9) (n := 17) (j := 2) (Ls_0 hL1) (by decide) rfl (by decide) (Or.inl ⟨kf_X9_19, rfl⟩) (am_tab tk_X9_town 24 rfl) rfl ?_
      have hLr : lay (am_setR (am_setN (am_setN (am_setN T1 1 1 0) 0 14 0) 0 15 (-1)) 0 2 (some (15))) := lay_R (show lay (am_setN (am_setN (am_setN T1 1 1 0) 0 14 0) 0 15 (-1)) from hL1) (by decide)
      refine am_aload_n (q := 48) rfl (am_tab tk_X9_town 25 rfl) rfl ?_
      refine am_aload_n (q := 49) rfl (am_tab tk_X9_town 26 rfl) rfl ?_
      refine am_putR (q := 52) (k := 9) (n := 17) (j := 3) (Ls_0 hLr) (by decide) rfl (by decide) (Or.inl ⟨kf_X9_23, rfl⟩) (am_tab tk_X9_town 27 rfl) rfl ?_
      have hL3 : lay (am_setR (am_setR (am_setN (am_setN (am_setN T1 1 1 0) 0 14 0) 0 15 (-1)) 0 2 (some (15))) 0 3 (some (3))) := lay_R hLr (by decide)
      refine am_aload_n (q := 53) rfl (am_tab tk_X9_town 28 rfl) rfl ?_
      refine am_getR (q := 56) (a := 0) (k := 9) (n := 17) (j := 4) (r := some (32)) (Ls_0 hL3) (by decide) rfl (Lr_0_4 hL3) (by decide) (Or.inl kf_X9_38) (am_tab tk_X9_town 29 rfl) rfl ?_
      refine am_aload_n (q := 57) rfl (am_tab tk_X9_town 30 rfl) rfl ?_
      refine am_getR (q := 60) (a := 0) (k := 9) (n := 17) (j := 2) (r := some (15)) (Ls_0 hL3) (by decide) rfl rfl (by decide) (Or.inl kf_X9_19) (am_tab tk_X9_town 31 rfl) rfl ?_
      refine am_callVr (q := 63) (me2 := M_X1_begin) (b := 32) (kb := 1) (nb := 11) (As := [am_r 15]) (rest := []) (c_begin_15_32 (am_setR (am_setR (am_setN (am_setN (am_setN T1 1 1 0) 0 14 0) 0 15 (-1)) 0 2 (some (15))) 0 3 (some (3))) hL3) ⟨rfl, rfl⟩ (Ls_32 hL3) (by decide) ⟨Or.inr km_X9_107, kc_X1_begin, kn_X1, kd_X1_begin, ⟨(Nat.le_of_ble_eq_true rfl), (Nat.le_of_ble_eq_true rfl)⟩, ⟨(Nat.le_of_ble_eq_true rfl), (Nat.le_of_ble_eq_true rfl)⟩, (Nat.le_of_ble_eq_true rfl)⟩ ki_X1_begin ks_X1_begin rfl (am_tab tk_X9_town 32 rfl) rfl ?_
      rintro r T3 ⟨rfl, hLF, h3z, hF3⟩
      refine am_aload_n (q := 64) rfl (am_tab tk_X9_town 33 rfl) rfl ?_
      refine am_getR (q := 67) (a := 0) (k := 9) (n := 17) (j := 6) (r := some (42)) (Ls_0 (hF3.L hL3)) (by decide) rfl (Lr_0_6 (hF3.L hL3)) (by decide) (Or.inl kf_X9_48) (am_tab tk_X9_town 34 rfl) rfl ?_
      refine am_callVr (q := 70) (me2 := M_X2_forget) (b := 42) (kb := 2) (nb := 3) (As := []) (rest := []) (c_forget T3 (hF3.L hL3)) ⟨rfl, rfl⟩ (Ls_42 (hF3.L hL3)) (by decide) ⟨Or.inr km_X9_111, kc_X2_forget, kn_X2, kd_X2_forget, ⟨(Nat.le_of_ble_eq_true rfl), (Nat.le_of_ble_eq_true rfl)⟩, ⟨(Nat.le_of_ble_eq_true rfl), (Nat.le_of_ble_eq_true rfl)⟩, (Nat.le_of_ble_eq_true rfl)⟩ ki_X2_forget ks_X2_forget rfl (am_tab tk_X9_town 35 rfl) rfl ?_
      rintro r τ9 ⟨rfl, rfl⟩
      refine am_aload_n (q := 71) rfl (am_tab tk_X9_town 36 rfl) rfl ?_
      refine am_iconst (q := 72) (n := 0) (by decide) (am_tab tk_X9_town 37 rfl) rfl ?_
      refine am_putI (q := 75) (k := 9) (n := 17) (j := 11) (Ls_0 (hF3.L hL3)) (by decide) rfl (by decide) (Or.inl ⟨kf_X9_114, rfl⟩) (am_tab tk_X9_town 38 rfl) rfl ?_
      refine am_aload_n (q := 76) rfl (am_tab tk_X9_town 39 rfl) rfl ?_
      refine am_getR (q := 79) (a := 0) (k := 9) (n := 17) (j := 2) (r := some (15)) (Ls_0 (hF3.L hL3)) (by decide) rfl (show T3.2.2 0 2 = some 15 by rw [hF3.2.1]; rfl) (by decide) (Or.inl kf_X9_19) (am_tab tk_X9_town 40 rfl) rfl ?_
      refine am_getI (q := 82) (a := 15) (k := 8) (n := 17) (j := 1) (x := (T3.2.1 15 1)) (Ls_15 (hF3.L hL3)) (by decide) rfl rfl (by decide) (Or.inr kf_X9_117) (am_tab tk_X9_town 41 rfl) rfl ?_
      refine am_iret (Or.inl rfl) (Nat.le_of_ble_eq_true rfl) (Nat.le_of_ble_eq_true rfl) (am_tab tk_X9_town 42 rfl) ?_
      refine hQ _ _ ?_
      rw [hH]
      have hE1 : EQX W_to T1 (am_setR (am_setR (am_setN (am_setN (am_setN T1 1 1 0) 0 14 0) 0 15 (-1)) 0 2 (some (15))) 0 3 (some (3))) := ((((((EQX.refl W_to T1).N 1 1 0 (by unfold W_to; omega)).N 0 14 0 (by unfold W_to; omega)).N 0 15 (-1) (by unfold W_to; omega)).R 2 _ (Or.inl rfl)).R 3 _ (Or.inr rfl))
      have hE2 : EQX W_to T1 (am_setN (am_setN T3 42 2 0) 0 11 0) := ((hE1.F hF3 (fun a j h => by unfold W_li at h; unfold W_to; omega)).N 42 2 0 (by unfold W_to; omega)).N 0 11 0 (by unfold W_to; omega)
      have hTR2 : TRr 15 (am_setN (am_setN T3 42 2 0) 0 11 0) H := hTR.cells (fun a j h => hE2.2.2 a j (by unfold W_to; omega))
      have hRR2 : RRr 15 (am_setN (am_setN T3 42 2 0) 0 11 0) H := hRR.eq (Or.inr rfl) hC1 hE2 (fun a j h => by unfold W_to; omega)
      have hLF2 : LF0 32 (am_setN (am_setN T3 42 2 0) 0 11 0) (bgL (fun d => T1.2.1 21 d)) := hLF.fr (((frw.refl (fun a _ => a = 42 ∨ a = 0) T3).setN (Or.inl rfl)).setN (Or.inr rfl)) (fun a j h => by omega)
      refine ⟨⟨congrArg (fun z => some (am_i z)) hTR2.1.2.1, hTR2, hRR2, h51, hTW, ?_, ?_, ?_, ?_, hG1.T hE2⟩, hF3.L hL3, hC1.E (Or.inr rfl) hE2⟩
      · rw [show (fun d => (am_setN (am_setN T3 42 2 0) 0 11 0).2.1 (15 + 6) d) = (fun d => T1.2.1 21 d) from funext (fun d => hE2.2.2 21 d (by unfold W_to; omega))]
        exact hLF2
      · exact ⟨h3z.1, h3z.2⟩
      · refine ⟨?_, ?_⟩
        · show T3.2.2 0 2 = _
          rw [hF3.2.1]; rfl
        · show T3.2.2 0 3 = _
          rw [hF3.2.1]; rfl
      · refine ⟨rfl, rfl, ?_, ?_, ?_⟩
        · show T3.2.1 0 14 = 0
          rw [hF3.2.2 0 14 (by unfold W_li; omega)]; rfl
        · show T3.2.1 0 15 = -1
          rw [hF3.2.2 0 15 (by unfold W_li; omega)]; rfl
        · show T3.2.1 1 1 = 0
          rw [hF3.2.2 1 1 (by unfold W_li; omega)]; rfl
    · exact absurd h25 (by decide)
  · refine am_aload_n (q := 1) rfl (am_tab tk_X9_town 0 rfl) rfl ?_
    refine am_getR (q := 4) (a := 0) (k := 9) (n := 17) (j := 1) (r := some (27)) (Ls_0 hL) (by decide) rfl (Lr_0_1 hL) (by decide) (Or.inl kf_X9_31) (am_tab tk_X9_town 1 rfl) rfl ?_
    refine am_aload_n (q := 5) rfl (am_tab tk_X9_town 2 rfl) rfl ?_
    refine am_getR (q := 8) (a := 0) (k := 9) (n := 17) (j := 3) (r := some (15)) (Ls_0 hL) (by decide) rfl hua (by decide) (Or.inl kf_X9_23) (am_tab tk_X9_town 3 rfl) rfl ?_
    refine am_callV (q := 11) (me2 := M_X4_readTown) (b := 27) (kb := 4) (nb := 13) (As := [am_r 15]) (rest := []) (c_readTown_15 b E S0 σ hL hT hC) (Ls_27 hL) (by decide) ⟨Or.inr km_X9_100, kc_X4_readTown, kn_X4, kd_X4_readTown, ⟨(Nat.le_of_ble_eq_true rfl), (Nat.le_of_ble_eq_true rfl)⟩, ⟨(Nat.le_of_ble_eq_true rfl), (Nat.le_of_ble_eq_true rfl)⟩, (Nat.le_of_ble_eq_true rfl)⟩ ki_X4_readTown ks_X4_readTown rfl (am_tab tk_X9_town 4 rfl) rfl ?_
    rintro r T1 ⟨hN, hL1, hC1, hG1⟩
    obtain ⟨e, hE⟩ := isR2 lf
    rw [hE] at hN
    obtain ⟨rfl, hz, h8, h9⟩ := hN
    have hta1 : T1.2.2 0 2 = some 3 := (hG1.ref hL 0 2 (by decide) (by decide) (by decide)).trans hta
    have hua1 : T1.2.2 0 3 = some 15 := (hG1.ref hL 0 3 (by decide) (by decide) (by decide)).trans hua
    have e54 : T1.2.1 54 1 = σ.2.1 54 1 := hG1.cells (Or.inr rfl) hL hC 54 1 (by omega)
    refine am_istore_n (q := 12) (by decide) (ls2 := [(1, am_i 0), (0, am_r 0)]) rfl (am_tab tk_X9_town 5 rfl) rfl ?_
    refine am_aload_n (q := 13) rfl (am_tab tk_X9_town 6 rfl) rfl ?_
    refine am_getR (q := 16) (a := 0) (k := 9) (n := 17) (j := 0) (r := some (1)) (Ls_0 hL1) (by decide) rfl (Lr_0_0 hL1) (by decide) (Or.inl kf_X9_12) (am_tab tk_X9_town 7 rfl) rfl ?_
    refine am_iconst (q := 17) (n := 0) (by decide) (am_tab tk_X9_town 8 rfl) rfl ?_
    refine am_putI (q := 20) (k := 6) (n := 2) (j := 1) (Ls_1 hL1) (by decide) rfl (by decide) (Or.inr (Or.inl ⟨kf_X9_89, rfl⟩)) (am_tab tk_X9_town 9 rfl) rfl ?_
    refine am_aload_n (q := 21) rfl (am_tab tk_X9_town 10 rfl) rfl ?_
    refine am_callVr (q := 24) (me2 := M_X9_noteFault) (b := 0) (kb := 9) (nb := 17) (As := []) (rest := []) (c_noteFault (am_setN T1 1 1 0) e.1 e.2 hL1 h8 h9) ⟨rfl, rfl⟩ (Ls_0 hL1) (by decide) ⟨Or.inl km_X9_104, kc_X9_noteFault, kn_X9, kd_X9_noteFault, ⟨(Nat.le_of_ble_eq_true rfl), (Nat.le_of_ble_eq_true rfl)⟩, ⟨(Nat.le_of_ble_eq_true rfl), (Nat.le_of_ble_eq_true rfl)⟩, (Nat.le_of_ble_eq_true rfl)⟩ ki_X9_noteFault ks_X9_noteFault rfl (am_tab tk_X9_town 11 rfl) rfl ?_
    rintro r τ9 ⟨rfl, rfl⟩
    refine am_iload_n (q := 25) rfl (am_tab tk_X9_town 12 rfl) rfl ?_
    refine am_if_ne (q := 28) (t := 34) (am_tab tk_X9_town 13 rfl) (by decide) rfl (fun h25 => ?_) (fun h25 => ?_)
    · exact absurd h25 (by decide)
    · refine am_aload_n (q := 29) rfl (am_tab tk_X9_town 14 rfl) rfl ?_
      refine am_iconst (q := 30) (n := 1) (by decide) (am_tab tk_X9_town 15 rfl) rfl ?_
      refine am_callVr (q := 33) (me2 := M_X9_refuse) (b := 0) (kb := 9) (nb := 17) (As := [am_i 1]) (rest := []) (c_refuse (am_setN (am_setN (am_setN T1 1 1 0) 0 14 e.1) 0 15 e.2) hL1 1 (by decide) (show 0 ≤ T1.2.1 54 1 ∧ T1.2.1 54 1 ≤ 100000 by rw [e54]; exact hr)) ⟨rfl, rfl⟩ (Ls_0 hL1) (by decide) ⟨Or.inl km_X9_92, kc_X9_refuse, kn_X9, kd_X9_refuse, ⟨(Nat.le_of_ble_eq_true rfl), (Nat.le_of_ble_eq_true rfl)⟩, ⟨(Nat.le_of_ble_eq_true rfl), (Nat.le_of_ble_eq_true rfl)⟩, (Nat.le_of_ble_eq_true rfl)⟩ ki_X9_refuse ks_X9_refuse rfl (am_tab tk_X9_town 16 rfl) rfl ?_
      rintro r τ9 ⟨rfl, rfl⟩
      refine am_iret (Or.inl rfl) (Nat.le_of_ble_eq_true rfl) (Nat.le_of_ble_eq_true rfl) (am_tab tk_X9_town 17 rfl) ?_
      refine hQ _ _ ?_
      rw [hE]
      have hE2 : EQX W_tb T1 (am_setN (am_setN (am_setN (am_setN T1 1 1 0) 0 14 e.1) 0 15 e.2) 54 1 ((am_setN (am_setN (am_setN T1 1 1 0) 0 14 e.1) 0 15 e.2).2.1 54 1 + 1)) := ((((EQX.refl W_tb T1).N 1 1 0 (by unfold W_tb; omega)).N 0 14 _ (by unfold W_tb; omega)).N 0 15 _ (by unfold W_tb; omega)).N 54 1 _ (by unfold W_tb; omega)
      refine ⟨⟨rfl, hz, ⟨rfl, rfl, rfl, ?_⟩, ⟨hta1, hua1⟩, hG1.T hE2⟩, hL1, hC1.E (Or.inr rfl) hE2⟩
      show T1.2.1 54 1 + 1 = _
      rw [e54]
set_option maxRecDepth 100000 in
theorem c_town_15 (b : Nat → Int) (E : Nat) (S0 σ : am_H) (hL : lay σ)  (hT : TP b E σ) (hC : CDt 3 σ) (hta : σ.2.2 0 2 = some 15) (hua : σ.2.2 0 3 = some 3) (hr : 0 ≤ σ.2.1 54 1 ∧ σ.2.1 54 1 ≤ 100000) : am_met M_X9_town [am_r 0] σ (fun r σ' => TWN 3 σ r σ' (tnR b E S0) ∧ lay σ' ∧ CDt 3 σ') := by
  refine am_qq (fun Q hQ => ?_)
  refine am_enter (show plainFor yX9_town = true by decide +kernel) rfl (Nat.le_of_ble_eq_true rfl) (fun _ _ _ => trivial) ?_
  by_cases lf : (tnR b E S0).isLeft = true
  · refine am_aload_n (q := 1) rfl (am_tab tk_X9_town 0 rfl) rfl ?_
    refine am_getR (q := 4) (a := 0) (k := 9) (n := 17) (j := 1) (r := some (27)) (Ls_0 hL) (by decide) rfl (Lr_0_1 hL) (by decide) (Or.inl kf_X9_31) (am_tab tk_X9_town 1 rfl) rfl ?_
    refine am_aload_n (q := 5) rfl (am_tab tk_X9_town 2 rfl) rfl ?_
    refine am_getR (q := 8) (a := 0) (k := 9) (n := 17) (j := 3) (r := some (3)) (Ls_0 hL) (by decide) rfl hua (by decide) (Or.inl kf_X9_23) (am_tab tk_X9_town 3 rfl) rfl ?_
    refine am_callV (q := 11) (me2 := M_X4_readTown) (b := 27) (kb := 4) (nb := 13) (As := [am_r 3]) (rest := []) (c_readTown_3 b E S0 σ hL hT hC) (Ls_27 hL) (by decide) ⟨Or.inr km_X9_100, kc_X4_readTown, kn_X4, kd_X4_readTown, ⟨(Nat.le_of_ble_eq_true rfl), (Nat.le_of_ble_eq_true rfl)⟩, ⟨(Nat.le_of_ble_eq_true rfl), (Nat.le_of_ble_eq_true rfl)⟩, (Nat.le_of_ble_eq_true rfl)⟩ ki_X4_readTown ks_X4_readTown rfl (am_tab tk_X9_town 4 rfl) rfl ?_
    rintro r T1 ⟨hN, hL1, hC1, hG1⟩
    obtain ⟨H, hH⟩ := isL2 lf
    rw [hH] at hN
    obtain ⟨rfl, hTR, hRR, h51, hTW, h8, h9⟩ := hN
    have hta1 : T1.2.2 0 2 = some 15 := (hG1.ref hL 0 2 (by decide) (by decide) (by decide)).trans hta
    have hua1 : T1.2.2 0 3 = some 3 := (hG1.ref hL 0 3 (by decide) (by decide) (by decide)).trans hua
    have e54 : T1.2.1 54 1 = σ.2.1 54 1 := hG1.cells (Or.inl rfl) hL hC 54 1 (by omega)
    refine am_istore_n (q := 12) (by decide) (ls2 := [(1, am_i 1), (0, am_r 0)]) rfl (am_tab tk_X9_town 5 rfl) rfl ?_
    refine am_aload_n (q := 13) rfl (am_tab tk_X9_town 6 rfl) rfl ?_
    refine am_getR (q := 16) (a := 0) (k := 9) (n := 17) (j := 0) (r := some (1)) (Ls_0 hL1) (by decide) rfl (Lr_0_0 hL1) (by decide) (Or.inl kf_X9_12) (am_tab tk_X9_town 7 rfl) rfl ?_
    refine am_iconst (q := 17) (n := 0) (by decide) (am_tab tk_X9_town 8 rfl) rfl ?_
    refine am_putI (q := 20) (k := 6) (n := 2) (j := 1) (Ls_1 hL1) (by decide) rfl (by decide) (Or.inr (Or.inl ⟨kf_X9_89, rfl⟩)) (am_tab tk_X9_town 9 rfl) rfl ?_
    refine am_aload_n (q := 21) rfl (am_tab tk_X9_town 10 rfl) rfl ?_
    refine am_callVr (q := 24) (me2 := M_X9_noteFault) (b := 0) (kb := 9) (nb := 17) (As := []) (rest := []) (c_noteFault (am_setN T1 1 1 0) 0 (-1) hL1 h8 h9) ⟨rfl, rfl⟩ (Ls_0 hL1) (by decide) ⟨Or.inl km_X9_104, kc_X9_noteFault, kn_X9, kd_X9_noteFault, ⟨(Nat.le_of_ble_eq_true rfl), (Nat.le_of_ble_eq_true rfl)⟩, ⟨(Nat.le_of_ble_eq_true rfl), (Nat.le_of_ble_eq_true rfl)⟩, (Nat.le_of_ble_eq_true rfl)⟩ ki_X9_noteFault ks_X9_noteFault rfl (am_tab tk_X9_town 11 rfl) rfl ?_
    rintro r τ9 ⟨rfl, rfl⟩
    refine am_iload_n (q := 25) rfl (am_tab tk_X9_town 12 rfl) rfl ?_
    refine am_if_ne (q := 28) (t := 34) (am_tab tk_X9_town 13 rfl) (by decide) rfl (fun h25 => ?_) (fun h25 => ?_)
    · refine am_aload_n (q := 35) rfl (am_tab tk_X9_town 18 rfl) rfl ?_
      refine am_getR (q := 38) (a := 0) (k := 9) (n := 17) (j := 2) (r := some (15)) (Ls_0 hL1) (by decide) rfl hta1 (by decide) (Or.inl kf_X9_19) (am_tab tk_X9_town 19 rfl) rfl ?_
      refine am_astore_n (q := 39) (by decide) (ls2 := [(2, am_r 15), (1, am_i 1), (0, am_r 0)]) rfl (am_tab tk_X9_town 20 rfl) rfl ?_
      refine am_aload_n (q := 40) rfl (am_tab tk_X9_town 21 rfl) rfl ?_
      refine am_aload_n (q := 41) rfl (am_tab tk_X9_town 22 rfl) rfl ?_
      refine am_getR (q := 44) (a := 0) (k := 9) (n := 17) (j := 3) (r := some (3)) (Ls_0 hL1) (by decide) rfl hua1 (by decide) (Or.inl kf_X9_23) (am_tab tk_X9_town 23 rfl) rfl ?_
      refine am_putR (q := 47) (k := 9) (n := 17) (j := 2) (Ls_0 hL1) (by decide) rfl (by decide) (Or.inl ⟨kf_X9_19, rfl⟩) (am_tab tk_X9_town 24 rfl) rfl ?_
      have hLr : lay (am_setR (am_setN (am_setN (am_setN T1 1 1 0) 0 14 0) 0 15 (-1)) 0 2 (some (3))) := lay_R (show lay (am_setN (am_setN (am_setN T1 1 1 0) 0 14 0) 0 15 (-1)) from hL1) (by decide)
      refine am_aload_n (q := 48) rfl (am_tab tk_X9_town 25 rfl) rfl ?_
      refine am_aload_n (q := 49) rfl (am_tab tk_X9_town 26 rfl) rfl ?_
      refine am_putR (q := 52) (k := 9) (n := 17) (j := 3) (Ls_0 hLr) (by decide) rfl (by decide) (Or.inl ⟨kf_X9_23, rfl⟩) (am_tab tk_X9_town 27 rfl) rfl ?_
      have hL3 : lay (am_setR (am_setR (am_setN (am_setN (am_setN T1 1 1 0) 0 14 0) 0 15 (-1)) 0 2 (some (3))) 0 3 (some (15))) := lay_R hLr (by decide)
      refine am_aload_n (q := 53) rfl (am_tab tk_X9_town 28 rfl) rfl ?_
      refine am_getR (q := 56) (a := 0) (k := 9) (n := 17) (j := 4) (r := some (32)) (Ls_0 hL3) (by decide) rfl (Lr_0_4 hL3) (by decide) (Or.inl kf_X9_38) (am_tab tk_X9_town 29 rfl) rfl ?_
      refine am_aload_n (q := 57) rfl (am_tab tk_X9_town 30 rfl) rfl ?_
      refine am_getR (q := 60) (a := 0) (k := 9) (n := 17) (j := 2) (r := some (3)) (Ls_0 hL3) (by decide) rfl rfl (by decide) (Or.inl kf_X9_19) (am_tab tk_X9_town 31 rfl) rfl ?_
      refine am_callVr (q := 63) (me2 := M_X1_begin) (b := 32) (kb := 1) (nb := 11) (As := [am_r 3]) (rest := []) (c_begin_3_32 (am_setR (am_setR (am_setN (am_setN (am_setN T1 1 1 0) 0 14 0) 0 15 (-1)) 0 2 (some (3))) 0 3 (some (15))) hL3) ⟨rfl, rfl⟩ (Ls_32 hL3) (by decide) ⟨Or.inr km_X9_107, kc_X1_begin, kn_X1, kd_X1_begin, ⟨(Nat.le_of_ble_eq_true rfl), (Nat.le_of_ble_eq_true rfl)⟩, ⟨(Nat.le_of_ble_eq_true rfl), (Nat.le_of_ble_eq_true rfl)⟩, (Nat.le_of_ble_eq_true rfl)⟩ ki_X1_begin ks_X1_begin rfl (am_tab tk_X9_town 32 rfl) rfl ?_
      rintro r T3 ⟨rfl, hLF, h3z, hF3⟩
      refine am_aload_n (q := 64) rfl (am_tab tk_X9_town 33 rfl) rfl ?_
      refine am_getR (q := 67) (a := 0) (k := 9) (n := 17) (j := 6) (r := some (42)) (Ls_0 (hF3.L hL3)) (by decide) rfl (Lr_0_6 (hF3.L hL3)) (by decide) (Or.inl kf_X9_48) (am_tab tk_X9_town 34 rfl) rfl ?_
      refine am_callVr (q := 70) (me2 := M_X2_forget) (b := 42) (kb := 2) (nb := 3) (As := []) (rest := []) (c_forget T3 (hF3.L hL3)) ⟨rfl, rfl⟩ (Ls_42 (hF3.L hL3)) (by decide) ⟨Or.inr km_X9_111, kc_X2_forget, kn_X2, kd_X2_forget, ⟨(Nat.le_of_ble_eq_true rfl), (Nat.le_of_ble_eq_true rfl)⟩, ⟨(Nat.le_of_ble_eq_true rfl), (Nat.le_of_ble_eq_true rfl)⟩, (Nat.le_of_ble_eq_true rfl)⟩ ki_X2_forget ks_X2_forget rfl (am_tab tk_X9_town 35 rfl) rfl ?_
      rintro r τ9 ⟨rfl, rfl⟩
      refine am_aload_n (q := 71) rfl (am_tab tk_X9_town 36 rfl) rfl ?_
      refine am_iconst (q := 72) (n := 0) (by decide) (am_tab tk_X9_town 37 rfl) rfl ?_
      refine am_putI (q := 75) (k := 9) (n := 17) (j := 11) (Ls_0 (hF3.L hL3)) (by decide) rfl (by decide) (Or.inl ⟨kf_X9_114, rfl⟩) (am_tab tk_X9_town 38 rfl) rfl ?_
      refine am_aload_n (q := 76) rfl (am_tab tk_X9_town 39 rfl) rfl ?_
      refine am_getR (q := 79) (a := 0) (k := 9) (n := 17) (j := 2) (r := some (3)) (Ls_0 (hF3.L hL3)) (by decide) rfl (show T3.2.2 0 2 = some 3 by rw [hF3.2.1]; rfl) (by decide) (Or.inl kf_X9_19) (am_tab tk_X9_town 40 rfl) rfl ?_
      refine am_getI (q := 82) (a := 3) (k := 8) (n := 17) (j := 1) (x := (T3.2.1 3 1)) (Ls_3 (hF3.L hL3)) (by decide) rfl rfl (by decide) (Or.inr kf_X9_117) (am_tab tk_X9_town 41 rfl) rfl ?_
      refine am_iret (Or.inl rfl) (Nat.le_of_ble_eq_true rfl) (Nat.le_of_ble_eq_true rfl) (am_tab tk_X9_town 42 rfl) ?_
      refine hQ _ _ ?_
      rw [hH]
      have hE1 : EQX W_to T1 (am_setR (am_setR (am_setN (am_setN (am_setN T1 1 1 0) 0 14 0) 0 15 (-1)) 0 2 (some (3))) 0 3 (some (15))) := ((((((EQX.refl W_to T1).N 1 1 0 (by unfold W_to; omega)).N 0 14 0 (by unfold W_to; omega)).N 0 15 (-1) (by unfold W_to; omega)).R 2 _ (Or.inl rfl)).R 3 _ (Or.inr rfl))
      have hE2 : EQX W_to T1 (am_setN (am_setN T3 42 2 0) 0 11 0) := ((hE1.F hF3 (fun a j h => by unfold W_li at h; unfold W_to; omega)).N 42 2 0 (by unfold W_to; omega)).N 0 11 0 (by unfold W_to; omega)
      have hTR2 : TRr 3 (am_setN (am_setN T3 42 2 0) 0 11 0) H := hTR.cells (fun a j h => hE2.2.2 a j (by unfold W_to; omega))
      have hRR2 : RRr 3 (am_setN (am_setN T3 42 2 0) 0 11 0) H := hRR.eq (Or.inl rfl) hC1 hE2 (fun a j h => by unfold W_to; omega)
      have hLF2 : LF0 32 (am_setN (am_setN T3 42 2 0) 0 11 0) (bgL (fun d => T1.2.1 9 d)) := hLF.fr (((frw.refl (fun a _ => a = 42 ∨ a = 0) T3).setN (Or.inl rfl)).setN (Or.inr rfl)) (fun a j h => by omega)
      refine ⟨⟨congrArg (fun z => some (am_i z)) hTR2.1.2.1, hTR2, hRR2, h51, hTW, ?_, ?_, ?_, ?_, hG1.T hE2⟩, hF3.L hL3, hC1.E (Or.inl rfl) hE2⟩
      · rw [show (fun d => (am_setN (am_setN T3 42 2 0) 0 11 0).2.1 (3 + 6) d) = (fun d => T1.2.1 9 d) from funext (fun d => hE2.2.2 9 d (by unfold W_to; omega))]
        exact hLF2
      · exact ⟨h3z.1, h3z.2⟩
      · refine ⟨?_, ?_⟩
        · show T3.2.2 0 2 = _
          rw [hF3.2.1]; rfl
        · show T3.2.2 0 3 = _
          rw [hF3.2.1]; rfl
      · refine ⟨rfl, rfl, ?_, ?_, ?_⟩
        · show T3.2.1 0 14 = 0
          rw [hF3.2.2 0 14 (by unfold W_li; omega)]; rfl
        · show T3.2.1 0 15 = -1
          rw [hF3.2.2 0 15 (by unfold W_li; omega)]; rfl
        · show T3.2.1 1 1 = 0
          rw [hF3.2.2 1 1 (by unfold W_li; omega)]; rfl
    · exact absurd h25 (by decide)
  · refine am_aload_n (q := 1) rfl (am_tab tk_X9_town 0 rfl) rfl ?_
    refine am_getR (q := 4) (a := 0) (k := 9) (n := 17) (j := 1) (r := some (27)) (Ls_0 hL) (by decide) rfl (Lr_0_1 hL) (by decide) (Or.inl kf_X9_31) (am_tab tk_X9_town 1 rfl) rfl ?_
    refine am_aload_n (q := 5) rfl (am_tab tk_X9_town 2 rfl) rfl ?_
    refine am_getR (q := 8) (a := 0) (k := 9) (n := 17) (j := 3) (r := some (3)) (Ls_0 hL) (by decide) rfl hua (by decide) (Or.inl kf_X9_23) (am_tab tk_X9_town 3 rfl) rfl ?_
    refine am_callV (q := 11) (me2 := M_X4_readTown) (b := 27) (kb := 4) (nb := 13) (As := [am_r 3]) (rest := []) (c_readTown_3 b E S0 σ hL hT hC) (Ls_27 hL) (by decide) ⟨Or.inr km_X9_100, kc_X4_readTown, kn_X4, kd_X4_readTown, ⟨(Nat.le_of_ble_eq_true rfl), (Nat.le_of_ble_eq_true rfl)⟩, ⟨(Nat.le_of_ble_eq_true rfl), (Nat.le_of_ble_eq_true rfl)⟩, (Nat.le_of_ble_eq_true rfl)⟩ ki_X4_readTown ks_X4_readTown rfl (am_tab tk_X9_town 4 rfl) rfl ?_
    rintro r T1 ⟨hN, hL1, hC1, hG1⟩
    obtain ⟨e, hE⟩ := isR2 lf
    rw [hE] at hN
    obtain ⟨rfl, hz, h8, h9⟩ := hN
    have hta1 : T1.2.2 0 2 = some 15 := (hG1.ref hL 0 2 (by decide) (by decide) (by decide)).trans hta
    have hua1 : T1.2.2 0 3 = some 3 := (hG1.ref hL 0 3 (by decide) (by decide) (by decide)).trans hua
    have e54 : T1.2.1 54 1 = σ.2.1 54 1 := hG1.cells (Or.inl rfl) hL hC 54 1 (by omega)
    refine am_istore_n (q := 12) (by decide) (ls2 := [(1, am_i 0), (0, am_r 0)]) rfl (am_tab tk_X9_town 5 rfl) rfl ?_
    refine am_aload_n (q := 13) rfl (am_tab tk_X9_town 6 rfl) rfl ?_
    refine am_getR (q := 16) (a := 0) (k := 9) (n := 17) (j := 0) (r := some (1)) (Ls_0 hL1) (by decide) rfl (Lr_0_0 hL1) (by decide) (Or.inl kf_X9_12) (am_tab tk_X9_town 7 rfl) rfl ?_
    refine am_iconst (q := 17) (n := 0) (by decide) (am_tab tk_X9_town 8 rfl) rfl ?_
    refine am_putI (q := 20) (k := 6) (n := 2) (j := 1) (Ls_1 hL1) (by decide) rfl (by decide) (Or.inr (Or.inl ⟨kf_X9_89, rfl⟩)) (am_tab tk_X9_town 9 rfl) rfl ?_
    refine am_aload_n (q := 21) rfl (am_tab tk_X9_town 10 rfl) rfl ?_
    refine am_callVr (q := 24) (me2 := M_X9_noteFault) (b := 0) (kb := 9) (nb := 17) (As := []) (rest := []) (c_noteFault (am_setN T1 1 1 0) e.1 e.2 hL1 h8 h9) ⟨rfl, rfl⟩ (Ls_0 hL1) (by decide) ⟨Or.inl km_X9_104, kc_X9_noteFault, kn_X9, kd_X9_noteFault, ⟨(Nat.le_of_ble_eq_true rfl), (Nat.le_of_ble_eq_true rfl)⟩, ⟨(Nat.le_of_ble_eq_true rfl), (Nat.le_of_ble_eq_true rfl)⟩, (Nat.le_of_ble_eq_true rfl)⟩ ki_X9_noteFault ks_X9_noteFault rfl (am_tab tk_X9_town 11 rfl) rfl ?_
    rintro r τ9 ⟨rfl, rfl⟩
    refine am_iload_n (q := 25) rfl (am_tab tk_X9_town 12 rfl) rfl ?_
    refine am_if_ne (q := 28) (t := 34) (am_tab tk_X9_town 13 rfl) (by decide) rfl (fun h25 => ?_) (fun h25 => ?_)
    · exact absurd h25 (by decide)
    · refine am_aload_n (q := 29) rfl (am_tab tk_X9_town 14 rfl) rfl ?_
      refine am_iconst (q := 30) (n := 1) (by decide) (am_tab tk_X9_town 15 rfl) rfl ?_
      refine am_callVr (q := 33) (me2 := M_X9_refuse) (b := 0) (kb := 9) (nb := 17) (As := [am_i 1]) (rest := []) (c_refuse (am_setN (am_setN (am_setN T1 1 1 0) 0 14 e.1) 0 15 e.2) hL1 1 (by decide) (show 0 ≤ T1.2.1 54 1 ∧ T1.2.1 54 1 ≤ 100000 by rw [e54]; exact hr)) ⟨rfl, rfl⟩ (Ls_0 hL1) (by decide) ⟨Or.inl km_X9_92, kc_X9_refuse, kn_X9, kd_X9_refuse, ⟨(Nat.le_of_ble_eq_true rfl), (Nat.le_of_ble_eq_true rfl)⟩, ⟨(Nat.le_of_ble_eq_true rfl), (Nat.le_of_ble_eq_true rfl)⟩, (Nat.le_of_ble_eq_true rfl)⟩ ki_X9_refuse ks_X9_refuse rfl (am_tab tk_X9_town 16 rfl) rfl ?_
      rintro r τ9 ⟨rfl, rfl⟩
      refine am_iret (Or.inl rfl) (Nat.le_of_ble_eq_true rfl) (Nat.le_of_ble_eq_true rfl) (am_tab tk_X9_town 17 rfl) ?_
      refine hQ _ _ ?_
      rw [hE]
      have hE2 : EQX W_tb T1 (am_setN (am_setN (am_setN (am_setN T1 1 1 0) 0 14 e.1) 0 15 e.2) 54 1 ((am_setN (am_setN (am_setN T1 1 1 0) 0 14 e.1) 0 15 e.2).2.1 54 1 + 1)) := ((((EQX.refl W_tb T1).N 1 1 0 (by unfold W_tb; omega)).N 0 14 _ (by unfold W_tb; omega)).N 0 15 _ (by unfold W_tb; omega)).N 54 1 _ (by unfold W_tb; omega)
      refine ⟨⟨rfl, hz, ⟨rfl, rfl, rfl, ?_⟩, ⟨hta1, hua1⟩, hG1.T hE2⟩, hL1, hC1.E (Or.inl rfl) hE2⟩
      show T1.2.1 54 1 + 1 = _
      rw [e54]
