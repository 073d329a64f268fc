/-- what is known of the class's tokens: a number's value, a name's letters -/
def TKv (b : Nat → Int) (E : Nat) (cv : Nat → Int) (M : Nat) : Prop := ∀ i, i ≤ M → (zK b E i = 1 → cv i = zV b E i) ∧ (okN b E i → nmR (cv i) (zN b E i))
/-- the class's reader of rules: ahead of a place, with these codes and so many open; or a fault -/
abbrev SX : Type := (Nat × List Int × Int) ⊕ ((Int × Int) × Int)
def kdS (b : Nat → Int) (E : Nat) : SX → Int
  | .inl q => zK b E q.1
  | .inr _ => 6
def spS (b : Nat → Int) (E : Nat) : SX → Int
  | .inl q => (zP b E q.1 : Int)
  | .inr _ => 0
def vS (b : Nat → Int) (E : Nat) : SX → Int
  | .inl q => zV b E q.1
  | .inr _ => 0
def oS : SX → Int
  | .inl q => q.2.2
  | .inr q => q.2
def npS : SX → SX
  | .inl q => .inl (q.1 + 1, q.2.1, q.2.2)
  | .inr q => .inr q
def flS (k pl : Int) : SX → SX
  | .inl q => .inr ((k, pl), q.2.2)
  | .inr q => .inr q
def ftS (b : Nat → Int) (E : Nat) (k : Int) : SX → SX
  | .inl q => .inr ((k, (zP b E q.1 : Int)), q.2.2)
  | .inr q => .inr q
def adS (m : Int) : SX → SX
  | .inl q => .inl (q.1, if q.2.1.length < 1600 then q.2.1 ++ [m] else q.2.1, q.2.2)
  | .inr q => .inr q
def ocS (d : Int) : SX → SX
  | .inl q => .inl (q.1, q.2.1, q.2.2 + d)
  | .inr q => .inr (q.1, q.2 + d)
def nuS (b : Nat → Int) (E : Nat) (lo hi : Int) : SX → SX
  | .inl q => if zK b E q.1 = 1 ∧ lo ≤ zV b E q.1 ∧ zV b E q.1 ≤ hi then .inl (q.1 + 1, q.2.1, q.2.2) else .inr ((nfK b E q.1, nfP b E q.1), q.2.2)
  | .inr q => .inr q
/-- what does not change while a rule is read -/
def CMx (b : Nat → Int) (E : Nat) (cv : Nat → Int) (M : Nat) (tk : Int) (σ : am_H) : Prop := lay σ ∧ TKc b E cv M σ ∧ TKv b E cv M ∧ (tk = 0 ∨ tk = 1 ∨ tk = 2) ∧ σ.2.1 27 11 = (if tk = 2 then 1 else 0) ∧ (¬ tk = 2 → σ.2.1 27 12 = (if tk = 1 then 1 else 0))
def RXs (b : Nat → Int) (E : Nat) (cv : Nat → Int) (M : Nat) (σ : am_H) : SX → Prop
  | .inl q => RZ b E cv σ (.inl q.1) ∧ q.1 ≤ M ∧ (σ.2.1 28 1 = (q.2.1.length : Int) ∧ q.2.1.length ≤ 1600) ∧ (∀ k, k < q.2.1.length → σ.2.1 29 k = kap (q.2.1.getD k 0)) ∧ σ.2.1 27 7 = q.2.2 ∧ 0 ≤ q.2.2 ∧ q.2.2 ≤ 6
  | .inr q => RZ b E cv σ (.inr q.1) ∧ (0 ≤ σ.2.1 28 1 ∧ σ.2.1 28 1 ≤ 1600) ∧ (q.2 ≤ σ.2.1 27 7 ∧ σ.2.1 27 7 ≤ q.2 + 1) ∧ 0 ≤ q.2 ∧ q.2 ≤ 6
def RX (b : Nat → Int) (E : Nat) (cv : Nat → Int) (M : Nat) (tk : Int) (σ : am_H) (s : SX) : Prop := CMx b E cv M tk σ ∧ RXs b E cv M σ s
def W_ps (a j : Nat) : Prop := (a = 27 ∧ 3 ≤ j ∧ j ≤ 9) ∨ (a = 28 ∧ j = 1) ∨ a = 29
theorem rz_ps {σ τ : am_H} (h : frw W_rz σ τ) : frw W_ps σ τ := h.mono (fun a j hw => by unfold W_rz at hw; unfold W_ps; omega)
theorem TKc.fr {b : Nat → Int} {E : Nat} {cv : Nat → Int} {M : Nat} {σ τ : am_H} (h : TKc b E cv M σ) (hF : frw W_ps σ τ) : TKc b E cv M τ := by
  refine ⟨(hF.2.2 30 2 (by unfold W_ps; omega)).trans h.1, h.2.1, fun i hi => (hF.2.2 31 i (by unfold W_ps; omega)).trans (h.2.2.1 i hi), h.2.2.2⟩
theorem CMx.fr {b : Nat → Int} {E : Nat} {cv : Nat → Int} {M : Nat} {tk : Int} {σ τ : am_H} (h : CMx b E cv M tk σ) (hF : frw W_ps σ τ) : CMx b E cv M tk τ := by
  refine ⟨hF.L h.1, h.2.1.fr hF, h.2.2.1, h.2.2.2.1, (hF.2.2 27 11 (by unfold W_ps; omega)).trans h.2.2.2.2.1, fun h2 => (hF.2.2 27 12 (by unfold W_ps; omega)).trans (h.2.2.2.2.2 h2)⟩
theorem RX.L {b : Nat → Int} {E : Nat} {cv : Nat → Int} {M : Nat} {tk : Int} {σ : am_H} {s : SX} (h : RX b E cv M tk σ s) : lay σ := h.1.1
theorem RX.kd {b : Nat → Int} {E : Nat} {cv : Nat → Int} {M : Nat} {tk : Int} {σ : am_H} {s : SX} (h : RX b E cv M tk σ s) : σ.2.1 27 4 = kdS b E s := by
  cases s with
  | inl q => exact h.2.1.2.1
  | inr q => exact h.2.1.2.2.2
theorem RX.op {b : Nat → Int} {E : Nat} {cv : Nat → Int} {M : Nat} {tk : Int} {σ : am_H} {s : SX} (h : RX b E cv M tk σ s) : (oS s ≤ σ.2.1 27 7 ∧ σ.2.1 27 7 ≤ oS s + 1) ∧ 0 ≤ oS s ∧ oS s ≤ 6 := by
  cases s with
  | inl q =>
    have h1 := h.2.2.2.2.2
    show (q.2.2 ≤ _ ∧ _ ≤ q.2.2 + 1) ∧ 0 ≤ q.2.2 ∧ q.2.2 ≤ 6
    omega
  | inr q => exact h.2.2.2
theorem RX.flag {b : Nat → Int} {E : Nat} {cv : Nat → Int} {M : Nat} {tk : Int} {σ : am_H} {s : SX} (h : RX b E cv M tk σ s) : σ.2.1 27 11 = (if tk = 2 then 1 else 0) := h.1.2.2.2.2.1
/-- one is closed again -/
theorem RX.cl {b : Nat → Int} {E : Nat} {cv : Nat → Int} {M : Nat} {tk : Int} {σ : am_H} {s : SX} (h : RX b E cv M tk σ s) (ho : 1 ≤ oS s) : RX b E cv M tk (am_setN σ 27 7 (σ.2.1 27 7 - 1)) (ocS (-1) s) := by
  have hF : frw W_ps σ (am_setN σ 27 7 (σ.2.1 27 7 - 1)) := (frw.refl W_ps σ).setN (by unfold W_ps; omega)
  refine ⟨h.1.fr hF, ?_⟩
  cases s with
  | inl q =>
    obtain ⟨h1, h2, h3, h4, h5, h6⟩ := h.2
    refine ⟨h1, h2, h3, h4, ?_, ?_⟩
    · show σ.2.1 27 7 - 1 = q.2.2 + -1
      omega
    · have : 1 ≤ q.2.2 := ho
      show 0 ≤ q.2.2 + -1 ∧ q.2.2 + -1 ≤ 6
      omega
  | inr q =>
    obtain ⟨h1, h2, h3, h4⟩ := h.2
    have : 1 ≤ q.2 := ho
    refine ⟨h1, h2, ?_, ?_⟩
    · show q.2 + -1 ≤ σ.2.1 27 7 - 1 ∧ σ.2.1 27 7 - 1 ≤ q.2 + -1 + 1
      omega
    · show 0 ≤ q.2 + -1 ∧ q.2 + -1 ≤ 6
      omega
theorem c_passT {b : Nat → Int} {E : Nat} {cv : Nat → Int} {M : Nat} {tk : Int} {σ : am_H} {s : SX} (h : RX b E cv M tk σ s) (h6 : ¬ kdS b E s = 6) (k : Int) : am_met M_X4_pass [am_r 27, am_i 1, am_i k] σ (fun r σ' => r = none ∧ RX b E cv M tk σ' (npS s) ∧ frw W_ps σ σ') := by
  cases s with
  | inl q =>
    have h6' : ¬ zK b E q.1 = 6 := h6
    obtain ⟨h1, h2, h3, h4, h5⟩ := h.2
    refine am_mono (c_pass1 b E cv σ h.1.1 k M h.1.2.1 q.1 h1 h6' h2) (fun r τ g => ⟨g.1, ⟨h.1.fr (rz_ps g.2.2), g.2.1, ?_, ?_, ?_, ?_⟩, rz_ps g.2.2⟩)
    · show q.1 + 1 ≤ M
      by_cases hm : q.1 = M
      · rw [hm] at h6'; exact absurd h.1.2.1.2.2.2.2.1 h6'
      · omega
    · exact ⟨(g.2.2.2.2 28 1 (by unfold W_rz; omega)).trans h3.1, h3.2⟩
    · intro j hj
      exact (g.2.2.2.2 29 j (by unfold W_rz; omega)).trans (h4 j hj)
    · exact ⟨(g.2.2.2.2 27 7 (by unfold W_rz; omega)).trans h5.1, h5.2⟩
  | inr q => exact absurd rfl h6
theorem RXs.bad {b : Nat → Int} {E : Nat} {cv : Nat → Int} {M : Nat} {σ τ : am_H} {q : (Int × Int) × Int} (h : RXs b E cv M σ (.inr q)) (hZ : RZ b E cv τ (.inr q.1)) (hF : frw W_rz σ τ) : RXs b E cv M τ (.inr q) := by
  refine ⟨hZ, ?_, ?_, h.2.2.2⟩
  · rw [hF.2.2 28 1 (by unfold W_rz; omega)]; exact h.2.1
  · rw [hF.2.2 27 7 (by unfold W_rz; omega)]; exact h.2.2.1
theorem RXs.fl {b : Nat → Int} {E : Nat} {cv : Nat → Int} {M : Nat} {σ τ : am_H} {q : Nat × List Int × Int} {e : Int × Int} (h : RXs b E cv M σ (.inl q)) (hZ : RZ b E cv τ (.inr e)) (hF : frw W_rz σ τ) : RXs b E cv M τ (.inr (e, q.2.2)) := by
  obtain ⟨h1, h2, h3, h4, h5⟩ := h
  refine ⟨hZ, ?_, ?_, h5.2⟩
  · rw [hF.2.2 28 1 (by unfold W_rz; omega)]; omega
  · rw [hF.2.2 27 7 (by unfold W_rz; omega)]
    show q.2.2 ≤ _ ∧ _ ≤ q.2.2 + 1
    omega
theorem c_passF {b : Nat → Int} {E : Nat} {cv : Nat → Int} {M : Nat} {tk : Int} {σ : am_H} {s : SX} (h : RX b E cv M tk σ s) (k : Int) (hk : ¬ k = 0) : am_met M_X4_pass [am_r 27, am_i 0, am_i k] σ (fun r σ' => r = none ∧ RX b E cv M tk σ' (ftS b E k s) ∧ frw W_ps σ σ') := by
  cases s with
  | inl q => exact am_mono (c_pass0 b E cv σ h.1.1 k q.1 h.2.1 hk) (fun r τ g => ⟨g.1, ⟨h.1.fr (rz_ps g.2.2), h.2.fl g.2.1 g.2.2⟩, rz_ps g.2.2⟩)
  | inr q => exact am_mono (c_passB b E cv σ h.1.1 k q.1 h.2.1) (fun r τ g => ⟨g.1, ⟨h.1.fr (rz_ps g.2.2), h.2.bad g.2.1 g.2.2⟩, rz_ps g.2.2⟩)
theorem c_failX {b : Nat → Int} {E : Nat} {cv : Nat → Int} {M : Nat} {tk : Int} {σ : am_H} {s : SX} (h : RX b E cv M tk σ s) (k pl : Int) (hk : ¬ k = 0) : am_met M_X4_fail [am_r 27, am_i k, am_i pl] σ (fun r σ' => r = none ∧ RX b E cv M tk σ' (flS k pl s) ∧ frw W_ps σ σ') := by
  cases s with
  | inl q => exact am_mono (c_rfail b E cv σ h.1.1 k pl h.2.1.2.2.2.2.1 hk) (fun r τ g => ⟨g.1, ⟨h.1.fr (rz_ps g.2.2), h.2.fl g.2.1 g.2.2⟩, rz_ps g.2.2⟩)
  | inr q => exact am_mono (c_rfailB b E cv σ h.1.1 k pl q.1 h.2.1) (fun r τ g => ⟨g.1, ⟨h.1.fr (rz_ps g.2.2), h.2.bad g.2.1 g.2.2⟩, rz_ps g.2.2⟩)
theorem c_ruleAdd (σ : am_H) (hL : lay σ) (c : Int) (n : Nat) (hn : σ.2.1 28 1 = (n : Int) ∧ n ≤ 1600) : am_met M_X5_add [am_r 28, am_i c] σ (fun r σ' => r = none ∧ (if n < 1600 then σ'.2.1 28 1 = (n : Int) + 1 ∧ σ'.2.1 29 n = c ∧ (∀ k, k < n → σ'.2.1 29 k = σ.2.1 29 k) else σ' = σ) ∧ frw (fun a j => (a = 28 ∧ j = 1) ∨ a = 29) σ σ') := by
  refine am_qq (fun Q hQ => ?_)
  refine am_enter (show plainFor yX5_add = true by decide +kernel) rfl (Nat.le_of_ble_eq_true rfl) (fun _ _ _ => trivial) ?_
  refine am_aload_n (q := 1) rfl (am_tab tk_X5_add 0 rfl) rfl ?_
  refine am_getI (q := 4) (a := 28) (k := 5) (n := 2) (j := 1) (x := (n : Int)) (Ls_28 hL) (by decide) rfl hn.1 (by decide) (Or.inl kf_X5_21) (am_tab tk_X5_add 1 rfl) rfl ?_
  refine am_aload_n (q := 5) rfl (am_tab tk_X5_add 2 rfl) rfl ?_
  refine am_getR (q := 8) (a := 28) (k := 5) (n := 2) (j := 0) (r := some (29)) (Ls_28 hL) (by decide) rfl (Lr_28_0 hL) (by decide) (Or.inl kf_X5_15) (am_tab tk_X5_add 3 rfl) rfl ?_
  refine am_alen (q := 9) (a := 29) (k := 11) (n := 1600) (Ls_29 hL) (by decide) (by decide) (am_tab tk_X5_add 4 rfl) rfl ?_
  refine am_icmp_ge (q := 12) (t := 32) (am_tab tk_X5_add 5 rfl) (by decide) rfl (fun h9 => ?_) (fun h9 => ?_)
  · refine am_vret rfl (Nat.le_of_ble_eq_true rfl) (Nat.le_of_ble_eq_true rfl) (am_tab tk_X5_add 18 rfl) ?_
    refine hQ _ _ ?_
    refine ⟨rfl, ?_, frw.refl _ σ⟩
    rw [if_neg (by omega)]
  · refine am_aload_n (q := 13) rfl (am_tab tk_X5_add 6 rfl) rfl ?_
    refine am_getR (q := 16) (a := 28) (k := 5) (n := 2) (j := 0) (r := some (29)) (Ls_28 hL) (by decide) rfl (Lr_28_0 hL) (by decide) (Or.inl kf_X5_15) (am_tab tk_X5_add 7 rfl) rfl ?_
    refine am_aload_n (q := 17) rfl (am_tab tk_X5_add 8 rfl) rfl ?_
    refine am_getI (q := 20) (a := 28) (k := 5) (n := 2) (j := 1) (x := (n : Int)) (Ls_28 hL) (by decide) rfl hn.1 (by decide) (Or.inl kf_X5_21) (am_tab tk_X5_add 9 rfl) rfl ?_
    refine am_iload_n (q := 21) rfl (am_tab tk_X5_add 10 rfl) rfl ?_
    refine am_iast (q := 22) (a := 29) (n := 1600) (Ls_29 hL) (by omega) (by omega) (am_tab tk_X5_add 11 rfl) rfl ?_
    refine am_aload_n (q := 23) rfl (am_tab tk_X5_add 12 rfl) rfl ?_
    refine am_dup (q := 24) rfl (am_tab tk_X5_add 13 rfl) rfl ?_
    refine am_getI (q := 27) (a := 28) (k := 5) (n := 2) (j := 1) (x := (n : Int)) (Ls_28 hL) (by decide) rfl hn.1 (by decide) (Or.inl kf_X5_21) (am_tab tk_X5_add 14 rfl) rfl ?_
    refine am_iconst (q := 28) (n := 1) (by decide) (am_tab tk_X5_add 15 rfl) rfl ?_
    refine am_iadd (q := 29) (by omega) (am_tab tk_X5_add 16 rfl) rfl ?_
    refine am_putI (q := 32) (k := 5) (n := 2) (j := 1) (Ls_28 hL) (by decide) rfl (by decide) (Or.inl ⟨kf_X5_21, rfl⟩) (am_tab tk_X5_add 17 rfl) rfl ?_
    refine am_vret rfl (Nat.le_of_ble_eq_true rfl) (Nat.le_of_ble_eq_true rfl) (am_tab tk_X5_add 18 rfl) ?_
    refine hQ _ _ ?_
    refine ⟨rfl, ?_, ((frw.refl _ σ).setN (Or.inr rfl)).setN (Or.inl ⟨rfl, rfl⟩)⟩
    rw [if_pos (by omega)]
    refine ⟨rfl, ?_, fun k hk => ?_⟩
    · show (am_setN σ 29 (Int.toNat (n : Int)) c).2.1 29 n = c
      rw [show Int.toNat (n : Int) = n by omega]; exact set_eq
    · show (am_setN σ 29 (Int.toNat (n : Int)) c).2.1 29 k = _
      exact set_ne (by omega)
theorem c_addX {b : Nat → Int} {E : Nat} {cv : Nat → Int} {M : Nat} {tk : Int} {σ : am_H} {s : SX} (h : RX b E cv M tk σ s) (c m : Int) (hc : s.isLeft = true → c = kap m) : am_met M_X5_add [am_r 28, am_i c] σ (fun r σ' => r = none ∧ RX b E cv M tk σ' (adS m s) ∧ frw W_ps σ σ') := by
  cases s with
  | inl q =>
    obtain ⟨h1, h2, h3, h4, h5⟩ := h.2
    have hcm := hc rfl
    refine am_mono (c_ruleAdd σ h.1.1 c q.2.1.length h3) (fun r τ g => ?_)
    have hF : frw W_ps σ τ := g.2.2.mono (fun a j hw => by unfold W_ps; omega)
    have hR : ∀ j, τ.2.1 27 j = σ.2.1 27 j := fun j => g.2.2.2.2 27 j (by omega)
    refine ⟨g.1, ⟨h.1.fr hF, ?_⟩, hF⟩
    have hZ : RZ b E cv τ (.inl q.1) := by
      obtain ⟨z1, z2, z3, z4, z5, z6⟩ := h1
      exact ⟨(hR 3).trans z1, (hR 4).trans z2, (hR 5).trans z3, (hR 6).trans z4, (hR 8).trans z5, (hR 9).trans z6⟩
    by_cases hl : q.2.1.length < 1600
    · have g2 := g.2.1
      rw [if_pos hl] at g2
      have e : adS m (.inl q) = .inl (q.1, q.2.1 ++ [m], q.2.2) := by
        show Sum.inl (q.1, (if q.2.1.length < 1600 then q.2.1 ++ [m] else q.2.1), q.2.2) = _
        rw [if_pos hl]
      rw [e]
      refine ⟨hZ, h2, ⟨?_, ?_⟩, ?_, (hR 7).trans h5.1, h5.2⟩
      · show τ.2.1 28 1 = ((q.2.1 ++ [m]).length : Int)
        rw [g2.1]; simp
      · show (q.2.1 ++ [m]).length ≤ 1600
        simp; omega
      · intro k hk
        show τ.2.1 29 k = kap ((q.2.1 ++ [m]).getD k 0)
        have hk2 : k < q.2.1.length + 1 := by simpa using hk
        by_cases hk3 : k < q.2.1.length
        · rw [g2.2.2 k hk3, h4 k hk3]; simp [List.getD_eq_getElem?_getD, List.getElem?_append_left hk3]
        · have hk4 : k = q.2.1.length := by omega
          rw [hk4, g2.2.1, hcm]
          simp [List.getD_eq_getElem?_getD]
    · have g2 := g.2.1
      rw [if_neg hl] at g2
      have e : adS m (.inl q) = .inl (q.1, q.2.1, q.2.2) := by
        show Sum.inl (q.1, (if q.2.1.length < 1600 then q.2.1 ++ [m] else q.2.1), q.2.2) = _
        rw [if_neg hl]
      rw [e, g2]
      exact ⟨h1, h2, h3, h4, h5⟩
  | inr q =>
    obtain ⟨h1, h2, h3, h4⟩ := h.2
    obtain ⟨n, hn⟩ : ∃ n : Nat, σ.2.1 28 1 = (n : Int) := ⟨(σ.2.1 28 1).toNat, by omega⟩
    refine am_mono (c_ruleAdd σ h.1.1 c n ⟨hn, by omega⟩) (fun r τ g => ?_)
    have hF : frw W_ps σ τ := g.2.2.mono (fun a j hw => by unfold W_ps; omega)
    have hR : ∀ j, τ.2.1 27 j = σ.2.1 27 j := fun j => g.2.2.2.2 27 j (by omega)
    refine ⟨g.1, ⟨h.1.fr hF, ⟨(hR 8).trans h1.1, h1.2.1, (hR 9).trans h1.2.2.1, (hR 4).trans h1.2.2.2⟩, ?_, ?_, h4⟩, hF⟩
    · have g2 := g.2.1
      by_cases hl : n < 1600
      · rw [if_pos hl] at g2; rw [g2.1]; omega
      · rw [if_neg hl] at g2; rw [g2]; exact h2
    · rw [hR 7]; exact h3
