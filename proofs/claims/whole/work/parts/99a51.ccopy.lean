theorem setA_nn {σ : am_H} {a c k : Nat} {f : Nat → Int} (h : ¬ c = a) : (am_setA σ a f).2.1 c k = σ.2.1 c k := if_neg h
theorem setA_eq {σ : am_H} {a k : Nat} {f : Nat → Int} : (am_setA σ a f).2.1 a k = f k := if_pos rfl
/-- the rule at r takes over what the reader's rule holds -/
def CR (r s : Nat) (σ τ : am_H) : Prop := ∃ c c' m' : Nat, σ.2.2 r 0 = some c ∧ τ.2.2 r 0 = some c' ∧ τ.1[c']? = some (11, m') ∧ (s ≤ m' ∧ m' < 2000000) ∧ (∀ j, j < s → τ.2.1 c' j = σ.2.1 29 j) ∧ τ.2.1 r 1 = (s : Int) ∧ ((c' = c ∧ τ.1 = σ.1) ∨ (c' = σ.1.length ∧ τ.1 = σ.1 ++ [(11, m')])) ∧ (∀ a j, ¬ (a = r ∧ j = 1) → ¬ a = c' → τ.2.1 a j = σ.2.1 a j) ∧ ∀ a j, ¬ (a = r ∧ j = 0) → a < σ.1.length → τ.2.2 a j = σ.2.2 a j
theorem cf_tail {Q : Option am_V → am_H → Prop} {cells slots r c m s : Nat} {τ : am_H} (hce : cells ≤ 1) (hsl : slots ≤ 1600) (hr : τ.1[r]? = some (5, 2)) (hrc : τ.2.2 r 0 = some c) (hc : τ.1[c]? = some (11, m)) (h28 : τ.1[28]? = some (5, 2)) (h28r : τ.2.2 28 0 = some 29) (h29 : τ.1[29]? = some (11, 1600)) (hs : τ.2.1 28 1 = (s : Int)) (hsm : s ≤ m) (hs16 : s ≤ 1600) (hm : m < 2000000) (hr28 : ¬ r = 28) (hc28 : ¬ c = 28)
    (hQ : Q none (am_setN (am_setA τ c (fun k => if (0 : Int).toNat ≤ k ∧ k < (0 : Int).toNat + ((s : Int)).toNat then τ.2.1 29 ((0 : Int).toNat + (k - (0 : Int).toNat)) else τ.2.1 c k)) r 1 (s : Int))) : am_wp (M_X5_copyFrom 1 1600) Q cells slots 22 [(0, am_r r), (1, am_r 28)] [] τ := by
  refine am_aload_n (q := 23) rfl (am_tab tk_X5_copyFrom 11 rfl) rfl ?_
  refine am_getR (q := 26) (a := 28) (k := 5) (n := 2) (j := 0) (r := some 29) h28 (by decide) rfl h28r (by decide) (Or.inl kf_X5_15) (am_tab tk_X5_copyFrom 12 rfl) rfl ?_
  refine am_iconst (q := 27) (n := 0) (by decide) (am_tab tk_X5_copyFrom 13 rfl) rfl ?_
  refine am_aload_n (q := 28) rfl (am_tab tk_X5_copyFrom 14 rfl) rfl ?_
  refine am_getR (q := 31) (a := r) (k := 5) (n := 2) (j := 0) (r := some c) hr (by decide) rfl hrc (by decide) (Or.inl kf_X5_15) (am_tab tk_X5_copyFrom 15 rfl) rfl ?_
  refine am_iconst (q := 32) (n := 0) (by decide) (am_tab tk_X5_copyFrom 16 rfl) rfl ?_
  refine am_aload_n (q := 33) rfl (am_tab tk_X5_copyFrom 17 rfl) rfl ?_
  refine am_getI (q := 36) (a := 28) (k := 5) (n := 2) (j := 1) (x := (s : Int)) h28 (by decide) rfl hs (by decide) (Or.inl kf_X5_21) (am_tab tk_X5_copyFrom 18 rfl) rfl ?_
  refine am_copy (q := 39) (a0 := 29) (a1 := c) (n0 := 1600) (n1 := m) h29 hc (by omega) (by omega) (by omega) (by omega) (by omega) (by omega) km_X5_25 kna_copy kst_copy kn_J10 (Nat.le_of_ble_eq_true rfl) (Nat.le_of_ble_eq_true rfl) (am_tab tk_X5_copyFrom 19 rfl) rfl ?_
  refine am_aload_n (q := 40) rfl (am_tab tk_X5_copyFrom 20 rfl) rfl ?_
  refine am_aload_n (q := 41) rfl (am_tab tk_X5_copyFrom 21 rfl) rfl ?_
  refine am_getI (q := 44) (a := 28) (k := 5) (n := 2) (j := 1) (x := (s : Int)) h28 (by decide) rfl (by rw [setA_nn (by omega)]; exact hs) (by decide) (Or.inl kf_X5_21) (am_tab tk_X5_copyFrom 22 rfl) rfl ?_
  refine am_putI (q := 47) (k := 5) (n := 2) (j := 1) hr (by decide) rfl (by decide) (Or.inl ⟨kf_X5_21, rfl⟩) (am_tab tk_X5_copyFrom 23 rfl) rfl ?_
  refine am_vret rfl hce hsl (am_tab tk_X5_copyFrom 24 rfl) ?_
  exact hQ
theorem c_copyFrom {r c m s : Nat} {σ : am_H} (hL : lay σ) (hr : σ.1[r]? = some (5, 2)) (hrc : σ.2.2 r 0 = some c) (hc : σ.1[c]? = some (11, m)) (hs : σ.2.1 28 1 = (s : Int)) (hs16 : s ≤ 1600) (hm : m < 2000000) (hr28 : ¬ r = 28) (hc28 : ¬ c = 28) (hc29 : ¬ c = 29) (hrcc : ¬ r = c) (hr29 : ¬ r = 29) : am_met (M_X5_copyFrom 1 1600) [am_r r, am_r 28] σ (fun x τ => x = none ∧ CR r s σ τ) := by
  refine am_qq (fun Q hQ => ?_)
  refine am_enter (show plainFor yX5_copyFrom = true by decide +kernel) rfl (Nat.le_of_ble_eq_true rfl) (fun _ _ _ => trivial) ?_
  have h28 := Ls_28 hL
  have h29 := Ls_29 hL
  have h28r := Lr_28_0 hL
  have hlen : 131 ≤ σ.1.length := by
    have h130 := hL.1 130 (by decide)
    by_cases h : 131 ≤ σ.1.length
    · exact h
    · rw [List.getElem?_eq_none (show σ.1.length ≤ 130 by omega)] at h130
      exact absurd h130 (by decide)
  have hrl : r < σ.1.length := by
    by_cases h : r < σ.1.length
    · exact h
    · rw [List.getElem?_eq_none (show σ.1.length ≤ r by omega)] at hr
      exact absurd hr (by simp)
  refine am_aload_n (q := 1) rfl (am_tab tk_X5_copyFrom 0 rfl) rfl ?_
  refine am_getR (q := 4) (a := r) (k := 5) (n := 2) (j := 0) (r := some c) hr (by decide) rfl hrc (by decide) (Or.inl kf_X5_15) (am_tab tk_X5_copyFrom 1 rfl) rfl ?_
  refine am_alen (q := 5) (a := c) (k := 11) (n := m) hc (by decide) (by omega) (am_tab tk_X5_copyFrom 2 rfl) rfl ?_
  refine am_aload_n (q := 6) rfl (am_tab tk_X5_copyFrom 3 rfl) rfl ?_
  refine am_getI (q := 9) (a := 28) (k := 5) (n := 2) (j := 1) (x := (s : Int)) h28 (by decide) rfl hs (by decide) (Or.inl kf_X5_21) (am_tab tk_X5_copyFrom 4 rfl) rfl ?_
  refine am_icmp_ge (q := 12) (t := 22) (am_tab tk_X5_copyFrom 5 rfl) (by decide) rfl (fun h9 => ?_) (fun h9 => ?_)
  · refine cf_tail (by decide) (by decide) hr hrc hc h28 h28r h29 hs (by omega) hs16 hm hr28 hc28 ?_
    refine hQ _ _ ⟨rfl, c, c, m, hrc, hrc, hc, ⟨by omega, hm⟩, fun j hj => ?_, set_eq, Or.inl ⟨rfl, rfl⟩, fun a j h1 h2 => ?_, fun a j _ _ => rfl⟩
    · rw [set_nn (by omega), setA_eq, if_pos (by omega), show (0 : Int).toNat + (j - (0 : Int).toNat) = j by omega]
    · rw [set_nn h1, setA_nn h2]
  · refine am_aload_n (q := 13) rfl (am_tab tk_X5_copyFrom 6 rfl) rfl ?_
    refine am_aload_n (q := 14) rfl (am_tab tk_X5_copyFrom 7 rfl) rfl ?_
    refine am_getI (q := 17) (a := 28) (k := 5) (n := 2) (j := 1) (x := (s : Int)) h28 (by decide) rfl hs (by decide) (Or.inl kf_X5_21) (am_tab tk_X5_copyFrom 8 rfl) rfl ?_
    refine am_newAa (q := 19) (k := 11) (a := σ.1.length) (N := s) rfl (Or.inl ⟨rfl, rfl⟩) ka_int rfl (by omega) (Nat.le_of_ble_eq_true rfl) (show 0 + s ≤ 1600 by omega) (am_tab tk_X5_copyFrom 9 rfl) rfl ?_
    refine am_putR (q := 22) (k := 5) (n := 2) (j := 0) (am_newAt_old (a := σ.1.length) hr) (by decide) rfl (by decide) (Or.inl ⟨kf_X5_15, rfl⟩) (am_tab tk_X5_copyFrom 10 rfl) rfl ?_
    have n1 : ∀ a j, ¬ a = σ.1.length → (am_newAt σ σ.1.length 11 s).2.1 a j = σ.2.1 a j := fun a j h => if_neg h
    have n2 : ∀ a j, ¬ a = σ.1.length → (am_newAt σ σ.1.length 11 s).2.2 a j = σ.2.2 a j := fun a j h => if_neg h
    have g2 : ∀ a j, ¬ (a = r ∧ j = 0) → (am_setR (am_newAt σ σ.1.length 11 s) r 0 (some σ.1.length)).2.2 a j = (am_newAt σ σ.1.length 11 s).2.2 a j := fun a j h => if_neg h
    have g3 : (am_setR (am_newAt σ σ.1.length 11 s) r 0 (some σ.1.length)).2.2 r 0 = some σ.1.length := if_pos ⟨rfl, rfl⟩
    refine cf_tail (c := σ.1.length) (m := s) (s := s) (by decide) (show 0 + s ≤ 1600 by omega) (am_newAt_old (a := σ.1.length) hr) g3 (am_newAt_at rfl) (am_newAt_old (a := σ.1.length) h28) ((g2 28 0 (by omega)).trans ((n2 28 0 (by omega)).trans h28r)) (am_newAt_old (a := σ.1.length) h29) ((n1 28 1 (by omega)).trans hs) (by omega) hs16 (by omega) hr28 (by omega) ?_
    refine hQ _ _ ⟨rfl, c, σ.1.length, s, hrc, g3, am_newAt_at rfl, ⟨by omega, by omega⟩, fun j hj => ?_, set_eq, Or.inr ⟨rfl, rfl⟩, fun a j h1 h2 => ?_, fun a j h1 h2 => ?_⟩
    · rw [set_nn (by omega), setA_eq, if_pos (by omega)]
      refine (n1 29 _ (by omega)).trans ?_
      rw [show (0 : Int).toNat + (j - (0 : Int).toNat) = j by omega]
    · rw [set_nn h1, setA_nn h2]
      exact n1 a j h2
    · exact (g2 a j h1).trans (n2 a j (by omega))
