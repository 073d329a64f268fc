theorem am_same129 (S : am_H) : S = am_setN (am_setA S 129 (fun k => S.2.1 129 k)) 55 103 (S.2.1 55 103) := by
  rw [am_setA_self, am_setN_self]
theorem if01 {c : Prop} [Decidable c] : 0 ≤ (if c then (1 : Int) else 0) ∧ (if c then (1 : Int) else 0) ≤ 1 := by split <;> omega
/-- who think of themselves -/
def selM (σ : am_H) (ts bs : Int) : Int := mkS (selB (askH σ ts) ts bs) (pN σ)
theorem selM_rng {σ : am_H} (hR : MR σ) (ts bs : Int) : 0 ≤ selM σ ts bs ∧ selM σ ts bs < 256 := mkS_256 _ (pN_8 hR)
theorem c_X10_selves (σ : am_H) (hL : lay σ) (ts : Int) (bs : Int) (hR : MR σ) (hK : RK σ) (hts : 0 ≤ ts ∧ ts < 256) (hbs : 0 ≤ bs ∧ bs < 256) (ht : 0 ≤ σ.2.1 55 61 ∧ σ.2.1 55 61 < 256) (ho : 0 ≤ σ.2.1 55 59 ∧ σ.2.1 55 59 ≤ 99) : am_met M_X10_selves [am_r 55, am_i ts, am_i bs] σ (fun r σ' => r = some (am_i (selM σ ts bs)) ∧ ∃ g : Nat → Int, ∃ z : Int, σ' = am_setN (am_setA (askH σ ts) 129 g) 55 103 z) := by
  refine am_enter (show plainFor yX10_selves = true by decide +kernel) rfl (Nat.le_of_ble_eq_true rfl) (fun _ _ _ => trivial) ?_
  refine am_aload_n (q := 1) rfl (am_tab tk_X10_selves 0 rfl) rfl ?_
  refine am_iload_n (q := 2) rfl (am_tab tk_X10_selves 1 rfl) rfl ?_
  refine am_callV0 (q := 5) (me2 := M_X10_asksDay) (b := 55) (kb := 10) (nb := 108) (As := [am_i ts]) (rest := []) (out := []) (c_X10_asksDay σ hL ts hR) ⟨rfl, rfl⟩ (Ls_55 hL) (by decide) ⟨Or.inl km_X10_429, kc_X10_asksDay, kn_X10, kd_X10_asksDay, ⟨(Nat.le_of_ble_eq_true rfl), (Nat.le_of_ble_eq_true rfl)⟩, ⟨(Nat.le_of_ble_eq_true rfl), (Nat.le_of_ble_eq_true rfl)⟩, (Nat.le_of_ble_eq_true rfl)⟩ ki_X10_asksDay ks_X10_asksDay rfl rfl (am_tab tk_X10_selves 2 rfl) rfl ?_
  refine am_iconst (q := 6) (n := 0) (by decide) (am_tab tk_X10_selves 3 rfl) rfl ?_
  refine am_istore_n (q := 7) (by decide) (ls2 := [(3, am_i 0), (0, am_r 55), (1, am_i ts), (2, am_i bs)]) rfl (am_tab tk_X10_selves 4 rfl) rfl ?_
  refine am_iconst (q := 8) (n := 0) (by decide) (am_tab tk_X10_selves 5 rfl) rfl ?_
  refine am_istore (q := 10) (by decide) (ls2 := [(4, am_i 0), (3, am_i 0), (0, am_r 55), (1, am_i ts), (2, am_i bs)]) rfl (am_tab tk_X10_selves 6 rfl) rfl ?_
  refine am_hp2 (am_same129 (askH σ ts)) ?_
  exact selves_loop (askH σ ts) hL hR hK ts bs hts hbs hts ht ho if01 if01 (pN σ) (pN_eq hR) (pN_8 hR) (pN σ) 0 _ _ (by omega)
/-- the scratch of a day: whose mind was asked, the pile -/
def SC (S : am_H) (o : Int) (g : Nat → Int) (z : Int) : am_H := am_setN (am_setA (am_setN S 55 59 o) 129 g) 55 103 z
theorem SC_self (S : am_H) : S = SC S (S.2.1 55 59) (fun k => S.2.1 129 k) (S.2.1 55 103) := by
  unfold SC
  rw [am_setN_self, am_setA_self, am_setN_self]
theorem SC_SC (S : am_H) (o o2 : Int) (g g2 : Nat → Int) (z z2 : Int) : SC (SC S o g z) o2 g2 z2 = SC S o2 g2 z2 := by
  refine am_Hext rfl (fun b i => ?_) (fun _ _ => rfl)
  simp only [SC, am_setN, am_setA]
  by_cases h1 : b = 55 ∧ i = 103
  · simp [h1]
  · by_cases h2 : b = 129
    · simp [h2]
    · by_cases h3 : b = 55 ∧ i = 59
      · simp [h3]
      · simp [h1, h2, h3]
/-- who reminds him first, of those who think -/
def rqM (σ : am_H) (p : Nat) (set : Int) : Int := firstQ (fun q => decide (tb set q = 1 ∧ tb (σ.2.1 89 (8 + q)) p = 1)) (pN σ)
/-- is he reminded -/
def rmV (σ : am_H) (p : Nat) (set : Int) : Int := if rqM σ p set = -1 then 0 else if σ.2.1 93 3 = -1 then 1 else if tdM (am_setN σ 55 59 (σ.2.1 87 (8 + (rqM σ p set).toNat))) 1 p = 1 then 1 else 0
theorem firstQ_rng {g : Nat → Bool} : ∀ n, firstQ g n = -1 ∨ (0 ≤ firstQ g n ∧ firstQ g n < n)
  | 0 => Or.inl rfl
  | n + 1 => by
    unfold firstQ
    rcases firstQ_rng (g := g) n with h | h
    · split
      · exact Or.inl h
      · split
        · exact Or.inr ⟨by omega, by omega⟩
        · exact Or.inl rfl
    · split
      · exact Or.inr ⟨by omega, by omega⟩
      · split
        · exact Or.inr ⟨by omega, by omega⟩
        · exact Or.inl rfl
