theorem am_same129 (S : am_H) : S = am_setN (am_setA S 129 (fun k => S.2.1 129 k)) 55 103 (S.2.1 55 103) := by
  rw [am_setA_self, am_setN_self]
theorem if01 {c : Prop} [Decidable c] : 0 ≤ (if c then (1 : Int) else 0) ∧ (if c then (1 : Int) else 0) ≤ 1 := by split <;> omega
/-- who think of themselves -/
def selM (σ : am_H) (ts bs : Int) : Int := mkS (selB (askH σ ts) ts bs) (pN σ)
theorem selM_rng {σ : am_H} (hR : MR σ) (ts bs : Int) : 0 ≤ selM σ ts bs ∧ selM σ ts bs < 256 := mkS_256 _ (pN_8 hR)
theorem c_X10_selves (σ : am_H) (hL : lay σ) (ts : Int) (bs : Int) (hR : MR σ) (hK : RK σ) (hts : 0 ≤ ts ∧ ts < 256) (hbs : 0 ≤ bs ∧ bs < 256) (ht : 0 ≤ σ.2.1 55 61 ∧ σ.2.1 55 61 < 256) (ho : 0 ≤ σ.2.1 55 59 ∧ σ.2.1 55 59 ≤ 99) : am_met M_X10_selves [am_r 55, am_i ts, am_i bs] σ (fun r σ' => r = some (am_i (selM σ ts bs)) ∧ ∃ g : Nat → Int, ∃ z : Int, σ' = am_setN (am_setA (askH σ ts) 129 g) 55 103 z) := by
  refine am_enter (show plainFor yX10_selves = true by decide +kernel) rfl (Nat.le_of_ble_eq_true rfl) (fun _ _ _ => trivial) ?_
  refine am_aload_n (q := 1) rfl (am_tab tk_X10_selves 0 rfl) rfl ?_
  refine am_iload_n (q := 2) rfl (am_tab tk_X10_selves 1 rfl) rfl ?_
  refine am_callV0 (q := 5) (me2 := M_X10_asksDay) (b := 55) (kb := 10) (nb := 108) (As := [am_i ts]) (rest := []) (out := []) (c_X10_asksDay σ hL ts hR) ⟨rfl, rfl⟩ (Ls_55 hL) (by decide) ⟨Or.inl km_X10_429, kc_X10_asksDay, kn_X10, kd_X10_asksDay, ⟨(Nat.le_of_ble_eq_true rfl), (Nat.le_of_ble_eq_true rfl)⟩, ⟨(Nat.le_of_ble_eq_true rfl), (Nat.le_of_ble_eq_true rfl)⟩, (Nat.le_of_ble_eq_true rfl)⟩ ki_X10_asksDay ks_X10_asksDay rfl rfl (am_tab tk_X10_selves 2 rfl) rfl ?_
  refine am_iconst (q := 6) (n := 0) (by decide) (am_tab tk_X10_selves 3 rfl) rfl ?_
  refine am_istore_n (q := 7) (by decide) (ls2 := [(3, am_i 0), (0, am_r 55), (1, am_i ts), (2, am_i bs)]) rfl (am_tab tk_X10_selves 4 rfl) rfl ?_
  refine am_iconst (q := 8) (n := 0) (by decide) (am_tab tk_X10_selves 5 rfl) rfl ?_
  refine am_istore (q := 10) (by decide) (ls2 := [(4, am_i 0), (3, am_i 0), (0, am_r 55), (1, am_i ts), (2, am_i bs)]) rfl (am_tab tk_X10_selves 6 rfl) rfl ?_
  refine am_hp2 (am_same129 (askH σ ts)) ?_
  exact selves_loop (askH σ ts) hL hR hK ts bs hts hbs hts ht ho if01 if01 (pN σ) (pN_eq hR) (pN_8 hR) (pN σ) 0 _ _ (by omega)
/-- the scratch of a day: whose mind was asked, the pile -/
def SC (S : am_H) (o : Int) (g : Nat → Int) (z : Int) : am_H := am_setN (am_setA (am_setN S 55 59 o) 129 g) 55 103 z
theorem SC_self (S : am_H) : S = SC S (S.2.1 55 59) (fun k => S.2.1 129 k) (S.2.1 55 103) := by
  unfold SC
  rw [am_setN_self, am_setA_self, am_setN_self]
theorem SC_SC (S : am_H) (o o2 : Int) (g g2 : Nat → Int) (z z2 : Int) : SC (SC S o g z) o2 g2 z2 = SC S o2 g2 z2 := by
  refine am_Hext rfl (fun b i => ?_) (fun _ _ => rfl)
  simp only [SC, am_setN, am_setA]
  by_cases h1 : b = 55 ∧ i = 103
  · simp [h1]
  · by_cases h2 : b = 129
    · simp [h2]
    · by_cases h3 : b = 55 ∧ i = 59
      · simp [h3]
      · simp [h1, h2, h3]
/-- who reminds him first, of those who think -/
def rqM (σ : am_H) (p : Nat) (set : Int) : Int := firstQ (fun q => decide (tb set q = 1 ∧ tb (σ.2.1 89 (8 + q)) p = 1)) (pN σ)
/-- is he reminded -/
def rmV (σ : am_H) (p : Nat) (set : Int) : Int := if rqM σ p set = -1 then 0 else if σ.2.1 93 3 = -1 then 1 else if tdM (am_setN σ 55 59 (σ.2.1 87 (8 + (rqM σ p set).toNat))) 1 p = 1 then 1 else 0
theorem firstQ_rng {g : Nat → Bool} : ∀ n, firstQ g n = -1 ∨ (0 ≤ firstQ g n ∧ firstQ g n < n)
  | 0 => Or.inl rfl
  | n + 1 => by
    unfold firstQ
    rcases firstQ_rng (g := g) n with h | h
    · split
      · exact Or.inl h
      · split
        · exact Or.inr ⟨by omega, by omega⟩
        · exact Or.inl rfl
    · split
      · exact Or.inr ⟨by omega, by omega⟩
      · split
        · exact Or.inr ⟨by omega, by omega⟩
        · exact Or.inl rfl
theorem c_X10_isReminded (σ : am_H) (hL : lay σ) (p : Nat) (set : Int) (hR : MR σ) (hK : RK σ) (hp : p < 8) (hset : 0 ≤ set ∧ set < 256) (ha : 0 ≤ σ.2.1 55 56 ∧ σ.2.1 55 56 < 256) (ht : 0 ≤ σ.2.1 55 61 ∧ σ.2.1 55 61 < 256) (ho : 0 ≤ σ.2.1 55 59 ∧ σ.2.1 55 59 ≤ 99) (hf : 0 ≤ σ.2.1 55 57 ∧ σ.2.1 55 57 ≤ 1) (hz : 0 ≤ σ.2.1 55 58 ∧ σ.2.1 55 58 ≤ 1) : am_met M_X10_isReminded [am_r 55, am_i ((p : Int)), am_i set] σ (fun r σ' => r = some (am_i (rmV σ p set)) ∧ ∃ o : Int, ∃ g : Nat → Int, ∃ z : Int, (0 ≤ o ∧ o ≤ 99) ∧ σ' = SC σ o g z) := by
  refine am_enter (show plainFor yX10_isReminded = true by decide +kernel) rfl (Nat.le_of_ble_eq_true rfl) (fun _ _ _ => trivial) ?_
  have hq : rqM σ p set = -1 ∨ (0 ≤ rqM σ p set ∧ rqM σ p set < (pN σ : Int)) := firstQ_rng _
  have h8 := pN_8 hR
  refine am_aload_n (q := 1) rfl (am_tab tk_X10_isReminded 0 rfl) rfl ?_
  refine am_iload_n (q := 2) rfl (am_tab tk_X10_isReminded 1 rfl) rfl ?_
  refine am_iload_n (q := 3) rfl (am_tab tk_X10_isReminded 2 rfl) rfl ?_
  refine am_callV0 (q := 6) (me2 := M_X10_reminderOf) (b := 55) (kb := 10) (nb := 108) (As := [am_i ((p : Int)), am_i set]) (rest := []) (out := [am_i (rqM σ p set)]) (c_X10_reminderOf σ hL (p : Int) set (pN σ) (pN_eq hR) (pN_8 hR) (by omega) hset (fun q hq => hR.rem q (Nat.lt_of_lt_of_le hq (pN_8 hR)))) ⟨rfl, rfl⟩ (Ls_55 hL) (by decide) ⟨Or.inl km_X10_436, kc_X10_reminderOf, kn_X10, kd_X10_reminderOf, ⟨(Nat.le_of_ble_eq_true rfl), (Nat.le_of_ble_eq_true rfl)⟩, ⟨(Nat.le_of_ble_eq_true rfl), (Nat.le_of_ble_eq_true rfl)⟩, (Nat.le_of_ble_eq_true rfl)⟩ ki_X10_reminderOf ks_X10_reminderOf rfl rfl (am_tab tk_X10_isReminded 3 rfl) rfl ?_
  refine am_istore_n (q := 7) (by decide) (ls2 := [(3, am_i (rqM σ p set)), (0, am_r 55), (1, am_i ((p : Int))), (2, am_i set)]) rfl (am_tab tk_X10_isReminded 4 rfl) rfl ?_
  refine am_iload_n (q := 8) rfl (am_tab tk_X10_isReminded 5 rfl) rfl ?_
  refine am_iconst (q := 9) (n := (-1)) (by decide) (am_tab tk_X10_isReminded 6 rfl) rfl ?_
  refine am_icmp_ne (q := 12) (t := 14) (am_tab tk_X10_isReminded 7 rfl) (by decide) rfl (fun h9 => ?_) (fun h9 => ?_)
  · refine am_aload_n (q := 15) rfl (am_tab tk_X10_isReminded 10 rfl) rfl ?_
    refine am_getR (q := 18) (a := 55) (k := 10) (n := 108) (j := 47) (r := some (93)) (Ls_55 hL) (by decide) rfl (Lr_55_47 hL) (by decide) (Or.inl kf_X10_127) (am_tab tk_X10_isReminded 11 rfl) rfl ?_
    refine am_iconst (q := 19) (n := 3) (by decide) (am_tab tk_X10_isReminded 12 rfl) rfl ?_
    refine am_iald (q := 20) (a := 93) (n := 4) (x := (σ.2.1 93 3)) (Ls_93 hL) (by omega) (by omega) rfl (am_tab tk_X10_isReminded 13 rfl) rfl ?_
    refine am_iconst (q := 21) (n := (-1)) (by decide) (am_tab tk_X10_isReminded 14 rfl) rfl ?_
    refine am_icmp_ne (q := 24) (t := 26) (am_tab tk_X10_isReminded 15 rfl) (by decide) rfl (fun h21 => ?_) (fun h21 => ?_)
    · have hm2 : 0 ≤ σ.2.1 87 (8 + rqM σ p set).toNat ∧ σ.2.1 87 (8 + rqM σ p set).toNat ≤ 99 := by
        have h9b := hR.mind (rqM σ p set).toNat (by omega)
        rw [show 8 + (rqM σ p set).toNat = (8 + rqM σ p set).toNat by omega] at h9b
        exact h9b
      refine am_aload_n (q := 27) rfl (am_tab tk_X10_isReminded 18 rfl) rfl ?_
      refine am_aload_n (q := 28) rfl (am_tab tk_X10_isReminded 19 rfl) rfl ?_
      refine am_iload_n (q := 29) rfl (am_tab tk_X10_isReminded 20 rfl) rfl ?_
      refine am_callV0 (q := 32) (me2 := M_X10_mindOf) (b := 55) (kb := 10) (nb := 108) (As := [am_i (rqM σ p set)]) (rest := [am_r 55]) (out := [am_i (σ.2.1 87 (8 + rqM σ p set).toNat), am_r 55]) (c_X10_mindOf σ hL (rqM σ p set) (by have := pN_8 hR; omega)) ⟨rfl, rfl⟩ (Ls_55 hL) (by decide) ⟨Or.inl km_X10_439, kc_X10_mindOf, kn_X10, kd_X10_mindOf, ⟨(Nat.le_of_ble_eq_true rfl), (Nat.le_of_ble_eq_true rfl)⟩, ⟨(Nat.le_of_ble_eq_true rfl), (Nat.le_of_ble_eq_true rfl)⟩, (Nat.le_of_ble_eq_true rfl)⟩ ki_X10_mindOf ks_X10_mindOf rfl rfl (am_tab tk_X10_isReminded 21 rfl) rfl ?_
      refine am_i2l (q := 33) (am_tab tk_X10_isReminded 22 rfl) rfl ?_
      refine am_putL (q := 36) (k := 10) (n := 108) (j := 59) (Ls_55 hL) (by decide) rfl (by decide) (Or.inl ⟨kf_X10_443, rfl⟩) (am_tab tk_X10_isReminded 23 rfl) rfl ?_
      refine am_aload_n (q := 37) rfl (am_tab tk_X10_isReminded 24 rfl) rfl ?_
      refine am_iconst (q := 38) (n := 1) (by decide) (am_tab tk_X10_isReminded 25 rfl) rfl ?_
      refine am_iload_n (q := 39) rfl (am_tab tk_X10_isReminded 26 rfl) rfl ?_
      refine am_callVr (q := 42) (me2 := M_X10_isTold) (b := 55) (kb := 10) (nb := 108) (As := [am_i 1, am_i ((p : Int))]) (rest := []) (c_told (am_setN σ 55 59 (σ.2.1 87 (8 + rqM σ p set).toNat)) hL hR hK 1 p (by omega) hp ha ht hm2 hf hz h21) ⟨rfl, rfl⟩ (Ls_55 hL) (by decide) ⟨Or.inl km_X10_432, kc_X10_isTold, kn_X10, kd_X10_isTold, ⟨(Nat.le_of_ble_eq_true rfl), (Nat.le_of_ble_eq_true rfl)⟩, ⟨(Nat.le_of_ble_eq_true rfl), (Nat.le_of_ble_eq_true rfl)⟩, (Nat.le_of_ble_eq_true rfl)⟩ ki_X10_isTold ks_X10_isTold rfl (am_tab tk_X10_isReminded 27 rfl) rfl ?_
      rintro r σ2 ⟨rfl, g2, z2, rfl⟩
      refine am_st (st2 := [am_i (if tdM (am_setN σ 55 59 (σ.2.1 87 (8 + rqM σ p set).toNat)) 1 p = 1 then 1 else 0)]) rfl ?_
      refine am_iret (Or.inr ⟨rfl, by split <;> simp⟩) (Nat.le_of_ble_eq_true rfl) (Nat.le_of_ble_eq_true rfl) (am_tab tk_X10_isReminded 28 rfl) ?_
      refine ⟨congrArg (fun z => some (am_i z)) ?_, _, g2, z2, hm2, rfl⟩
      unfold rmV
      rw [if_neg h9, if_neg h21, show 8 + (rqM σ p set).toNat = (8 + rqM σ p set).toNat by omega]
    · refine am_iconst (q := 25) (n := 1) (by decide) (am_tab tk_X10_isReminded 16 rfl) rfl ?_
      refine am_iret (Or.inr ⟨rfl, by first | exact Or.inl rfl | exact Or.inr rfl | omega⟩) (Nat.le_of_ble_eq_true rfl) (Nat.le_of_ble_eq_true rfl) (am_tab tk_X10_isReminded 17 rfl) ?_
      exact ⟨by unfold rmV; rw [if_neg (by omega), if_pos h21], _, _, _, ho, SC_self σ⟩
  · refine am_iconst (q := 13) (n := 0) (by decide) (am_tab tk_X10_isReminded 8 rfl) rfl ?_
    refine am_iret (Or.inr ⟨rfl, by first | exact Or.inl rfl | exact Or.inr rfl | omega⟩) (Nat.le_of_ble_eq_true rfl) (Nat.le_of_ble_eq_true rfl) (am_tab tk_X10_isReminded 9 rfl) ?_
    exact ⟨by unfold rmV; rw [if_pos (by omega)], _, _, _, ho, SC_self σ⟩
