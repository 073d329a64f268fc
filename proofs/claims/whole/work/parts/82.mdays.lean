/-- cells that the scanner does not read -/
def W_st (a j : Nat) : Prop := (85 ≤ a ∧ a ≤ 102) ∨ (a = 55 ∧ (j = 50 ∨ j = 51))
theorem ZS.st {b : Nat → Int} {E i : Nat} {S T : am_H} (h : ZS b E i S) (hF : frw W_st S T) : ZS b E i T := by
  obtain ⟨h1, h2, h3⟩ := h
  have e : ∀ j, j ≤ 10 → T.2.1 55 j = S.2.1 55 j := fun j hj => hF.2.2 55 j (by unfold W_st; omega)
  refine ⟨hF.L h1, h2.fr hF (by unfold W_st; omega), ?_⟩
  unfold TS TX at *
  rw [e 5 (by omega), e 6 (by omega), e 2 (by omega), e 4 (by omega), e 3 (by omega)]
  exact ⟨⟨fun j => by rw [hF.2.2 56 j (by unfold W_st; omega)]; exact h3.1.1 j, h3.1.2⟩, h3.2⟩
theorem ZB.st {b : Nat → Int} {E : Nat} {k pl : Int} {S T : am_H} (h : ZB b E k pl S) (hF : frw W_st S T) : ZB b E k pl T := by
  obtain ⟨h1, h2, h3⟩ := h
  have e : ∀ j, j ≤ 10 → T.2.1 55 j = S.2.1 55 j := fun j hj => hF.2.2 55 j (by unfold W_st; omega)
  refine ⟨hF.L h1, h2.fr hF (by unfold W_st; omega), ?_⟩
  unfold BD TX at *
  rw [e 5 (by omega), e 6 (by omega), e 2 (by omega), e 3 (by omega)]
  exact ⟨⟨fun j => by rw [hF.2.2 56 j (by unfold W_st; omega)]; exact h3.1.1 j, h3.1.2⟩, h3.2⟩
theorem ZZ.st {b : Nat → Int} {E : Nat} {S T : am_H} {p : Nat ⊕ (Int × Int)} (h : ZZ b E S p) (hF : frw W_st S T) : ZZ b E T p := by
  cases p with
  | inl i => exact ZS.st h hF
  | inr e => exact ZB.st h hF
theorem frw.both {W : Nat → Nat → Prop} {S T : am_H} (h : frw W S T) (a j : Nat) (x : Int) : frw W (am_setN S a j x) (am_setN T a j x) := by
  refine ⟨h.1, h.2.1, fun c k hw => ?_⟩
  show (if c = a ∧ k = j then x else T.2.1 c k) = (if c = a ∧ k = j then x else S.2.1 c k)
  rw [h.2.2 c k hw]
theorem akF_l {b : Nat → Int} {E w : Nat} {p : Nat ⊕ (Int × Int)} (h : (akF b E w p).isLeft = true) : p.isLeft = true := by
  cases p with
  | inl i => rfl
  | inr e => exact h
theorem sgF_l {b : Nat → Int} {E : Nat} {c : Int} {p : Nat ⊕ (Int × Int)} (h : (sgF b E c p).isLeft = true) : p.isLeft = true := by
  cases p with
  | inl i => rfl
  | inr e => exact h
theorem nuF_l {b : Nat → Int} {E : Nat} {lo hi : Int} {p : Nat ⊕ (Int × Int)} (h : (nuF b E lo hi p).isLeft = true) : p.isLeft = true := by
  cases p with
  | inl i => rfl
  | inr e => exact h
theorem naF_l {b : Nat → Int} {E : Nat} {p : Nat ⊕ (Int × Int)} (h : (naF b E p).isLeft = true) : p.isLeft = true := by
  cases p with
  | inl i => rfl
  | inr e => exact h
/-- the days of a year: where this reading ends -/
def dyF (b : Nat → Int) (E : Nat) (p : Nat ⊕ (Int × Int)) : Nat ⊕ (Int × Int) := sgF b E 59 (nuF b E 5 90 (akF b E 0 p))
theorem c_X10_daysTold {b : Nat → Int} {E : Nat} {p : Nat ⊕ (Int × Int)} (S : am_H) (hZ : ZZ b E S p)   : am_met M_X10_daysTold [am_r 55] S (fun r σ' => r = none ∧ ∃ v : Int, (0 ≤ v ∧ v ≤ 9999) ∧ ZZ b E σ' (dyF b E p) ∧ frw W_sc (am_setN S 85 4 v) σ' ∧ ((dyF b E p).isLeft = true → v = vZ b E (akF b E 0 p) ∧ 5 ≤ v ∧ v ≤ 90)) := by
  refine am_qq (fun Q hQ => ?_)
  refine am_enter (show plainFor yX10_daysTold = true by decide +kernel) rfl (Nat.le_of_ble_eq_true rfl) (fun _ _ _ => trivial) ?_
  have hL := hZ.L
  refine am_aload_n (q := 1) rfl (am_tab tk_X10_daysTold 0 rfl) rfl ?_
  refine am_aload_n (q := 2) rfl (am_tab tk_X10_daysTold 1 rfl) rfl ?_
  refine am_getR (q := 5) (a := 55) (k := 10) (n := 108) (j := 11) (r := some (58)) (Ls_55 hL) (by decide) rfl (Lr_55_11 hL) (by decide) (Or.inl kf_X10_20) (am_tab tk_X10_daysTold 2 rfl) rfl ?_
  refine am_callVr (q := 8) (me2 := M_X10_asks) (b := 55) (kb := 10) (nb := 108) (As := [am_r 58]) (rest := []) (c_asksZ hZ 58 0 (by decide)) ⟨rfl, rfl⟩ (Ls_55 hL) (by decide) ⟨Or.inl km_X10_317, kc_X10_asks, kn_X10, kd_X10_asks, ⟨(Nat.le_of_ble_eq_true rfl), (Nat.le_of_ble_eq_true rfl)⟩, ⟨(Nat.le_of_ble_eq_true rfl), (Nat.le_of_ble_eq_true rfl)⟩, (Nat.le_of_ble_eq_true rfl)⟩ ki_X10_asks ks_X10_asks rfl (am_tab tk_X10_daysTold 3 rfl) rfl ?_
  rintro r T1 ⟨rfl, hZ1, hF1⟩
  refine am_st (st2 := []) rfl ?_
  refine am_aload_n (q := 9) rfl (am_tab tk_X10_daysTold 4 rfl) rfl ?_
  refine am_getR (q := 12) (a := 55) (k := 10) (n := 108) (j := 39) (r := some (85)) (Ls_55 hZ1.L) (by decide) rfl (Lr_55_39 hZ1.L) (by decide) (Or.inl kf_X10_102) (am_tab tk_X10_daysTold 5 rfl) rfl ?_
  refine am_iconst (q := 13) (n := 4) (by decide) (am_tab tk_X10_daysTold 6 rfl) rfl ?_
  refine am_aload_n (q := 14) rfl (am_tab tk_X10_daysTold 7 rfl) rfl ?_
  refine am_iconst (q := 15) (n := 5) (by decide) (am_tab tk_X10_daysTold 8 rfl) rfl ?_
  refine am_bipush (q := 17) (n := 90) (by decide) rfl (am_tab tk_X10_daysTold 9 rfl) rfl ?_
  refine am_callVr (q := 20) (me2 := M_X10_number) (b := 55) (kb := 10) (nb := 108) (As := [am_i 5, am_i 90]) (rest := [am_i 4, am_r 85]) (c_numberZ hZ1 5 90 (by decide) (by decide)) ⟨rfl, rfl⟩ (Ls_55 hZ1.L) (by decide) ⟨Or.inl km_X10_321, kc_X10_number, kn_X10, kd_X10_number, ⟨(Nat.le_of_ble_eq_true rfl), (Nat.le_of_ble_eq_true rfl)⟩, ⟨(Nat.le_of_ble_eq_true rfl), (Nat.le_of_ble_eq_true rfl)⟩, (Nat.le_of_ble_eq_true rfl)⟩ ki_X10_number ks_X10_number rfl (am_tab tk_X10_daysTold 10 rfl) rfl ?_
  rintro r T2 ⟨v, rfl, hvr, hZ2, hF2, hv⟩
  refine am_st (st2 := [am_i v, am_i 4, am_r 85]) rfl ?_
  refine am_iast (q := 21) (a := 85) (n := 10) (Ls_85 hZ2.L) (by omega) (by omega) (am_tab tk_X10_daysTold 11 rfl) rfl ?_
  refine am_aload_n (q := 22) rfl (am_tab tk_X10_daysTold 12 rfl) rfl ?_
  refine am_bipush (q := 24) (n := 59) (by decide) rfl (am_tab tk_X10_daysTold 13 rfl) rfl ?_
  refine am_callVr (q := 27) (me2 := M_X10_asksSign) (b := 55) (kb := 10) (nb := 108) (As := [am_i 59]) (rest := []) (c_asksSignZ (hZ2.st ((frw.refl W_st T2).setN (a := 85) (j := 4) (x := v) (by unfold W_st; omega))) 59 (by decide)) ⟨rfl, rfl⟩ (Ls_55 hZ2.L) (by decide) ⟨Or.inl km_X10_325, kc_X10_asksSign, kn_X10, kd_X10_asksSign, ⟨(Nat.le_of_ble_eq_true rfl), (Nat.le_of_ble_eq_true rfl)⟩, ⟨(Nat.le_of_ble_eq_true rfl), (Nat.le_of_ble_eq_true rfl)⟩, (Nat.le_of_ble_eq_true rfl)⟩ ki_X10_asksSign ks_X10_asksSign rfl (am_tab tk_X10_daysTold 14 rfl) rfl ?_
  rintro r T3 ⟨rfl, hZ3, hF3⟩
  refine am_st (st2 := []) rfl ?_
  refine am_vret rfl (Nat.le_of_ble_eq_true rfl) (Nat.le_of_ble_eq_true rfl) (am_tab tk_X10_daysTold 15 rfl) ?_
  refine hQ _ _ ?_
  refine ⟨rfl, v, hvr, hZ3, ((hF1.trans hF2).both 85 4 v).trans hF3, fun h => ?_⟩
  have h2 := hv (sgF_l h)
  exact ⟨h2.1, h2.2.1⟩
