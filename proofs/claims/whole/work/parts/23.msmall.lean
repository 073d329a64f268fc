theorem isFrost_loop (σ : am_H) (hL : lay σ) (F : Nat) (hF : σ.2.1 85 8 = F) (h4 : F ≤ 4) (d : Int) (hd : 0 ≤ d ∧ d ≤ 1000) (hf : ∀ k, k < F → (0 ≤ σ.2.1 91 (8 + 2 * k) ∧ σ.2.1 91 (8 + 2 * k) ≤ 90) ∧ (0 ≤ σ.2.1 91 (9 + 2 * k) ∧ σ.2.1 91 (9 + 2 * k) ≤ 30)) : ∀ m i : Nat, i + m = F → anyB (fun k => decide (σ.2.1 91 (8 + 2 * k) ≤ d ∧ d ≤ σ.2.1 91 (8 + 2 * k) + σ.2.1 91 (9 + 2 * k) - 1)) i = false → am_wp M_X10_isFrost (fun r σ' => r = some (am_i (if anyB (fun k => decide (σ.2.1 91 (8 + 2 * k) ≤ d ∧ d ≤ σ.2.1 91 (8 + 2 * k) + σ.2.1 91 (9 + 2 * k) - 1)) F = true then 1 else 0)) ∧ σ' = σ) 0 0 2 [(2, am_i ((i : Int))), (0, am_r 55), (1, am_i d)] [] σ := by
  intro m
  induction m with
  | zero =>
    intro i hi hn
    refine am_iload_n (q := 3) rfl (am_tab tk_X10_isFrost 2 rfl) rfl ?_
    refine am_aload_n (q := 4) rfl (am_tab tk_X10_isFrost 3 rfl) rfl ?_
    refine am_getR (q := 7) (a := 55) (k := 10) (n := 108) (j := 39) (r := some (85)) (Ls_55 hL) (by decide) rfl (Lr_55_39 hL) (by decide) (Or.inl kf_X10_102) (am_tab tk_X10_isFrost 4 rfl) rfl ?_
    refine am_bipush (q := 9) (n := 8) (by decide) rfl (am_tab tk_X10_isFrost 5 rfl) rfl ?_
    refine am_iald (q := 10) (a := 85) (n := 10) (x := (σ.2.1 85 8)) (Ls_85 hL) (by omega) (by omega) rfl (am_tab tk_X10_isFrost 6 rfl) rfl ?_
    refine am_icmp_ge (q := 13) (t := 69) (am_tab tk_X10_isFrost 7 rfl) (by decide) rfl (fun h10 => ?_) (fun h10 => ?_)
    · refine am_iconst (q := 70) (n := 0) (by decide) (am_tab tk_X10_isFrost 47 rfl) rfl ?_
      refine am_iret (Or.inr ⟨rfl, by first | exact Or.inl rfl | exact Or.inr rfl | omega⟩) (Nat.le_of_ble_eq_true rfl) (Nat.le_of_ble_eq_true rfl) (am_tab tk_X10_isFrost 48 rfl) ?_
      exact ⟨by rw [← show i = F by omega, hn]; rfl, rfl⟩
    · exact absurd h10 (by omega)
  | succ m ih =>
    intro i hi hn
    have e1 : ((8 : Int) + (2 * (i : Int))).toNat = 8 + 2 * i := by omega
    have e2 : (((8 : Int) + (2 * (i : Int))) + 1).toNat = 9 + 2 * i := by omega
    have hfi := hf i (by omega)
    refine am_iload_n (q := 3) rfl (am_tab tk_X10_isFrost 2 rfl) rfl ?_
    refine am_aload_n (q := 4) rfl (am_tab tk_X10_isFrost 3 rfl) rfl ?_
    refine am_getR (q := 7) (a := 55) (k := 10) (n := 108) (j := 39) (r := some (85)) (Ls_55 hL) (by decide) rfl (Lr_55_39 hL) (by decide) (Or.inl kf_X10_102) (am_tab tk_X10_isFrost 4 rfl) rfl ?_
    refine am_bipush (q := 9) (n := 8) (by decide) rfl (am_tab tk_X10_isFrost 5 rfl) rfl ?_
    refine am_iald (q := 10) (a := 85) (n := 10) (x := (σ.2.1 85 8)) (Ls_85 hL) (by omega) (by omega) rfl (am_tab tk_X10_isFrost 6 rfl) rfl ?_
    refine am_icmp_ge (q := 13) (t := 69) (am_tab tk_X10_isFrost 7 rfl) (by decide) rfl (fun h10 => ?_) (fun h10 => ?_)
    · exact absurd h10 (by omega)
    · refine am_iload_n (q := 14) rfl (am_tab tk_X10_isFrost 8 rfl) rfl ?_
      refine am_i2l (q := 15) (am_tab tk_X10_isFrost 9 rfl) rfl ?_
      refine am_aload_n (q := 16) rfl (am_tab tk_X10_isFrost 10 rfl) rfl ?_
      refine am_getR (q := 19) (a := 55) (k := 10) (n := 108) (j := 45) (r := some (91)) (Ls_55 hL) (by decide) rfl (Lr_55_45 hL) (by decide) (Or.inl kf_X10_121) (am_tab tk_X10_isFrost 11 rfl) rfl ?_
      refine am_bipush (q := 21) (n := 8) (by decide) rfl (am_tab tk_X10_isFrost 12 rfl) rfl ?_
      refine am_iconst (q := 22) (n := 2) (by decide) (am_tab tk_X10_isFrost 13 rfl) rfl ?_
      refine am_iload_n (q := 23) rfl (am_tab tk_X10_isFrost 14 rfl) rfl ?_
      refine am_imul (q := 24) (by omega) (am_tab tk_X10_isFrost 15 rfl) rfl ?_
      refine am_iadd (q := 25) (by omega) (am_tab tk_X10_isFrost 16 rfl) rfl ?_
      refine am_iald (q := 26) (a := 91) (n := 16) (x := (σ.2.1 91 (8 + 2 * i))) (Ls_91 hL) (by omega) (by omega) (by rw [e1]) (am_tab tk_X10_isFrost 17 rfl) rfl ?_
      refine am_i2l (q := 27) (am_tab tk_X10_isFrost 18 rfl) rfl ?_
      refine am_aload_n (q := 28) rfl (am_tab tk_X10_isFrost 19 rfl) rfl ?_
      refine am_getR (q := 31) (a := 55) (k := 10) (n := 108) (j := 45) (r := some (91)) (Ls_55 hL) (by decide) rfl (Lr_55_45 hL) (by decide) (Or.inl kf_X10_121) (am_tab tk_X10_isFrost 20 rfl) rfl ?_
      refine am_bipush (q := 33) (n := 8) (by decide) rfl (am_tab tk_X10_isFrost 21 rfl) rfl ?_
      refine am_iconst (q := 34) (n := 2) (by decide) (am_tab tk_X10_isFrost 22 rfl) rfl ?_
      refine am_iload_n (q := 35) rfl (am_tab tk_X10_isFrost 23 rfl) rfl ?_
      refine am_imul (q := 36) (by omega) (am_tab tk_X10_isFrost 24 rfl) rfl ?_
      refine am_iadd (q := 37) (by omega) (am_tab tk_X10_isFrost 25 rfl) rfl ?_
      refine am_iald (q := 38) (a := 91) (n := 16) (x := (σ.2.1 91 (8 + 2 * i))) (Ls_91 hL) (by omega) (by omega) (by rw [e1]) (am_tab tk_X10_isFrost 26 rfl) rfl ?_
      refine am_aload_n (q := 39) rfl (am_tab tk_X10_isFrost 27 rfl) rfl ?_
      refine am_getR (q := 42) (a := 55) (k := 10) (n := 108) (j := 45) (r := some (91)) (Ls_55 hL) (by decide) rfl (Lr_55_45 hL) (by decide) (Or.inl kf_X10_121) (am_tab tk_X10_isFrost 28 rfl) rfl ?_
      refine am_bipush (q := 44) (n := 8) (by decide) rfl (am_tab tk_X10_isFrost 29 rfl) rfl ?_
      refine am_iconst (q := 45) (n := 2) (by decide) (am_tab tk_X10_isFrost 30 rfl) rfl ?_
      refine am_iload_n (q := 46) rfl (am_tab tk_X10_isFrost 31 rfl) rfl ?_
      refine am_imul (q := 47) (by omega) (am_tab tk_X10_isFrost 32 rfl) rfl ?_
      refine am_iadd (q := 48) (by omega) (am_tab tk_X10_isFrost 33 rfl) rfl ?_
      refine am_iconst (q := 49) (n := 1) (by decide) (am_tab tk_X10_isFrost 34 rfl) rfl ?_
      refine am_iadd (q := 50) (by omega) (am_tab tk_X10_isFrost 35 rfl) rfl ?_
      refine am_iald (q := 51) (a := 91) (n := 16) (x := (σ.2.1 91 (9 + 2 * i))) (Ls_91 hL) (by omega) (by omega) (by rw [e2]) (am_tab tk_X10_isFrost 36 rfl) rfl ?_
      refine am_iadd (q := 52) (by omega) (am_tab tk_X10_isFrost 37 rfl) rfl ?_
      refine am_iconst (q := 53) (n := 1) (by decide) (am_tab tk_X10_isFrost 38 rfl) rfl ?_
      refine am_isub (q := 54) (by omega) (am_tab tk_X10_isFrost 39 rfl) rfl ?_
      refine am_i2l (q := 55) (am_tab tk_X10_isFrost 40 rfl) rfl ?_
      refine am_callS0 (q := 58) (me2 := M_X10_isIn) (As := [am_l d, am_l ((σ.2.1 91 (8 + 2 * i))), am_l ((((((σ.2.1 91 (8 + 2 * i))) + ((σ.2.1 91 (9 + 2 * i))))) - 1))]) (rest := []) (out := [am_i (if ((σ.2.1 91 (8 + 2 * i))) ≤ d ∧ d ≤ ((((((σ.2.1 91 (8 + 2 * i))) + ((σ.2.1 91 (9 + 2 * i))))) - 1)) then 1 else 0)]) (c_X10_isIn σ hL d ((σ.2.1 91 (8 + 2 * i))) ((((((σ.2.1 91 (8 + 2 * i))) + ((σ.2.1 91 (9 + 2 * i))))) - 1)) ) ⟨rfl, rfl⟩ ⟨Or.inl km_X10_291, kc_X10_isIn, kn_X10, kd_X10_isIn, ⟨(Nat.le_of_ble_eq_true rfl), (Nat.le_of_ble_eq_true rfl)⟩, ⟨(Nat.le_of_ble_eq_true rfl), (Nat.le_of_ble_eq_true rfl)⟩, (Nat.le_of_ble_eq_true rfl)⟩ ki_X10_isIn rfl rfl (am_tab tk_X10_isFrost 41 rfl) rfl ?_
      refine am_if_eq (q := 61) (t := 63) (am_tab tk_X10_isFrost 42 rfl) (by decide) rfl (fun h58 => ?_) (fun h58 => ?_)
      · replace h58 := b01z h58
        refine am_iinc (q := 66) rfl (by omega) (by decide) (ls2 := [(2, am_i (((i : Int) + 1))), (0, am_r 55), (1, am_i d)]) rfl (am_tab tk_X10_isFrost 45 rfl) rfl ?_
        refine am_goto (t := 2) (am_tab tk_X10_isFrost 46 rfl) (by decide) ?_
        refine ih (i + 1) (by omega) (anyB_f hn ?_)
        simp only [decide_eq_false_iff_not]
        exact h58
      · replace h58 := b01n h58
        refine am_iconst (q := 62) (n := 1) (by decide) (am_tab tk_X10_isFrost 43 rfl) rfl ?_
        refine am_iret (Or.inr ⟨rfl, by first | exact Or.inl rfl | exact Or.inr rfl | omega⟩) (Nat.le_of_ble_eq_true rfl) (Nat.le_of_ble_eq_true rfl) (am_tab tk_X10_isFrost 44 rfl) ?_
        exact ⟨by rw [anyB_t (g := (fun k => decide (σ.2.1 91 (8 + 2 * k) ≤ d ∧ d ≤ σ.2.1 91 (8 + 2 * k) + σ.2.1 91 (9 + 2 * k) - 1))) (i := i) (by simp; omega) (by omega)]; rfl, rfl⟩
theorem c_X10_isFrost (σ : am_H) (hL : lay σ) (d : Int) (F : Nat) (hF : σ.2.1 85 8 = F) (h4 : F ≤ 4) (hd : 0 ≤ d ∧ d ≤ 1000) (hf : ∀ k, k < F → (0 ≤ σ.2.1 91 (8 + 2 * k) ∧ σ.2.1 91 (8 + 2 * k) ≤ 90) ∧ (0 ≤ σ.2.1 91 (9 + 2 * k) ∧ σ.2.1 91 (9 + 2 * k) ≤ 30)) : am_met M_X10_isFrost [am_r 55, am_i d] σ (fun r σ' => r = some (am_i (if anyB (fun k => decide (σ.2.1 91 (8 + 2 * k) ≤ d ∧ d ≤ σ.2.1 91 (8 + 2 * k) + σ.2.1 91 (9 + 2 * k) - 1)) F = true then 1 else 0)) ∧ σ' = σ) := by
  refine am_enter (show plainFor yX10_isFrost = true by decide +kernel) rfl (Nat.le_of_ble_eq_true rfl) (fun _ _ _ => trivial) ?_
  refine am_iconst (q := 1) (n := 0) (by decide) (am_tab tk_X10_isFrost 0 rfl) rfl ?_
  refine am_istore_n (q := 2) (by decide) (ls2 := [(2, am_i 0), (0, am_r 55), (1, am_i d)]) rfl (am_tab tk_X10_isFrost 1 rfl) rfl ?_
  exact isFrost_loop σ hL F hF h4 d hd hf F 0 (by omega) rfl
theorem c_X10_canCome (σ : am_H) (hL : lay σ)   : am_met M_X10_canCome [am_r 55] σ (fun r σ' => r = some (am_i (if ¬ σ.2.1 55 52 = 0 ∧ (σ.2.1 96 0 < 999 ∨ σ.2.1 96 1 < σ.2.1 85 9) then 1 else 0)) ∧ σ' = σ) := by
  refine am_enter (show plainFor yX10_canCome = true by decide +kernel) rfl (Nat.le_of_ble_eq_true rfl) (fun _ _ _ => trivial) ?_
  refine am_aload_n (q := 1) rfl (am_tab tk_X10_canCome 0 rfl) rfl ?_
  refine am_getI (q := 4) (a := 55) (k := 10) (n := 108) (j := 52) (x := (σ.2.1 55 52)) (Ls_55 hL) (by decide) rfl rfl (by decide) (Or.inl kf_X10_384) (am_tab tk_X10_canCome 1 rfl) rfl ?_
  refine am_if_eq (q := 7) (t := 36) (am_tab tk_X10_canCome 2 rfl) (by decide) rfl (fun h4 => ?_) (fun h4 => ?_)
  · refine am_iconst (q := 37) (n := 0) (by decide) (am_tab tk_X10_canCome 18 rfl) rfl ?_
    refine am_iret (Or.inr ⟨rfl, by first | exact Or.inl rfl | exact Or.inr rfl | omega⟩) (Nat.le_of_ble_eq_true rfl) (Nat.le_of_ble_eq_true rfl) (am_tab tk_X10_canCome 19 rfl) ?_
    refine ⟨?_, rfl⟩
    congr 2
    first | rw [if_pos (by omega)] | rw [if_neg (by omega)]
  · refine am_aload_n (q := 8) rfl (am_tab tk_X10_canCome 3 rfl) rfl ?_
    refine am_getR (q := 11) (a := 55) (k := 10) (n := 108) (j := 54) (r := some (96)) (Ls_55 hL) (by decide) rfl (Lr_55_54 hL) (by decide) (Or.inl kf_X10_136) (am_tab tk_X10_canCome 4 rfl) rfl ?_
    refine am_iconst (q := 12) (n := 0) (by decide) (am_tab tk_X10_canCome 5 rfl) rfl ?_
    refine am_iald (q := 13) (a := 96) (n := 443) (x := (σ.2.1 96 0)) (Ls_96 hL) (by omega) (by omega) rfl (am_tab tk_X10_canCome 6 rfl) rfl ?_
    refine am_sipush (q := 16) (n := 999) (by decide) rfl (am_tab tk_X10_canCome 7 rfl) rfl ?_
    refine am_icmp_lt (q := 19) (t := 32) (am_tab tk_X10_canCome 8 rfl) (by decide) rfl (fun h16 => ?_) (fun h16 => ?_)
    · refine am_iconst (q := 33) (n := 1) (by decide) (am_tab tk_X10_canCome 16 rfl) rfl ?_
      refine am_goto (t := 37) (am_tab tk_X10_canCome 17 rfl) (by decide) ?_
      refine am_iret (Or.inr ⟨rfl, by first | exact Or.inl rfl | exact Or.inr rfl | omega⟩) (Nat.le_of_ble_eq_true rfl) (Nat.le_of_ble_eq_true rfl) (am_tab tk_X10_canCome 19 rfl) ?_
      refine ⟨?_, rfl⟩
      congr 2
      first | rw [if_pos (by omega)] | rw [if_neg (by omega)]
    · refine am_aload_n (q := 20) rfl (am_tab tk_X10_canCome 9 rfl) rfl ?_
      refine am_getR (q := 23) (a := 55) (k := 10) (n := 108) (j := 54) (r := some (96)) (Ls_55 hL) (by decide) rfl (Lr_55_54 hL) (by decide) (Or.inl kf_X10_136) (am_tab tk_X10_canCome 10 rfl) rfl ?_
      refine am_iconst (q := 24) (n := 1) (by decide) (am_tab tk_X10_canCome 11 rfl) rfl ?_
      refine am_iald (q := 25) (a := 96) (n := 443) (x := (σ.2.1 96 1)) (Ls_96 hL) (by omega) (by omega) rfl (am_tab tk_X10_canCome 12 rfl) rfl ?_
      refine am_aload_n (q := 26) rfl (am_tab tk_X10_canCome 13 rfl) rfl ?_
      refine am_callV0 (q := 29) (me2 := M_X10_yearDays) (b := 55) (kb := 10) (nb := 108) (As := []) (rest := [am_i ((σ.2.1 96 1))]) (out := [am_i (σ.2.1 85 9), am_i ((σ.2.1 96 1))]) (c_X10_yearDays σ hL  ) ⟨rfl, rfl⟩ (Ls_55 hL) (by decide) ⟨Or.inl km_X10_397, kc_X10_yearDays, kn_X10, kd_X10_yearDays, ⟨(Nat.le_of_ble_eq_true rfl), (Nat.le_of_ble_eq_true rfl)⟩, ⟨(Nat.le_of_ble_eq_true rfl), (Nat.le_of_ble_eq_true rfl)⟩, (Nat.le_of_ble_eq_true rfl)⟩ ki_X10_yearDays ks_X10_yearDays rfl rfl (am_tab tk_X10_canCome 14 rfl) rfl ?_
      refine am_icmp_ge (q := 32) (t := 36) (am_tab tk_X10_canCome 15 rfl) (by decide) rfl (fun h29 => ?_) (fun h29 => ?_)
      · refine am_iconst (q := 37) (n := 0) (by decide) (am_tab tk_X10_canCome 18 rfl) rfl ?_
        refine am_iret (Or.inr ⟨rfl, by first | exact Or.inl rfl | exact Or.inr rfl | omega⟩) (Nat.le_of_ble_eq_true rfl) (Nat.le_of_ble_eq_true rfl) (am_tab tk_X10_canCome 19 rfl) ?_
        refine ⟨?_, rfl⟩
        congr 2
        first | rw [if_pos (by omega)] | rw [if_neg (by omega)]
      · refine am_iconst (q := 33) (n := 1) (by decide) (am_tab tk_X10_canCome 16 rfl) rfl ?_
        refine am_goto (t := 37) (am_tab tk_X10_canCome 17 rfl) (by decide) ?_
        refine am_iret (Or.inr ⟨rfl, by first | exact Or.inl rfl | exact Or.inr rfl | omega⟩) (Nat.le_of_ble_eq_true rfl) (Nat.le_of_ble_eq_true rfl) (am_tab tk_X10_canCome 19 rfl) ?_
        refine ⟨?_, rfl⟩
        congr 2
        first | rw [if_pos (by omega)] | rw [if_neg (by omega)]
def dlM (σ : am_H) : Int := if σ.2.1 55 52 = 0 then 0 else (999 - σ.2.1 96 0) * σ.2.1 85 9 + σ.2.1 85 9 - σ.2.1 96 1
theorem dl_mul {y n : Int} (h1 : 1 ≤ y ∧ y ≤ 999) (h3 : 0 ≤ n ∧ n ≤ 90) : 0 ≤ (999 - y) * n ∧ (999 - y) * n ≤ 998 * 90 := ⟨Int.mul_nonneg (by omega) (by omega), Int.mul_le_mul (by omega) (by omega) (by omega) (by omega)⟩
theorem c_X10_daysLeft (σ : am_H) (hL : lay σ)  (h1 : 1 ≤ σ.2.1 96 0 ∧ σ.2.1 96 0 ≤ 999) (h2 : 0 ≤ σ.2.1 96 1 ∧ σ.2.1 96 1 ≤ 90) (h3 : 0 ≤ σ.2.1 85 9 ∧ σ.2.1 85 9 ≤ 90) : am_met M_X10_daysLeft [am_r 55] σ (fun r σ' => r = some (am_i (dlM σ)) ∧ σ' = σ) := by
  refine am_enter (show plainFor yX10_daysLeft = true by decide +kernel) rfl (Nat.le_of_ble_eq_true rfl) (fun _ _ _ => trivial) ?_
  have hm := dl_mul h1 h3
  refine am_aload_n (q := 1) rfl (am_tab tk_X10_daysLeft 0 rfl) rfl ?_
  refine am_getI (q := 4) (a := 55) (k := 10) (n := 108) (j := 52) (x := (σ.2.1 55 52)) (Ls_55 hL) (by decide) rfl rfl (by decide) (Or.inl kf_X10_384) (am_tab tk_X10_daysLeft 1 rfl) rfl ?_
  refine am_if_eq (q := 7) (t := 37) (am_tab tk_X10_daysLeft 2 rfl) (by decide) rfl (fun h4 => ?_) (fun h4 => ?_)
  · refine am_iconst (q := 38) (n := 0) (by decide) (am_tab tk_X10_daysLeft 21 rfl) rfl ?_
    refine am_iret (Or.inl rfl) (Nat.le_of_ble_eq_true rfl) (Nat.le_of_ble_eq_true rfl) (am_tab tk_X10_daysLeft 22 rfl) ?_
    exact ⟨by unfold dlM; first | rw [if_pos (by assumption)] | rw [if_neg (by assumption)], rfl⟩
  · refine am_sipush (q := 10) (n := 999) (by decide) rfl (am_tab tk_X10_daysLeft 3 rfl) rfl ?_
    refine am_aload_n (q := 11) rfl (am_tab tk_X10_daysLeft 4 rfl) rfl ?_
    refine am_getR (q := 14) (a := 55) (k := 10) (n := 108) (j := 54) (r := some (96)) (Ls_55 hL) (by decide) rfl (Lr_55_54 hL) (by decide) (Or.inl kf_X10_136) (am_tab tk_X10_daysLeft 5 rfl) rfl ?_
    refine am_iconst (q := 15) (n := 0) (by decide) (am_tab tk_X10_daysLeft 6 rfl) rfl ?_
    refine am_iald (q := 16) (a := 96) (n := 443) (x := (σ.2.1 96 0)) (Ls_96 hL) (by omega) (by omega) rfl (am_tab tk_X10_daysLeft 7 rfl) rfl ?_
    refine am_isub (q := 17) (by omega) (am_tab tk_X10_daysLeft 8 rfl) rfl ?_
    refine am_aload_n (q := 18) rfl (am_tab tk_X10_daysLeft 9 rfl) rfl ?_
    refine am_callV0 (q := 21) (me2 := M_X10_yearDays) (b := 55) (kb := 10) (nb := 108) (As := []) (rest := [am_i ((999 - (σ.2.1 96 0)))]) (out := [am_i (σ.2.1 85 9), am_i ((999 - (σ.2.1 96 0)))]) (c_X10_yearDays σ hL  ) ⟨rfl, rfl⟩ (Ls_55 hL) (by decide) ⟨Or.inl km_X10_397, kc_X10_yearDays, kn_X10, kd_X10_yearDays, ⟨(Nat.le_of_ble_eq_true rfl), (Nat.le_of_ble_eq_true rfl)⟩, ⟨(Nat.le_of_ble_eq_true rfl), (Nat.le_of_ble_eq_true rfl)⟩, (Nat.le_of_ble_eq_true rfl)⟩ ki_X10_yearDays ks_X10_yearDays rfl rfl (am_tab tk_X10_daysLeft 10 rfl) rfl ?_
    refine am_imul (q := 22) (by omega) (am_tab tk_X10_daysLeft 11 rfl) rfl ?_
    refine am_aload_n (q := 23) rfl (am_tab tk_X10_daysLeft 12 rfl) rfl ?_
    refine am_callV0 (q := 26) (me2 := M_X10_yearDays) (b := 55) (kb := 10) (nb := 108) (As := []) (rest := [am_i ((((999 - (σ.2.1 96 0))) * (σ.2.1 85 9)))]) (out := [am_i (σ.2.1 85 9), am_i ((((999 - (σ.2.1 96 0))) * (σ.2.1 85 9)))]) (c_X10_yearDays σ hL  ) ⟨rfl, rfl⟩ (Ls_55 hL) (by decide) ⟨Or.inl km_X10_397, kc_X10_yearDays, kn_X10, kd_X10_yearDays, ⟨(Nat.le_of_ble_eq_true rfl), (Nat.le_of_ble_eq_true rfl)⟩, ⟨(Nat.le_of_ble_eq_true rfl), (Nat.le_of_ble_eq_true rfl)⟩, (Nat.le_of_ble_eq_true rfl)⟩ ki_X10_yearDays ks_X10_yearDays rfl rfl (am_tab tk_X10_daysLeft 13 rfl) rfl ?_
    refine am_iadd (q := 27) (by omega) (am_tab tk_X10_daysLeft 14 rfl) rfl ?_
    refine am_aload_n (q := 28) rfl (am_tab tk_X10_daysLeft 15 rfl) rfl ?_
    refine am_getR (q := 31) (a := 55) (k := 10) (n := 108) (j := 54) (r := some (96)) (Ls_55 hL) (by decide) rfl (Lr_55_54 hL) (by decide) (Or.inl kf_X10_136) (am_tab tk_X10_daysLeft 16 rfl) rfl ?_
    refine am_iconst (q := 32) (n := 1) (by decide) (am_tab tk_X10_daysLeft 17 rfl) rfl ?_
    refine am_iald (q := 33) (a := 96) (n := 443) (x := (σ.2.1 96 1)) (Ls_96 hL) (by omega) (by omega) rfl (am_tab tk_X10_daysLeft 18 rfl) rfl ?_
    refine am_isub (q := 34) (by omega) (am_tab tk_X10_daysLeft 19 rfl) rfl ?_
    refine am_goto (t := 38) (am_tab tk_X10_daysLeft 20 rfl) (by decide) ?_
    refine am_iret (Or.inl rfl) (Nat.le_of_ble_eq_true rfl) (Nat.le_of_ble_eq_true rfl) (am_tab tk_X10_daysLeft 22 rfl) ?_
    exact ⟨by unfold dlM; first | rw [if_pos (by assumption)] | rw [if_neg (by assumption)], rfl⟩
theorem c_X10_isAhead (σ : am_H) (hL : lay σ) (n : Int) (h1 : 1 ≤ σ.2.1 96 0 ∧ σ.2.1 96 0 ≤ 999) (h2 : 0 ≤ σ.2.1 96 1 ∧ σ.2.1 96 1 ≤ 90) (h3 : 0 ≤ σ.2.1 85 9 ∧ σ.2.1 85 9 ≤ 90) : am_met M_X10_isAhead [am_r 55, am_i n] σ (fun r σ' => r = some (am_i (if (1 ≤ n ∧ n ≤ 120) ∧ n ≤ dlM σ then 1 else 0)) ∧ σ' = σ) := by
  refine am_enter (show plainFor yX10_isAhead = true by decide +kernel) rfl (Nat.le_of_ble_eq_true rfl) (fun _ _ _ => trivial) ?_
  refine am_iload_n (q := 1) rfl (am_tab tk_X10_isAhead 0 rfl) rfl ?_
  refine am_i2l (q := 2) (am_tab tk_X10_isAhead 1 rfl) rfl ?_
  refine am_lconst1 (q := 3) (am_tab tk_X10_isAhead 2 rfl) rfl ?_
  refine am_ldc2 (q := 6) (n := 120) (by decide) kk_X10_479 (am_tab tk_X10_isAhead 3 rfl) rfl ?_
  refine am_callS0 (q := 9) (me2 := M_X10_isIn) (As := [am_l n, am_l 1, am_l 120]) (rest := []) (out := [am_i (if 1 ≤ n ∧ n ≤ 120 then 1 else 0)]) (c_X10_isIn σ hL n 1 120 ) ⟨rfl, rfl⟩ ⟨Or.inl km_X10_291, kc_X10_isIn, kn_X10, kd_X10_isIn, ⟨(Nat.le_of_ble_eq_true rfl), (Nat.le_of_ble_eq_true rfl)⟩, ⟨(Nat.le_of_ble_eq_true rfl), (Nat.le_of_ble_eq_true rfl)⟩, (Nat.le_of_ble_eq_true rfl)⟩ ki_X10_isIn rfl rfl (am_tab tk_X10_isAhead 4 rfl) rfl ?_
  refine am_if_eq (q := 12) (t := 24) (am_tab tk_X10_isAhead 5 rfl) (by decide) rfl (fun h9 => ?_) (fun h9 => ?_)
  · replace h9 := b01z h9
    refine am_iconst (q := 25) (n := 0) (by decide) (am_tab tk_X10_isAhead 12 rfl) rfl ?_
    refine am_iret (Or.inr ⟨rfl, by first | exact Or.inl rfl | exact Or.inr rfl | omega⟩) (Nat.le_of_ble_eq_true rfl) (Nat.le_of_ble_eq_true rfl) (am_tab tk_X10_isAhead 13 rfl) ?_
    refine ⟨?_, rfl⟩
    congr 2
    first | rw [if_pos (by omega)] | rw [if_neg (by omega)]
  · replace h9 := b01n h9
    refine am_iload_n (q := 13) rfl (am_tab tk_X10_isAhead 6 rfl) rfl ?_
    refine am_aload_n (q := 14) rfl (am_tab tk_X10_isAhead 7 rfl) rfl ?_
    refine am_callV0 (q := 17) (me2 := M_X10_daysLeft) (b := 55) (kb := 10) (nb := 108) (As := []) (rest := [am_i n]) (out := [am_i (dlM σ), am_i n]) (c_X10_daysLeft σ hL  (by omega) (by omega) (by omega)) ⟨rfl, rfl⟩ (Ls_55 hL) (by decide) ⟨Or.inl km_X10_481, kc_X10_daysLeft, kn_X10, kd_X10_daysLeft, ⟨(Nat.le_of_ble_eq_true rfl), (Nat.le_of_ble_eq_true rfl)⟩, ⟨(Nat.le_of_ble_eq_true rfl), (Nat.le_of_ble_eq_true rfl)⟩, (Nat.le_of_ble_eq_true rfl)⟩ ki_X10_daysLeft ks_X10_daysLeft rfl rfl (am_tab tk_X10_isAhead 8 rfl) rfl ?_
    refine am_icmp_gt (q := 20) (t := 24) (am_tab tk_X10_isAhead 9 rfl) (by decide) rfl (fun h17 => ?_) (fun h17 => ?_)
    · refine am_iconst (q := 25) (n := 0) (by decide) (am_tab tk_X10_isAhead 12 rfl) rfl ?_
      refine am_iret (Or.inr ⟨rfl, by first | exact Or.inl rfl | exact Or.inr rfl | omega⟩) (Nat.le_of_ble_eq_true rfl) (Nat.le_of_ble_eq_true rfl) (am_tab tk_X10_isAhead 13 rfl) ?_
      refine ⟨?_, rfl⟩
      congr 2
      first | rw [if_pos (by omega)] | rw [if_neg (by omega)]
    · refine am_iconst (q := 21) (n := 1) (by decide) (am_tab tk_X10_isAhead 10 rfl) rfl ?_
      refine am_goto (t := 25) (am_tab tk_X10_isAhead 11 rfl) (by decide) ?_
      refine am_iret (Or.inr ⟨rfl, by first | exact Or.inl rfl | exact Or.inr rfl | omega⟩) (Nat.le_of_ble_eq_true rfl) (Nat.le_of_ble_eq_true rfl) (am_tab tk_X10_isAhead 13 rfl) ?_
      refine ⟨?_, rfl⟩
      congr 2
      first | rw [if_pos (by omega)] | rw [if_neg (by omega)]
theorem c_X10_fault (σ : am_H) (hL : lay σ) (n : Int)  : am_met M_X10_fault [am_r 55, am_i n] σ (fun r σ' => r = some (am_i (if n = 0 then σ.2.1 55 7 else if n = 1 then σ.2.1 55 8 else -1)) ∧ σ' = σ) := by
  refine am_enter (show plainFor yX10_fault = true by decide +kernel) rfl (Nat.le_of_ble_eq_true rfl) (fun _ _ _ => trivial) ?_
  refine am_iload_n (q := 1) rfl (am_tab tk_X10_fault 0 rfl) rfl ?_
  refine am_if_ne (q := 4) (t := 11) (am_tab tk_X10_fault 1 rfl) (by decide) rfl (fun h1 => ?_) (fun h1 => ?_)
  · refine am_iload_n (q := 12) rfl (am_tab tk_X10_fault 5 rfl) rfl ?_
    refine am_iconst (q := 13) (n := 1) (by decide) (am_tab tk_X10_fault 6 rfl) rfl ?_
    refine am_icmp_ne (q := 16) (t := 23) (am_tab tk_X10_fault 7 rfl) (by decide) rfl (fun h13 => ?_) (fun h13 => ?_)
    · refine am_iconst (q := 24) (n := (-1)) (by decide) (am_tab tk_X10_fault 11 rfl) rfl ?_
      refine am_iret (Or.inl rfl) (Nat.le_of_ble_eq_true rfl) (Nat.le_of_ble_eq_true rfl) (am_tab tk_X10_fault 12 rfl) ?_
      refine ⟨?_, rfl⟩
      congr 2
      first | rw [if_pos (by omega)] | rw [if_neg (by omega), if_pos (by omega)] | rw [if_neg (by omega), if_neg (by omega)]
    · refine am_aload_n (q := 17) rfl (am_tab tk_X10_fault 8 rfl) rfl ?_
      refine am_getI (q := 20) (a := 55) (k := 10) (n := 108) (j := 8) (x := (σ.2.1 55 8)) (Ls_55 hL) (by decide) rfl rfl (by decide) (Or.inl kf_X10_13) (am_tab tk_X10_fault 9 rfl) rfl ?_
      refine am_goto (t := 24) (am_tab tk_X10_fault 10 rfl) (by decide) ?_
      refine am_iret (Or.inl rfl) (Nat.le_of_ble_eq_true rfl) (Nat.le_of_ble_eq_true rfl) (am_tab tk_X10_fault 12 rfl) ?_
      refine ⟨?_, rfl⟩
      congr 2
      first | rw [if_pos (by omega)] | rw [if_neg (by omega), if_pos (by omega)] | rw [if_neg (by omega), if_neg (by omega)]
  · refine am_aload_n (q := 5) rfl (am_tab tk_X10_fault 2 rfl) rfl ?_
    refine am_getI (q := 8) (a := 55) (k := 10) (n := 108) (j := 7) (x := (σ.2.1 55 7)) (Ls_55 hL) (by decide) rfl rfl (by decide) (Or.inl kf_X10_378) (am_tab tk_X10_fault 3 rfl) rfl ?_
    refine am_goto (t := 24) (am_tab tk_X10_fault 4 rfl) (by decide) ?_
    refine am_iret (Or.inl rfl) (Nat.le_of_ble_eq_true rfl) (Nat.le_of_ble_eq_true rfl) (am_tab tk_X10_fault 12 rfl) ?_
    refine ⟨?_, rfl⟩
    congr 2
    first | rw [if_pos (by omega)] | rw [if_neg (by omega), if_pos (by omega)] | rw [if_neg (by omega), if_neg (by omega)]
theorem c_X10_octet (σ : am_H) (hL : lay σ) (k : Int) (ho : 0 ≤ σ.2.1 55 107 ∧ σ.2.1 55 107 ≤ 146) : am_met M_X10_octet [am_r 55, am_i k] σ (fun r σ' => r = some (am_i (if 0 ≤ k ∧ k < σ.2.1 55 107 then σ.2.1 130 k.toNat else -1)) ∧ σ' = σ) := by
  refine am_enter (show plainFor yX10_octet = true by decide +kernel) rfl (Nat.le_of_ble_eq_true rfl) (fun _ _ _ => trivial) ?_
  refine am_iload_n (q := 1) rfl (am_tab tk_X10_octet 0 rfl) rfl ?_
  refine am_if_lt (q := 4) (t := 21) (am_tab tk_X10_octet 1 rfl) (by decide) rfl (fun h1 => ?_) (fun h1 => ?_)
  · refine am_iconst (q := 22) (n := (-1)) (by decide) (am_tab tk_X10_octet 11 rfl) rfl ?_
    refine am_iret (Or.inl rfl) (Nat.le_of_ble_eq_true rfl) (Nat.le_of_ble_eq_true rfl) (am_tab tk_X10_octet 12 rfl) ?_
    refine ⟨?_, rfl⟩
    congr 2
    first | rw [if_pos (by omega)] | rw [if_neg (by omega)]
  · refine am_iload_n (q := 5) rfl (am_tab tk_X10_octet 2 rfl) rfl ?_
    refine am_aload_n (q := 6) rfl (am_tab tk_X10_octet 3 rfl) rfl ?_
    refine am_getI (q := 9) (a := 55) (k := 10) (n := 108) (j := 107) (x := (σ.2.1 55 107)) (Ls_55 hL) (by decide) rfl rfl (by decide) (Or.inl kf_X10_679) (am_tab tk_X10_octet 4 rfl) rfl ?_
    refine am_icmp_ge (q := 12) (t := 21) (am_tab tk_X10_octet 5 rfl) (by decide) rfl (fun h9 => ?_) (fun h9 => ?_)
    · refine am_iconst (q := 22) (n := (-1)) (by decide) (am_tab tk_X10_octet 11 rfl) rfl ?_
      refine am_iret (Or.inl rfl) (Nat.le_of_ble_eq_true rfl) (Nat.le_of_ble_eq_true rfl) (am_tab tk_X10_octet 12 rfl) ?_
      refine ⟨?_, rfl⟩
      congr 2
      first | rw [if_pos (by omega)] | rw [if_neg (by omega)]
    · refine am_aload_n (q := 13) rfl (am_tab tk_X10_octet 6 rfl) rfl ?_
      refine am_getR (q := 16) (a := 55) (k := 10) (n := 108) (j := 106) (r := some (130)) (Ls_55 hL) (by decide) rfl (Lr_55_106 hL) (by decide) (Or.inl kf_X10_242) (am_tab tk_X10_octet 7 rfl) rfl ?_
      refine am_iload_n (q := 17) rfl (am_tab tk_X10_octet 8 rfl) rfl ?_
      refine am_iald (q := 18) (a := 130) (n := 146) (x := (σ.2.1 130 (Int.toNat k))) (Ls_130 hL) (by omega) (by omega) rfl (am_tab tk_X10_octet 9 rfl) rfl ?_
      refine am_goto (t := 22) (am_tab tk_X10_octet 10 rfl) (by decide) ?_
      refine am_iret (Or.inl rfl) (Nat.le_of_ble_eq_true rfl) (Nat.le_of_ble_eq_true rfl) (am_tab tk_X10_octet 12 rfl) ?_
      refine ⟨?_, rfl⟩
      congr 2
      first | rw [if_pos (by omega)] | rw [if_neg (by omega)]
theorem c_X10_status (σ : am_H) (hL : lay σ) (k : Int)  : am_met M_X10_status [am_r 55, am_i k] σ (fun r σ' => r = some (am_i (if 0 ≤ k ∧ k ≤ 5 then σ.2.1 57 k.toNat else -1)) ∧ σ' = σ) := by
  refine am_enter (show plainFor yX10_status = true by decide +kernel) rfl (Nat.le_of_ble_eq_true rfl) (fun _ _ _ => trivial) ?_
  refine am_iload_n (q := 1) rfl (am_tab tk_X10_status 0 rfl) rfl ?_
  refine am_i2l (q := 2) (am_tab tk_X10_status 1 rfl) rfl ?_
  refine am_lconst0 (q := 3) (am_tab tk_X10_status 2 rfl) rfl ?_
  refine am_ldc2 (q := 6) (n := 5) (by decide) kk_X10_493 (am_tab tk_X10_status 3 rfl) rfl ?_
  refine am_callS0 (q := 9) (me2 := M_X10_isIn) (As := [am_l k, am_l 0, am_l 5]) (rest := []) (out := [am_i (if 0 ≤ k ∧ k ≤ 5 then 1 else 0)]) (c_X10_isIn σ hL k 0 5 ) ⟨rfl, rfl⟩ ⟨Or.inl km_X10_291, kc_X10_isIn, kn_X10, kd_X10_isIn, ⟨(Nat.le_of_ble_eq_true rfl), (Nat.le_of_ble_eq_true rfl)⟩, ⟨(Nat.le_of_ble_eq_true rfl), (Nat.le_of_ble_eq_true rfl)⟩, (Nat.le_of_ble_eq_true rfl)⟩ ki_X10_isIn rfl rfl (am_tab tk_X10_status 4 rfl) rfl ?_
  refine am_if_eq (q := 12) (t := 21) (am_tab tk_X10_status 5 rfl) (by decide) rfl (fun h9 => ?_) (fun h9 => ?_)
  · replace h9 := b01z h9
    refine am_iconst (q := 22) (n := (-1)) (by decide) (am_tab tk_X10_status 11 rfl) rfl ?_
    refine am_iret (Or.inl rfl) (Nat.le_of_ble_eq_true rfl) (Nat.le_of_ble_eq_true rfl) (am_tab tk_X10_status 12 rfl) ?_
    refine ⟨?_, rfl⟩
    congr 2
    first | rw [if_pos (by omega)] | rw [if_neg (by omega)]
  · replace h9 := b01n h9
    refine am_aload_n (q := 13) rfl (am_tab tk_X10_status 6 rfl) rfl ?_
    refine am_getR (q := 16) (a := 55) (k := 10) (n := 108) (j := 9) (r := some (57)) (Ls_55 hL) (by decide) rfl (Lr_55_9 hL) (by decide) (Or.inl kf_X10_17) (am_tab tk_X10_status 7 rfl) rfl ?_
    refine am_iload_n (q := 17) rfl (am_tab tk_X10_status 8 rfl) rfl ?_
    refine am_iald (q := 18) (a := 57) (n := 6) (x := (σ.2.1 57 (Int.toNat k))) (Ls_57 hL) (by omega) (by omega) rfl (am_tab tk_X10_status 9 rfl) rfl ?_
    refine am_goto (t := 22) (am_tab tk_X10_status 10 rfl) (by decide) ?_
    refine am_iret (Or.inl rfl) (Nat.le_of_ble_eq_true rfl) (Nat.le_of_ble_eq_true rfl) (am_tab tk_X10_status 12 rfl) ?_
    refine ⟨?_, rfl⟩
    congr 2
    first | rw [if_pos (by omega)] | rw [if_neg (by omega)]
theorem c_X10_kept (σ : am_H) (hL : lay σ) (k : Int) (w : Int) (hk : 0 ≤ σ.2.1 96 202 ∧ σ.2.1 96 202 ≤ 60) : am_met M_X10_kept [am_r 55, am_i k, am_i w] σ (fun r σ' => r = some (am_i (if (0 ≤ k ∧ k ≤ σ.2.1 96 202 - 1) ∧ (0 ≤ w ∧ w ≤ 3) then σ.2.1 96 (203 + 4 * k + w).toNat else -1)) ∧ σ' = σ) := by
  refine am_enter (show plainFor yX10_kept = true by decide +kernel) rfl (Nat.le_of_ble_eq_true rfl) (fun _ _ _ => trivial) ?_
  refine am_iload_n (q := 1) rfl (am_tab tk_X10_kept 0 rfl) rfl ?_
  refine am_i2l (q := 2) (am_tab tk_X10_kept 1 rfl) rfl ?_
  refine am_lconst0 (q := 3) (am_tab tk_X10_kept 2 rfl) rfl ?_
  refine am_aload_n (q := 4) rfl (am_tab tk_X10_kept 3 rfl) rfl ?_
  refine am_getR (q := 7) (a := 55) (k := 10) (n := 108) (j := 54) (r := some (96)) (Ls_55 hL) (by decide) rfl (Lr_55_54 hL) (by decide) (Or.inl kf_X10_136) (am_tab tk_X10_kept 4 rfl) rfl ?_
  refine am_sipush (q := 10) (n := 202) (by decide) rfl (am_tab tk_X10_kept 5 rfl) rfl ?_
  refine am_iald (q := 11) (a := 96) (n := 443) (x := (σ.2.1 96 202)) (Ls_96 hL) (by omega) (by omega) rfl (am_tab tk_X10_kept 6 rfl) rfl ?_
  refine am_iconst (q := 12) (n := 1) (by decide) (am_tab tk_X10_kept 7 rfl) rfl ?_
  refine am_isub (q := 13) (by omega) (am_tab tk_X10_kept 8 rfl) rfl ?_
  refine am_i2l (q := 14) (am_tab tk_X10_kept 9 rfl) rfl ?_
  refine am_callS0 (q := 17) (me2 := M_X10_isIn) (As := [am_l k, am_l 0, am_l (((σ.2.1 96 202) - 1))]) (rest := []) (out := [am_i (if 0 ≤ k ∧ k ≤ (((σ.2.1 96 202) - 1)) then 1 else 0)]) (c_X10_isIn σ hL k 0 (((σ.2.1 96 202) - 1)) ) ⟨rfl, rfl⟩ ⟨Or.inl km_X10_291, kc_X10_isIn, kn_X10, kd_X10_isIn, ⟨(Nat.le_of_ble_eq_true rfl), (Nat.le_of_ble_eq_true rfl)⟩, ⟨(Nat.le_of_ble_eq_true rfl), (Nat.le_of_ble_eq_true rfl)⟩, (Nat.le_of_ble_eq_true rfl)⟩ ki_X10_isIn rfl rfl (am_tab tk_X10_kept 10 rfl) rfl ?_
  refine am_if_eq (q := 20) (t := 49) (am_tab tk_X10_kept 11 rfl) (by decide) rfl (fun h17 => ?_) (fun h17 => ?_)
  · replace h17 := b01z h17
    refine am_iconst (q := 50) (n := (-1)) (by decide) (am_tab tk_X10_kept 29 rfl) rfl ?_
    refine am_iret (Or.inl rfl) (Nat.le_of_ble_eq_true rfl) (Nat.le_of_ble_eq_true rfl) (am_tab tk_X10_kept 30 rfl) ?_
    refine ⟨?_, rfl⟩
    congr 2
    first | rw [if_pos (by omega)] | rw [if_neg (by omega)]
  · replace h17 := b01n h17
    refine am_iload_n (q := 21) rfl (am_tab tk_X10_kept 12 rfl) rfl ?_
    refine am_i2l (q := 22) (am_tab tk_X10_kept 13 rfl) rfl ?_
    refine am_lconst0 (q := 23) (am_tab tk_X10_kept 14 rfl) rfl ?_
    refine am_ldc2 (q := 26) (n := 3) (by decide) kk_X10_507 (am_tab tk_X10_kept 15 rfl) rfl ?_
    refine am_callS0 (q := 29) (me2 := M_X10_isIn) (As := [am_l w, am_l 0, am_l 3]) (rest := []) (out := [am_i (if 0 ≤ w ∧ w ≤ 3 then 1 else 0)]) (c_X10_isIn σ hL w 0 3 ) ⟨rfl, rfl⟩ ⟨Or.inl km_X10_291, kc_X10_isIn, kn_X10, kd_X10_isIn, ⟨(Nat.le_of_ble_eq_true rfl), (Nat.le_of_ble_eq_true rfl)⟩, ⟨(Nat.le_of_ble_eq_true rfl), (Nat.le_of_ble_eq_true rfl)⟩, (Nat.le_of_ble_eq_true rfl)⟩ ki_X10_isIn rfl rfl (am_tab tk_X10_kept 16 rfl) rfl ?_
    refine am_if_eq (q := 32) (t := 49) (am_tab tk_X10_kept 17 rfl) (by decide) rfl (fun h29 => ?_) (fun h29 => ?_)
    · replace h29 := b01z h29
      refine am_iconst (q := 50) (n := (-1)) (by decide) (am_tab tk_X10_kept 29 rfl) rfl ?_
      refine am_iret (Or.inl rfl) (Nat.le_of_ble_eq_true rfl) (Nat.le_of_ble_eq_true rfl) (am_tab tk_X10_kept 30 rfl) ?_
      refine ⟨?_, rfl⟩
      congr 2
      first | rw [if_pos (by omega)] | rw [if_neg (by omega)]
    · replace h29 := b01n h29
      refine am_aload_n (q := 33) rfl (am_tab tk_X10_kept 18 rfl) rfl ?_
      refine am_getR (q := 36) (a := 55) (k := 10) (n := 108) (j := 54) (r := some (96)) (Ls_55 hL) (by decide) rfl (Lr_55_54 hL) (by decide) (Or.inl kf_X10_136) (am_tab tk_X10_kept 19 rfl) rfl ?_
      refine am_sipush (q := 39) (n := 203) (by decide) rfl (am_tab tk_X10_kept 20 rfl) rfl ?_
      refine am_iconst (q := 40) (n := 4) (by decide) (am_tab tk_X10_kept 21 rfl) rfl ?_
      refine am_iload_n (q := 41) rfl (am_tab tk_X10_kept 22 rfl) rfl ?_
      refine am_imul (q := 42) (by omega) (am_tab tk_X10_kept 23 rfl) rfl ?_
      refine am_iadd (q := 43) (by omega) (am_tab tk_X10_kept 24 rfl) rfl ?_
      refine am_iload_n (q := 44) rfl (am_tab tk_X10_kept 25 rfl) rfl ?_
      refine am_iadd (q := 45) (by omega) (am_tab tk_X10_kept 26 rfl) rfl ?_
      refine am_iald (q := 46) (a := 96) (n := 443) (x := (σ.2.1 96 (Int.toNat ((((203 + (4 * k))) + w))))) (Ls_96 hL) (by omega) (by omega) rfl (am_tab tk_X10_kept 27 rfl) rfl ?_
      refine am_goto (t := 50) (am_tab tk_X10_kept 28 rfl) (by decide) ?_
      refine am_iret (Or.inl rfl) (Nat.le_of_ble_eq_true rfl) (Nat.le_of_ble_eq_true rfl) (am_tab tk_X10_kept 30 rfl) ?_
      refine ⟨?_, rfl⟩
      congr 2
      first | rw [if_pos (by omega)] | rw [if_neg (by omega)]
theorem c_X10_refuses (σ : am_H) (hL : lay σ) (k : Nat) (hk : k < 6) (hr : 0 ≤ σ.2.1 57 k ∧ σ.2.1 57 k ≤ 100000) : am_met M_X10_refuses [am_r 55, am_i ((k : Int))] σ (fun r σ' => r = some (am_i ((-1))) ∧ σ' = am_setN σ 57 k (σ.2.1 57 k + 1)) := by
  refine am_enter (show plainFor yX10_refuses = true by decide +kernel) rfl (Nat.le_of_ble_eq_true rfl) (fun _ _ _ => trivial) ?_
  refine am_aload_n (q := 1) rfl (am_tab tk_X10_refuses 0 rfl) rfl ?_
  refine am_getR (q := 4) (a := 55) (k := 10) (n := 108) (j := 9) (r := some (57)) (Ls_55 hL) (by decide) rfl (Lr_55_9 hL) (by decide) (Or.inl kf_X10_17) (am_tab tk_X10_refuses 1 rfl) rfl ?_
  refine am_iload_n (q := 5) rfl (am_tab tk_X10_refuses 2 rfl) rfl ?_
  refine am_dup2 (q := 6) rfl rfl (am_tab tk_X10_refuses 3 rfl) rfl ?_
  refine am_iald (q := 7) (a := 57) (n := 6) (x := (σ.2.1 57 k)) (Ls_57 hL) (by omega) (by omega) rfl (am_tab tk_X10_refuses 4 rfl) rfl ?_
  refine am_iconst (q := 8) (n := 1) (by decide) (am_tab tk_X10_refuses 5 rfl) rfl ?_
  refine am_iadd (q := 9) (by omega) (am_tab tk_X10_refuses 6 rfl) rfl ?_
  refine am_iast (q := 10) (a := 57) (n := 6) (Ls_57 hL) (by omega) (by omega) (am_tab tk_X10_refuses 7 rfl) rfl ?_
  refine am_iconst (q := 11) (n := (-1)) (by decide) (am_tab tk_X10_refuses 8 rfl) rfl ?_
  refine am_iret (Or.inl rfl) (Nat.le_of_ble_eq_true rfl) (Nat.le_of_ble_eq_true rfl) (am_tab tk_X10_refuses 9 rfl) ?_
  exact ⟨rfl, rfl⟩
theorem c_X10_seed (σ : am_H) (hL : lay σ) (x : Int) (hr : 0 ≤ σ.2.1 57 5 ∧ σ.2.1 57 5 ≤ 100000) : am_met M_X10_seed [am_r 55, am_i x] σ (fun r σ' => r = some (am_i (if x < 0 then 0 else 1)) ∧ σ' = if x < 0 then am_setN σ 57 5 (σ.2.1 57 5 + 1) else am_setN σ 55 71 x) := by
  refine am_enter (show plainFor yX10_seed = true by decide +kernel) rfl (Nat.le_of_ble_eq_true rfl) (fun _ _ _ => trivial) ?_
  refine am_iload_n (q := 1) rfl (am_tab tk_X10_seed 0 rfl) rfl ?_
  refine am_if_ge (q := 4) (t := 16) (am_tab tk_X10_seed 1 rfl) (by decide) rfl (fun h1 => ?_) (fun h1 => ?_)
  · refine am_aload_n (q := 17) rfl (am_tab tk_X10_seed 12 rfl) rfl ?_
    refine am_iload_n (q := 18) rfl (am_tab tk_X10_seed 13 rfl) rfl ?_
    refine am_i2l (q := 19) (am_tab tk_X10_seed 14 rfl) rfl ?_
    refine am_putL (q := 22) (k := 10) (n := 108) (j := 71) (Ls_55 hL) (by decide) rfl (by decide) (Or.inl ⟨kf_X10_157, rfl⟩) (am_tab tk_X10_seed 15 rfl) rfl ?_
    refine am_iconst (q := 23) (n := 1) (by decide) (am_tab tk_X10_seed 16 rfl) rfl ?_
    refine am_iret (Or.inr ⟨rfl, by first | exact Or.inl rfl | exact Or.inr rfl | omega⟩) (Nat.le_of_ble_eq_true rfl) (Nat.le_of_ble_eq_true rfl) (am_tab tk_X10_seed 17 rfl) ?_
    first | exact ⟨by rw [if_pos (by omega)], by rw [if_pos (by omega)]; rfl⟩ | exact ⟨by rw [if_neg (by omega)], by rw [if_neg (by omega)]⟩
  · refine am_aload_n (q := 5) rfl (am_tab tk_X10_seed 2 rfl) rfl ?_
    refine am_getR (q := 8) (a := 55) (k := 10) (n := 108) (j := 9) (r := some (57)) (Ls_55 hL) (by decide) rfl (Lr_55_9 hL) (by decide) (Or.inl kf_X10_17) (am_tab tk_X10_seed 3 rfl) rfl ?_
    refine am_iconst (q := 9) (n := 5) (by decide) (am_tab tk_X10_seed 4 rfl) rfl ?_
    refine am_dup2 (q := 10) rfl rfl (am_tab tk_X10_seed 5 rfl) rfl ?_
    refine am_iald (q := 11) (a := 57) (n := 6) (x := (σ.2.1 57 5)) (Ls_57 hL) (by omega) (by omega) rfl (am_tab tk_X10_seed 6 rfl) rfl ?_
    refine am_iconst (q := 12) (n := 1) (by decide) (am_tab tk_X10_seed 7 rfl) rfl ?_
    refine am_iadd (q := 13) (by omega) (am_tab tk_X10_seed 8 rfl) rfl ?_
    refine am_iast (q := 14) (a := 57) (n := 6) (Ls_57 hL) (by omega) (by omega) (am_tab tk_X10_seed 9 rfl) rfl ?_
    refine am_iconst (q := 15) (n := 0) (by decide) (am_tab tk_X10_seed 10 rfl) rfl ?_
    refine am_iret (Or.inr ⟨rfl, by first | exact Or.inl rfl | exact Or.inr rfl | omega⟩) (Nat.le_of_ble_eq_true rfl) (Nat.le_of_ble_eq_true rfl) (am_tab tk_X10_seed 11 rfl) ?_
    first | exact ⟨by rw [if_pos (by omega)], by rw [if_pos (by omega)]; rfl⟩ | exact ⟨by rw [if_neg (by omega)], by rw [if_neg (by omega)]⟩
theorem c_X10_end (σ : am_H) (hL : lay σ) (n : Int) (hr : 0 ≤ σ.2.1 57 0 ∧ σ.2.1 57 0 ≤ 100000) : am_met M_X10_end [am_r 55, am_i n] σ (fun r σ' => r = some (am_i (if n < 0 ∨ n > σ.2.1 55 1 then 0 else 1)) ∧ σ' = if n < 0 ∨ n > σ.2.1 55 1 then am_setN σ 57 0 (σ.2.1 57 0 + 1) else am_setN σ 55 1 n) := by
  refine am_enter (show plainFor yX10_end = true by decide +kernel) rfl (Nat.le_of_ble_eq_true rfl) (fun _ _ _ => trivial) ?_
  refine am_iload_n (q := 1) rfl (am_tab tk_X10_end 0 rfl) rfl ?_
  refine am_if_lt (q := 4) (t := 12) (am_tab tk_X10_end 1 rfl) (by decide) rfl (fun h1 => ?_) (fun h1 => ?_)
  · refine am_aload_n (q := 13) rfl (am_tab tk_X10_end 6 rfl) rfl ?_
    refine am_getR (q := 16) (a := 55) (k := 10) (n := 108) (j := 9) (r := some (57)) (Ls_55 hL) (by decide) rfl (Lr_55_9 hL) (by decide) (Or.inl kf_X10_17) (am_tab tk_X10_end 7 rfl) rfl ?_
    refine am_iconst (q := 17) (n := 0) (by decide) (am_tab tk_X10_end 8 rfl) rfl ?_
    refine am_dup2 (q := 18) rfl rfl (am_tab tk_X10_end 9 rfl) rfl ?_
    refine am_iald (q := 19) (a := 57) (n := 6) (x := (σ.2.1 57 0)) (Ls_57 hL) (by omega) (by omega) rfl (am_tab tk_X10_end 10 rfl) rfl ?_
    refine am_iconst (q := 20) (n := 1) (by decide) (am_tab tk_X10_end 11 rfl) rfl ?_
    refine am_iadd (q := 21) (by omega) (am_tab tk_X10_end 12 rfl) rfl ?_
    refine am_iast (q := 22) (a := 57) (n := 6) (Ls_57 hL) (by omega) (by omega) (am_tab tk_X10_end 13 rfl) rfl ?_
    refine am_iconst (q := 23) (n := 0) (by decide) (am_tab tk_X10_end 14 rfl) rfl ?_
    refine am_iret (Or.inr ⟨rfl, by first | exact Or.inl rfl | exact Or.inr rfl | omega⟩) (Nat.le_of_ble_eq_true rfl) (Nat.le_of_ble_eq_true rfl) (am_tab tk_X10_end 15 rfl) ?_
    first | exact ⟨by rw [if_pos (by omega)], by rw [if_pos (by omega)]; rfl⟩ | exact ⟨by rw [if_neg (by omega)], by rw [if_neg (by omega)]⟩
  · refine am_iload_n (q := 5) rfl (am_tab tk_X10_end 2 rfl) rfl ?_
    refine am_aload_n (q := 6) rfl (am_tab tk_X10_end 3 rfl) rfl ?_
    refine am_getI (q := 9) (a := 55) (k := 10) (n := 108) (j := 1) (x := (σ.2.1 55 1)) (Ls_55 hL) (by decide) rfl rfl (by decide) (Or.inl kf_X10_245) (am_tab tk_X10_end 4 rfl) rfl ?_
    refine am_icmp_le (q := 12) (t := 24) (am_tab tk_X10_end 5 rfl) (by decide) rfl (fun h9 => ?_) (fun h9 => ?_)
    · refine am_aload_n (q := 25) rfl (am_tab tk_X10_end 16 rfl) rfl ?_
      refine am_iload_n (q := 26) rfl (am_tab tk_X10_end 17 rfl) rfl ?_
      refine am_putI (q := 29) (k := 10) (n := 108) (j := 1) (Ls_55 hL) (by decide) rfl (by decide) (Or.inl ⟨kf_X10_245, rfl⟩) (am_tab tk_X10_end 18 rfl) rfl ?_
      refine am_iconst (q := 30) (n := 1) (by decide) (am_tab tk_X10_end 19 rfl) rfl ?_
      refine am_iret (Or.inr ⟨rfl, by first | exact Or.inl rfl | exact Or.inr rfl | omega⟩) (Nat.le_of_ble_eq_true rfl) (Nat.le_of_ble_eq_true rfl) (am_tab tk_X10_end 20 rfl) ?_
      first | exact ⟨by rw [if_pos (by omega)], by rw [if_pos (by omega)]; rfl⟩ | exact ⟨by rw [if_neg (by omega)], by rw [if_neg (by omega)]⟩
    · refine am_aload_n (q := 13) rfl (am_tab tk_X10_end 6 rfl) rfl ?_
      refine am_getR (q := 16) (a := 55) (k := 10) (n := 108) (j := 9) (r := some (57)) (Ls_55 hL) (by decide) rfl (Lr_55_9 hL) (by decide) (Or.inl kf_X10_17) (am_tab tk_X10_end 7 rfl) rfl ?_
      refine am_iconst (q := 17) (n := 0) (by decide) (am_tab tk_X10_end 8 rfl) rfl ?_
      refine am_dup2 (q := 18) rfl rfl (am_tab tk_X10_end 9 rfl) rfl ?_
      refine am_iald (q := 19) (a := 57) (n := 6) (x := (σ.2.1 57 0)) (Ls_57 hL) (by omega) (by omega) rfl (am_tab tk_X10_end 10 rfl) rfl ?_
      refine am_iconst (q := 20) (n := 1) (by decide) (am_tab tk_X10_end 11 rfl) rfl ?_
      refine am_iadd (q := 21) (by omega) (am_tab tk_X10_end 12 rfl) rfl ?_
      refine am_iast (q := 22) (a := 57) (n := 6) (Ls_57 hL) (by omega) (by omega) (am_tab tk_X10_end 13 rfl) rfl ?_
      refine am_iconst (q := 23) (n := 0) (by decide) (am_tab tk_X10_end 14 rfl) rfl ?_
      refine am_iret (Or.inr ⟨rfl, by first | exact Or.inl rfl | exact Or.inr rfl | omega⟩) (Nat.le_of_ble_eq_true rfl) (Nat.le_of_ble_eq_true rfl) (am_tab tk_X10_end 15 rfl) ?_
      first | exact ⟨by rw [if_pos (by omega)], by rw [if_pos (by omega)]; rfl⟩ | exact ⟨by rw [if_neg (by omega)], by rw [if_neg (by omega)]⟩
