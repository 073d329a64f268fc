theorem kpA_k {f : Nat → Int} {y d n b : Int} (hc : ¬ f 202 = 60) (h0 : 0 ≤ f 202) {k : Nat} (hk : (k : Int) < f 202) : rwV (kpA f y d n b) k = rwV f k := by
  have e : ∀ j, j < 4 → kpA f y d n b (203 + 4 * k + j) = f (203 + 4 * k + j) := fun j hj => by
    unfold kpA
    rw [if_neg hc, if_neg (by omega), if_neg (by omega), if_neg (by omega), if_neg (by omega), if_neg (by omega)]
  unfold rwV
  rw [show kpA f y d n b (203 + 4 * k) = f (203 + 4 * k) from e 0 (by omega), show 204 + 4 * k = 203 + 4 * k + 1 by omega, show 205 + 4 * k = 203 + 4 * k + 2 by omega, show 206 + 4 * k = 203 + 4 * k + 3 by omega, e 1 (by omega), e 2 (by omega), e 3 (by omega)]
theorem kpA_new {f : Nat → Int} {y d n b : Int} (hc : ¬ f 202 = 60) (h0 : 0 ≤ f 202) : rwV (kpA f y d n b) (f 202).toNat = ((y * 128 + d) * 16 + n) * 2 + b ∧ kpA f y d n b 202 = f 202 + 1 := by
  refine ⟨?_, by unfold kpA; rw [if_neg hc, if_pos rfl]⟩
  unfold rwV kpA
  rw [if_neg hc, if_neg hc, if_neg hc, if_neg hc, if_neg (by omega), if_pos rfl, if_neg (show ¬ 204 + 4 * (f 202).toNat = 202 by omega), if_neg (show ¬ 204 + 4 * (f 202).toNat = 203 + 4 * (f 202).toNat by omega), if_pos rfl, if_neg (show ¬ 205 + 4 * (f 202).toNat = 202 by omega), if_neg (show ¬ 205 + 4 * (f 202).toNat = 203 + 4 * (f 202).toNat by omega), if_neg (show ¬ 205 + 4 * (f 202).toNat = 204 + 4 * (f 202).toNat by omega), if_pos rfl, if_neg (show ¬ 206 + 4 * (f 202).toNat = 202 by omega), if_neg (show ¬ 206 + 4 * (f 202).toNat = 203 + 4 * (f 202).toNat by omega), if_neg (show ¬ 206 + 4 * (f 202).toNat = 204 + 4 * (f 202).toNat by omega), if_neg (show ¬ 206 + 4 * (f 202).toNat = 205 + 4 * (f 202).toNat by omega), if_pos rfl]
theorem kpA_fl {f : Nat → Int} {y d n b : Int} (hc : f 202 = 60) {k : Nat} (hk : k < 59) : rwV (kpA f y d n b) k = rwV f (k + 1) := by
  have e : ∀ j, j < 4 → kpA f y d n b (203 + 4 * k + j) = f (203 + 4 * (k + 1) + j) := fun j hj => by
    unfold kpA
    rw [if_pos hc, if_neg (by omega), if_neg (by omega), if_neg (by omega), if_neg (by omega), if_pos (by omega), show 203 + 4 * k + j + 4 = 203 + 4 * (k + 1) + j by omega]
  unfold rwV
  rw [show kpA f y d n b (203 + 4 * k) = f (203 + 4 * (k + 1)) from e 0 (by omega), show 204 + 4 * k = 203 + 4 * k + 1 by omega, show 205 + 4 * k = 203 + 4 * k + 2 by omega, show 206 + 4 * k = 203 + 4 * k + 3 by omega, e 1 (by omega), e 2 (by omega), e 3 (by omega), show 203 + 4 * (k + 1) + 1 = 204 + 4 * (k + 1) by omega, show 203 + 4 * (k + 1) + 2 = 205 + 4 * (k + 1) by omega, show 203 + 4 * (k + 1) + 3 = 206 + 4 * (k + 1) by omega]
theorem kpA_59 {f : Nat → Int} {y d n b : Int} (hc : f 202 = 60) : rwV (kpA f y d n b) 59 = ((y * 128 + d) * 16 + n) * 2 + b ∧ kpA f y d n b 202 = 60 := by
  unfold rwV kpA
  rw [if_pos hc, if_pos hc, if_pos hc, if_pos hc, if_pos hc]
  refine ⟨rfl, ?_⟩
  rw [if_neg (by decide), if_neg (by decide), if_neg (by decide), if_neg (by decide), if_neg (by decide)]
  exact hc
theorem ROK_kp {f : Nat → Int} {y d n b : Int} (h0 : 0 ≤ f 202 ∧ f 202 ≤ 60) (h : ROK f) (hy : 0 ≤ y ∧ y ≤ 999) (hd : 0 ≤ d ∧ d ≤ 90) (hn : 0 ≤ n ∧ n ≤ 8) (hb : 0 ≤ b ∧ b ≤ 1) : ROK (kpA f y d n b) := by
  intro k hk
  by_cases hc : f 202 = 60
  · rw [(kpA_59 hc).2] at hk
    by_cases h59 : k = 59
    · subst h59
      unfold kpA
      rw [if_pos hc, if_pos hc, if_pos hc, if_pos hc]
      exact ⟨hy, hd, hn, hb⟩
    · have e : ∀ j, j < 4 → kpA f y d n b (203 + 4 * k + j) = f (203 + 4 * (k + 1) + j) := fun j hj => by
        unfold kpA
        rw [if_pos hc, if_neg (by omega), if_neg (by omega), if_neg (by omega), if_neg (by omega), if_pos (by omega), show 203 + 4 * k + j + 4 = 203 + 4 * (k + 1) + j by omega]
      have h9 := h (k + 1) (by rw [hc]; omega)
      rw [show kpA f y d n b (203 + 4 * k) = f (203 + 4 * (k + 1)) from e 0 (by omega), show 204 + 4 * k = 203 + 4 * k + 1 by omega, show 205 + 4 * k = 203 + 4 * k + 2 by omega, show 206 + 4 * k = 203 + 4 * k + 3 by omega, e 1 (by omega), e 2 (by omega), e 3 (by omega), show 203 + 4 * (k + 1) + 1 = 204 + 4 * (k + 1) by omega, show 203 + 4 * (k + 1) + 2 = 205 + 4 * (k + 1) by omega, show 203 + 4 * (k + 1) + 3 = 206 + 4 * (k + 1) by omega]
      exact h9
  · rw [(kpA_new hc h0.1).2] at hk
    by_cases h59 : (k : Int) = f 202
    · have ek : k = (f 202).toNat := by omega
      subst ek
      unfold kpA
      rw [if_neg hc, if_neg hc, if_neg hc, if_neg hc, if_neg (by omega), if_pos rfl, if_neg (show ¬ 204 + 4 * (f 202).toNat = 202 by omega), if_neg (show ¬ 204 + 4 * (f 202).toNat = 203 + 4 * (f 202).toNat by omega), if_pos rfl, if_neg (show ¬ 205 + 4 * (f 202).toNat = 202 by omega), if_neg (show ¬ 205 + 4 * (f 202).toNat = 203 + 4 * (f 202).toNat by omega), if_neg (show ¬ 205 + 4 * (f 202).toNat = 204 + 4 * (f 202).toNat by omega), if_pos rfl, if_neg (show ¬ 206 + 4 * (f 202).toNat = 202 by omega), if_neg (show ¬ 206 + 4 * (f 202).toNat = 203 + 4 * (f 202).toNat by omega), if_neg (show ¬ 206 + 4 * (f 202).toNat = 204 + 4 * (f 202).toNat by omega), if_neg (show ¬ 206 + 4 * (f 202).toNat = 205 + 4 * (f 202).toNat by omega), if_pos rfl]
      exact ⟨hy, hd, hn, hb⟩
    · have e : ∀ j, j < 4 → kpA f y d n b (203 + 4 * k + j) = f (203 + 4 * k + j) := fun j hj => by
        unfold kpA
        rw [if_neg hc, if_neg (by omega), if_neg (by omega), if_neg (by omega), if_neg (by omega), if_neg (by omega)]
      have h9 := h k (by omega)
      rw [show 204 + 4 * k = 203 + 4 * k + 1 by omega, show 205 + 4 * k = 203 + 4 * k + 2 by omega, show 206 + 4 * k = 203 + 4 * k + 3 by omega] at h9
      rw [show kpA f y d n b (203 + 4 * k) = f (203 + 4 * k) from e 0 (by omega), show 204 + 4 * k = 203 + 4 * k + 1 by omega, show 205 + 4 * k = 203 + 4 * k + 2 by omega, show 206 + 4 * k = 203 + 4 * k + 3 by omega, e 1 (by omega), e 2 (by omega), e 3 (by omega)]
      exact h9
def W_ro (a j : Nat) : Prop := a = 36 ∨ (a = 32 ∧ (j = 9 ∨ j = 10))
theorem set_eq {σ : am_H} {a j : Nat} {x : Int} : (am_setN σ a j x).2.1 a j = x := if_pos ⟨rfl, rfl⟩
theorem set_ne {σ : am_H} {a j k : Nat} {x : Int} (h : ¬ k = j) : (am_setN σ a j x).2.1 a k = σ.2.1 a k := if_neg (fun z => h z.2)
theorem mod_ne {a b n : Nat} (hn : 0 < n) (h : a < b) (h2 : b < a + n) : ¬ a % n = b % n := by
  intro he
  have h3 : (b - a) % n = 0 := Nat.sub_mod_eq_zero_of_mod_eq he.symm
  rw [Nat.mod_eq_of_lt (by omega)] at h3
  omega
set_option maxRecDepth 100000 in
theorem c_addRow (σ : am_H) (hL : lay σ) (n : Int) (b : Int) (f : Nat → Int) (y : Int) (d : Int) (hy0 : σ.2.1 32 0 = y) (hd0 : σ.2.1 32 1 = d) (hR : RWr 32 σ f) (h60 : 0 ≤ f 202 ∧ f 202 ≤ 60) (hy : 0 ≤ y ∧ y ≤ 999) (hd : 0 ≤ d ∧ d ≤ 90) (hn : 0 ≤ n ∧ n ≤ 8) (hb : b = 0 ∨ b = 1) : am_met M_X1_addRow [am_r 32, am_i n, am_i b] σ (fun r9 σ' => r9 = none ∧ RWr 32 σ' (kpA f y d n b) ∧ frw W_ro σ σ') := by
  refine am_qq (fun Q hQ => ?_)
  refine am_enter (show plainFor yX1_addRow = true by decide +kernel) rfl (Nat.le_of_ble_eq_true rfl) (fun _ _ _ => trivial) ?_
  have h9 := hR.1
  have hx : Int.tmod (σ.2.1 32 9 + f 202) 60 = ((((σ.2.1 32 9).toNat + (f 202).toNat) % 60 : Nat) : Int) := by
    rw [Int.tmod_eq_emod_of_nonneg (by omega)]
    omega
  have hx1 : Int.tmod (σ.2.1 32 9 + 1) 60 = ((((σ.2.1 32 9).toNat + 1) % 60 : Nat) : Int) := by
    rw [Int.tmod_eq_emod_of_nonneg (by omega)]
    omega
  refine am_aload_n (q := 1) rfl (am_tab tk_X1_addRow 0 rfl) rfl ?_
  refine am_getI (q := 4) (a := 32) (k := 1) (n := 11) (j := 0) (x := y) (Ls_32 hL) (by decide) rfl hy0 (by decide) (Or.inl kf_X1_9) (am_tab tk_X1_addRow 1 rfl) rfl ?_
  refine am_sipush (q := 7) (n := 128) (by decide) rfl (am_tab tk_X1_addRow 2 rfl) rfl ?_
  refine am_imul (q := 8) (by omega) (am_tab tk_X1_addRow 3 rfl) rfl ?_
  refine am_aload_n (q := 9) rfl (am_tab tk_X1_addRow 4 rfl) rfl ?_
  refine am_getI (q := 12) (a := 32) (k := 1) (n := 11) (j := 1) (x := d) (Ls_32 hL) (by decide) rfl hd0 (by decide) (Or.inl kf_X1_28) (am_tab tk_X1_addRow 5 rfl) rfl ?_
  refine am_iadd (q := 13) (by omega) (am_tab tk_X1_addRow 6 rfl) rfl ?_
  refine am_bipush (q := 15) (n := 16) (by decide) rfl (am_tab tk_X1_addRow 7 rfl) rfl ?_
  refine am_imul (q := 16) (by omega) (am_tab tk_X1_addRow 8 rfl) rfl ?_
  refine am_iload_n (q := 17) rfl (am_tab tk_X1_addRow 9 rfl) rfl ?_
  refine am_iadd (q := 18) (by omega) (am_tab tk_X1_addRow 10 rfl) rfl ?_
  refine am_iconst (q := 19) (n := 2) (by decide) (am_tab tk_X1_addRow 11 rfl) rfl ?_
  refine am_imul (q := 20) (by omega) (am_tab tk_X1_addRow 12 rfl) rfl ?_
  refine am_iload_n (q := 21) rfl (am_tab tk_X1_addRow 13 rfl) rfl ?_
  refine am_if_eq (q := 24) (t := 28) (am_tab tk_X1_addRow 14 rfl) (by decide) rfl (fun h21 => ?_) (fun h21 => ?_)
  · refine am_iconst (q := 29) (n := 0) (by decide) (am_tab tk_X1_addRow 17 rfl) rfl ?_
    refine am_iadd (q := 30) (by omega) (am_tab tk_X1_addRow 18 rfl) rfl ?_
    refine am_istore_n (q := 31) (by decide) (ls2 := [(3, am_i (((((((y * 128) + d) * 16) + n) * 2) + 0))), (0, am_r 32), (1, am_i n), (2, am_i b)]) rfl (am_tab tk_X1_addRow 19 rfl) rfl ?_
    refine am_aload_n (q := 32) rfl (am_tab tk_X1_addRow 20 rfl) rfl ?_
    refine am_getR (q := 35) (a := 32) (k := 1) (n := 11) (j := 8) (r := some (36)) (Ls_32 hL) (by decide) rfl (Lr_32_8 hL) (by decide) (Or.inl kf_X1_25) (am_tab tk_X1_addRow 21 rfl) rfl ?_
    refine am_aload_n (q := 36) rfl (am_tab tk_X1_addRow 22 rfl) rfl ?_
    refine am_getI (q := 39) (a := 32) (k := 1) (n := 11) (j := 9) (x := (σ.2.1 32 9)) (Ls_32 hL) (by decide) rfl rfl (by decide) (Or.inl kf_X1_55) (am_tab tk_X1_addRow 23 rfl) rfl ?_
    refine am_aload_n (q := 40) rfl (am_tab tk_X1_addRow 24 rfl) rfl ?_
    refine am_getI (q := 43) (a := 32) (k := 1) (n := 11) (j := 10) (x := (f 202)) (Ls_32 hL) (by decide) rfl hR.2.1 (by decide) (Or.inl kf_X1_58) (am_tab tk_X1_addRow 25 rfl) rfl ?_
    refine am_iadd (q := 44) (by omega) (am_tab tk_X1_addRow 26 rfl) rfl ?_
    refine am_bipush (q := 46) (n := 60) (by decide) rfl (am_tab tk_X1_addRow 27 rfl) rfl ?_
    refine am_irem (q := 47) (by omega) (by omega) (am_tab tk_X1_addRow 28 rfl) rfl ?_
    refine am_iload_n (q := 48) rfl (am_tab tk_X1_addRow 29 rfl) rfl ?_
    refine am_iast (q := 49) (a := 36) (n := 60) (Ls_36 hL) (by rw [hx]; omega) (by rw [hx]; omega) (am_tab tk_X1_addRow 30 rfl) rfl ?_
    refine am_aload_n (q := 50) rfl (am_tab tk_X1_addRow 31 rfl) rfl ?_
    refine am_getI (q := 53) (a := 32) (k := 1) (n := 11) (j := 10) (x := (f 202)) (Ls_32 hL) (by decide) rfl hR.2.1 (by decide) (Or.inl kf_X1_58) (am_tab tk_X1_addRow 32 rfl) rfl ?_
    refine am_bipush (q := 55) (n := 60) (by decide) rfl (am_tab tk_X1_addRow 33 rfl) rfl ?_
    refine am_icmp_ge (q := 58) (t := 71) (am_tab tk_X1_addRow 34 rfl) (by decide) rfl (fun h55 => ?_) (fun h55 => ?_)
    · refine am_aload_n (q := 72) rfl (am_tab tk_X1_addRow 42 rfl) rfl ?_
      refine am_aload_n (q := 73) rfl (am_tab tk_X1_addRow 43 rfl) rfl ?_
      refine am_getI (q := 76) (a := 32) (k := 1) (n := 11) (j := 9) (x := (σ.2.1 32 9)) (Ls_32 hL) (by decide) rfl rfl (by decide) (Or.inl kf_X1_55) (am_tab tk_X1_addRow 44 rfl) rfl ?_
      refine am_iconst (q := 77) (n := 1) (by decide) (am_tab tk_X1_addRow 45 rfl) rfl ?_
      refine am_iadd (q := 78) (by omega) (am_tab tk_X1_addRow 46 rfl) rfl ?_
      refine am_bipush (q := 80) (n := 60) (by decide) rfl (am_tab tk_X1_addRow 47 rfl) rfl ?_
      refine am_irem (q := 81) (by omega) (by omega) (am_tab tk_X1_addRow 48 rfl) rfl ?_
      refine am_putI (q := 84) (k := 1) (n := 11) (j := 9) (Ls_32 hL) (by decide) rfl (by decide) (Or.inl ⟨kf_X1_55, rfl⟩) (am_tab tk_X1_addRow 49 rfl) rfl ?_
      refine am_vret rfl (Nat.le_of_ble_eq_true rfl) (Nat.le_of_ble_eq_true rfl) (am_tab tk_X1_addRow 50 rfl) ?_
      refine hQ _ _ ?_
      have hrow : ((((((y * 128) + d) * 16) + n) * 2) + 0) = ((y * 128 + d) * 16 + n) * 2 + b := by omega
      have hidx : Int.toNat (Int.tmod (σ.2.1 32 9 + f 202) 60) = ((σ.2.1 32 9).toNat + (f 202).toNat) % 60 := by rw [hx]; omega
      have hfr : frw W_ro σ (am_setN (am_setN σ 36 (Int.toNat (Int.tmod ((σ.2.1 32 9) + (f 202)) 60)) ((((((y * 128) + d) * 16) + n) * 2) + 0)) 32 9 (Int.tmod ((σ.2.1 32 9) + 1) 60)) := ((frw.refl W_ro σ).setN (by unfold W_ro; omega)).setN (by unfold W_ro; omega)
      have hc : f 202 = 60 := by omega
      have hkn := kpA_59 (y := y) (d := d) (n := n) (b := b) hc
      refine ⟨rfl, ⟨by show 0 ≤ Int.tmod (σ.2.1 32 9 + 1) 60 ∧ Int.tmod (σ.2.1 32 9 + 1) 60 < 60; rw [hx1]; omega, by rw [hkn.2]; exact hR.2.1.trans hc, fun k hk => ?_⟩, hfr⟩
      rw [hkn.2] at hk
      have hi2 : ((Int.tmod (σ.2.1 32 9 + 1) 60).toNat + k) % 60 = ((σ.2.1 32 9).toNat + 1 + k) % 60 := by rw [hx1]; omega
      show (am_setN σ 36 (Int.toNat (Int.tmod (σ.2.1 32 9 + f 202) 60)) ((((((y * 128) + d) * 16) + n) * 2) + 0)).2.1 36 (((Int.tmod (σ.2.1 32 9 + 1) 60).toNat + k) % 60) = _
      rw [hi2]
      by_cases ek : k = 59
      · have e9 : ((σ.2.1 32 9).toNat + 1 + k) % 60 = Int.toNat (Int.tmod (σ.2.1 32 9 + f 202) 60) := by rw [hidx, hc, ek]; rfl
        rw [e9, set_eq, ek, hkn.1]; exact hrow
      · rw [set_ne (fun z => mod_ne (a := (σ.2.1 32 9).toNat + 1 + k) (b := (σ.2.1 32 9).toNat + (f 202).toNat) (by decide) (by omega) (by omega) (z.trans hidx)), kpA_fl hc (by omega), show (σ.2.1 32 9).toNat + 1 + k = (σ.2.1 32 9).toNat + (k + 1) by omega]
        exact hR.2.2 (k + 1) (by omega)
    · refine am_aload_n (q := 59) rfl (am_tab tk_X1_addRow 35 rfl) rfl ?_
      refine am_dup (q := 60) rfl (am_tab tk_X1_addRow 36 rfl) rfl ?_
      refine am_getI (q := 63) (a := 32) (k := 1) (n := 11) (j := 10) (x := (f 202)) (Ls_32 hL) (by decide) rfl hR.2.1 (by decide) (Or.inl kf_X1_58) (am_tab tk_X1_addRow 37 rfl) rfl ?_
      refine am_iconst (q := 64) (n := 1) (by decide) (am_tab tk_X1_addRow 38 rfl) rfl ?_
      refine am_iadd (q := 65) (by omega) (am_tab tk_X1_addRow 39 rfl) rfl ?_
      refine am_putI (q := 68) (k := 1) (n := 11) (j := 10) (Ls_32 hL) (by decide) rfl (by decide) (Or.inl ⟨kf_X1_58, rfl⟩) (am_tab tk_X1_addRow 40 rfl) rfl ?_
      refine am_goto (t := 84) (am_tab tk_X1_addRow 41 rfl) (by decide) ?_
      refine am_vret rfl (Nat.le_of_ble_eq_true rfl) (Nat.le_of_ble_eq_true rfl) (am_tab tk_X1_addRow 50 rfl) ?_
      refine hQ _ _ ?_
      have hrow : ((((((y * 128) + d) * 16) + n) * 2) + 0) = ((y * 128 + d) * 16 + n) * 2 + b := by omega
      have hidx : Int.toNat (Int.tmod (σ.2.1 32 9 + f 202) 60) = ((σ.2.1 32 9).toNat + (f 202).toNat) % 60 := by rw [hx]; omega
      have hfr : frw W_ro σ (am_setN (am_setN σ 36 (Int.toNat (Int.tmod ((σ.2.1 32 9) + (f 202)) 60)) ((((((y * 128) + d) * 16) + n) * 2) + 0)) 32 10 ((f 202) + 1)) := ((frw.refl W_ro σ).setN (by unfold W_ro; omega)).setN (by unfold W_ro; omega)
      have hc : ¬ f 202 = 60 := by omega
      have hkn := kpA_new (y := y) (d := d) (n := n) (b := b) hc h60.1
      refine ⟨rfl, ⟨h9, hkn.2.symm, fun k hk => ?_⟩, hfr⟩
      rw [hkn.2] at hk
      show (am_setN σ 36 (Int.toNat (Int.tmod (σ.2.1 32 9 + f 202) 60)) ((((((y * 128) + d) * 16) + n) * 2) + 0)).2.1 36 (((σ.2.1 32 9).toNat + k) % 60) = _
      by_cases ek : k = (f 202).toNat
      · rw [ek, ← hidx, set_eq, hkn.1]; exact hrow
      · rw [set_ne (fun z => mod_ne (a := (σ.2.1 32 9).toNat + k) (b := (σ.2.1 32 9).toNat + (f 202).toNat) (by decide) (by omega) (by omega) (z.trans hidx)), kpA_k hc h60.1 (by omega)]
        exact hR.2.2 k (by omega)
  · refine am_iconst (q := 25) (n := 1) (by decide) (am_tab tk_X1_addRow 15 rfl) rfl ?_
    refine am_goto (t := 29) (am_tab tk_X1_addRow 16 rfl) (by decide) ?_
    refine am_iadd (q := 30) (by omega) (am_tab tk_X1_addRow 18 rfl) rfl ?_
    refine am_istore_n (q := 31) (by decide) (ls2 := [(3, am_i (((((((y * 128) + d) * 16) + n) * 2) + 1))), (0, am_r 32), (1, am_i n), (2, am_i b)]) rfl (am_tab tk_X1_addRow 19 rfl) rfl ?_
    refine am_aload_n (q := 32) rfl (am_tab tk_X1_addRow 20 rfl) rfl ?_
    refine am_getR (q := 35) (a := 32) (k := 1) (n := 11) (j := 8) (r := some (36)) (Ls_32 hL) (by decide) rfl (Lr_32_8 hL) (by decide) (Or.inl kf_X1_25) (am_tab tk_X1_addRow 21 rfl) rfl ?_
    refine am_aload_n (q := 36) rfl (am_tab tk_X1_addRow 22 rfl) rfl ?_
    refine am_getI (q := 39) (a := 32) (k := 1) (n := 11) (j := 9) (x := (σ.2.1 32 9)) (Ls_32 hL) (by decide) rfl rfl (by decide) (Or.inl kf_X1_55) (am_tab tk_X1_addRow 23 rfl) rfl ?_
    refine am_aload_n (q := 40) rfl (am_tab tk_X1_addRow 24 rfl) rfl ?_
    refine am_getI (q := 43) (a := 32) (k := 1) (n := 11) (j := 10) (x := (f 202)) (Ls_32 hL) (by decide) rfl hR.2.1 (by decide) (Or.inl kf_X1_58) (am_tab tk_X1_addRow 25 rfl) rfl ?_
    refine am_iadd (q := 44) (by omega) (am_tab tk_X1_addRow 26 rfl) rfl ?_
    refine am_bipush (q := 46) (n := 60) (by decide) rfl (am_tab tk_X1_addRow 27 rfl) rfl ?_
    refine am_irem (q := 47) (by omega) (by omega) (am_tab tk_X1_addRow 28 rfl) rfl ?_
    refine am_iload_n (q := 48) rfl (am_tab tk_X1_addRow 29 rfl) rfl ?_
    refine am_iast (q := 49) (a := 36) (n := 60) (Ls_36 hL) (by rw [hx]; omega) (by rw [hx]; omega) (am_tab tk_X1_addRow 30 rfl) rfl ?_
    refine am_aload_n (q := 50) rfl (am_tab tk_X1_addRow 31 rfl) rfl ?_
    refine am_getI (q := 53) (a := 32) (k := 1) (n := 11) (j := 10) (x := (f 202)) (Ls_32 hL) (by decide) rfl hR.2.1 (by decide) (Or.inl kf_X1_58) (am_tab tk_X1_addRow 32 rfl) rfl ?_
    refine am_bipush (q := 55) (n := 60) (by decide) rfl (am_tab tk_X1_addRow 33 rfl) rfl ?_
    refine am_icmp_ge (q := 58) (t := 71) (am_tab tk_X1_addRow 34 rfl) (by decide) rfl (fun h55 => ?_) (fun h55 => ?_)
    · refine am_aload_n (q := 72) rfl (am_tab tk_X1_addRow 42 rfl) rfl ?_
      refine am_aload_n (q := 73) rfl (am_tab tk_X1_addRow 43 rfl) rfl ?_
      refine am_getI (q := 76) (a := 32) (k := 1) (n := 11) (j := 9) (x := (σ.2.1 32 9)) (Ls_32 hL) (by decide) rfl rfl (by decide) (Or.inl kf_X1_55) (am_tab tk_X1_addRow 44 rfl) rfl ?_
      refine am_iconst (q := 77) (n := 1) (by decide) (am_tab tk_X1_addRow 45 rfl) rfl ?_
      refine am_iadd (q := 78) (by omega) (am_tab tk_X1_addRow 46 rfl) rfl ?_
      refine am_bipush (q := 80) (n := 60) (by decide) rfl (am_tab tk_X1_addRow 47 rfl) rfl ?_
      refine am_irem (q := 81) (by omega) (by omega) (am_tab tk_X1_addRow 48 rfl) rfl ?_
      refine am_putI (q := 84) (k := 1) (n := 11) (j := 9) (Ls_32 hL) (by decide) rfl (by decide) (Or.inl ⟨kf_X1_55, rfl⟩) (am_tab tk_X1_addRow 49 rfl) rfl ?_
      refine am_vret rfl (Nat.le_of_ble_eq_true rfl) (Nat.le_of_ble_eq_true rfl) (am_tab tk_X1_addRow 50 rfl) ?_
      refine hQ _ _ ?_
      have hrow : ((((((y * 128) + d) * 16) + n) * 2) + 1) = ((y * 128 + d) * 16 + n) * 2 + b := by omega
      have hidx : Int.toNat (Int.tmod (σ.2.1 32 9 + f 202) 60) = ((σ.2.1 32 9).toNat + (f 202).toNat) % 60 := by rw [hx]; omega
      have hfr : frw W_ro σ (am_setN (am_setN σ 36 (Int.toNat (Int.tmod ((σ.2.1 32 9) + (f 202)) 60)) ((((((y * 128) + d) * 16) + n) * 2) + 1)) 32 9 (Int.tmod ((σ.2.1 32 9) + 1) 60)) := ((frw.refl W_ro σ).setN (by unfold W_ro; omega)).setN (by unfold W_ro; omega)
      have hc : f 202 = 60 := by omega
      have hkn := kpA_59 (y := y) (d := d) (n := n) (b := b) hc
      refine ⟨rfl, ⟨by show 0 ≤ Int.tmod (σ.2.1 32 9 + 1) 60 ∧ Int.tmod (σ.2.1 32 9 + 1) 60 < 60; rw [hx1]; omega, by rw [hkn.2]; exact hR.2.1.trans hc, fun k hk => ?_⟩, hfr⟩
      rw [hkn.2] at hk
      have hi2 : ((Int.tmod (σ.2.1 32 9 + 1) 60).toNat + k) % 60 = ((σ.2.1 32 9).toNat + 1 + k) % 60 := by rw [hx1]; omega
      show (am_setN σ 36 (Int.toNat (Int.tmod (σ.2.1 32 9 + f 202) 60)) ((((((y * 128) + d) * 16) + n) * 2) + 1)).2.1 36 (((Int.tmod (σ.2.1 32 9 + 1) 60).toNat + k) % 60) = _
      rw [hi2]
      by_cases ek : k = 59
      · have e9 : ((σ.2.1 32 9).toNat + 1 + k) % 60 = Int.toNat (Int.tmod (σ.2.1 32 9 + f 202) 60) := by rw [hidx, hc, ek]; rfl
        rw [e9, set_eq, ek, hkn.1]; exact hrow
      · rw [set_ne (fun z => mod_ne (a := (σ.2.1 32 9).toNat + 1 + k) (b := (σ.2.1 32 9).toNat + (f 202).toNat) (by decide) (by omega) (by omega) (z.trans hidx)), kpA_fl hc (by omega), show (σ.2.1 32 9).toNat + 1 + k = (σ.2.1 32 9).toNat + (k + 1) by omega]
        exact hR.2.2 (k + 1) (by omega)
    · refine am_aload_n (q := 59) rfl (am_tab tk_X1_addRow 35 rfl) rfl ?_
      refine am_dup (q := 60) rfl (am_tab tk_X1_addRow 36 rfl) rfl ?_
      refine am_getI (q := 63) (a := 32) (k := 1) (n := 11) (j := 10) (x := (f 202)) (Ls_32 hL) (by decide) rfl hR.2.1 (by decide) (Or.inl kf_X1_58) (am_tab tk_X1_addRow 37 rfl) rfl ?_
      refine am_iconst (q := 64) (n := 1) (by decide) (am_tab tk_X1_addRow 38 rfl) rfl ?_
      refine am_iadd (q := 65) (by omega) (am_tab tk_X1_addRow 39 rfl) rfl ?_
      refine am_putI (q := 68) (k := 1) (n := 11) (j := 10) (Ls_32 hL) (by decide) rfl (by decide) (Or.inl ⟨kf_X1_58, rfl⟩) (am_tab tk_X1_addRow 40 rfl) rfl ?_
      refine am_goto (t := 84) (am_tab tk_X1_addRow 41 rfl) (by decide) ?_
      refine am_vret rfl (Nat.le_of_ble_eq_true rfl) (Nat.le_of_ble_eq_true rfl) (am_tab tk_X1_addRow 50 rfl) ?_
      refine hQ _ _ ?_
      have hrow : ((((((y * 128) + d) * 16) + n) * 2) + 1) = ((y * 128 + d) * 16 + n) * 2 + b := by omega
      have hidx : Int.toNat (Int.tmod (σ.2.1 32 9 + f 202) 60) = ((σ.2.1 32 9).toNat + (f 202).toNat) % 60 := by rw [hx]; omega
      have hfr : frw W_ro σ (am_setN (am_setN σ 36 (Int.toNat (Int.tmod ((σ.2.1 32 9) + (f 202)) 60)) ((((((y * 128) + d) * 16) + n) * 2) + 1)) 32 10 ((f 202) + 1)) := ((frw.refl W_ro σ).setN (by unfold W_ro; omega)).setN (by unfold W_ro; omega)
      have hc : ¬ f 202 = 60 := by omega
      have hkn := kpA_new (y := y) (d := d) (n := n) (b := b) hc h60.1
      refine ⟨rfl, ⟨h9, hkn.2.symm, fun k hk => ?_⟩, hfr⟩
      rw [hkn.2] at hk
      show (am_setN σ 36 (Int.toNat (Int.tmod (σ.2.1 32 9 + f 202) 60)) ((((((y * 128) + d) * 16) + n) * 2) + 1)).2.1 36 (((σ.2.1 32 9).toNat + k) % 60) = _
      by_cases ek : k = (f 202).toNat
      · rw [ek, ← hidx, set_eq, hkn.1]; exact hrow
      · rw [set_ne (fun z => mod_ne (a := (σ.2.1 32 9).toNat + k) (b := (σ.2.1 32 9).toNat + (f 202).toNat) (by decide) (by omega) (by omega) (z.trans hidx)), kpA_k hc h60.1 (by omega)]
        exact hR.2.2 k (by omega)
