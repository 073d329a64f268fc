/-- is it a name -/
def okN (b : Nat → Int) (E i : Nat) : Prop := zK b E i = 3 ∨ 155 ≤ zK b E i
def mfP (b : Nat → Int) (E i : Nat) : Int := if zK b E i = 4 then (zP b E i : Int) + 6 else (zP b E i : Int)
theorem WL_len : ∀ w, w < 33 → 27 ≤ w → (WL.getD w []).length ≤ 6 := by decide +kernel
theorem zK_let {b : Nat → Int} {E i : Nat} (h1 : zP b E i < E) (h2 : isL (b (zP b E i)) = true) (h3 : ¬ zT b E i = true) : zK b E i = if wkI b (zP b E i) (rn isL b E (zP b E i)) = -1 then (if 6 < rn isL b E (zP b E i) - zP b E i then 4 else 3) else 128 + wkI b (zP b E i) (rn isL b E (zP b E i)) := by
  unfold zK zk
  rw [if_neg (by omega), if_pos h2, if_neg h3]
theorem zK_nlet {b : Nat → Int} {E i : Nat} (h : ¬ (zP b E i < E ∧ isL (b (zP b E i)) = true ∧ ¬ zT b E i = true)) : ¬ zK b E i = 3 ∧ ¬ zK b E i = 4 ∧ zK b E i < 128 := by
  unfold zK zk
  by_cases h1 : zP b E i < E
  · rw [if_neg (by omega)]
    by_cases h2 : isL (b (zP b E i)) = true
    · rw [if_pos h2]
      by_cases h3 : zT b E i = true
      · rw [if_pos h3]; omega
      · exact absurd ⟨h1, h2, h3⟩ h
    · rw [if_neg h2]
      split
      · split
        · omega
        · split <;> omega
      · split
        · rename_i h9
          have := sgn_r h9
          omega
        · omega
  · rw [if_pos h1]; omega
theorem wk_len {b : Nat → Int} {x y : Nat} (h : 27 ≤ wkI b x y) : y ≤ x + 6 := by
  have hr := wkI_rng b x y
  have h1 := (wk_iff (b := b) (x := x) (y := y) (w := (wkI b x y).toNat) (by omega)).mpr (by omega)
  unfold mW at h1
  simp only [Bool.and_eq_true, decide_eq_true_eq] at h1
  have h2 := WL_len (wkI b x y).toNat (by omega) (by omega)
  omega
theorem TS_name {b : Nat → Int} {E i : Nat} {T : am_H} (hy : zP b E i < E ∧ isL (b (zP b E i)) = true ∧ ¬ zT b E i = true) (hX : TX b E T) (h5 : T.2.1 55 5 = 0) (h6 : T.2.1 55 6 = -1) (h2 : T.2.1 55 2 = (rn isL b E (zP b E i) : Int)) (h4 : T.2.1 55 4 = (rn isL b E (zP b E i) : Int)) : TS b E (i + 1) T := by
  have hr := rn_rng isL b (zP_rng b E i)
  have hz : zz b E (i + 1) = (sk b E (rn isL b E (zP b E i)), decide (sk b E (rn isL b E (zP b E i)) = rn isL b E (zP b E i))) := by
    show nxz b E (zP b E i) = _
    unfold nxz
    rw [if_neg (by omega), if_pos hy.2.1]
  have e2 : (T.2.1 55 2).toNat = rn isL b E (zP b E i) := by omega
  refine ⟨hX, h5, h6, by omega, by omega, ?_, ?_⟩
  · rw [e2]
    show _ = (zz b E (i + 1)).1
    rw [hz]
  · show (zz b E (i + 1)).2 = true ↔ _ = (((zz b E (i + 1)).1 : Nat) : Int)
    rw [hz]
    simp only [decide_eq_true_eq]
    omega
theorem n27_rng {b : Nat → Int} {x : Nat} : ∀ k, (∀ j, j < k → 97 ≤ b (x + j) ∧ b (x + j) ≤ 122) → 0 ≤ n27 b x k ∧ n27 b x k ≤ 27 ^ k - 1
  | 0, _ => by unfold n27; simp
  | k + 1, h => by
    have ih := n27_rng k (fun j hj => h j (by omega))
    have h1 := h k (by omega)
    have e : (27 : Int) ^ (k + 1) = 27 ^ k * 27 := Int.pow_succ _ _
    unfold n27
    omega
theorem n27_max {b : Nat → Int} {x k : Nat} (h : ∀ j, j < k → 97 ≤ b (x + j) ∧ b (x + j) ≤ 122) (hk : k ≤ 6) : 0 ≤ n27 b x k ∧ n27 b x k < 387420489 := by
  have h1 := n27_rng k h
  rcases (show k = 0 ∨ k = 1 ∨ k = 2 ∨ k = 3 ∨ k = 4 ∨ k = 5 ∨ k = 6 by omega) with rfl | rfl | rfl | rfl | rfl | rfl | rfl <;> simp at h1 <;> omega
theorem c_X10_name (b : Nat → Int) (E i : Nat) (S : am_H) (hZ : ZS b E i S)   : am_met M_X10_name [am_r 55] S (fun r σ' => ((okN b E i ∧ r = some (am_l (zN b E i)) ∧ ZS b E (i + 1) σ' ∧ frw W_sc S σ' ∧ σ'.2.1 55 38 = (zP b E i : Int)) ∨ (¬ okN b E i ∧ r = some (am_l 0) ∧ ZB b E 1 (mfP b E i) σ' ∧ frw W_sc S σ'))) := by
  refine am_qq (fun Q hQ => ?_)
  refine am_enter (show plainFor yX10_name = true by decide +kernel) rfl (Nat.le_of_ble_eq_true rfl) (fun _ _ _ => trivial) ?_
  have hL := hZ.1
  have hS := hZ.2.2
  have hX := hS.1
  have hS5 := hS.2.1
  have hX2 := hX.2.1
  have hX3 := hX.2.2.1
  have hAt := hS.2.2.2.1
  have hEd := hS.2.2.2.2.1
  have hzp := zP_rng b E i
  have hzs := zP_s hS
  have hby := hX.2.2.2
  refine am_aload_n (q := 1) rfl (am_tab tk_X10_name 0 rfl) rfl ?_
  refine am_getI (q := 4) (a := 55) (k := 10) (n := 108) (j := 5) (x := 0) (Ls_55 hL) (by decide) rfl hS5 (by decide) (Or.inl kf_X10_248) (am_tab tk_X10_name 1 rfl) rfl ?_
  refine am_if_eq (q := 7) (t := 9) (am_tab tk_X10_name 2 rfl) (by decide) rfl (fun h4 => ?_) (fun h4 => ?_)
  · refine am_aload_n (q := 10) rfl (am_tab tk_X10_name 5 rfl) rfl ?_
    refine am_callV0 (q := 13) (me2 := M_X10_look) (b := 55) (kb := 10) (nb := 108) (As := []) (rest := []) (out := [am_i (byt b E i)]) (c_X10_look b E i S hL hS) ⟨rfl, rfl⟩ (Ls_55 hL) (by decide) ⟨Or.inl km_X10_260, kc_X10_look, kn_X10, kd_X10_look, ⟨(Nat.le_of_ble_eq_true rfl), (Nat.le_of_ble_eq_true rfl)⟩, ⟨(Nat.le_of_ble_eq_true rfl), (Nat.le_of_ble_eq_true rfl)⟩, (Nat.le_of_ble_eq_true rfl)⟩ ki_X10_look ks_X10_look rfl rfl (am_tab tk_X10_name 6 rfl) rfl ?_
    refine am_callS0 (q := 16) (me2 := M_X10_isLetter) (As := [am_i (byt b E i)]) (rest := []) (out := [am_i (b2i (isL (byt b E i)))]) (c_X10_isLetter (am_setN S 55 2 (zP b E i : Int)) hL (byt b E i)) ⟨rfl, rfl⟩ ⟨Or.inl km_X10_264, kc_X10_isLetter, kn_X10, kd_X10_isLetter, ⟨(Nat.le_of_ble_eq_true rfl), (Nat.le_of_ble_eq_true rfl)⟩, ⟨(Nat.le_of_ble_eq_true rfl), (Nat.le_of_ble_eq_true rfl)⟩, (Nat.le_of_ble_eq_true rfl)⟩ ki_X10_isLetter rfl rfl (am_tab tk_X10_name 7 rfl) rfl ?_
    refine am_if_eq (q := 19) (t := 37) (am_tab tk_X10_name 8 rfl) (by decide) rfl (fun h16 => ?_) (fun h16 => ?_)
    · refine am_aload_n (q := 38) rfl (am_tab tk_X10_name 17 rfl) rfl ?_
      refine am_iconst (q := 39) (n := 1) (by decide) (am_tab tk_X10_name 18 rfl) rfl ?_
      refine am_aload_n (q := 40) rfl (am_tab tk_X10_name 19 rfl) rfl ?_
      refine am_getI (q := 43) (a := 55) (k := 10) (n := 108) (j := 2) (x := (zP b E i : Int)) (Ls_55 hL) (by decide) rfl rfl (by decide) (Or.inl kf_X10_254) (am_tab tk_X10_name 20 rfl) rfl ?_
      refine am_callV0 (q := 46) (me2 := M_X10_fail) (b := 55) (kb := 10) (nb := 108) (As := [am_i 1, am_i ((zP b E i : Int))]) (rest := []) (out := []) (c_fail0 (am_setN S 55 2 (zP b E i : Int)) hL 1 (zP b E i : Int) hS5) ⟨rfl, rfl⟩ (Ls_55 hL) (by decide) ⟨Or.inl km_X10_278, kc_X10_fail, kn_X10, kd_X10_fail, ⟨(Nat.le_of_ble_eq_true rfl), (Nat.le_of_ble_eq_true rfl)⟩, ⟨(Nat.le_of_ble_eq_true rfl), (Nat.le_of_ble_eq_true rfl)⟩, (Nat.le_of_ble_eq_true rfl)⟩ ki_X10_fail ks_X10_fail rfl rfl (am_tab tk_X10_name 21 rfl) rfl ?_
      refine am_lconst0 (q := 47) (am_tab tk_X10_name 22 rfl) rfl ?_
      refine am_lret rfl (Nat.le_of_ble_eq_true rfl) (Nat.le_of_ble_eq_true rfl) (am_tab tk_X10_name 23 rfl) ?_
      refine hQ _ _ ?_
      have hFF : frw W_sc S (am_setN (am_setN (am_setN S 55 2 (zP b E i : Int)) 55 5 1) 55 6 (zP b E i : Int)) := by repeat (first | exact frw.refl _ S | refine frw.setN ?_ (by unfold W_sc; omega))
      have hq : ¬ (zP b E i < E ∧ isL (b (zP b E i)) = true ∧ ¬ zT b E i = true) := by
        intro hx
        have h8 := b2f h16; unfold byt at h8; rw [if_pos hx.1, hx.2.1] at h8; exact absurd h8 (by simp)
      have hz3 := zK_nlet hq
      have hno : ¬ okN b E i := by unfold okN; omega
      have hn4 : ¬ zK b E i = 4 := by omega
      exact Or.inr ⟨hno, rfl, ZB_of hL hZ.2.1 hFF hX rfl (by decide) (by unfold mfP; rw [if_neg hn4]; rfl) (by show 0 ≤ (zP b E i : Int) ∧ (zP b E i : Int) ≤ _; omega), hFF⟩
    · refine am_aload_n (q := 20) rfl (am_tab tk_X10_name 9 rfl) rfl ?_
      refine am_getI (q := 23) (a := 55) (k := 10) (n := 108) (j := 2) (x := (zP b E i : Int)) (Ls_55 hL) (by decide) rfl rfl (by decide) (Or.inl kf_X10_254) (am_tab tk_X10_name 10 rfl) rfl ?_
      refine am_aload_n (q := 24) rfl (am_tab tk_X10_name 11 rfl) rfl ?_
      refine am_getI (q := 27) (a := 55) (k := 10) (n := 108) (j := 4) (x := (S.2.1 55 4)) (Ls_55 hL) (by decide) rfl rfl (by decide) (Or.inl kf_X10_268) (am_tab tk_X10_name 12 rfl) rfl ?_
      refine am_icmp_eq (q := 30) (t := 37) (am_tab tk_X10_name 13 rfl) (by decide) rfl (fun h27 => ?_) (fun h27 => ?_)
      · refine am_aload_n (q := 38) rfl (am_tab tk_X10_name 17 rfl) rfl ?_
        refine am_iconst (q := 39) (n := 1) (by decide) (am_tab tk_X10_name 18 rfl) rfl ?_
        refine am_aload_n (q := 40) rfl (am_tab tk_X10_name 19 rfl) rfl ?_
        refine am_getI (q := 43) (a := 55) (k := 10) (n := 108) (j := 2) (x := (zP b E i : Int)) (Ls_55 hL) (by decide) rfl rfl (by decide) (Or.inl kf_X10_254) (am_tab tk_X10_name 20 rfl) rfl ?_
        refine am_callV0 (q := 46) (me2 := M_X10_fail) (b := 55) (kb := 10) (nb := 108) (As := [am_i 1, am_i ((zP b E i : Int))]) (rest := []) (out := []) (c_fail0 (am_setN S 55 2 (zP b E i : Int)) hL 1 (zP b E i : Int) hS5) ⟨rfl, rfl⟩ (Ls_55 hL) (by decide) ⟨Or.inl km_X10_278, kc_X10_fail, kn_X10, kd_X10_fail, ⟨(Nat.le_of_ble_eq_true rfl), (Nat.le_of_ble_eq_true rfl)⟩, ⟨(Nat.le_of_ble_eq_true rfl), (Nat.le_of_ble_eq_true rfl)⟩, (Nat.le_of_ble_eq_true rfl)⟩ ki_X10_fail ks_X10_fail rfl rfl (am_tab tk_X10_name 21 rfl) rfl ?_
        refine am_lconst0 (q := 47) (am_tab tk_X10_name 22 rfl) rfl ?_
        refine am_lret rfl (Nat.le_of_ble_eq_true rfl) (Nat.le_of_ble_eq_true rfl) (am_tab tk_X10_name 23 rfl) ?_
        refine hQ _ _ ?_
        have hFF : frw W_sc S (am_setN (am_setN (am_setN S 55 2 (zP b E i : Int)) 55 5 1) 55 6 (zP b E i : Int)) := by repeat (first | exact frw.refl _ S | refine frw.setN ?_ (by unfold W_sc; omega))
        have hq : ¬ (zP b E i < E ∧ isL (b (zP b E i)) = true ∧ ¬ zT b E i = true) := by
          intro hx
          exact hx.2.2 (hS.2.2.2.2.2.2.mpr h27.symm)
        have hz3 := zK_nlet hq
        have hno : ¬ okN b E i := by unfold okN; omega
        have hn4 : ¬ zK b E i = 4 := by omega
        exact Or.inr ⟨hno, rfl, ZB_of hL hZ.2.1 hFF hX rfl (by decide) (by unfold mfP; rw [if_neg hn4]; rfl) (by show 0 ≤ (zP b E i : Int) ∧ (zP b E i : Int) ≤ _; omega), hFF⟩
      · refine am_aload_n (q := 31) rfl (am_tab tk_X10_name 14 rfl) rfl ?_
        refine am_callVr (q := 34) (me2 := M_X10_isOwnHere) (b := 55) (kb := 10) (nb := 108) (As := []) (rest := []) (c_X10_isOwnHere b E i (am_setN S 55 2 (zP b E i : Int)) hZ.look) ⟨rfl, rfl⟩ (Ls_55 hL) (by decide) ⟨Or.inl km_X10_295, kc_X10_isOwnHere, kn_X10, kd_X10_isOwnHere, ⟨(Nat.le_of_ble_eq_true rfl), (Nat.le_of_ble_eq_true rfl)⟩, ⟨(Nat.le_of_ble_eq_true rfl), (Nat.le_of_ble_eq_true rfl)⟩, (Nat.le_of_ble_eq_true rfl)⟩ ki_X10_isOwnHere ks_X10_isOwnHere rfl (am_tab tk_X10_name 15 rfl) rfl ?_
        rintro r τ ⟨rfl, rfl⟩
        refine am_hp2 (σ1 := (am_setN S 55 2 (zP b E i : Int))) (am_setN_N _ _ _ _ _) ?_
        refine am_st (st2 := [am_i (b2i (ownB b E i))]) rfl ?_
        refine am_if_eq (q := 37) (t := 48) (am_tab tk_X10_name 16 rfl) (by decide) rfl (fun h34 => ?_) (fun h34 => ?_)
        · have hlt : zP b E i < E ∧ isL (b (zP b E i)) = true := by
            have h9 := b2t h16
            unfold byt at h9
            by_cases hq : zP b E i < E
            · rw [if_pos hq] at h9; exact ⟨hq, h9⟩
            · rw [if_neg hq] at h9; exact absurd h9 (by decide)
          have hyes : zP b E i < E ∧ isL (b (zP b E i)) = true ∧ ¬ zT b E i = true := ⟨hlt.1, hlt.2, fun ht => h27 (hS.2.2.2.2.2.2.mp ht).symm⟩
          have hown : ¬ (128 ≤ zK b E i ∧ zK b E i ≤ 154) := by have h9 := b2f h34; unfold ownB at h9; simpa only [decide_eq_false_iff_not] using h9
          refine am_aload_n (q := 49) rfl (am_tab tk_X10_name 24 rfl) rfl ?_
          refine am_aload_n (q := 50) rfl (am_tab tk_X10_name 25 rfl) rfl ?_
          refine am_getI (q := 53) (a := 55) (k := 10) (n := 108) (j := 2) (x := (zP b E i : Int)) (Ls_55 hL) (by decide) rfl rfl (by decide) (Or.inl kf_X10_254) (am_tab tk_X10_name 26 rfl) rfl ?_
          refine am_putI (q := 56) (k := 10) (n := 108) (j := 38) (Ls_55 hL) (by decide) rfl (by decide) (Or.inl ⟨kf_X10_299, rfl⟩) (am_tab tk_X10_name 27 rfl) rfl ?_
          refine am_lconst0 (q := 57) (am_tab tk_X10_name 28 rfl) rfl ?_
          refine am_lstore_n (q := 58) (by decide) (ls2 := [(1, am_l 0), (0, am_r 55)]) rfl (am_tab tk_X10_name 29 rfl) rfl ?_
          have L58 : ∀ (n58 : Nat) (x : Nat) (T : am_H), E - x < n58 → x ≤ E → zP b E i ≤ x → x ≤ zP b E i + 6 → rn isL b E x = rn isL b E (zP b E i) → (∀ j, j < x - zP b E i → 97 ≤ b (zP b E i + j) ∧ b (zP b E i + j) ≤ 122) → frw W_sc S T → T.2.1 55 2 = (x : Int) → T.2.1 55 38 = (zP b E i : Int) → T.2.1 55 5 = 0 → T.2.1 55 6 = -1 → am_wp M_X10_name Q 0 0 58 [(1, am_l (n27 b (zP b E i) (x - zP b E i))), (0, am_r 55)] [] T := by
            intro n58
            induction n58 with
            | zero => intro x T hn58; exact absurd hn58 (Nat.not_lt_zero _)
            | succ n58 ih58 =>
              intro x T hn58 hx hzx hx6 hrn hdg hF hT2 hT38 hT5 hT6
              have hLT : lay T := hF.L hL
              have hnv := n27_max (b := b) (x := zP b E i) (k := x - zP b E i) hdg (by omega)
              refine am_aload_n (q := 59) rfl (am_tab tk_X10_name 30 rfl) rfl ?_
              refine am_getI (q := 62) (a := 55) (k := 10) (n := 108) (j := 2) (x := (x : Int)) (Ls_55 hLT) (by decide) rfl hT2 (by decide) (Or.inl kf_X10_254) (am_tab tk_X10_name 31 rfl) rfl ?_
              refine am_aload_n (q := 63) rfl (am_tab tk_X10_name 32 rfl) rfl ?_
              refine am_getI (q := 66) (a := 55) (k := 10) (n := 108) (j := 3) (x := (E : Int)) (Ls_55 hLT) (by decide) rfl ((hF.2.2 55 3 (by unfold W_sc; omega)).trans hX2) (by decide) (Or.inl kf_X10_257) (am_tab tk_X10_name 33 rfl) rfl ?_
              refine am_icmp_ge (q := 69) (t := 145) (am_tab tk_X10_name 34 rfl) (by decide) rfl (fun h66 => ?_) (fun h66 => ?_)
              · refine am_aload_n (q := 146) rfl (am_tab tk_X10_name 78 rfl) rfl ?_
                refine am_aload_n (q := 147) rfl (am_tab tk_X10_name 79 rfl) rfl ?_
                refine am_getI (q := 150) (a := 55) (k := 10) (n := 108) (j := 2) (x := (x : Int)) (Ls_55 hLT) (by decide) rfl hT2 (by decide) (Or.inl kf_X10_254) (am_tab tk_X10_name 80 rfl) rfl ?_
                refine am_putI (q := 153) (k := 10) (n := 108) (j := 4) (Ls_55 hLT) (by decide) rfl (by decide) (Or.inl ⟨kf_X10_268, rfl⟩) (am_tab tk_X10_name 81 rfl) rfl ?_
                refine am_lload_n (q := 154) rfl (am_tab tk_X10_name 82 rfl) rfl ?_
                refine am_lret rfl (Nat.le_of_ble_eq_true rfl) (Nat.le_of_ble_eq_true rfl) (am_tab tk_X10_name 83 rfl) ?_
                refine hQ _ _ ?_
                have hFF : frw W_sc S (am_setN T 55 4 (x : Int)) := by repeat (first | exact frw.refl _ S | exact hF | refine frw.setN ?_ (by unfold W_sc; omega))
                have hre : rn isL b E (zP b E i) = x := by
                  rw [← hrn]
                  refine rn_stop (fun hc => ?_)
                  omega
                have hok : okN b E i := by
                  unfold okN
                  rw [zK_let hyes.1 hyes.2.1 hyes.2.2] at hown ⊢
                  by_cases h9 : wkI b (zP b E i) (rn isL b E (zP b E i)) = -1
                  · rw [if_pos h9, if_neg (by omega)]; exact Or.inl rfl
                  · rw [if_neg h9] at hown ⊢
                    have h8 := wkI_rng b (zP b E i) (rn isL b E (zP b E i))
                    exact Or.inr (by omega)
                refine Or.inl ⟨hok, by unfold zN; rw [hre], ZS_of hL hZ.2.1 hFF (TS_name hyes (hX.fr hFF) hT5 hT6 (by rw [hre]; exact hT2) (by rw [hre]; rfl)), hFF, hT38⟩
              · refine am_aload_n (q := 70) rfl (am_tab tk_X10_name 35 rfl) rfl ?_
                refine am_getR (q := 73) (a := 55) (k := 10) (n := 108) (j := 0) (r := some (56)) (Ls_55 hLT) (by decide) rfl (Lr_55_0 hLT) (by decide) (Or.inl kf_X10_7) (am_tab tk_X10_name 36 rfl) rfl ?_
                refine am_aload_n (q := 74) rfl (am_tab tk_X10_name 37 rfl) rfl ?_
                refine am_getI (q := 77) (a := 55) (k := 10) (n := 108) (j := 2) (x := (x : Int)) (Ls_55 hLT) (by decide) rfl hT2 (by decide) (Or.inl kf_X10_254) (am_tab tk_X10_name 38 rfl) rfl ?_
                refine am_iald (q := 78) (a := 56) (n := 1600) (x := (b x)) (Ls_56 hLT) (by omega) (by omega) (by rw [show Int.toNat (x : Int) = x by omega]; exact (hF.2.2 56 x (by unfold W_sc; omega)).trans (hX.1 x)) (am_tab tk_X10_name 39 rfl) rfl ?_
                refine am_callS0 (q := 81) (me2 := M_X10_isLetter) (As := [am_i ((b x))]) (rest := []) (out := [am_i (b2i (isL (b x)))]) (c_X10_isLetter T hLT (b x)) ⟨rfl, rfl⟩ ⟨Or.inl km_X10_264, kc_X10_isLetter, kn_X10, kd_X10_isLetter, ⟨(Nat.le_of_ble_eq_true rfl), (Nat.le_of_ble_eq_true rfl)⟩, ⟨(Nat.le_of_ble_eq_true rfl), (Nat.le_of_ble_eq_true rfl)⟩, (Nat.le_of_ble_eq_true rfl)⟩ ki_X10_isLetter rfl rfl (am_tab tk_X10_name 40 rfl) rfl ?_
                refine am_if_eq (q := 84) (t := 145) (am_tab tk_X10_name 41 rfl) (by decide) rfl (fun h81 => ?_) (fun h81 => ?_)
                · refine am_aload_n (q := 146) rfl (am_tab tk_X10_name 78 rfl) rfl ?_
                  refine am_aload_n (q := 147) rfl (am_tab tk_X10_name 79 rfl) rfl ?_
                  refine am_getI (q := 150) (a := 55) (k := 10) (n := 108) (j := 2) (x := (x : Int)) (Ls_55 hLT) (by decide) rfl hT2 (by decide) (Or.inl kf_X10_254) (am_tab tk_X10_name 80 rfl) rfl ?_
                  refine am_putI (q := 153) (k := 10) (n := 108) (j := 4) (Ls_55 hLT) (by decide) rfl (by decide) (Or.inl ⟨kf_X10_268, rfl⟩) (am_tab tk_X10_name 81 rfl) rfl ?_
                  refine am_lload_n (q := 154) rfl (am_tab tk_X10_name 82 rfl) rfl ?_
                  refine am_lret rfl (Nat.le_of_ble_eq_true rfl) (Nat.le_of_ble_eq_true rfl) (am_tab tk_X10_name 83 rfl) ?_
                  refine hQ _ _ ?_
                  have hFF : frw W_sc S (am_setN T 55 4 (x : Int)) := by repeat (first | exact frw.refl _ S | exact hF | refine frw.setN ?_ (by unfold W_sc; omega))
                  have hre : rn isL b E (zP b E i) = x := by
                    rw [← hrn]
                    refine rn_stop (fun hc => ?_)
                    rw [b2f h81] at hc; exact absurd hc.2 (by simp)
                  have hok : okN b E i := by
                    unfold okN
                    rw [zK_let hyes.1 hyes.2.1 hyes.2.2] at hown ⊢
                    by_cases h9 : wkI b (zP b E i) (rn isL b E (zP b E i)) = -1
                    · rw [if_pos h9, if_neg (by omega)]; exact Or.inl rfl
                    · rw [if_neg h9] at hown ⊢
                      have h8 := wkI_rng b (zP b E i) (rn isL b E (zP b E i))
                      exact Or.inr (by omega)
                  refine Or.inl ⟨hok, by unfold zN; rw [hre], ZS_of hL hZ.2.1 hFF (TS_name hyes (hX.fr hFF) hT5 hT6 (by rw [hre]; exact hT2) (by rw [hre]; rfl)), hFF, hT38⟩
                · refine am_aload_n (q := 85) rfl (am_tab tk_X10_name 42 rfl) rfl ?_
                  refine am_getI (q := 88) (a := 55) (k := 10) (n := 108) (j := 2) (x := (x : Int)) (Ls_55 hLT) (by decide) rfl hT2 (by decide) (Or.inl kf_X10_254) (am_tab tk_X10_name 43 rfl) rfl ?_
                  refine am_aload_n (q := 89) rfl (am_tab tk_X10_name 44 rfl) rfl ?_
                  refine am_getI (q := 92) (a := 55) (k := 10) (n := 108) (j := 38) (x := (zP b E i : Int)) (Ls_55 hLT) (by decide) rfl hT38 (by decide) (Or.inl kf_X10_299) (am_tab tk_X10_name 45 rfl) rfl ?_
                  refine am_isub (q := 93) (by omega) (am_tab tk_X10_name 46 rfl) rfl ?_
                  refine am_bipush (q := 95) (n := 6) (by decide) rfl (am_tab tk_X10_name 47 rfl) rfl ?_
                  refine am_icmp_ne (q := 98) (t := 109) (am_tab tk_X10_name 48 rfl) (by decide) rfl (fun h95 => ?_) (fun h95 => ?_)
                  · have hdx := b2t h81
                    unfold isL at hdx
                    simp only [decide_eq_true_eq] at hdx
                    refine am_ldc2 (q := 112) (n := 27) (by decide) kk_X10_302 (am_tab tk_X10_name 56 rfl) rfl ?_
                    refine am_lload_n (q := 113) rfl (am_tab tk_X10_name 57 rfl) rfl ?_
                    refine am_lmul (q := 114) (by omega) (am_tab tk_X10_name 58 rfl) rfl ?_
                    refine am_aload_n (q := 115) rfl (am_tab tk_X10_name 59 rfl) rfl ?_
                    refine am_getR (q := 118) (a := 55) (k := 10) (n := 108) (j := 0) (r := some (56)) (Ls_55 hLT) (by decide) rfl (Lr_55_0 hLT) (by decide) (Or.inl kf_X10_7) (am_tab tk_X10_name 60 rfl) rfl ?_
                    refine am_aload_n (q := 119) rfl (am_tab tk_X10_name 61 rfl) rfl ?_
                    refine am_getI (q := 122) (a := 55) (k := 10) (n := 108) (j := 2) (x := (x : Int)) (Ls_55 hLT) (by decide) rfl hT2 (by decide) (Or.inl kf_X10_254) (am_tab tk_X10_name 62 rfl) rfl ?_
                    refine am_iald (q := 123) (a := 56) (n := 1600) (x := (b x)) (Ls_56 hLT) (by omega) (by omega) (by rw [show Int.toNat (x : Int) = x by omega]; exact (hF.2.2 56 x (by unfold W_sc; omega)).trans (hX.1 x)) (am_tab tk_X10_name 63 rfl) rfl ?_
                    refine am_i2l (q := 124) (am_tab tk_X10_name 64 rfl) rfl ?_
                    refine am_ladd (q := 125) (by omega) (am_tab tk_X10_name 65 rfl) rfl ?_
                    refine am_ldc2 (q := 128) (n := 97) (by decide) kk_X10_304 (am_tab tk_X10_name 66 rfl) rfl ?_
                    refine am_lsub (q := 129) (by omega) (am_tab tk_X10_name 67 rfl) rfl ?_
                    refine am_lconst1 (q := 130) (am_tab tk_X10_name 68 rfl) rfl ?_
                    refine am_ladd (q := 131) (by omega) (am_tab tk_X10_name 69 rfl) rfl ?_
                    refine am_lstore_n (q := 132) (by decide) (ls2 := [(1, am_l (((((27 * (n27 b (zP b E i) (x - zP b E i))) + (b x)) - 97) + 1))), (0, am_r 55)]) rfl (am_tab tk_X10_name 70 rfl) rfl ?_
                    refine am_aload_n (q := 133) rfl (am_tab tk_X10_name 71 rfl) rfl ?_
                    refine am_dup (q := 134) rfl (am_tab tk_X10_name 72 rfl) rfl ?_
                    refine am_getI (q := 137) (a := 55) (k := 10) (n := 108) (j := 2) (x := (x : Int)) (Ls_55 hLT) (by decide) rfl hT2 (by decide) (Or.inl kf_X10_254) (am_tab tk_X10_name 73 rfl) rfl ?_
                    refine am_iconst (q := 138) (n := 1) (by decide) (am_tab tk_X10_name 74 rfl) rfl ?_
                    refine am_iadd (q := 139) (by omega) (am_tab tk_X10_name 75 rfl) rfl ?_
                    refine am_putI (q := 142) (k := 10) (n := 108) (j := 2) (Ls_55 hLT) (by decide) rfl (by decide) (Or.inl ⟨kf_X10_254, rfl⟩) (am_tab tk_X10_name 76 rfl) rfl ?_
                    refine am_goto (t := 58) (am_tab tk_X10_name 77 rfl) (by decide) ?_
                    have hdn : ∀ j, j < x + 1 - zP b E i → 97 ≤ b (zP b E i + j) ∧ b (zP b E i + j) ≤ 122 := by
                      intro j hj
                      by_cases hjx : j = x - zP b E i
                      · rw [show zP b E i + j = x by omega]; exact hdx
                      · exact hdg j (by omega)
                    have hne : n27 b (zP b E i) (x + 1 - zP b E i) = (((27 * n27 b (zP b E i) (x - zP b E i)) + b x) - 97) + 1 := by
                      rw [show x + 1 - zP b E i = (x - zP b E i) + 1 by omega]
                      show _ + b (zP b E i + (x - zP b E i)) - 97 + 1 = _
                      rw [show zP b E i + (x - zP b E i) = x by omega]
                    rw [← hne]
                    exact am_less (by intro q hq; simp only [List.mem_cons, List.not_mem_nil, or_false] at hq; rcases hq with rfl | rfl <;> simp) (ih58 (x + 1) (am_setN T 55 2 ((x : Int) + 1)) (by omega) (by omega) (by omega) (by omega) (by rw [← hrn]; exact (rn_step (by omega) (b2t h81)).symm) hdn (hF.setN (by unfold W_sc; omega)) rfl hT38 hT5 hT6)
                  · refine am_aload_n (q := 99) rfl (am_tab tk_X10_name 49 rfl) rfl ?_
                    refine am_iconst (q := 100) (n := 1) (by decide) (am_tab tk_X10_name 50 rfl) rfl ?_
                    refine am_aload_n (q := 101) rfl (am_tab tk_X10_name 51 rfl) rfl ?_
                    refine am_getI (q := 104) (a := 55) (k := 10) (n := 108) (j := 2) (x := (x : Int)) (Ls_55 hLT) (by decide) rfl hT2 (by decide) (Or.inl kf_X10_254) (am_tab tk_X10_name 52 rfl) rfl ?_
                    refine am_callV0 (q := 107) (me2 := M_X10_fail) (b := 55) (kb := 10) (nb := 108) (As := [am_i 1, am_i ((x : Int))]) (rest := []) (out := []) (c_fail0 T hLT 1 (x : Int) hT5) ⟨rfl, rfl⟩ (Ls_55 hLT) (by decide) ⟨Or.inl km_X10_278, kc_X10_fail, kn_X10, kd_X10_fail, ⟨(Nat.le_of_ble_eq_true rfl), (Nat.le_of_ble_eq_true rfl)⟩, ⟨(Nat.le_of_ble_eq_true rfl), (Nat.le_of_ble_eq_true rfl)⟩, (Nat.le_of_ble_eq_true rfl)⟩ ki_X10_fail ks_X10_fail rfl rfl (am_tab tk_X10_name 53 rfl) rfl ?_
                    refine am_lconst0 (q := 108) (am_tab tk_X10_name 54 rfl) rfl ?_
                    refine am_lret rfl (Nat.le_of_ble_eq_true rfl) (Nat.le_of_ble_eq_true rfl) (am_tab tk_X10_name 55 rfl) ?_
                    refine hQ _ _ ?_
                    have hFF : frw W_sc S (am_setN (am_setN T 55 5 1) 55 6 (x : Int)) := by repeat (first | exact frw.refl _ S | exact hF | refine frw.setN ?_ (by unfold W_sc; omega))
                    have hrx := rn_rng isL b (E := E) (x := x + 1) (by omega)
                    have hrs : rn isL b E x = rn isL b E (x + 1) := rn_step (by omega) (b2t h81)
                    have hz4 : zK b E i = 4 := by
                      rw [zK_let hyes.1 hyes.2.1 hyes.2.2] at hown ⊢
                      by_cases h9 : wkI b (zP b E i) (rn isL b E (zP b E i)) = -1
                      · rw [if_pos h9, if_pos (by omega)]
                      · exfalso
                        rw [if_neg h9] at hown
                        have h8 := wkI_rng b (zP b E i) (rn isL b E (zP b E i))
                        have h7 := wk_len (b := b) (x := zP b E i) (y := rn isL b E (zP b E i)) (by omega)
                        omega
                    exact Or.inr ⟨by unfold okN; omega, rfl, ZB_of hL hZ.2.1 hFF hX rfl (by decide) (by unfold mfP; rw [if_pos hz4]; show (x : Int) = _; omega) (by show 0 ≤ T.2.1 55 2 ∧ T.2.1 55 2 ≤ _; rw [hT2]; omega), hFF⟩
          refine am_less (by intro q hq; simp only [List.mem_cons, List.not_mem_nil, or_false] at hq; rcases hq with rfl | rfl <;> simp [n27]) (L58 (_ + 1) (zP b E i) (am_setN (am_setN S 55 2 (zP b E i : Int)) 55 38 (zP b E i : Int)) (by exact Nat.lt_succ_self _) hzp (Nat.le_refl _) (by omega) rfl (by omega) (by repeat (first | exact frw.refl _ S | refine frw.setN ?_ (by unfold W_sc; omega))) rfl rfl hS5 hS.2.2.1)
        · refine am_aload_n (q := 38) rfl (am_tab tk_X10_name 17 rfl) rfl ?_
          refine am_iconst (q := 39) (n := 1) (by decide) (am_tab tk_X10_name 18 rfl) rfl ?_
          refine am_aload_n (q := 40) rfl (am_tab tk_X10_name 19 rfl) rfl ?_
          refine am_getI (q := 43) (a := 55) (k := 10) (n := 108) (j := 2) (x := (zP b E i : Int)) (Ls_55 hL) (by decide) rfl rfl (by decide) (Or.inl kf_X10_254) (am_tab tk_X10_name 20 rfl) rfl ?_
          refine am_callV0 (q := 46) (me2 := M_X10_fail) (b := 55) (kb := 10) (nb := 108) (As := [am_i 1, am_i ((zP b E i : Int))]) (rest := []) (out := []) (c_fail0 (am_setN S 55 2 (zP b E i : Int)) hL 1 (zP b E i : Int) hS5) ⟨rfl, rfl⟩ (Ls_55 hL) (by decide) ⟨Or.inl km_X10_278, kc_X10_fail, kn_X10, kd_X10_fail, ⟨(Nat.le_of_ble_eq_true rfl), (Nat.le_of_ble_eq_true rfl)⟩, ⟨(Nat.le_of_ble_eq_true rfl), (Nat.le_of_ble_eq_true rfl)⟩, (Nat.le_of_ble_eq_true rfl)⟩ ki_X10_fail ks_X10_fail rfl rfl (am_tab tk_X10_name 21 rfl) rfl ?_
          refine am_lconst0 (q := 47) (am_tab tk_X10_name 22 rfl) rfl ?_
          refine am_lret rfl (Nat.le_of_ble_eq_true rfl) (Nat.le_of_ble_eq_true rfl) (am_tab tk_X10_name 23 rfl) ?_
          refine hQ _ _ ?_
          have hFF : frw W_sc S (am_setN (am_setN (am_setN S 55 2 (zP b E i : Int)) 55 5 1) 55 6 (zP b E i : Int)) := by repeat (first | exact frw.refl _ S | refine frw.setN ?_ (by unfold W_sc; omega))
          have hy : zP b E i < E ∧ isL (b (zP b E i)) = true ∧ ¬ zT b E i = true := by
            have h9 := b2t h16
            unfold byt at h9
            by_cases hq : zP b E i < E
            · rw [if_pos hq] at h9; exact ⟨hq, h9, fun ht => h27 (hS.2.2.2.2.2.2.mp ht).symm⟩
            · rw [if_neg hq] at h9; exact absurd h9 (by decide)
          have how := b2t h34
          unfold ownB at how
          simp only [decide_eq_true_eq] at how
          have hno : ¬ okN b E i := by unfold okN; omega
          have hn4 : ¬ zK b E i = 4 := by omega
          exact Or.inr ⟨hno, rfl, ZB_of hL hZ.2.1 hFF hX rfl (by decide) (by unfold mfP; rw [if_neg hn4]; rfl) (by show 0 ≤ (zP b E i : Int) ∧ (zP b E i : Int) ≤ _; omega), hFF⟩
  · exact absurd rfl h4
