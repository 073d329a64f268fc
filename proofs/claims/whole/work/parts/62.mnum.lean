theorem zK_num {b : Nat → Int} {E i : Nat} : zK b E i = 1 ↔ (zP b E i < E ∧ isDg (b (zP b E i)) = true ∧ ¬ zT b E i = true) ∧ rn isDg b E (zP b E i) - zP b E i ≤ 4 := by
  have hr := wkI_rng b (zP b E i) (rn isL b E (zP b E i))
  unfold zK zk
  by_cases h1 : zP b E i < E
  · rw [if_neg (by omega)]
    by_cases h2 : isL (b (zP b E i)) = true
    · rw [if_pos h2]
      have h3 : ¬ isDg (b (zP b E i)) = true := by unfold isL at h2; unfold isDg; simp only [decide_eq_true_eq] at *; omega
      constructor
      · intro h
        exfalso
        split at h
        · omega
        · split at h
          · split at h <;> omega
          · omega
      · intro h; exact absurd h.1.2.1 h3
    · rw [if_neg h2]
      by_cases h3 : isDg (b (zP b E i)) = true
      · rw [if_pos h3]
        by_cases h4 : zT b E i = true
        · rw [if_pos h4]; constructor
          · intro h; omega
          · intro h; exact absurd h4 h.1.2.2
        · rw [if_neg h4]
          split
          · constructor
            · intro h; omega
            · intro h; omega
          · exact ⟨fun _ => ⟨⟨h1, h3, h4⟩, by omega⟩, fun _ => rfl⟩
      · rw [if_neg h3]
        constructor
        · intro h
          exfalso
          split at h
          · rename_i h9
            have := sgn_r h9
            omega
          · omega
        · intro h; exact absurd h.1.2.1 h3
  · rw [if_pos h1]
    constructor
    · intro h; omega
    · intro h; exact absurd h.1.1 h1
theorem zK_lnum {b : Nat → Int} {E i : Nat} : zK b E i = 2 ↔ (zP b E i < E ∧ isDg (b (zP b E i)) = true ∧ ¬ zT b E i = true) ∧ 4 < rn isDg b E (zP b E i) - zP b E i := by
  have hr := wkI_rng b (zP b E i) (rn isL b E (zP b E i))
  unfold zK zk
  by_cases h1 : zP b E i < E
  · rw [if_neg (by omega)]
    by_cases h2 : isL (b (zP b E i)) = true
    · rw [if_pos h2]
      have h3 : ¬ isDg (b (zP b E i)) = true := by unfold isL at h2; unfold isDg; simp only [decide_eq_true_eq] at *; omega
      constructor
      · intro h
        exfalso
        split at h
        · omega
        · split at h
          · split at h <;> omega
          · omega
      · intro h; exact absurd h.1.2.1 h3
    · rw [if_neg h2]
      by_cases h3 : isDg (b (zP b E i)) = true
      · rw [if_pos h3]
        by_cases h4 : zT b E i = true
        · rw [if_pos h4]; constructor
          · intro h; omega
          · intro h; exact absurd h4 h.1.2.2
        · rw [if_neg h4]
          split
          · rename_i h5
            exact ⟨fun _ => ⟨⟨h1, h3, h4⟩, h5⟩, fun _ => rfl⟩
          · constructor
            · intro h; omega
            · intro h; omega
      · rw [if_neg h3]
        constructor
        · intro h
          exfalso
          split at h
          · rename_i h9
            have := sgn_r h9
            omega
          · omega
        · intro h; exact absurd h.1.2.1 h3
  · rw [if_pos h1]
    constructor
    · intro h; omega
    · intro h; exact absurd h.1.1 h1
/-- behind a number -/
theorem TS_num {b : Nat → Int} {E i : Nat} {T : am_H} (hk : zK b E i = 1) (hX : TX b E T) (h5 : T.2.1 55 5 = 0) (h6 : T.2.1 55 6 = -1) (h2 : T.2.1 55 2 = (rn isDg b E (zP b E i) : Int)) (h4 : T.2.1 55 4 = (rn isDg b E (zP b E i) : Int)) : TS b E (i + 1) T := by
  have hh := (zK_num.mp hk).1
  have h3 : ¬ isL (b (zP b E i)) = true := by have h9 := hh.2.1; unfold isDg at h9; unfold isL; simp only [decide_eq_true_eq] at *; omega
  have hr := rn_rng isDg b (zP_rng b E i)
  have hz : zz b E (i + 1) = (sk b E (rn isDg b E (zP b E i)), decide (sk b E (rn isDg b E (zP b E i)) = rn isDg b E (zP b E i))) := by
    show nxz b E (zP b E i) = _
    unfold nxz
    rw [if_neg (by omega), if_neg h3, if_pos hh.2.1]
  have e2 : (T.2.1 55 2).toNat = rn isDg b E (zP b E i) := by omega
  refine ⟨hX, h5, h6, by omega, by omega, ?_, ?_⟩
  · rw [e2]
    show _ = (zz b E (i + 1)).1
    rw [hz]
  · show (zz b E (i + 1)).2 = true ↔ _ = (((zz b E (i + 1)).1 : Nat) : Int)
    rw [hz]
    simp only [decide_eq_true_eq]
    omega
theorem nv_rng {b : Nat → Int} {x : Nat} : ∀ k, (∀ j, j < k → 48 ≤ b (x + j) ∧ b (x + j) ≤ 57) → k ≤ 4 → 0 ≤ nv b x k ∧ nv b x k ≤ 10 ^ k - 1
  | 0, _, _ => by unfold nv; simp
  | k + 1, h, hk => by
    have ih := nv_rng k (fun j hj => h j (by omega)) (by omega)
    have h1 := h k (by omega)
    have e : (10 : Int) ^ (k + 1) = 10 ^ k * 10 := Int.pow_succ _ _
    unfold nv
    omega
theorem nv_9999 {b : Nat → Int} {x k : Nat} (h : ∀ j, j < k → 48 ≤ b (x + j) ∧ b (x + j) ≤ 57) (hk : k ≤ 4) : 0 ≤ nv b x k ∧ nv b x k ≤ 9999 := by
  have h1 := nv_rng k h hk
  rcases (show k = 0 ∨ k = 1 ∨ k = 2 ∨ k = 3 ∨ k = 4 by omega) with rfl | rfl | rfl | rfl | rfl <;> simp at h1 <;> omega
/-- the fault of a number, if it is none -/
def nfK (b : Nat → Int) (E i : Nat) : Int := if zK b E i = 1 then 2 else 1
def nfP (b : Nat → Int) (E i : Nat) : Int := if zK b E i = 2 then (zP b E i : Int) + 4 else (zP b E i : Int)
theorem c_X10_number (b : Nat → Int) (E i : Nat) (S : am_H) (hZ : ZS b E i S) (lo : Int) (hi : Int)  : am_met M_X10_number [am_r 55, am_i lo, am_i hi] S (fun r σ' => (((zK b E i = 1 ∧ lo ≤ zV b E i ∧ zV b E i ≤ hi) ∧ r = some (am_i (zV b E i)) ∧ ZS b E (i + 1) σ' ∧ frw W_sc S σ' ∧ σ'.2.1 55 10 = (zP b E i : Int)) ∨ (¬ (zK b E i = 1 ∧ lo ≤ zV b E i ∧ zV b E i ≤ hi) ∧ (∃ v : Int, r = some (am_i v) ∧ 0 ≤ v ∧ v ≤ 9999) ∧ ZB b E (nfK b E i) (nfP b E i) σ' ∧ frw W_sc S σ'))) := by
  refine am_qq (fun Q hQ => ?_)
  refine am_enter (show plainFor yX10_number = true by decide +kernel) rfl (Nat.le_of_ble_eq_true rfl) (fun _ _ _ => trivial) ?_
  have hL := hZ.1
  have hS := hZ.2.2
  have hX := hS.1
  have hS5 := hS.2.1
  have hX2 := hX.2.1
  have hX3 := hX.2.2.1
  have hAt := hS.2.2.2.1
  have hEd := hS.2.2.2.2.1
  have hzp := zP_rng b E i
  have hzs := zP_s hS
  have hby := hX.2.2.2
  refine am_aload_n (q := 1) rfl (am_tab tk_X10_number 0 rfl) rfl ?_
  refine am_getI (q := 4) (a := 55) (k := 10) (n := 108) (j := 5) (x := 0) (Ls_55 hL) (by decide) rfl hS5 (by decide) (Or.inl kf_X10_248) (am_tab tk_X10_number 1 rfl) rfl ?_
  refine am_if_eq (q := 7) (t := 9) (am_tab tk_X10_number 2 rfl) (by decide) rfl (fun h4 => ?_) (fun h4 => ?_)
  · refine am_aload_n (q := 10) rfl (am_tab tk_X10_number 5 rfl) rfl ?_
    refine am_callV0 (q := 13) (me2 := M_X10_look) (b := 55) (kb := 10) (nb := 108) (As := []) (rest := []) (out := [am_i (byt b E i)]) (c_X10_look b E i S hL hS) ⟨rfl, rfl⟩ (Ls_55 hL) (by decide) ⟨Or.inl km_X10_260, kc_X10_look, kn_X10, kd_X10_look, ⟨(Nat.le_of_ble_eq_true rfl), (Nat.le_of_ble_eq_true rfl)⟩, ⟨(Nat.le_of_ble_eq_true rfl), (Nat.le_of_ble_eq_true rfl)⟩, (Nat.le_of_ble_eq_true rfl)⟩ ki_X10_look ks_X10_look rfl rfl (am_tab tk_X10_number 6 rfl) rfl ?_
    refine am_callS0 (q := 16) (me2 := M_X10_isDigit) (As := [am_i (byt b E i)]) (rest := []) (out := [am_i (b2i (isDg (byt b E i)))]) (c_X10_isDigit (am_setN S 55 2 (zP b E i : Int)) hL (byt b E i)) ⟨rfl, rfl⟩ ⟨Or.inl km_X10_285, kc_X10_isDigit, kn_X10, kd_X10_isDigit, ⟨(Nat.le_of_ble_eq_true rfl), (Nat.le_of_ble_eq_true rfl)⟩, ⟨(Nat.le_of_ble_eq_true rfl), (Nat.le_of_ble_eq_true rfl)⟩, (Nat.le_of_ble_eq_true rfl)⟩ ki_X10_isDigit rfl rfl (am_tab tk_X10_number 7 rfl) rfl ?_
    refine am_if_eq (q := 19) (t := 30) (am_tab tk_X10_number 8 rfl) (by decide) rfl (fun h16 => ?_) (fun h16 => ?_)
    · refine am_aload_n (q := 31) rfl (am_tab tk_X10_number 14 rfl) rfl ?_
      refine am_iconst (q := 32) (n := 1) (by decide) (am_tab tk_X10_number 15 rfl) rfl ?_
      refine am_aload_n (q := 33) rfl (am_tab tk_X10_number 16 rfl) rfl ?_
      refine am_getI (q := 36) (a := 55) (k := 10) (n := 108) (j := 2) (x := (zP b E i : Int)) (Ls_55 hL) (by decide) rfl rfl (by decide) (Or.inl kf_X10_254) (am_tab tk_X10_number 17 rfl) rfl ?_
      refine am_callV0 (q := 39) (me2 := M_X10_fail) (b := 55) (kb := 10) (nb := 108) (As := [am_i 1, am_i ((zP b E i : Int))]) (rest := []) (out := []) (c_fail0 (am_setN S 55 2 (zP b E i : Int)) hL 1 (zP b E i : Int) hS5) ⟨rfl, rfl⟩ (Ls_55 hL) (by decide) ⟨Or.inl km_X10_278, kc_X10_fail, kn_X10, kd_X10_fail, ⟨(Nat.le_of_ble_eq_true rfl), (Nat.le_of_ble_eq_true rfl)⟩, ⟨(Nat.le_of_ble_eq_true rfl), (Nat.le_of_ble_eq_true rfl)⟩, (Nat.le_of_ble_eq_true rfl)⟩ ki_X10_fail ks_X10_fail rfl rfl (am_tab tk_X10_number 18 rfl) rfl ?_
      refine am_iconst (q := 40) (n := 0) (by decide) (am_tab tk_X10_number 19 rfl) rfl ?_
      refine am_iret (Or.inl rfl) (Nat.le_of_ble_eq_true rfl) (Nat.le_of_ble_eq_true rfl) (am_tab tk_X10_number 20 rfl) ?_
      refine hQ _ _ ?_
      have hF : frw W_sc S (am_setN (am_setN (am_setN S 55 2 (zP b E i : Int)) 55 5 1) 55 6 (zP b E i : Int)) := by repeat (first | exact frw.refl _ S | refine frw.setN ?_ (by unfold W_sc; omega))
      have hn1 : ¬ zK b E i = 1 := by
        intro hx
        have h9 := (zK_num.mp hx).1
        have h8 := b2f h16; unfold byt at h8; rw [if_pos h9.1, h9.2.1] at h8; exact absurd h8 (by simp)
      have hn2 : ¬ zK b E i = 2 := by
        intro hx
        have h9 := (zK_lnum.mp hx).1
        have h8 := b2f h16; unfold byt at h8; rw [if_pos h9.1, h9.2.1] at h8; exact absurd h8 (by simp)
      refine Or.inr ⟨fun hx => hn1 hx.1, ⟨0, rfl, by omega, by omega⟩, ZB_of hL hZ.2.1 hF hX ?_ ?_ ?_ (by show 0 ≤ (zP b E i : Int) ∧ (zP b E i : Int) ≤ _; omega), hF⟩
      · unfold nfK; rw [if_neg hn1]; rfl
      · unfold nfK; rw [if_neg hn1]; decide
      · unfold nfP; rw [if_neg hn2]; rfl
    · refine am_aload_n (q := 20) rfl (am_tab tk_X10_number 9 rfl) rfl ?_
      refine am_getI (q := 23) (a := 55) (k := 10) (n := 108) (j := 2) (x := (zP b E i : Int)) (Ls_55 hL) (by decide) rfl rfl (by decide) (Or.inl kf_X10_254) (am_tab tk_X10_number 10 rfl) rfl ?_
      refine am_aload_n (q := 24) rfl (am_tab tk_X10_number 11 rfl) rfl ?_
      refine am_getI (q := 27) (a := 55) (k := 10) (n := 108) (j := 4) (x := (S.2.1 55 4)) (Ls_55 hL) (by decide) rfl rfl (by decide) (Or.inl kf_X10_268) (am_tab tk_X10_number 12 rfl) rfl ?_
      refine am_icmp_ne (q := 30) (t := 41) (am_tab tk_X10_number 13 rfl) (by decide) rfl (fun h27 => ?_) (fun h27 => ?_)
      · have hlt : zP b E i < E ∧ isDg (b (zP b E i)) = true := by
          have h9 := b2t h16
          unfold byt at h9
          by_cases hq : zP b E i < E
          · rw [if_pos hq] at h9; exact ⟨hq, h9⟩
          · rw [if_neg hq] at h9; exact absurd h9 (by decide)
        have hyes : zP b E i < E ∧ isDg (b (zP b E i)) = true ∧ ¬ zT b E i = true := ⟨hlt.1, hlt.2, fun ht => h27 (hS.2.2.2.2.2.2.mp ht).symm⟩
        refine am_aload_n (q := 42) rfl (am_tab tk_X10_number 21 rfl) rfl ?_
        refine am_getI (q := 45) (a := 55) (k := 10) (n := 108) (j := 2) (x := (zP b E i : Int)) (Ls_55 hL) (by decide) rfl rfl (by decide) (Or.inl kf_X10_254) (am_tab tk_X10_number 22 rfl) rfl ?_
        refine am_istore_n (q := 46) (by decide) (ls2 := [(3, am_i ((zP b E i : Int))), (0, am_r 55), (1, am_i lo), (2, am_i hi)]) rfl (am_tab tk_X10_number 23 rfl) rfl ?_
        refine am_iconst (q := 47) (n := 0) (by decide) (am_tab tk_X10_number 24 rfl) rfl ?_
        refine am_istore (q := 49) (by decide) (ls2 := [(4, am_i 0), (3, am_i ((zP b E i : Int))), (0, am_r 55), (1, am_i lo), (2, am_i hi)]) rfl (am_tab tk_X10_number 25 rfl) rfl ?_
        have L49 : ∀ (n49 : Nat) (x : Nat), E - x < n49 → x ≤ E → zP b E i ≤ x → x ≤ zP b E i + 4 → rn isDg b E x = rn isDg b E (zP b E i) → (∀ j, j < x - zP b E i → 48 ≤ b (zP b E i + j) ∧ b (zP b E i + j) ≤ 57) → am_wp M_X10_number Q 0 0 49 [(4, am_i (nv b (zP b E i) (x - zP b E i))), (3, am_i ((zP b E i : Int))), (0, am_r 55), (1, am_i lo), (2, am_i hi)] [] (am_setN S 55 2 (x : Int)) := by
          intro n49
          induction n49 with
          | zero => intro x hn49; exact absurd hn49 (Nat.not_lt_zero _)
          | succ n49 ih49 =>
            intro x hn49 hx hzx hx4 hrn hdg
            have hnv := nv_9999 (b := b) (x := zP b E i) (k := x - zP b E i) hdg (by omega)
            refine am_aload_n (q := 50) rfl (am_tab tk_X10_number 26 rfl) rfl ?_
            refine am_getI (q := 53) (a := 55) (k := 10) (n := 108) (j := 2) (x := (x : Int)) (Ls_55 hL) (by decide) rfl rfl (by decide) (Or.inl kf_X10_254) (am_tab tk_X10_number 27 rfl) rfl ?_
            refine am_aload_n (q := 54) rfl (am_tab tk_X10_number 28 rfl) rfl ?_
            refine am_getI (q := 57) (a := 55) (k := 10) (n := 108) (j := 3) (x := (E : Int)) (Ls_55 hL) (by decide) rfl hX2 (by decide) (Or.inl kf_X10_257) (am_tab tk_X10_number 29 rfl) rfl ?_
            refine am_icmp_ge (q := 60) (t := 129) (am_tab tk_X10_number 30 rfl) (by decide) rfl (fun h57 => ?_) (fun h57 => ?_)
            · refine am_aload_n (q := 130) rfl (am_tab tk_X10_number 70 rfl) rfl ?_
              refine am_aload_n (q := 131) rfl (am_tab tk_X10_number 71 rfl) rfl ?_
              refine am_getI (q := 134) (a := 55) (k := 10) (n := 108) (j := 2) (x := (x : Int)) (Ls_55 hL) (by decide) rfl rfl (by decide) (Or.inl kf_X10_254) (am_tab tk_X10_number 72 rfl) rfl ?_
              refine am_putI (q := 137) (k := 10) (n := 108) (j := 4) (Ls_55 hL) (by decide) rfl (by decide) (Or.inl ⟨kf_X10_268, rfl⟩) (am_tab tk_X10_number 73 rfl) rfl ?_
              refine am_aload_n (q := 138) rfl (am_tab tk_X10_number 74 rfl) rfl ?_
              refine am_iload_n (q := 139) rfl (am_tab tk_X10_number 75 rfl) rfl ?_
              refine am_putI (q := 142) (k := 10) (n := 108) (j := 10) (Ls_55 hL) (by decide) rfl (by decide) (Or.inl ⟨kf_X10_288, rfl⟩) (am_tab tk_X10_number 76 rfl) rfl ?_
              refine am_iload (q := 144) rfl (am_tab tk_X10_number 77 rfl) rfl ?_
              refine am_i2l (q := 145) (am_tab tk_X10_number 78 rfl) rfl ?_
              refine am_iload_n (q := 146) rfl (am_tab tk_X10_number 79 rfl) rfl ?_
              refine am_i2l (q := 147) (am_tab tk_X10_number 80 rfl) rfl ?_
              refine am_iload_n (q := 148) rfl (am_tab tk_X10_number 81 rfl) rfl ?_
              refine am_i2l (q := 149) (am_tab tk_X10_number 82 rfl) rfl ?_
              refine am_callS0 (q := 152) (me2 := M_X10_isIn) (As := [am_l (nv b (zP b E i) (x - zP b E i)), am_l lo, am_l hi]) (rest := []) (out := [am_i (if lo ≤ (nv b (zP b E i) (x - zP b E i)) ∧ (nv b (zP b E i) (x - zP b E i)) ≤ hi then 1 else 0)]) (c_X10_isIn (am_setN (am_setN (am_setN S 55 2 (x : Int)) 55 4 (x : Int)) 55 10 (zP b E i : Int)) hL (nv b (zP b E i) (x - zP b E i)) lo hi) ⟨rfl, rfl⟩ ⟨Or.inl km_X10_291, kc_X10_isIn, kn_X10, kd_X10_isIn, ⟨(Nat.le_of_ble_eq_true rfl), (Nat.le_of_ble_eq_true rfl)⟩, ⟨(Nat.le_of_ble_eq_true rfl), (Nat.le_of_ble_eq_true rfl)⟩, (Nat.le_of_ble_eq_true rfl)⟩ ki_X10_isIn rfl rfl (am_tab tk_X10_number 83 rfl) rfl ?_
              refine am_if_ne (q := 155) (t := 161) (am_tab tk_X10_number 84 rfl) (by decide) rfl (fun h152 => ?_) (fun h152 => ?_)
              · replace h152 := b01n h152
                refine am_iload (q := 163) rfl (am_tab tk_X10_number 89 rfl) rfl ?_
                refine am_iret (Or.inl rfl) (Nat.le_of_ble_eq_true rfl) (Nat.le_of_ble_eq_true rfl) (am_tab tk_X10_number 90 rfl) ?_
                refine hQ _ _ ?_
                have hF : frw W_sc S (am_setN (am_setN (am_setN S 55 2 (x : Int)) 55 4 (x : Int)) 55 10 (zP b E i : Int)) := by repeat (first | exact frw.refl _ S | refine frw.setN ?_ (by unfold W_sc; omega))
                have hre : rn isDg b E (zP b E i) = x := by
                  rw [← hrn]
                  refine rn_stop (fun hc => ?_)
                  omega
                have hn1 : zK b E i = 1 := zK_num.mpr ⟨hyes, by omega⟩
                have hzv : zV b E i = nv b (zP b E i) (x - zP b E i) := by unfold zV; rw [hre]
                refine Or.inl ⟨⟨hn1, by rw [hzv]; omega, by rw [hzv]; omega⟩, by rw [hzv], ZS_of hL hZ.2.1 hF (TS_num hn1 (hX.fr hF) hS5 hS.2.2.1 (by rw [hre]; rfl) (by rw [hre]; rfl)), hF, rfl⟩
              · replace h152 := b01z h152
                refine am_aload_n (q := 156) rfl (am_tab tk_X10_number 85 rfl) rfl ?_
                refine am_iconst (q := 157) (n := 2) (by decide) (am_tab tk_X10_number 86 rfl) rfl ?_
                refine am_iload_n (q := 158) rfl (am_tab tk_X10_number 87 rfl) rfl ?_
                refine am_callV0 (q := 161) (me2 := M_X10_fail) (b := 55) (kb := 10) (nb := 108) (As := [am_i 2, am_i ((zP b E i : Int))]) (rest := []) (out := []) (c_fail0 (am_setN (am_setN (am_setN S 55 2 (x : Int)) 55 4 (x : Int)) 55 10 (zP b E i : Int)) hL 2 (zP b E i : Int) hS5) ⟨rfl, rfl⟩ (Ls_55 hL) (by decide) ⟨Or.inl km_X10_278, kc_X10_fail, kn_X10, kd_X10_fail, ⟨(Nat.le_of_ble_eq_true rfl), (Nat.le_of_ble_eq_true rfl)⟩, ⟨(Nat.le_of_ble_eq_true rfl), (Nat.le_of_ble_eq_true rfl)⟩, (Nat.le_of_ble_eq_true rfl)⟩ ki_X10_fail ks_X10_fail rfl rfl (am_tab tk_X10_number 88 rfl) rfl ?_
                refine am_iload (q := 163) rfl (am_tab tk_X10_number 89 rfl) rfl ?_
                refine am_iret (Or.inl rfl) (Nat.le_of_ble_eq_true rfl) (Nat.le_of_ble_eq_true rfl) (am_tab tk_X10_number 90 rfl) ?_
                refine hQ _ _ ?_
                have hF : frw W_sc S (am_setN (am_setN (am_setN (am_setN (am_setN S 55 2 (x : Int)) 55 4 (x : Int)) 55 10 (zP b E i : Int)) 55 5 2) 55 6 (zP b E i : Int)) := by repeat (first | exact frw.refl _ S | refine frw.setN ?_ (by unfold W_sc; omega))
                have hre : rn isDg b E (zP b E i) = x := by
                  rw [← hrn]
                  refine rn_stop (fun hc => ?_)
                  omega
                have hn1 : zK b E i = 1 := zK_num.mpr ⟨hyes, by omega⟩
                have hzv : zV b E i = nv b (zP b E i) (x - zP b E i) := by unfold zV; rw [hre]
                refine Or.inr ⟨fun hx => by omega, ⟨_, rfl, hnv.1, hnv.2⟩, ZB_of hL hZ.2.1 hF hX ?_ ?_ ?_ (by show 0 ≤ (x : Int) ∧ (x : Int) ≤ _; omega), hF⟩
                · unfold nfK; rw [if_pos hn1]; rfl
                · unfold nfK; rw [if_pos hn1]; decide
                · unfold nfP; rw [if_neg (by omega)]; rfl
            · refine am_aload_n (q := 61) rfl (am_tab tk_X10_number 31 rfl) rfl ?_
              refine am_getR (q := 64) (a := 55) (k := 10) (n := 108) (j := 0) (r := some (56)) (Ls_55 hL) (by decide) rfl (Lr_55_0 hL) (by decide) (Or.inl kf_X10_7) (am_tab tk_X10_number 32 rfl) rfl ?_
              refine am_aload_n (q := 65) rfl (am_tab tk_X10_number 33 rfl) rfl ?_
              refine am_getI (q := 68) (a := 55) (k := 10) (n := 108) (j := 2) (x := (x : Int)) (Ls_55 hL) (by decide) rfl rfl (by decide) (Or.inl kf_X10_254) (am_tab tk_X10_number 34 rfl) rfl ?_
              refine am_iald (q := 69) (a := 56) (n := 1600) (x := (b x)) (Ls_56 hL) (by omega) (by omega) (by rw [show Int.toNat (x : Int) = x by omega]; exact hX.1 x) (am_tab tk_X10_number 35 rfl) rfl ?_
              refine am_callS0 (q := 72) (me2 := M_X10_isDigit) (As := [am_i ((b x))]) (rest := []) (out := [am_i (b2i (isDg (b x)))]) (c_X10_isDigit (am_setN S 55 2 (x : Int)) hL (b x)) ⟨rfl, rfl⟩ ⟨Or.inl km_X10_285, kc_X10_isDigit, kn_X10, kd_X10_isDigit, ⟨(Nat.le_of_ble_eq_true rfl), (Nat.le_of_ble_eq_true rfl)⟩, ⟨(Nat.le_of_ble_eq_true rfl), (Nat.le_of_ble_eq_true rfl)⟩, (Nat.le_of_ble_eq_true rfl)⟩ ki_X10_isDigit rfl rfl (am_tab tk_X10_number 36 rfl) rfl ?_
              refine am_if_eq (q := 75) (t := 129) (am_tab tk_X10_number 37 rfl) (by decide) rfl (fun h72 => ?_) (fun h72 => ?_)
              · refine am_aload_n (q := 130) rfl (am_tab tk_X10_number 70 rfl) rfl ?_
                refine am_aload_n (q := 131) rfl (am_tab tk_X10_number 71 rfl) rfl ?_
                refine am_getI (q := 134) (a := 55) (k := 10) (n := 108) (j := 2) (x := (x : Int)) (Ls_55 hL) (by decide) rfl rfl (by decide) (Or.inl kf_X10_254) (am_tab tk_X10_number 72 rfl) rfl ?_
                refine am_putI (q := 137) (k := 10) (n := 108) (j := 4) (Ls_55 hL) (by decide) rfl (by decide) (Or.inl ⟨kf_X10_268, rfl⟩) (am_tab tk_X10_number 73 rfl) rfl ?_
                refine am_aload_n (q := 138) rfl (am_tab tk_X10_number 74 rfl) rfl ?_
                refine am_iload_n (q := 139) rfl (am_tab tk_X10_number 75 rfl) rfl ?_
                refine am_putI (q := 142) (k := 10) (n := 108) (j := 10) (Ls_55 hL) (by decide) rfl (by decide) (Or.inl ⟨kf_X10_288, rfl⟩) (am_tab tk_X10_number 76 rfl) rfl ?_
                refine am_iload (q := 144) rfl (am_tab tk_X10_number 77 rfl) rfl ?_
                refine am_i2l (q := 145) (am_tab tk_X10_number 78 rfl) rfl ?_
                refine am_iload_n (q := 146) rfl (am_tab tk_X10_number 79 rfl) rfl ?_
                refine am_i2l (q := 147) (am_tab tk_X10_number 80 rfl) rfl ?_
                refine am_iload_n (q := 148) rfl (am_tab tk_X10_number 81 rfl) rfl ?_
                refine am_i2l (q := 149) (am_tab tk_X10_number 82 rfl) rfl ?_
                refine am_callS0 (q := 152) (me2 := M_X10_isIn) (As := [am_l (nv b (zP b E i) (x - zP b E i)), am_l lo, am_l hi]) (rest := []) (out := [am_i (if lo ≤ (nv b (zP b E i) (x - zP b E i)) ∧ (nv b (zP b E i) (x - zP b E i)) ≤ hi then 1 else 0)]) (c_X10_isIn (am_setN (am_setN (am_setN S 55 2 (x : Int)) 55 4 (x : Int)) 55 10 (zP b E i : Int)) hL (nv b (zP b E i) (x - zP b E i)) lo hi) ⟨rfl, rfl⟩ ⟨Or.inl km_X10_291, kc_X10_isIn, kn_X10, kd_X10_isIn, ⟨(Nat.le_of_ble_eq_true rfl), (Nat.le_of_ble_eq_true rfl)⟩, ⟨(Nat.le_of_ble_eq_true rfl), (Nat.le_of_ble_eq_true rfl)⟩, (Nat.le_of_ble_eq_true rfl)⟩ ki_X10_isIn rfl rfl (am_tab tk_X10_number 83 rfl) rfl ?_
                refine am_if_ne (q := 155) (t := 161) (am_tab tk_X10_number 84 rfl) (by decide) rfl (fun h152 => ?_) (fun h152 => ?_)
                · replace h152 := b01n h152
                  refine am_iload (q := 163) rfl (am_tab tk_X10_number 89 rfl) rfl ?_
                  refine am_iret (Or.inl rfl) (Nat.le_of_ble_eq_true rfl) (Nat.le_of_ble_eq_true rfl) (am_tab tk_X10_number 90 rfl) ?_
                  refine hQ _ _ ?_
                  have hF : frw W_sc S (am_setN (am_setN (am_setN S 55 2 (x : Int)) 55 4 (x : Int)) 55 10 (zP b E i : Int)) := by repeat (first | exact frw.refl _ S | refine frw.setN ?_ (by unfold W_sc; omega))
                  have hre : rn isDg b E (zP b E i) = x := by
                    rw [← hrn]
                    refine rn_stop (fun hc => ?_)
                    rw [b2f h72] at hc; exact absurd hc.2 (by simp)
                  have hn1 : zK b E i = 1 := zK_num.mpr ⟨hyes, by omega⟩
                  have hzv : zV b E i = nv b (zP b E i) (x - zP b E i) := by unfold zV; rw [hre]
                  refine Or.inl ⟨⟨hn1, by rw [hzv]; omega, by rw [hzv]; omega⟩, by rw [hzv], ZS_of hL hZ.2.1 hF (TS_num hn1 (hX.fr hF) hS5 hS.2.2.1 (by rw [hre]; rfl) (by rw [hre]; rfl)), hF, rfl⟩
                · replace h152 := b01z h152
                  refine am_aload_n (q := 156) rfl (am_tab tk_X10_number 85 rfl) rfl ?_
                  refine am_iconst (q := 157) (n := 2) (by decide) (am_tab tk_X10_number 86 rfl) rfl ?_
                  refine am_iload_n (q := 158) rfl (am_tab tk_X10_number 87 rfl) rfl ?_
                  refine am_callV0 (q := 161) (me2 := M_X10_fail) (b := 55) (kb := 10) (nb := 108) (As := [am_i 2, am_i ((zP b E i : Int))]) (rest := []) (out := []) (c_fail0 (am_setN (am_setN (am_setN S 55 2 (x : Int)) 55 4 (x : Int)) 55 10 (zP b E i : Int)) hL 2 (zP b E i : Int) hS5) ⟨rfl, rfl⟩ (Ls_55 hL) (by decide) ⟨Or.inl km_X10_278, kc_X10_fail, kn_X10, kd_X10_fail, ⟨(Nat.le_of_ble_eq_true rfl), (Nat.le_of_ble_eq_true rfl)⟩, ⟨(Nat.le_of_ble_eq_true rfl), (Nat.le_of_ble_eq_true rfl)⟩, (Nat.le_of_ble_eq_true rfl)⟩ ki_X10_fail ks_X10_fail rfl rfl (am_tab tk_X10_number 88 rfl) rfl ?_
                  refine am_iload (q := 163) rfl (am_tab tk_X10_number 89 rfl) rfl ?_
                  refine am_iret (Or.inl rfl) (Nat.le_of_ble_eq_true rfl) (Nat.le_of_ble_eq_true rfl) (am_tab tk_X10_number 90 rfl) ?_
                  refine hQ _ _ ?_
                  have hF : frw W_sc S (am_setN (am_setN (am_setN (am_setN (am_setN S 55 2 (x : Int)) 55 4 (x : Int)) 55 10 (zP b E i : Int)) 55 5 2) 55 6 (zP b E i : Int)) := by repeat (first | exact frw.refl _ S | refine frw.setN ?_ (by unfold W_sc; omega))
                  have hre : rn isDg b E (zP b E i) = x := by
                    rw [← hrn]
                    refine rn_stop (fun hc => ?_)
                    rw [b2f h72] at hc; exact absurd hc.2 (by simp)
                  have hn1 : zK b E i = 1 := zK_num.mpr ⟨hyes, by omega⟩
                  have hzv : zV b E i = nv b (zP b E i) (x - zP b E i) := by unfold zV; rw [hre]
                  refine Or.inr ⟨fun hx => by omega, ⟨_, rfl, hnv.1, hnv.2⟩, ZB_of hL hZ.2.1 hF hX ?_ ?_ ?_ (by show 0 ≤ (x : Int) ∧ (x : Int) ≤ _; omega), hF⟩
                  · unfold nfK; rw [if_pos hn1]; rfl
                  · unfold nfK; rw [if_pos hn1]; decide
                  · unfold nfP; rw [if_neg (by omega)]; rfl
              · refine am_aload_n (q := 76) rfl (am_tab tk_X10_number 38 rfl) rfl ?_
                refine am_getI (q := 79) (a := 55) (k := 10) (n := 108) (j := 2) (x := (x : Int)) (Ls_55 hL) (by decide) rfl rfl (by decide) (Or.inl kf_X10_254) (am_tab tk_X10_number 39 rfl) rfl ?_
                refine am_iload_n (q := 80) rfl (am_tab tk_X10_number 40 rfl) rfl ?_
                refine am_isub (q := 81) (by omega) (am_tab tk_X10_number 41 rfl) rfl ?_
                refine am_iconst (q := 82) (n := 4) (by decide) (am_tab tk_X10_number 42 rfl) rfl ?_
                refine am_icmp_ne (q := 85) (t := 96) (am_tab tk_X10_number 43 rfl) (by decide) rfl (fun h82 => ?_) (fun h82 => ?_)
                · have hdx := b2t h72
                  unfold isDg at hdx
                  simp only [decide_eq_true_eq] at hdx
                  refine am_bipush (q := 98) (n := 10) (by decide) rfl (am_tab tk_X10_number 51 rfl) rfl ?_
                  refine am_iload (q := 100) rfl (am_tab tk_X10_number 52 rfl) rfl ?_
                  refine am_imul (q := 101) (by omega) (am_tab tk_X10_number 53 rfl) rfl ?_
                  refine am_aload_n (q := 102) rfl (am_tab tk_X10_number 54 rfl) rfl ?_
                  refine am_getR (q := 105) (a := 55) (k := 10) (n := 108) (j := 0) (r := some (56)) (Ls_55 hL) (by decide) rfl (Lr_55_0 hL) (by decide) (Or.inl kf_X10_7) (am_tab tk_X10_number 55 rfl) rfl ?_
                  refine am_aload_n (q := 106) rfl (am_tab tk_X10_number 56 rfl) rfl ?_
                  refine am_getI (q := 109) (a := 55) (k := 10) (n := 108) (j := 2) (x := (x : Int)) (Ls_55 hL) (by decide) rfl rfl (by decide) (Or.inl kf_X10_254) (am_tab tk_X10_number 57 rfl) rfl ?_
                  refine am_iald (q := 110) (a := 56) (n := 1600) (x := (b x)) (Ls_56 hL) (by omega) (by omega) (by rw [show Int.toNat (x : Int) = x by omega]; exact hX.1 x) (am_tab tk_X10_number 58 rfl) rfl ?_
                  refine am_iadd (q := 111) (by omega) (am_tab tk_X10_number 59 rfl) rfl ?_
                  refine am_bipush (q := 113) (n := 48) (by decide) rfl (am_tab tk_X10_number 60 rfl) rfl ?_
                  refine am_isub (q := 114) (by omega) (am_tab tk_X10_number 61 rfl) rfl ?_
                  refine am_istore (q := 116) (by decide) (ls2 := [(4, am_i ((((10 * (nv b (zP b E i) (x - zP b E i))) + (b x)) - 48))), (3, am_i ((zP b E i : Int))), (0, am_r 55), (1, am_i lo), (2, am_i hi)]) rfl (am_tab tk_X10_number 62 rfl) rfl ?_
                  refine am_aload_n (q := 117) rfl (am_tab tk_X10_number 63 rfl) rfl ?_
                  refine am_dup (q := 118) rfl (am_tab tk_X10_number 64 rfl) rfl ?_
                  refine am_getI (q := 121) (a := 55) (k := 10) (n := 108) (j := 2) (x := (x : Int)) (Ls_55 hL) (by decide) rfl rfl (by decide) (Or.inl kf_X10_254) (am_tab tk_X10_number 65 rfl) rfl ?_
                  refine am_iconst (q := 122) (n := 1) (by decide) (am_tab tk_X10_number 66 rfl) rfl ?_
                  refine am_iadd (q := 123) (by omega) (am_tab tk_X10_number 67 rfl) rfl ?_
                  refine am_putI (q := 126) (k := 10) (n := 108) (j := 2) (Ls_55 hL) (by decide) rfl (by decide) (Or.inl ⟨kf_X10_254, rfl⟩) (am_tab tk_X10_number 68 rfl) rfl ?_
                  refine am_goto (t := 49) (am_tab tk_X10_number 69 rfl) (by decide) ?_
                  have hdn : ∀ j, j < x + 1 - zP b E i → 48 ≤ b (zP b E i + j) ∧ b (zP b E i + j) ≤ 57 := by
                    intro j hj
                    by_cases hjx : j = x - zP b E i
                    · rw [show zP b E i + j = x by omega]; exact hdx
                    · exact hdg j (by omega)
                  have hne : nv b (zP b E i) (x + 1 - zP b E i) = ((10 * nv b (zP b E i) (x - zP b E i)) + b x) - 48 := by
                    rw [show x + 1 - zP b E i = (x - zP b E i) + 1 by omega]
                    show _ + b (zP b E i + (x - zP b E i)) - 48 = _
                    rw [show zP b E i + (x - zP b E i) = x by omega]
                  rw [← hne]
                  refine am_hp2 (σ1 := am_setN S 55 2 ((x + 1 : Nat) : Int)) ?_ ?_
                  · rw [am_setN_N]; rfl
                  exact am_less (by intro q hq; simp only [List.mem_cons, List.not_mem_nil, or_false] at hq; rcases hq with rfl | rfl | rfl | rfl | rfl <;> simp) (ih49 (x + 1) (by omega) (by omega) (by omega) (by omega) (by rw [← hrn]; exact (rn_step (by omega) (b2t h72)).symm) hdn)
                · refine am_aload_n (q := 86) rfl (am_tab tk_X10_number 44 rfl) rfl ?_
                  refine am_iconst (q := 87) (n := 1) (by decide) (am_tab tk_X10_number 45 rfl) rfl ?_
                  refine am_aload_n (q := 88) rfl (am_tab tk_X10_number 46 rfl) rfl ?_
                  refine am_getI (q := 91) (a := 55) (k := 10) (n := 108) (j := 2) (x := (x : Int)) (Ls_55 hL) (by decide) rfl rfl (by decide) (Or.inl kf_X10_254) (am_tab tk_X10_number 47 rfl) rfl ?_
                  refine am_callV0 (q := 94) (me2 := M_X10_fail) (b := 55) (kb := 10) (nb := 108) (As := [am_i 1, am_i ((x : Int))]) (rest := []) (out := []) (c_fail0 (am_setN S 55 2 (x : Int)) hL 1 (x : Int) hS5) ⟨rfl, rfl⟩ (Ls_55 hL) (by decide) ⟨Or.inl km_X10_278, kc_X10_fail, kn_X10, kd_X10_fail, ⟨(Nat.le_of_ble_eq_true rfl), (Nat.le_of_ble_eq_true rfl)⟩, ⟨(Nat.le_of_ble_eq_true rfl), (Nat.le_of_ble_eq_true rfl)⟩, (Nat.le_of_ble_eq_true rfl)⟩ ki_X10_fail ks_X10_fail rfl rfl (am_tab tk_X10_number 48 rfl) rfl ?_
                  refine am_iconst (q := 95) (n := 0) (by decide) (am_tab tk_X10_number 49 rfl) rfl ?_
                  refine am_iret (Or.inl rfl) (Nat.le_of_ble_eq_true rfl) (Nat.le_of_ble_eq_true rfl) (am_tab tk_X10_number 50 rfl) ?_
                  refine hQ _ _ ?_
                  have hF : frw W_sc S (am_setN (am_setN (am_setN S 55 2 (x : Int)) 55 5 1) 55 6 (x : Int)) := by repeat (first | exact frw.refl _ S | refine frw.setN ?_ (by unfold W_sc; omega))
                  have hrx := rn_rng isDg b (E := E) (x := x + 1) (by omega)
                  have hrs : rn isDg b E x = rn isDg b E (x + 1) := rn_step (by omega) (b2t h72)
                  have hn2 : zK b E i = 2 := zK_lnum.mpr ⟨hyes, by omega⟩
                  refine Or.inr ⟨fun hx => by omega, ⟨0, rfl, by omega, by omega⟩, ZB_of hL hZ.2.1 hF hX ?_ ?_ ?_ (by show 0 ≤ (x : Int) ∧ (x : Int) ≤ _; omega), hF⟩
                  · unfold nfK; rw [if_neg (by omega)]; rfl
                  · unfold nfK; rw [if_neg (by omega)]; decide
                  · unfold nfP; rw [if_pos hn2]; show (x : Int) = _; omega
        refine am_less (by intro q hq; simp only [List.mem_cons, List.not_mem_nil, or_false] at hq; rcases hq with rfl | rfl | rfl | rfl | rfl <;> simp [nv]) (L49 (_ + 1) (zP b E i) (by exact Nat.lt_succ_self _) hzp (Nat.le_refl _) (by omega) rfl (by omega))
      · refine am_aload_n (q := 31) rfl (am_tab tk_X10_number 14 rfl) rfl ?_
        refine am_iconst (q := 32) (n := 1) (by decide) (am_tab tk_X10_number 15 rfl) rfl ?_
        refine am_aload_n (q := 33) rfl (am_tab tk_X10_number 16 rfl) rfl ?_
        refine am_getI (q := 36) (a := 55) (k := 10) (n := 108) (j := 2) (x := (zP b E i : Int)) (Ls_55 hL) (by decide) rfl rfl (by decide) (Or.inl kf_X10_254) (am_tab tk_X10_number 17 rfl) rfl ?_
        refine am_callV0 (q := 39) (me2 := M_X10_fail) (b := 55) (kb := 10) (nb := 108) (As := [am_i 1, am_i ((zP b E i : Int))]) (rest := []) (out := []) (c_fail0 (am_setN S 55 2 (zP b E i : Int)) hL 1 (zP b E i : Int) hS5) ⟨rfl, rfl⟩ (Ls_55 hL) (by decide) ⟨Or.inl km_X10_278, kc_X10_fail, kn_X10, kd_X10_fail, ⟨(Nat.le_of_ble_eq_true rfl), (Nat.le_of_ble_eq_true rfl)⟩, ⟨(Nat.le_of_ble_eq_true rfl), (Nat.le_of_ble_eq_true rfl)⟩, (Nat.le_of_ble_eq_true rfl)⟩ ki_X10_fail ks_X10_fail rfl rfl (am_tab tk_X10_number 18 rfl) rfl ?_
        refine am_iconst (q := 40) (n := 0) (by decide) (am_tab tk_X10_number 19 rfl) rfl ?_
        refine am_iret (Or.inl rfl) (Nat.le_of_ble_eq_true rfl) (Nat.le_of_ble_eq_true rfl) (am_tab tk_X10_number 20 rfl) ?_
        refine hQ _ _ ?_
        have hF : frw W_sc S (am_setN (am_setN (am_setN S 55 2 (zP b E i : Int)) 55 5 1) 55 6 (zP b E i : Int)) := by repeat (first | exact frw.refl _ S | refine frw.setN ?_ (by unfold W_sc; omega))
        have hn1 : ¬ zK b E i = 1 := by
          intro hx
          have h9 := (zK_num.mp hx).1
          exact h9.2.2 (hS.2.2.2.2.2.2.mpr h27.symm)
        have hn2 : ¬ zK b E i = 2 := by
          intro hx
          have h9 := (zK_lnum.mp hx).1
          exact h9.2.2 (hS.2.2.2.2.2.2.mpr h27.symm)
        refine Or.inr ⟨fun hx => hn1 hx.1, ⟨0, rfl, by omega, by omega⟩, ZB_of hL hZ.2.1 hF hX ?_ ?_ ?_ (by show 0 ≤ (zP b E i : Int) ∧ (zP b E i : Int) ≤ _; omega), hF⟩
        · unfold nfK; rw [if_neg hn1]; rfl
        · unfold nfK; rw [if_neg hn1]; decide
        · unfold nfP; rw [if_neg hn2]; rfl
  · exact absurd rfl h4
