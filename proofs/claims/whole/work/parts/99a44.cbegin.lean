theorem n27_fold (b : Nat → Int) (x : Nat) : ∀ n, n27 b x n = ((List.range n).map (fun i => b (x + i) - 96)).foldl (fun a y => 27 * a + y) 0
  | 0 => rfl
  | n + 1 => by
    rw [List.range_succ, List.map_append, List.foldl_append, ← n27_fold b x n]
    show (((27 * n27 b x n) + b (x + n)) - 97) + 1 = 27 * n27 b x n + (b (x + n) - 96)
    omega
theorem fr32 : ∀ (l : List Int) (z : Int), l.foldr (fun y a => 32 * a + y) z = l.foldr (fun y a => 32 * a + y) 0 + z * ((2 ^ (5 * l.length) : Nat) : Int)
  | [], z => by show z = 0 + z * 1; omega
  | y :: l, z => by
    show 32 * l.foldr (fun y a => 32 * a + y) z + y = 32 * l.foldr (fun y a => 32 * a + y) 0 + y + z * ((2 ^ (5 * (l.length + 1)) : Nat) : Int)
    rw [fr32 l z, show 5 * (l.length + 1) = 5 * l.length + 5 by omega, Nat.pow_add, Int.natCast_mul]
    have : z * (((2 ^ (5 * l.length) : Nat) : Int) * ((2 ^ 5 : Nat) : Int)) = 32 * (z * ((2 ^ (5 * l.length) : Nat) : Int)) := by
      rw [show ((2 ^ 5 : Nat) : Int) = 32 from rfl, ← Int.mul_assoc, Int.mul_comm]
    rw [this]
    omega
theorem ltV_fold (b : Nat → Int) (x : Nat) : ∀ n, ltV b x n = ((List.range n).map (fun i => b (x + i) - 96)).foldr (fun y a => 32 * a + y) 0
  | 0 => rfl
  | n + 1 => by
    rw [List.range_succ, List.map_append, List.foldr_append]
    show ltV b x n + (b (x + n) - 96) * ((2 ^ (5 * n) : Nat) : Int) = List.foldr (fun y a => 32 * a + y) (32 * 0 + (b (x + n) - 96)) _
    rw [fr32 _ (32 * 0 + (b (x + n) - 96)), ← ltV_fold b x n, List.length_map, List.length_range]
    rw [show 32 * 0 + (b (x + n) - 96) = b (x + n) - 96 by omega]
theorem nm_lt {b : Nat → Int} {x n : Nat} (hn : n ≤ 6) (h : ∀ j, x ≤ j → j < x + n → 97 ≤ b j ∧ b j ≤ 122) : nmR (ltV b x n) (n27 b x n) := by
  refine ⟨(List.range n).map (fun i => b (x + i) - 96), by simpa using hn, fun y hy => ?_, n27_fold b x n, ltV_fold b x n⟩
  obtain ⟨i, hi, rfl⟩ := List.mem_map.mp hy
  have := h (x + i) (by omega) (by have := List.mem_range.mp hi; omega)
  omega
theorem wl_q : ∀ w : Fin 33, 27 ≤ w.val → (WL.getD w.val []).length ≤ 6 := by decide +kernel
theorem TKv_cV (b : Nat → Int) (E M : Nat) : TKv b E (cV b E) M := fun i hi => by
  refine ⟨fun h => ?_, fun h => ?_⟩
  · obtain ⟨⟨h1, h2, h3⟩, h4⟩ := zK_num.mp h
    have hl : ¬ isL (b (zP b E i)) = true := fun h => by have := isL_iff.mp h; have := isDg_iff.mp h2; omega
    unfold cV cVp zV
    rw [if_pos h1, if_neg hl, if_pos h2, show min (rn isDg b E (zP b E i) - zP b E i) 4 = rn isDg b E (zP b E i) - zP b E i by omega]
  · by_cases hc : zP b E i < E ∧ isL (b (zP b E i)) = true ∧ ¬ zT b E i = true
    · obtain ⟨h1, h2, h3⟩ := hc
      have hk := zK_let h1 h2 h3
      have hr := rn_rng isL b (show zP b E i ≤ E by omega)
      have hwr := wkI_r b (zP b E i) (rn isL b E (zP b E i))
      have hlen : rn isL b E (zP b E i) - zP b E i ≤ 6 := by
        by_cases hw : wkI b (zP b E i) (rn isL b E (zP b E i)) = -1
        · rw [if_pos hw] at hk
          by_cases h6 : 6 < rn isL b E (zP b E i) - zP b E i
          · rw [if_pos h6] at hk
            unfold okN at h; omega
          · omega
        · rw [if_neg hw] at hk
          unfold okN at h
          have hg := firstQ_get (g := fun w => mW b (zP b E i) (rn isL b E (zP b E i)) (WL.getD w [])) (n := 33) (show 0 ≤ wkI b (zP b E i) (rn isL b E (zP b E i)) by omega)
          obtain ⟨w, hw1, hw2, hw3⟩ : ∃ w, w < 33 ∧ 27 ≤ w ∧ mW b (zP b E i) (rn isL b E (zP b E i)) (WL.getD w []) = true := ⟨_, hg.2, by show 27 ≤ (wkI b (zP b E i) (rn isL b E (zP b E i))).toNat; omega, hg.1⟩
          have hq := wl_q ⟨w, hw1⟩ hw2
          simp only at hq
          unfold mW at hw3
          rw [Bool.and_eq_true] at hw3
          have := of_decide_eq_true hw3.1
          omega
      unfold cV cVp zN
      rw [if_pos h1, if_pos h2, show min (rn isL b E (zP b E i) - zP b E i) 6 = rn isL b E (zP b E i) - zP b E i by omega]
      exact nm_lt hlen (fun j h4 h5 => isL_iff.mp (rn_in (p := isL) (b := b) (E := E) (x := zP b E i) (by omega) j h4 (by omega)))
    · have := zK_nlet hc
      unfold okN at h; omega
theorem c_passS (b : Nat → Int) (E : Nat) (cv : Nat → Int) (σ : am_H) (hL : lay σ)  (M : Nat) (hT : TKc b E cv M σ) (h3 : σ.2.1 27 3 = -1) (h8 : σ.2.1 27 8 = 0) (h9 : σ.2.1 27 9 = -1) : am_met M_X4_pass [am_r 27, am_i 1, am_i 0] σ (fun r σ' => r = none ∧ RZ b E cv σ' (.inl 0) ∧ frw W_rz σ σ') := by
  refine am_qq (fun Q hQ => ?_)
  refine am_enter (show plainFor yX4_pass = true by decide +kernel) rfl (Nat.le_of_ble_eq_true rfl) (fun _ _ _ => trivial) ?_
  have hdec := MK_dec hT (show 0 ≤ M by omega)
  have hM16 := hT.2.1.1
  have hr9 := hT.2.2.2.1 0 (by omega)
  have hzz := zP_rng b E 0
  have hE16 := hT.2.1.2
  refine am_iload_n (q := 1) rfl (am_tab tk_X4_pass 0 rfl) rfl ?_
  refine am_if_ne (q := 4) (t := 54) (am_tab tk_X4_pass 1 rfl) (by decide) rfl (fun h1 => ?_) (fun h1 => ?_)
  · refine am_aload_n (q := 55) rfl (am_tab tk_X4_pass 25 rfl) rfl ?_
    refine am_getI (q := 58) (a := 27) (k := 4) (n := 13) (j := 3) (x := (-1)) (Ls_27 hL) (by decide) rfl h3 (by decide) (Or.inl kf_X4_90) (am_tab tk_X4_pass 26 rfl) rfl ?_
    refine am_iconst (q := 59) (n := 1) (by decide) (am_tab tk_X4_pass 27 rfl) rfl ?_
    refine am_iadd (q := 60) (by omega) (am_tab tk_X4_pass 28 rfl) rfl ?_
    refine am_aload_n (q := 61) rfl (am_tab tk_X4_pass 29 rfl) rfl ?_
    refine am_getR (q := 64) (a := 27) (k := 4) (n := 13) (j := 0) (r := some (30)) (Ls_27 hL) (by decide) rfl (Lr_27_0 hL) (by decide) (Or.inl kf_X4_25) (am_tab tk_X4_pass 30 rfl) rfl ?_
    refine am_getI (q := 67) (a := 30) (k := 7) (n := 3) (j := 2) (x := ((M : Int) + 1)) (Ls_30 hL) (by decide) rfl hT.1 (by decide) (Or.inr kf_X4_93) (am_tab tk_X4_pass 31 rfl) rfl ?_
    refine am_icmp_ge (q := 70) (t := 125) (am_tab tk_X4_pass 32 rfl) (by decide) rfl (fun h67 => ?_) (fun h67 => ?_)
    · exact absurd h67 (by omega)
    · refine am_aload_n (q := 71) rfl (am_tab tk_X4_pass 33 rfl) rfl ?_
      refine am_dup (q := 72) rfl (am_tab tk_X4_pass 34 rfl) rfl ?_
      refine am_getI (q := 75) (a := 27) (k := 4) (n := 13) (j := 3) (x := (-1)) (Ls_27 hL) (by decide) rfl h3 (by decide) (Or.inl kf_X4_90) (am_tab tk_X4_pass 35 rfl) rfl ?_
      refine am_iconst (q := 76) (n := 1) (by decide) (am_tab tk_X4_pass 36 rfl) rfl ?_
      refine am_iadd (q := 77) (by omega) (am_tab tk_X4_pass 37 rfl) rfl ?_
      refine am_putI (q := 80) (k := 4) (n := 13) (j := 3) (Ls_27 hL) (by decide) rfl (by decide) (Or.inl ⟨kf_X4_90, rfl⟩) (am_tab tk_X4_pass 38 rfl) rfl ?_
      refine am_aload_n (q := 81) rfl (am_tab tk_X4_pass 39 rfl) rfl ?_
      refine am_getR (q := 84) (a := 27) (k := 4) (n := 13) (j := 0) (r := some (30)) (Ls_27 hL) (by decide) rfl (Lr_27_0 hL) (by decide) (Or.inl kf_X4_25) (am_tab tk_X4_pass 40 rfl) rfl ?_
      refine am_getR (q := 87) (a := 30) (k := 7) (n := 3) (j := 1) (r := some (31)) (Ls_30 hL) (by decide) rfl (Lr_30_1 hL) (by decide) (Or.inr kf_X4_96) (am_tab tk_X4_pass 41 rfl) rfl ?_
      refine am_aload_n (q := 88) rfl (am_tab tk_X4_pass 42 rfl) rfl ?_
      refine am_getI (q := 91) (a := 27) (k := 4) (n := 13) (j := 3) (x := ((-1) + 1)) (Ls_27 hL) (by decide) rfl rfl (by decide) (Or.inl kf_X4_90) (am_tab tk_X4_pass 43 rfl) rfl ?_
      refine am_lald (q := 92) (a := 31) (n := 1601) (x := (MK b E cv 0)) (Ls_31 hL) (by omega) (by omega) (by rw [show Int.toNat ((-1 : Int) + 1) = 0 by decide]; exact hT.2.2.1 0 (by omega)) (am_tab tk_X4_pass 44 rfl) rfl ?_
      refine am_lstore_n (q := 93) (by decide) (ls2 := [(3, am_l ((MK b E cv 0))), (0, am_r 27), (1, am_i 1), (2, am_i 0)]) rfl (am_tab tk_X4_pass 45 rfl) rfl ?_
      refine am_aload_n (q := 94) rfl (am_tab tk_X4_pass 46 rfl) rfl ?_
      refine am_lload_n (q := 95) rfl (am_tab tk_X4_pass 47 rfl) rfl ?_
      refine am_ldc2 (q := 98) (n := 255) (by decide) kk_X4_100 (am_tab tk_X4_pass 48 rfl) rfl ?_
      refine am_land (q := 99) (am_tab tk_X4_pass 49 rfl) rfl ?_
      refine am_l2i (q := 100) (y := (zK b E 0)) (by rw [show ao_land (MK b E cv 0) 255 = (MK b E cv 0) % 256 from landk 8 (by decide) hdec.1.1 hdec.1.2, hdec.2.1]; exact (l2i_eq (by omega)).symm) (am_tab tk_X4_pass 50 rfl) rfl ?_
      refine am_putI (q := 103) (k := 4) (n := 13) (j := 4) (Ls_27 hL) (by decide) rfl (by decide) (Or.inl ⟨kf_X4_45, rfl⟩) (am_tab tk_X4_pass 51 rfl) rfl ?_
      refine am_aload_n (q := 104) rfl (am_tab tk_X4_pass 52 rfl) rfl ?_
      refine am_lload_n (q := 105) rfl (am_tab tk_X4_pass 53 rfl) rfl ?_
      refine am_bipush (q := 107) (n := 8) (by decide) rfl (am_tab tk_X4_pass 54 rfl) rfl ?_
      refine am_lshr (q := 108) (am_tab tk_X4_pass 55 rfl) rfl ?_
      refine am_ldc2 (q := 111) (n := 16777215) (by decide) kk_X4_102 (am_tab tk_X4_pass 56 rfl) rfl ?_
      refine am_land (q := 112) (am_tab tk_X4_pass 57 rfl) rfl ?_
      refine am_l2i (q := 113) (y := (zP b E 0 : Int)) (by rw [show ao_lshr (MK b E cv 0) 8 = (MK b E cv 0) / 256 from lshrk 8 (Or.inl rfl) hdec.1.1 hdec.1.2, show ao_land ((MK b E cv 0) / 256) 16777215 = (MK b E cv 0) / 256 % 16777216 from landk 24 (by decide) (by omega) (by omega), hdec.2.2.1]; exact (l2i_eq (by omega)).symm) (am_tab tk_X4_pass 58 rfl) rfl ?_
      refine am_putI (q := 116) (k := 4) (n := 13) (j := 5) (Ls_27 hL) (by decide) rfl (by decide) (Or.inl ⟨kf_X4_55, rfl⟩) (am_tab tk_X4_pass 59 rfl) rfl ?_
      refine am_aload_n (q := 117) rfl (am_tab tk_X4_pass 60 rfl) rfl ?_
      refine am_lload_n (q := 118) rfl (am_tab tk_X4_pass 61 rfl) rfl ?_
      refine am_bipush (q := 120) (n := 32) (by decide) rfl (am_tab tk_X4_pass 62 rfl) rfl ?_
      refine am_lshr (q := 121) (am_tab tk_X4_pass 63 rfl) rfl ?_
      refine am_l2i (q := 122) (y := (cv 0)) (by rw [show ao_lshr (MK b E cv 0) 32 = (MK b E cv 0) / 4294967296 from lshrk 32 (Or.inr rfl) hdec.1.1 hdec.1.2, hdec.2.2.2]; exact (l2i_eq (by omega)).symm) (am_tab tk_X4_pass 64 rfl) rfl ?_
      refine am_putI (q := 125) (k := 4) (n := 13) (j := 6) (Ls_27 hL) (by decide) rfl (by decide) (Or.inl ⟨kf_X4_104, rfl⟩) (am_tab tk_X4_pass 65 rfl) rfl ?_
      refine am_vret rfl (Nat.le_of_ble_eq_true rfl) (Nat.le_of_ble_eq_true rfl) (am_tab tk_X4_pass 66 rfl) ?_
      refine hQ _ _ ?_
      exact ⟨rfl, ⟨rfl, rfl, rfl, rfl, h8, h9⟩, ((((frw.refl W_rz σ).setN (by unfold W_rz; omega)).setN (by unfold W_rz; omega)).setN (by unfold W_rz; omega)).setN (by unfold W_rz; omega)⟩
  · exact absurd h1 (by decide)
def W_bg (a j : Nat) : Prop := W_tk a j ∨ (a = 27 ∧ 3 ≤ j ∧ j ≤ 9)
theorem c_begin (b : Nat → Int) (E : Nat) (σ : am_H) (hL : lay σ) (hT : TP b E σ)   : am_met M_X4_begin [am_r 27] σ (fun r σ' => r = none ∧ ∃ M, TKc b E (cV b E) M σ' ∧ RZ b E (cV b E) σ' (.inl 0) ∧ σ'.2.1 27 7 = 0 ∧ frw W_bg σ σ') := by
  refine am_qq (fun Q hQ => ?_)
  refine am_enter (show plainFor yX4_begin = true by decide +kernel) rfl (Nat.le_of_ble_eq_true rfl) (fun _ _ _ => trivial) ?_
  have hE := hT.2.2.1
  refine am_aload_n (q := 1) rfl (am_tab tk_X4_begin 0 rfl) rfl ?_
  refine am_getR (q := 4) (a := 27) (k := 4) (n := 13) (j := 0) (r := some (30)) (Ls_27 hL) (by decide) rfl (Lr_27_0 hL) (by decide) (Or.inl kf_X4_25) (am_tab tk_X4_begin 1 rfl) rfl ?_
  refine am_callVr (q := 7) (me2 := M_X7_cut) (b := 30) (kb := 7) (nb := 3) (As := []) (rest := []) (c_cut b E σ hL hT) ⟨rfl, rfl⟩ (Ls_30 hL) (by decide) ⟨Or.inr km_X4_81, kc_X7_cut, kn_X7, kd_X7_cut, ⟨(Nat.le_of_ble_eq_true rfl), (Nat.le_of_ble_eq_true rfl)⟩, ⟨(Nat.le_of_ble_eq_true rfl), (Nat.le_of_ble_eq_true rfl)⟩, (Nat.le_of_ble_eq_true rfl)⟩ ki_X7_cut ks_X7_cut rfl (am_tab tk_X4_begin 2 rfl) rfl ?_
  rintro r T1 ⟨rfl, M, hM, hc1, hm1, hk6, hn6, hF1⟩
  refine am_aload_n (q := 8) rfl (am_tab tk_X4_begin 3 rfl) rfl ?_
  refine am_iconst (q := 9) (n := 0) (by decide) (am_tab tk_X4_begin 4 rfl) rfl ?_
  refine am_putI (q := 12) (k := 4) (n := 13) (j := 7) (Ls_27 (hF1.L hL)) (by decide) rfl (by decide) (Or.inl ⟨kf_X4_84, rfl⟩) (am_tab tk_X4_begin 5 rfl) rfl ?_
  refine am_aload_n (q := 13) rfl (am_tab tk_X4_begin 6 rfl) rfl ?_
  refine am_iconst (q := 14) (n := 0) (by decide) (am_tab tk_X4_begin 7 rfl) rfl ?_
  refine am_putI (q := 17) (k := 4) (n := 13) (j := 8) (Ls_27 (hF1.L hL)) (by decide) rfl (by decide) (Or.inl ⟨kf_X4_62, rfl⟩) (am_tab tk_X4_begin 8 rfl) rfl ?_
  refine am_aload_n (q := 18) rfl (am_tab tk_X4_begin 9 rfl) rfl ?_
  refine am_iconst (q := 19) (n := (-1)) (by decide) (am_tab tk_X4_begin 10 rfl) rfl ?_
  refine am_putI (q := 22) (k := 4) (n := 13) (j := 9) (Ls_27 (hF1.L hL)) (by decide) rfl (by decide) (Or.inl ⟨kf_X4_87, rfl⟩) (am_tab tk_X4_begin 11 rfl) rfl ?_
  refine am_aload_n (q := 23) rfl (am_tab tk_X4_begin 12 rfl) rfl ?_
  refine am_iconst (q := 24) (n := (-1)) (by decide) (am_tab tk_X4_begin 13 rfl) rfl ?_
  refine am_putI (q := 27) (k := 4) (n := 13) (j := 3) (Ls_27 (hF1.L hL)) (by decide) rfl (by decide) (Or.inl ⟨kf_X4_90, rfl⟩) (am_tab tk_X4_begin 14 rfl) rfl ?_
  have hF9 : frw W_bg σ (am_setN (am_setN (am_setN (am_setN T1 27 7 0) 27 8 0) 27 9 (-1)) 27 3 (-1)) := ((((hF1.mono (fun a j h => (Or.inl h : W_bg a j))).setN (Or.inr ⟨rfl, by decide, by decide⟩)).setN (Or.inr ⟨rfl, by decide, by decide⟩)).setN (Or.inr ⟨rfl, by decide, by decide⟩)).setN (Or.inr ⟨rfl, by decide, by decide⟩)
  have hTK : TKc b E (cV b E) M (am_setN (am_setN (am_setN (am_setN T1 27 7 0) 27 8 0) 27 9 (-1)) 27 3 (-1)) := ⟨hc1, ⟨by omega, hE⟩, fun j hj => (hm1 j hj).1, fun j hj => (hm1 j hj).2, hk6, hn6⟩
  refine am_aload_n (q := 28) rfl (am_tab tk_X4_begin 15 rfl) rfl ?_
  refine am_iconst (q := 29) (n := 1) (by decide) (am_tab tk_X4_begin 16 rfl) rfl ?_
  refine am_iconst (q := 30) (n := 0) (by decide) (am_tab tk_X4_begin 17 rfl) rfl ?_
  refine am_callVr (q := 33) (me2 := M_X4_pass) (b := 27) (kb := 4) (nb := 13) (As := [am_i 1, am_i 0]) (rest := []) (c_passS b E (cV b E) (am_setN (am_setN (am_setN (am_setN T1 27 7 0) 27 8 0) 27 9 (-1)) 27 3 (-1)) (hF9.L hL) M hTK rfl rfl rfl) ⟨rfl, rfl⟩ (Ls_27 (hF1.L hL)) (by decide) ⟨Or.inl km_X4_71, kc_X4_pass, kn_X4, kd_X4_pass, ⟨(Nat.le_of_ble_eq_true rfl), (Nat.le_of_ble_eq_true rfl)⟩, ⟨(Nat.le_of_ble_eq_true rfl), (Nat.le_of_ble_eq_true rfl)⟩, (Nat.le_of_ble_eq_true rfl)⟩ ki_X4_pass ks_X4_pass rfl (am_tab tk_X4_begin 18 rfl) rfl ?_
  rintro r T2 ⟨rfl, hZ2, hG2⟩
  refine am_vret rfl (Nat.le_of_ble_eq_true rfl) (Nat.le_of_ble_eq_true rfl) (am_tab tk_X4_begin 19 rfl) ?_
  refine hQ _ _ ?_
  have hF2 : frw W_bg σ T2 := hF9.trans (hG2.mono (fun a j h => by unfold W_rz at h; unfold W_bg; omega))
  refine ⟨rfl, M, ⟨(hG2.2.2 30 2 (by unfold W_rz; omega)).trans hTK.1, hTK.2.1, fun j hj => (hG2.2.2 31 j (by unfold W_rz; omega)).trans (hTK.2.2.1 j hj), hTK.2.2.2⟩, hZ2, (hG2.2.2 27 7 (by unfold W_rz; omega)).trans rfl, hF2⟩
