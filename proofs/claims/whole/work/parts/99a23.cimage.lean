set_option maxRecDepth 100000 in
theorem c_paint_3 (σ : am_H) (hC : CI 3 σ)  (hZ : ZR (σ.2.1 85 9) (fun j => σ.2.1 96 j)) (hm20 : 0 ≤ stM σ 20 ∧ stM σ 20 ≤ 30) (hm111 : 0 ≤ stM σ 111 ∧ stM σ 111 ≤ 30) : am_met M_X3_paint [am_r 49, am_r 3, am_r 32] σ (fun r σ' => r = none ∧ IC σ (imL σ) σ') := by
  refine am_qq (fun Q hQ => ?_)
  refine am_enter (show plainFor yX3_paint = true by decide +kernel) rfl (Nat.le_of_ble_eq_true rfl) (fun _ _ _ => trivial) ?_
  have hL := hC.G.L
  have hN : (pN σ : Int) = σ.2.1 85 5 := by have := hC.G.R.P; unfold pN; omega
  have h8 : pN σ ≤ 8 := by have := hC.G.R.P; unfold pN; omega
  have hb20 := hC.G.R.told
  have hb111 := hC.G.R.brib
  have hy := hC.G.R.year
  have hd := hC.G.R.day
  have hY := hC.G.R.Y
  have hfe := hC.G.R.feast
  have hco := hC.G.R.coins
  have hag := hC.G.R.ago
  have hde := hC.G.R.dead
  have q0 : 0 ≤ Int.tdiv (σ.2.1 96 0) 256 ∧ Int.tdiv (σ.2.1 96 0) 256 ≤ 255 := by rw [Int.tdiv_eq_ediv_of_nonneg (by omega)]; omega
  have q1 : 0 ≤ Int.tmod (σ.2.1 96 0) 256 ∧ Int.tmod (σ.2.1 96 0) 256 ≤ 255 := by rw [Int.tmod_eq_emod_of_nonneg (by omega)]; omega
  have q2 : 0 ≤ Int.tdiv (σ.2.1 96 3) 65536 ∧ Int.tdiv (σ.2.1 96 3) 65536 ≤ 255 := by rw [Int.tdiv_eq_ediv_of_nonneg (by omega)]; omega
  have q3 : 0 ≤ Int.tmod (σ.2.1 96 3) 256 ∧ Int.tmod (σ.2.1 96 3) 256 ≤ 255 := by rw [Int.tmod_eq_emod_of_nonneg (by omega)]; omega
  have q4 : 0 ≤ Int.tdiv (σ.2.1 96 3) 256 ∧ Int.tdiv (σ.2.1 96 3) 256 ≤ 4000 := by rw [Int.tdiv_eq_ediv_of_nonneg (by omega)]; omega
  have q9 : 0 ≤ Int.tmod (Int.tdiv (σ.2.1 96 3) 256) 256 ∧ Int.tmod (Int.tdiv (σ.2.1 96 3) 256) 256 ≤ 255 := by
    have h1 : 0 ≤ Int.tdiv (σ.2.1 96 3) 256 := by rw [Int.tdiv_eq_ediv_of_nonneg (by omega)]; omega
    rw [Int.tmod_eq_emod_of_nonneg h1]; omega
  refine am_aload_n (q := 1) rfl (am_tab tk_X3_paint 0 rfl) rfl ?_
  refine am_iconst (q := 2) (n := 0) (by decide) (am_tab tk_X3_paint 1 rfl) rfl ?_
  refine am_putI (q := 5) (k := 3) (n := 2) (j := 1) (Ls_49 hL) (by decide) rfl (by decide) (Or.inl ⟨kf_X3_15, rfl⟩) (am_tab tk_X3_paint 2 rfl) rfl ?_
  have hI0 : IC σ [] (am_setN σ 49 1 0) := ⟨(frw.refl _ σ).setN (by unfold W_ic; omega), rfl, by intro i hi; simp at hi, by simp⟩
  refine am_aload_n (q := 6) rfl (am_tab tk_X3_paint 3 rfl) rfl ?_
  refine am_aload_n (q := 7) rfl (am_tab tk_X3_paint 4 rfl) rfl ?_
  refine am_getI (q := 10) (a := 32) (k := 1) (n := 11) (j := 0) (x := (σ.2.1 96 0)) (Ls_32 hL) (by decide) rfl ((hI0.1.2.2 32 0 (by unfold W_ic; omega)).trans hC.F.1.1) (by decide) (Or.inr kf_X3_19) (am_tab tk_X3_paint 5 rfl) rfl ?_
  refine am_sipush (q := 13) (n := 256) (by decide) rfl (am_tab tk_X3_paint 6 rfl) rfl ?_
  refine am_idiv (q := 14) (by omega) (by omega) (am_tab tk_X3_paint 7 rfl) rfl ?_
  refine am_callVr (q := 17) (me2 := M_X3_add) (b := 49) (kb := 3) (nb := 2) (As := [am_i ((Int.tdiv (σ.2.1 96 0) 256))]) (rest := []) (c_pAdd σ hL ([]) (am_setN σ 49 1 0) hI0 (Int.tdiv (σ.2.1 96 0) 256) (by omega) (by simp only [List.length_append, List.length_cons, List.length_nil]; omega)) ⟨rfl, rfl⟩ (Ls_49 hL) (by decide) ⟨Or.inl km_X3_24, kc_X3_add, kn_X3, kd_X3_add, ⟨(Nat.le_of_ble_eq_true rfl), (Nat.le_of_ble_eq_true rfl)⟩, ⟨(Nat.le_of_ble_eq_true rfl), (Nat.le_of_ble_eq_true rfl)⟩, (Nat.le_of_ble_eq_true rfl)⟩ ki_X3_add ks_X3_add rfl (am_tab tk_X3_paint 8 rfl) rfl ?_
  rintro r I14 ⟨rfl, hI14⟩
  refine am_st (st2 := []) rfl ?_
  refine am_aload_n (q := 18) rfl (am_tab tk_X3_paint 9 rfl) rfl ?_
  refine am_aload_n (q := 19) rfl (am_tab tk_X3_paint 10 rfl) rfl ?_
  refine am_getI (q := 22) (a := 32) (k := 1) (n := 11) (j := 0) (x := (σ.2.1 96 0)) (Ls_32 (hI14.L hL)) (by decide) rfl ((hI14.1.2.2 32 0 (by unfold W_ic; omega)).trans hC.F.1.1) (by decide) (Or.inr kf_X3_19) (am_tab tk_X3_paint 11 rfl) rfl ?_
  refine am_sipush (q := 25) (n := 256) (by decide) rfl (am_tab tk_X3_paint 12 rfl) rfl ?_
  refine am_irem (q := 26) (by omega) (by omega) (am_tab tk_X3_paint 13 rfl) rfl ?_
  refine am_callVr (q := 29) (me2 := M_X3_add) (b := 49) (kb := 3) (nb := 2) (As := [am_i ((Int.tmod (σ.2.1 96 0) 256))]) (rest := []) (c_pAdd σ hL ([] ++ [(Int.tdiv (σ.2.1 96 0) 256)]) I14 hI14 (Int.tmod (σ.2.1 96 0) 256) (by omega) (by simp only [List.length_append, List.length_cons, List.length_nil]; omega)) ⟨rfl, rfl⟩ (Ls_49 (hI14.L hL)) (by decide) ⟨Or.inl km_X3_24, kc_X3_add, kn_X3, kd_X3_add, ⟨(Nat.le_of_ble_eq_true rfl), (Nat.le_of_ble_eq_true rfl)⟩, ⟨(Nat.le_of_ble_eq_true rfl), (Nat.le_of_ble_eq_true rfl)⟩, (Nat.le_of_ble_eq_true rfl)⟩ ki_X3_add ks_X3_add rfl (am_tab tk_X3_paint 14 rfl) rfl ?_
  rintro r I26 ⟨rfl, hI26⟩
  refine am_st (st2 := []) rfl ?_
  refine am_aload_n (q := 30) rfl (am_tab tk_X3_paint 15 rfl) rfl ?_
  refine am_aload_n (q := 31) rfl (am_tab tk_X3_paint 16 rfl) rfl ?_
  refine am_getI (q := 34) (a := 32) (k := 1) (n := 11) (j := 1) (x := (σ.2.1 96 1)) (Ls_32 (hI26.L hL)) (by decide) rfl ((hI26.1.2.2 32 1 (by unfold W_ic; omega)).trans hC.F.1.2.1) (by decide) (Or.inr kf_X3_28) (am_tab tk_X3_paint 17 rfl) rfl ?_
  refine am_callVr (q := 37) (me2 := M_X3_add) (b := 49) (kb := 3) (nb := 2) (As := [am_i ((σ.2.1 96 1))]) (rest := []) (c_pAdd σ hL ([] ++ [(Int.tdiv (σ.2.1 96 0) 256)] ++ [(Int.tmod (σ.2.1 96 0) 256)]) I26 hI26 (σ.2.1 96 1) (by omega) (by simp only [List.length_append, List.length_cons, List.length_nil]; omega)) ⟨rfl, rfl⟩ (Ls_49 (hI26.L hL)) (by decide) ⟨Or.inl km_X3_24, kc_X3_add, kn_X3, kd_X3_add, ⟨(Nat.le_of_ble_eq_true rfl), (Nat.le_of_ble_eq_true rfl)⟩, ⟨(Nat.le_of_ble_eq_true rfl), (Nat.le_of_ble_eq_true rfl)⟩, (Nat.le_of_ble_eq_true rfl)⟩ ki_X3_add ks_X3_add rfl (am_tab tk_X3_paint 18 rfl) rfl ?_
  rintro r I34 ⟨rfl, hI34⟩
  refine am_st (st2 := []) rfl ?_
  refine am_aload_n (q := 38) rfl (am_tab tk_X3_paint 19 rfl) rfl ?_
  refine am_aload_n (q := 39) rfl (am_tab tk_X3_paint 20 rfl) rfl ?_
  refine am_getI (q := 42) (a := 32) (k := 1) (n := 11) (j := 2) (x := (σ.2.1 96 2)) (Ls_32 (hI34.L hL)) (by decide) rfl ((hI34.1.2.2 32 2 (by unfold W_ic; omega)).trans hC.F.1.2.2.1) (by decide) (Or.inr kf_X3_31) (am_tab tk_X3_paint 21 rfl) rfl ?_
  refine am_callVr (q := 45) (me2 := M_X3_add) (b := 49) (kb := 3) (nb := 2) (As := [am_i ((σ.2.1 96 2))]) (rest := []) (c_pAdd σ hL ([] ++ [(Int.tdiv (σ.2.1 96 0) 256)] ++ [(Int.tmod (σ.2.1 96 0) 256)] ++ [(σ.2.1 96 1)]) I34 hI34 (σ.2.1 96 2) (by omega) (by simp only [List.length_append, List.length_cons, List.length_nil]; omega)) ⟨rfl, rfl⟩ (Ls_49 (hI34.L hL)) (by decide) ⟨Or.inl km_X3_24, kc_X3_add, kn_X3, kd_X3_add, ⟨(Nat.le_of_ble_eq_true rfl), (Nat.le_of_ble_eq_true rfl)⟩, ⟨(Nat.le_of_ble_eq_true rfl), (Nat.le_of_ble_eq_true rfl)⟩, (Nat.le_of_ble_eq_true rfl)⟩ ki_X3_add ks_X3_add rfl (am_tab tk_X3_paint 22 rfl) rfl ?_
  rintro r I42 ⟨rfl, hI42⟩
  refine am_st (st2 := []) rfl ?_
  refine am_aload_n (q := 46) rfl (am_tab tk_X3_paint 23 rfl) rfl ?_
  refine am_aload_n (q := 47) rfl (am_tab tk_X3_paint 24 rfl) rfl ?_
  refine am_getI (q := 50) (a := 32) (k := 1) (n := 11) (j := 3) (x := (σ.2.1 96 3)) (Ls_32 (hI42.L hL)) (by decide) rfl ((hI42.1.2.2 32 3 (by unfold W_ic; omega)).trans hC.F.1.2.2.2) (by decide) (Or.inr kf_X3_34) (am_tab tk_X3_paint 25 rfl) rfl ?_
  refine am_ldc (q := 52) (n := 65536) (by decide) kk_X3_37 (am_tab tk_X3_paint 26 rfl) rfl ?_
  refine am_idiv (q := 53) (by omega) (by omega) (am_tab tk_X3_paint 27 rfl) rfl ?_
  refine am_callVr (q := 56) (me2 := M_X3_add) (b := 49) (kb := 3) (nb := 2) (As := [am_i ((Int.tdiv (σ.2.1 96 3) 65536))]) (rest := []) (c_pAdd σ hL ([] ++ [(Int.tdiv (σ.2.1 96 0) 256)] ++ [(Int.tmod (σ.2.1 96 0) 256)] ++ [(σ.2.1 96 1)] ++ [(σ.2.1 96 2)]) I42 hI42 (Int.tdiv (σ.2.1 96 3) 65536) (by omega) (by simp only [List.length_append, List.length_cons, List.length_nil]; omega)) ⟨rfl, rfl⟩ (Ls_49 (hI42.L hL)) (by decide) ⟨Or.inl km_X3_24, kc_X3_add, kn_X3, kd_X3_add, ⟨(Nat.le_of_ble_eq_true rfl), (Nat.le_of_ble_eq_true rfl)⟩, ⟨(Nat.le_of_ble_eq_true rfl), (Nat.le_of_ble_eq_true rfl)⟩, (Nat.le_of_ble_eq_true rfl)⟩ ki_X3_add ks_X3_add rfl (am_tab tk_X3_paint 28 rfl) rfl ?_
  rintro r I53 ⟨rfl, hI53⟩
  refine am_st (st2 := []) rfl ?_
  refine am_aload_n (q := 57) rfl (am_tab tk_X3_paint 29 rfl) rfl ?_
  refine am_aload_n (q := 58) rfl (am_tab tk_X3_paint 30 rfl) rfl ?_
  refine am_getI (q := 61) (a := 32) (k := 1) (n := 11) (j := 3) (x := (σ.2.1 96 3)) (Ls_32 (hI53.L hL)) (by decide) rfl ((hI53.1.2.2 32 3 (by unfold W_ic; omega)).trans hC.F.1.2.2.2) (by decide) (Or.inr kf_X3_34) (am_tab tk_X3_paint 31 rfl) rfl ?_
  refine am_sipush (q := 64) (n := 256) (by decide) rfl (am_tab tk_X3_paint 32 rfl) rfl ?_
  refine am_idiv (q := 65) (by omega) (by omega) (am_tab tk_X3_paint 33 rfl) rfl ?_
  refine am_sipush (q := 68) (n := 256) (by decide) rfl (am_tab tk_X3_paint 34 rfl) rfl ?_
  refine am_irem (q := 69) (by omega) (by omega) (am_tab tk_X3_paint 35 rfl) rfl ?_
  refine am_callVr (q := 72) (me2 := M_X3_add) (b := 49) (kb := 3) (nb := 2) (As := [am_i ((Int.tmod (Int.tdiv (σ.2.1 96 3) 256) 256))]) (rest := []) (c_pAdd σ hL ([] ++ [(Int.tdiv (σ.2.1 96 0) 256)] ++ [(Int.tmod (σ.2.1 96 0) 256)] ++ [(σ.2.1 96 1)] ++ [(σ.2.1 96 2)] ++ [(Int.tdiv (σ.2.1 96 3) 65536)]) I53 hI53 (Int.tmod (Int.tdiv (σ.2.1 96 3) 256) 256) (by omega) (by simp only [List.length_append, List.length_cons, List.length_nil]; omega)) ⟨rfl, rfl⟩ (Ls_49 (hI53.L hL)) (by decide) ⟨Or.inl km_X3_24, kc_X3_add, kn_X3, kd_X3_add, ⟨(Nat.le_of_ble_eq_true rfl), (Nat.le_of_ble_eq_true rfl)⟩, ⟨(Nat.le_of_ble_eq_true rfl), (Nat.le_of_ble_eq_true rfl)⟩, (Nat.le_of_ble_eq_true rfl)⟩ ki_X3_add ks_X3_add rfl (am_tab tk_X3_paint 36 rfl) rfl ?_
  rintro r I69 ⟨rfl, hI69⟩
  refine am_st (st2 := []) rfl ?_
  refine am_aload_n (q := 73) rfl (am_tab tk_X3_paint 37 rfl) rfl ?_
  refine am_aload_n (q := 74) rfl (am_tab tk_X3_paint 38 rfl) rfl ?_
  refine am_getI (q := 77) (a := 32) (k := 1) (n := 11) (j := 3) (x := (σ.2.1 96 3)) (Ls_32 (hI69.L hL)) (by decide) rfl ((hI69.1.2.2 32 3 (by unfold W_ic; omega)).trans hC.F.1.2.2.2) (by decide) (Or.inr kf_X3_34) (am_tab tk_X3_paint 39 rfl) rfl ?_
  refine am_sipush (q := 80) (n := 256) (by decide) rfl (am_tab tk_X3_paint 40 rfl) rfl ?_
  refine am_irem (q := 81) (by omega) (by omega) (am_tab tk_X3_paint 41 rfl) rfl ?_
  refine am_callVr (q := 84) (me2 := M_X3_add) (b := 49) (kb := 3) (nb := 2) (As := [am_i ((Int.tmod (σ.2.1 96 3) 256))]) (rest := []) (c_pAdd σ hL ([] ++ [(Int.tdiv (σ.2.1 96 0) 256)] ++ [(Int.tmod (σ.2.1 96 0) 256)] ++ [(σ.2.1 96 1)] ++ [(σ.2.1 96 2)] ++ [(Int.tdiv (σ.2.1 96 3) 65536)] ++ [(Int.tmod (Int.tdiv (σ.2.1 96 3) 256) 256)]) I69 hI69 (Int.tmod (σ.2.1 96 3) 256) (by omega) (by simp only [List.length_append, List.length_cons, List.length_nil]; omega)) ⟨rfl, rfl⟩ (Ls_49 (hI69.L hL)) (by decide) ⟨Or.inl km_X3_24, kc_X3_add, kn_X3, kd_X3_add, ⟨(Nat.le_of_ble_eq_true rfl), (Nat.le_of_ble_eq_true rfl)⟩, ⟨(Nat.le_of_ble_eq_true rfl), (Nat.le_of_ble_eq_true rfl)⟩, (Nat.le_of_ble_eq_true rfl)⟩ ki_X3_add ks_X3_add rfl (am_tab tk_X3_paint 42 rfl) rfl ?_
  rintro r I81 ⟨rfl, hI81⟩
  refine am_st (st2 := []) rfl ?_
  refine am_iconst (q := 85) (n := 0) (by decide) (am_tab tk_X3_paint 43 rfl) rfl ?_
  refine am_istore_n (q := 86) (by decide) (ls2 := [(3, am_i 0), (0, am_r 49), (1, am_r 3), (2, am_r 32)]) rfl (am_tab tk_X3_paint 44 rfl) rfl ?_
  have L86 : ∀ (n86 : Nat) (i : Nat) (S5 : am_H), pN σ - i < n86 → i ≤ pN σ → IC σ ([] ++ [Int.tdiv (σ.2.1 96 0) 256] ++ [Int.tmod (σ.2.1 96 0) 256] ++ [(σ.2.1 96 1)] ++ [(σ.2.1 96 2)] ++ [Int.tdiv (σ.2.1 96 3) 65536] ++ [Int.tmod (Int.tdiv (σ.2.1 96 3) 256) 256] ++ [Int.tmod (σ.2.1 96 3) 256] ++ ppL σ i) S5 → am_wp M_X3_paint Q 0 0 86 [(3, am_i ((i : Int))), (0, am_r 49), (1, am_r 3), (2, am_r 32)] [] S5 := by
    intro n86
    induction n86 with
    | zero => intro i S5 hn86; exact absurd hn86 (Nat.not_lt_zero _)
    | succ n86 ih86 =>
      intro i S5 hn86 hi hI5
      have ha2 : i < pN σ → 0 ≤ σ.2.1 96 (4 + i) ∧ σ.2.1 96 (4 + i) ≤ 99 := fun h => hag i (by omega)
      have hd2 : i < pN σ → σ.2.1 96 (12 + i) = 0 ∨ σ.2.1 96 (12 + i) = 1 := fun h => hde i (by omega)
      refine am_iload_n (q := 87) rfl (am_tab tk_X3_paint 45 rfl) rfl ?_
      refine am_aload_n (q := 88) rfl (am_tab tk_X3_paint 46 rfl) rfl ?_
      refine am_getI (q := 91) (a := 3) (k := 8) (n := 17) (j := 2) (x := (σ.2.1 85 5)) (Ls_3 (hI5.L hL)) (by decide) rfl ((hI5.1.2.2 3 2 (by unfold W_ic; omega)).trans hC.W.people) (by decide) (Or.inr kf_X3_38) (am_tab tk_X3_paint 47 rfl) rfl ?_
      refine am_icmp_ge (q := 94) (t := 122) (am_tab tk_X3_paint 48 rfl) (by decide) rfl (fun h91 => ?_) (fun h91 => ?_)
      · have epn : i = pN σ := by omega
        rw [epn] at hI5
        refine am_aload_n (q := 123) rfl (am_tab tk_X3_paint 63 rfl) rfl ?_
        refine am_aload_n (q := 124) rfl (am_tab tk_X3_paint 64 rfl) rfl ?_
        refine am_getR (q := 127) (a := 32) (k := 1) (n := 11) (j := 6) (r := some (34)) (Ls_32 (hI5.L hL)) (by decide) rfl (Lr_32_6 (hI5.L hL)) (by decide) (Or.inr kf_X3_53) (am_tab tk_X3_paint 65 rfl) rfl ?_
        refine am_callVr (q := 130) (me2 := M_X3_addList) (b := 49) (kb := 3) (nb := 2) (As := [am_r 34]) (rest := []) (c_pList_34 σ hL ([] ++ [Int.tdiv (σ.2.1 96 0) 256] ++ [Int.tmod (σ.2.1 96 0) 256] ++ [(σ.2.1 96 1)] ++ [(σ.2.1 96 2)] ++ [Int.tdiv (σ.2.1 96 3) 65536] ++ [Int.tmod (Int.tdiv (σ.2.1 96 3) 256) 256] ++ [Int.tmod (σ.2.1 96 3) 256] ++ ppL σ (pN σ)) S5 hI5 hC.F hZ.1 hb20 hm20 (by simp only [List.length_append, List.length_cons, List.length_nil, ppL_len]; omega)) ⟨rfl, rfl⟩ (Ls_49 (hI5.L hL)) (by decide) ⟨Or.inl km_X3_56, kc_X3_addList, kn_X3, kd_X3_addList, ⟨(Nat.le_of_ble_eq_true rfl), (Nat.le_of_ble_eq_true rfl)⟩, ⟨(Nat.le_of_ble_eq_true rfl), (Nat.le_of_ble_eq_true rfl)⟩, (Nat.le_of_ble_eq_true rfl)⟩ ki_X3_addList ks_X3_addList rfl (am_tab tk_X3_paint 66 rfl) rfl ?_
        rintro r I127 ⟨rfl, hI127⟩
        refine am_st (st2 := []) rfl ?_
        refine am_aload_n (q := 131) rfl (am_tab tk_X3_paint 67 rfl) rfl ?_
        refine am_aload_n (q := 132) rfl (am_tab tk_X3_paint 68 rfl) rfl ?_
        refine am_getR (q := 135) (a := 32) (k := 1) (n := 11) (j := 7) (r := some (35)) (Ls_32 (hI127.L hL)) (by decide) rfl (Lr_32_7 (hI127.L hL)) (by decide) (Or.inr kf_X3_60) (am_tab tk_X3_paint 69 rfl) rfl ?_
        refine am_callVr (q := 138) (me2 := M_X3_addList) (b := 49) (kb := 3) (nb := 2) (As := [am_r 35]) (rest := []) (c_pList_35 σ hL ([] ++ [Int.tdiv (σ.2.1 96 0) 256] ++ [Int.tmod (σ.2.1 96 0) 256] ++ [(σ.2.1 96 1)] ++ [(σ.2.1 96 2)] ++ [Int.tdiv (σ.2.1 96 3) 65536] ++ [Int.tmod (Int.tdiv (σ.2.1 96 3) 256) 256] ++ [Int.tmod (σ.2.1 96 3) 256] ++ ppL σ (pN σ) ++ [stM σ 20] ++ dL (fun d => σ.2.1 96 (20 + d)) 90) I127 hI127 hC.F hZ.2.1 hb111 hm111 (by have := dL_le (σ := σ) 20 hb20; simp only [List.length_append, List.length_cons, List.length_nil, ppL_len]; omega)) ⟨rfl, rfl⟩ (Ls_49 (hI127.L hL)) (by decide) ⟨Or.inl km_X3_56, kc_X3_addList, kn_X3, kd_X3_addList, ⟨(Nat.le_of_ble_eq_true rfl), (Nat.le_of_ble_eq_true rfl)⟩, ⟨(Nat.le_of_ble_eq_true rfl), (Nat.le_of_ble_eq_true rfl)⟩, (Nat.le_of_ble_eq_true rfl)⟩ ki_X3_addList ks_X3_addList rfl (am_tab tk_X3_paint 70 rfl) rfl ?_
        rintro r I135 ⟨rfl, hI135⟩
        refine am_st (st2 := []) rfl ?_
        have hl145 : ([] ++ [Int.tdiv (σ.2.1 96 0) 256] ++ [Int.tmod (σ.2.1 96 0) 256] ++ [(σ.2.1 96 1)] ++ [(σ.2.1 96 2)] ++ [Int.tdiv (σ.2.1 96 3) 65536] ++ [Int.tmod (Int.tdiv (σ.2.1 96 3) 256) 256] ++ [Int.tmod (σ.2.1 96 3) 256] ++ ppL σ (pN σ) ++ [stM σ 20] ++ dL (fun d => σ.2.1 96 (20 + d)) 90 ++ [stM σ 111] ++ dL (fun d => σ.2.1 96 (111 + d)) 90).length < 146 := by
          have a1 := dL_le (σ := σ) 20 hb20
          have a2 := dL_le (σ := σ) 111 hb111
          simp only [List.length_append, List.length_cons, List.length_nil, ppL_len]
          omega
        have hl146 : ([] ++ [Int.tdiv (σ.2.1 96 0) 256] ++ [Int.tmod (σ.2.1 96 0) 256] ++ [(σ.2.1 96 1)] ++ [(σ.2.1 96 2)] ++ [Int.tdiv (σ.2.1 96 3) 65536] ++ [Int.tmod (Int.tdiv (σ.2.1 96 3) 256) 256] ++ [Int.tmod (σ.2.1 96 3) 256] ++ ppL σ (pN σ) ++ [stM σ 20] ++ dL (fun d => σ.2.1 96 (20 + d)) 90 ++ [stM σ 111] ++ dL (fun d => σ.2.1 96 (111 + d)) 90).length ≤ 146 := by omega
        have ckb : 0 ≤ ckL (imB σ) ∧ ckL (imB σ) ≤ 255 := by
          have h9 := ckN_rng (f := fun k => (imB σ).getD k 0) (imB σ).length (fun k hk => hI135.2.2.2 _ (getD_mem hk))
          unfold ckL; omega
        refine am_aload_n (q := 139) rfl (am_tab tk_X3_paint 71 rfl) rfl ?_
        refine am_aload_n (q := 140) rfl (am_tab tk_X3_paint 72 rfl) rfl ?_
        refine am_getR (q := 143) (a := 49) (k := 3) (n := 2) (j := 0) (r := some (50)) (Ls_49 (hI135.L hL)) (by decide) rfl (Lr_49_0 (hI135.L hL)) (by decide) (Or.inl kf_X3_11) (am_tab tk_X3_paint 73 rfl) rfl ?_
        refine am_aload_n (q := 144) rfl (am_tab tk_X3_paint 74 rfl) rfl ?_
        refine am_getI (q := 147) (a := 49) (k := 3) (n := 2) (j := 1) (x := (([] ++ [Int.tdiv (σ.2.1 96 0) 256] ++ [Int.tmod (σ.2.1 96 0) 256] ++ [(σ.2.1 96 1)] ++ [(σ.2.1 96 2)] ++ [Int.tdiv (σ.2.1 96 3) 65536] ++ [Int.tmod (Int.tdiv (σ.2.1 96 3) 256) 256] ++ [Int.tmod (σ.2.1 96 3) 256] ++ ppL σ (pN σ) ++ [stM σ 20] ++ dL (fun d => σ.2.1 96 (20 + d)) 90 ++ [stM σ 111] ++ dL (fun d => σ.2.1 96 (111 + d)) 90).length : Int)) (Ls_49 (hI135.L hL)) (by decide) rfl hI135.2.1 (by decide) (Or.inl kf_X3_15) (am_tab tk_X3_paint 75 rfl) rfl ?_
        refine am_callS0 (q := 150) (me2 := M_X3_checkOf) (As := [am_r 50, am_i ((([] ++ [Int.tdiv (σ.2.1 96 0) 256] ++ [Int.tmod (σ.2.1 96 0) 256] ++ [(σ.2.1 96 1)] ++ [(σ.2.1 96 2)] ++ [Int.tdiv (σ.2.1 96 3) 65536] ++ [Int.tmod (Int.tdiv (σ.2.1 96 3) 256) 256] ++ [Int.tmod (σ.2.1 96 3) 256] ++ ppL σ (pN σ) ++ [stM σ 20] ++ dL (fun d => σ.2.1 96 (20 + d)) 90 ++ [stM σ 111] ++ dL (fun d => σ.2.1 96 (111 + d)) 90).length : Int))]) (rest := [am_r 49]) (out := [am_i (ckN (fun i => I135.2.1 50 i) ([] ++ [Int.tdiv (σ.2.1 96 0) 256] ++ [Int.tmod (σ.2.1 96 0) 256] ++ [(σ.2.1 96 1)] ++ [(σ.2.1 96 2)] ++ [Int.tdiv (σ.2.1 96 3) 65536] ++ [Int.tmod (Int.tdiv (σ.2.1 96 3) 256) 256] ++ [Int.tmod (σ.2.1 96 3) 256] ++ ppL σ (pN σ) ++ [stM σ 20] ++ dL (fun d => σ.2.1 96 (20 + d)) 90 ++ [stM σ 111] ++ dL (fun d => σ.2.1 96 (111 + d)) 90).length), am_r 49]) (c_checkOf_50 I135 (hI135.L hL) ([] ++ [Int.tdiv (σ.2.1 96 0) 256] ++ [Int.tmod (σ.2.1 96 0) 256] ++ [(σ.2.1 96 1)] ++ [(σ.2.1 96 2)] ++ [Int.tdiv (σ.2.1 96 3) 65536] ++ [Int.tmod (Int.tdiv (σ.2.1 96 3) 256) 256] ++ [Int.tmod (σ.2.1 96 3) 256] ++ ppL σ (pN σ) ++ [stM σ 20] ++ dL (fun d => σ.2.1 96 (20 + d)) 90 ++ [stM σ 111] ++ dL (fun d => σ.2.1 96 (111 + d)) 90).length hl146 (fun i hi => by rw [hI135.2.2.1 i hi]; exact hI135.2.2.2 _ (getD_mem hi))) ⟨rfl, rfl⟩ ⟨Or.inl km_X3_63, kc_X3_checkOf, kn_X3, kd_X3_checkOf, ⟨(Nat.le_of_ble_eq_true rfl), (Nat.le_of_ble_eq_true rfl)⟩, ⟨(Nat.le_of_ble_eq_true rfl), (Nat.le_of_ble_eq_true rfl)⟩, (Nat.le_of_ble_eq_true rfl)⟩ ki_X3_checkOf rfl rfl (am_tab tk_X3_paint 76 rfl) rfl ?_
        refine am_st (st2 := [am_i (ckL (imB σ)), am_r 49]) (by rw [ckN_congr (f := fun i => I135.2.1 50 i) (g := fun i => ([] ++ [Int.tdiv (σ.2.1 96 0) 256] ++ [Int.tmod (σ.2.1 96 0) 256] ++ [(σ.2.1 96 1)] ++ [(σ.2.1 96 2)] ++ [Int.tdiv (σ.2.1 96 3) 65536] ++ [Int.tmod (Int.tdiv (σ.2.1 96 3) 256) 256] ++ [Int.tmod (σ.2.1 96 3) 256] ++ ppL σ (pN σ) ++ [stM σ 20] ++ dL (fun d => σ.2.1 96 (20 + d)) 90 ++ [stM σ 111] ++ dL (fun d => σ.2.1 96 (111 + d)) 90).getD i 0) _ (fun i hi => hI135.2.2.1 i hi)]; rfl) ?_
        refine am_callVr (q := 153) (me2 := M_X3_add) (b := 49) (kb := 3) (nb := 2) (As := [am_i (ckL (imB σ))]) (rest := []) (c_pAdd σ hL ([] ++ [Int.tdiv (σ.2.1 96 0) 256] ++ [Int.tmod (σ.2.1 96 0) 256] ++ [(σ.2.1 96 1)] ++ [(σ.2.1 96 2)] ++ [Int.tdiv (σ.2.1 96 3) 65536] ++ [Int.tmod (Int.tdiv (σ.2.1 96 3) 256) 256] ++ [Int.tmod (σ.2.1 96 3) 256] ++ ppL σ (pN σ) ++ [stM σ 20] ++ dL (fun d => σ.2.1 96 (20 + d)) 90 ++ [stM σ 111] ++ dL (fun d => σ.2.1 96 (111 + d)) 90) I135 hI135 (ckL (imB σ)) (by exact ckb) (by omega)) ⟨rfl, rfl⟩ (Ls_49 (hI135.L hL)) (by decide) ⟨Or.inl km_X3_24, kc_X3_add, kn_X3, kd_X3_add, ⟨(Nat.le_of_ble_eq_true rfl), (Nat.le_of_ble_eq_true rfl)⟩, ⟨(Nat.le_of_ble_eq_true rfl), (Nat.le_of_ble_eq_true rfl)⟩, (Nat.le_of_ble_eq_true rfl)⟩ ki_X3_add ks_X3_add rfl (am_tab tk_X3_paint 77 rfl) rfl ?_
        rintro r I150 ⟨rfl, hI150⟩
        refine am_st (st2 := []) rfl ?_
        refine am_vret rfl (Nat.le_of_ble_eq_true rfl) (Nat.le_of_ble_eq_true rfl) (am_tab tk_X3_paint 78 rfl) ?_
        refine hQ _ _ ?_
        exact ⟨rfl, hI150⟩
      · refine am_aload_n (q := 95) rfl (am_tab tk_X3_paint 49 rfl) rfl ?_
        refine am_aload_n (q := 96) rfl (am_tab tk_X3_paint 50 rfl) rfl ?_
        refine am_getR (q := 99) (a := 32) (k := 1) (n := 11) (j := 5) (r := some (33)) (Ls_32 (hI5.L hL)) (by decide) rfl (Lr_32_5 (hI5.L hL)) (by decide) (Or.inr kf_X3_43) (am_tab tk_X3_paint 51 rfl) rfl ?_
        refine am_iload_n (q := 100) rfl (am_tab tk_X3_paint 52 rfl) rfl ?_
        refine am_iald (q := 101) (a := 33) (n := 8) (x := (σ.2.1 96 (4 + i))) (Ls_33 (hI5.L hL)) (by omega) (by omega) (by rw [show Int.toNat (i : Int) = i by omega, hI5.1.2.2 33 i (by unfold W_ic; omega)]; exact hC.F.2.2.2.1 i (by omega)) (am_tab tk_X3_paint 53 rfl) rfl ?_
        refine am_callVr (q := 104) (me2 := M_X3_add) (b := 49) (kb := 3) (nb := 2) (As := [am_i ((σ.2.1 96 (4 + i)))]) (rest := []) (c_pAdd σ hL ([] ++ [Int.tdiv (σ.2.1 96 0) 256] ++ [Int.tmod (σ.2.1 96 0) 256] ++ [(σ.2.1 96 1)] ++ [(σ.2.1 96 2)] ++ [Int.tdiv (σ.2.1 96 3) 65536] ++ [Int.tmod (Int.tdiv (σ.2.1 96 3) 256) 256] ++ [Int.tmod (σ.2.1 96 3) 256] ++ ppL σ i) S5 hI5 (σ.2.1 96 (4 + i)) (by have := ha2 (by omega); omega) (by simp only [List.length_append, List.length_cons, List.length_nil, ppL_len]; omega)) ⟨rfl, rfl⟩ (Ls_49 (hI5.L hL)) (by decide) ⟨Or.inl km_X3_24, kc_X3_add, kn_X3, kd_X3_add, ⟨(Nat.le_of_ble_eq_true rfl), (Nat.le_of_ble_eq_true rfl)⟩, ⟨(Nat.le_of_ble_eq_true rfl), (Nat.le_of_ble_eq_true rfl)⟩, (Nat.le_of_ble_eq_true rfl)⟩ ki_X3_add ks_X3_add rfl (am_tab tk_X3_paint 54 rfl) rfl ?_
        rintro r I101 ⟨rfl, hI101⟩
        refine am_st (st2 := []) rfl ?_
        refine am_aload_n (q := 105) rfl (am_tab tk_X3_paint 55 rfl) rfl ?_
        refine am_aload_n (q := 106) rfl (am_tab tk_X3_paint 56 rfl) rfl ?_
        refine am_getI (q := 109) (a := 32) (k := 1) (n := 11) (j := 4) (x := (σ.2.1 32 4)) (Ls_32 (hI101.L hL)) (by decide) rfl (hI101.1.2.2 32 4 (by unfold W_ic; omega)) (by decide) (Or.inr kf_X3_46) (am_tab tk_X3_paint 57 rfl) rfl ?_
        refine am_iload_n (q := 110) rfl (am_tab tk_X3_paint 58 rfl) rfl ?_
        refine am_callSr (q := 113) (me2 := M_X9_bit) (As := [am_i ((σ.2.1 32 4)), am_i ((i : Int))]) (rest := [am_r 49]) (c_bit I101 (σ.2.1 32 4) (i : Int) hC.F.2.1 (by omega)) ⟨rfl, rfl⟩ ⟨Or.inr km_X3_49, kc_X9_bit, kn_X9, kd_X9_bit, ⟨(Nat.le_of_ble_eq_true rfl), (Nat.le_of_ble_eq_true rfl)⟩, ⟨(Nat.le_of_ble_eq_true rfl), (Nat.le_of_ble_eq_true rfl)⟩, (Nat.le_of_ble_eq_true rfl)⟩ ki_X9_bit rfl (am_tab tk_X3_paint 59 rfl) rfl ?_
        rintro r τ ⟨hr9, hτ⟩
        rw [show tb (σ.2.1 32 4) (i : Int) = σ.2.1 96 (12 + i) from hC.F.2.2.1 i (by omega)] at hr9
        rw [hr9, hτ]
        refine am_st (st2 := [am_i ((σ.2.1 96 (12 + i))), am_r 49]) rfl ?_
        refine am_callVr (q := 116) (me2 := M_X3_add) (b := 49) (kb := 3) (nb := 2) (As := [am_i ((σ.2.1 96 (12 + i)))]) (rest := []) (c_pAdd σ hL ([] ++ [Int.tdiv (σ.2.1 96 0) 256] ++ [Int.tmod (σ.2.1 96 0) 256] ++ [(σ.2.1 96 1)] ++ [(σ.2.1 96 2)] ++ [Int.tdiv (σ.2.1 96 3) 65536] ++ [Int.tmod (Int.tdiv (σ.2.1 96 3) 256) 256] ++ [Int.tmod (σ.2.1 96 3) 256] ++ ppL σ i ++ [(σ.2.1 96 (4 + i))]) I101 hI101 (σ.2.1 96 (12 + i)) (by have := hd2 (by omega); omega) (by simp only [List.length_append, List.length_cons, List.length_nil, ppL_len]; omega)) ⟨rfl, rfl⟩ (Ls_49 (hI101.L hL)) (by decide) ⟨Or.inl km_X3_24, kc_X3_add, kn_X3, kd_X3_add, ⟨(Nat.le_of_ble_eq_true rfl), (Nat.le_of_ble_eq_true rfl)⟩, ⟨(Nat.le_of_ble_eq_true rfl), (Nat.le_of_ble_eq_true rfl)⟩, (Nat.le_of_ble_eq_true rfl)⟩ ki_X3_add ks_X3_add rfl (am_tab tk_X3_paint 60 rfl) rfl ?_
        rintro r I113 ⟨rfl, hI113⟩
        refine am_st (st2 := []) rfl ?_
        refine am_iinc (q := 119) rfl (by omega) (by decide) (ls2 := [(3, am_i (((i : Int) + 1))), (0, am_r 49), (1, am_r 3), (2, am_r 32)]) rfl (am_tab tk_X3_paint 61 rfl) rfl ?_
        refine am_goto (t := 86) (am_tab tk_X3_paint 62 rfl) (by decide) ?_
        have hpp : [] ++ [Int.tdiv (σ.2.1 96 0) 256] ++ [Int.tmod (σ.2.1 96 0) 256] ++ [(σ.2.1 96 1)] ++ [(σ.2.1 96 2)] ++ [Int.tdiv (σ.2.1 96 3) 65536] ++ [Int.tmod (Int.tdiv (σ.2.1 96 3) 256) 256] ++ [Int.tmod (σ.2.1 96 3) 256] ++ ppL σ (i + 1) = [] ++ [Int.tdiv (σ.2.1 96 0) 256] ++ [Int.tmod (σ.2.1 96 0) 256] ++ [(σ.2.1 96 1)] ++ [(σ.2.1 96 2)] ++ [Int.tdiv (σ.2.1 96 3) 65536] ++ [Int.tmod (Int.tdiv (σ.2.1 96 3) 256) 256] ++ [Int.tmod (σ.2.1 96 3) 256] ++ ppL σ i ++ [(σ.2.1 96 (4 + i))] ++ [(σ.2.1 96 (12 + i))] := by
          show _ ++ (ppL σ i ++ [σ.2.1 96 (4 + i)] ++ [σ.2.1 96 (12 + i)]) = _
          simp only [List.append_assoc]
        exact am_less (by intro q hq; simp only [List.mem_cons, List.not_mem_nil, or_false] at hq; rcases hq with rfl | rfl | rfl | rfl <;> simp) (ih86 (i + 1) I113 (by omega) (by omega) (by rw [hpp]; exact hI113))
  refine am_less (by intro q hq; simp only [List.mem_cons, List.not_mem_nil, or_false] at hq; rcases hq with rfl | rfl | rfl | rfl <;> simp) (L86 (_ + 1) 0 I81 (by exact Nat.lt_succ_self _) (by omega) (by simpa [ppL] using hI81))
theorem c_image_3 (σ : am_H) (hC : CI 3 σ)  (hZ : ZR (σ.2.1 85 9) (fun j => σ.2.1 96 j)) (hm20 : 0 ≤ stM σ 20 ∧ stM σ 20 ≤ 30) (hm111 : 0 ≤ stM σ 111 ∧ stM σ 111 ≤ 30) : am_met M_X9_image [am_r 0] σ (fun r σ' => r = some (am_i ((imL σ).length : Int)) ∧ IC σ (imL σ) σ') := by
  refine am_qq (fun Q hQ => ?_)
  refine am_enter (show plainFor yX9_image = true by decide +kernel) rfl (Nat.le_of_ble_eq_true rfl) (fun _ _ _ => trivial) ?_
  have hL := hC.G.L
  refine am_aload_n (q := 1) rfl (am_tab tk_X9_image 0 rfl) rfl ?_
  refine am_getR (q := 4) (a := 0) (k := 9) (n := 17) (j := 8) (r := some (49)) (Ls_0 hL) (by decide) rfl (Lr_0_8 hL) (by decide) (Or.inl kf_X9_64) (am_tab tk_X9_image 1 rfl) rfl ?_
  refine am_aload_n (q := 5) rfl (am_tab tk_X9_image 2 rfl) rfl ?_
  refine am_getR (q := 8) (a := 0) (k := 9) (n := 17) (j := 2) (r := some (3)) (Ls_0 hL) (by decide) rfl hC.t (by decide) (Or.inl kf_X9_19) (am_tab tk_X9_image 3 rfl) rfl ?_
  refine am_aload_n (q := 9) rfl (am_tab tk_X9_image 4 rfl) rfl ?_
  refine am_getR (q := 12) (a := 0) (k := 9) (n := 17) (j := 4) (r := some (32)) (Ls_0 hL) (by decide) rfl (Lr_0_4 hL) (by decide) (Or.inl kf_X9_38) (am_tab tk_X9_image 5 rfl) rfl ?_
  refine am_callVr (q := 15) (me2 := M_X3_paint) (b := 49) (kb := 3) (nb := 2) (As := [am_r 3, am_r 32]) (rest := []) (c_paint_3 σ hC hZ hm20 hm111) ⟨rfl, rfl⟩ (Ls_49 hL) (by decide) ⟨Or.inr km_X9_322, kc_X3_paint, kn_X3, kd_X3_paint, ⟨(Nat.le_of_ble_eq_true rfl), (Nat.le_of_ble_eq_true rfl)⟩, ⟨(Nat.le_of_ble_eq_true rfl), (Nat.le_of_ble_eq_true rfl)⟩, (Nat.le_of_ble_eq_true rfl)⟩ ki_X3_paint ks_X3_paint rfl (am_tab tk_X9_image 6 rfl) rfl ?_
  rintro r S ⟨rfl, hI⟩
  refine am_st (st2 := []) rfl ?_
  refine am_aload_n (q := 16) rfl (am_tab tk_X9_image 7 rfl) rfl ?_
  refine am_getR (q := 19) (a := 0) (k := 9) (n := 17) (j := 8) (r := some (49)) (Ls_0 (hI.L hL)) (by decide) rfl (Lr_0_8 (hI.L hL)) (by decide) (Or.inl kf_X9_64) (am_tab tk_X9_image 8 rfl) rfl ?_
  refine am_getI (q := 22) (a := 49) (k := 3) (n := 2) (j := 1) (x := ((imL σ).length : Int)) (Ls_49 (hI.L hL)) (by decide) rfl hI.2.1 (by decide) (Or.inr kf_X9_325) (am_tab tk_X9_image 9 rfl) rfl ?_
  refine am_iret (Or.inl rfl) (Nat.le_of_ble_eq_true rfl) (Nat.le_of_ble_eq_true rfl) (am_tab tk_X9_image 10 rfl) ?_
  refine hQ _ _ ?_
  exact ⟨rfl, hI⟩
set_option maxRecDepth 100000 in
theorem c_paint_15 (σ : am_H) (hC : CI 15 σ)  (hZ : ZR (σ.2.1 85 9) (fun j => σ.2.1 96 j)) (hm20 : 0 ≤ stM σ 20 ∧ stM σ 20 ≤ 30) (hm111 : 0 ≤ stM σ 111 ∧ stM σ 111 ≤ 30) : am_met M_X3_paint [am_r 49, am_r 15, am_r 32] σ (fun r σ' => r = none ∧ IC σ (imL σ) σ') := by
  refine am_qq (fun Q hQ => ?_)
  refine am_enter (show plainFor yX3_paint = true by decide +kernel) rfl (Nat.le_of_ble_eq_true rfl) (fun _ _ _ => trivial) ?_
  have hL := hC.G.L
  have hN : (pN σ : Int) = σ.2.1 85 5 := by have := hC.G.R.P; unfold pN; omega
  have h8 : pN σ ≤ 8 := by have := hC.G.R.P; unfold pN; omega
  have hb20 := hC.G.R.told
  have hb111 := hC.G.R.brib
  have hy := hC.G.R.year
  have hd := hC.G.R.day
  have hY := hC.G.R.Y
  have hfe := hC.G.R.feast
  have hco := hC.G.R.coins
  have hag := hC.G.R.ago
  have hde := hC.G.R.dead
  have q0 : 0 ≤ Int.tdiv (σ.2.1 96 0) 256 ∧ Int.tdiv (σ.2.1 96 0) 256 ≤ 255 := by rw [Int.tdiv_eq_ediv_of_nonneg (by omega)]; omega
  have q1 : 0 ≤ Int.tmod (σ.2.1 96 0) 256 ∧ Int.tmod (σ.2.1 96 0) 256 ≤ 255 := by rw [Int.tmod_eq_emod_of_nonneg (by omega)]; omega
  have q2 : 0 ≤ Int.tdiv (σ.2.1 96 3) 65536 ∧ Int.tdiv (σ.2.1 96 3) 65536 ≤ 255 := by rw [Int.tdiv_eq_ediv_of_nonneg (by omega)]; omega
  have q3 : 0 ≤ Int.tmod (σ.2.1 96 3) 256 ∧ Int.tmod (σ.2.1 96 3) 256 ≤ 255 := by rw [Int.tmod_eq_emod_of_nonneg (by omega)]; omega
  have q4 : 0 ≤ Int.tdiv (σ.2.1 96 3) 256 ∧ Int.tdiv (σ.2.1 96 3) 256 ≤ 4000 := by rw [Int.tdiv_eq_ediv_of_nonneg (by omega)]; omega
  have q9 : 0 ≤ Int.tmod (Int.tdiv (σ.2.1 96 3) 256) 256 ∧ Int.tmod (Int.tdiv (σ.2.1 96 3) 256) 256 ≤ 255 := by
    have h1 : 0 ≤ Int.tdiv (σ.2.1 96 3) 256 := by rw [Int.tdiv_eq_ediv_of_nonneg (by omega)]; omega
    rw [Int.tmod_eq_emod_of_nonneg h1]; omega
  refine am_aload_n (q := 1) rfl (am_tab tk_X3_paint 0 rfl) rfl ?_
  refine am_iconst (q := 2) (n := 0) (by decide) (am_tab tk_X3_paint 1 rfl) rfl ?_
  refine am_putI (q := 5) (k := 3) (n := 2) (j := 1) (Ls_49 hL) (by decide) rfl (by decide) (Or.inl ⟨kf_X3_15, rfl⟩) (am_tab tk_X3_paint 2 rfl) rfl ?_
  have hI0 : IC σ [] (am_setN σ 49 1 0) := ⟨(frw.refl _ σ).setN (by unfold W_ic; omega), rfl, by intro i hi; simp at hi, by simp⟩
  refine am_aload_n (q := 6) rfl (am_tab tk_X3_paint 3 rfl) rfl ?_
  refine am_aload_n (q := 7) rfl (am_tab tk_X3_paint 4 rfl) rfl ?_
  refine am_getI (q := 10) (a := 32) (k := 1) (n := 11) (j := 0) (x := (σ.2.1 96 0)) (Ls_32 hL) (by decide) rfl ((hI0.1.2.2 32 0 (by unfold W_ic; omega)).trans hC.F.1.1) (by decide) (Or.inr kf_X3_19) (am_tab tk_X3_paint 5 rfl) rfl ?_
  refine am_sipush (q := 13) (n := 256) (by decide) rfl (am_tab tk_X3_paint 6 rfl) rfl ?_
  refine am_idiv (q := 14) (by omega) (by omega) (am_tab tk_X3_paint 7 rfl) rfl ?_
  refine am_callVr (q := 17) (me2 := M_X3_add) (b := 49) (kb := 3) (nb := 2) (As := [am_i ((Int.tdiv (σ.2.1 96 0) 256))]) (rest := []) (c_pAdd σ hL ([]) (am_setN σ 49 1 0) hI0 (Int.tdiv (σ.2.1 96 0) 256) (by omega) (by simp only [List.length_append, List.length_cons, List.length_nil]; omega)) ⟨rfl, rfl⟩ (Ls_49 hL) (by decide) ⟨Or.inl km_X3_24, kc_X3_add, kn_X3, kd_X3_add, ⟨(Nat.le_of_ble_eq_true rfl), (Nat.le_of_ble_eq_true rfl)⟩, ⟨(Nat.le_of_ble_eq_true rfl), (Nat.le_of_ble_eq_true rfl)⟩, (Nat.le_of_ble_eq_true rfl)⟩ ki_X3_add ks_X3_add rfl (am_tab tk_X3_paint 8 rfl) rfl ?_
  rintro r I14 ⟨rfl, hI14⟩
  refine am_st (st2 := []) rfl ?_
  refine am_aload_n (q := 18) rfl (am_tab tk_X3_paint 9 rfl) rfl ?_
  refine am_aload_n (q := 19) rfl (am_tab tk_X3_paint 10 rfl) rfl ?_
  refine am_getI (q := 22) (a := 32) (k := 1) (n := 11) (j := 0) (x := (σ.2.1 96 0)) (Ls_32 (hI14.L hL)) (by decide) rfl ((hI14.1.2.2 32 0 (by unfold W_ic; omega)).trans hC.F.1.1) (by decide) (Or.inr kf_X3_19) (am_tab tk_X3_paint 11 rfl) rfl ?_
  refine am_sipush (q := 25) (n := 256) (by decide) rfl (am_tab tk_X3_paint 12 rfl) rfl ?_
  refine am_irem (q := 26) (by omega) (by omega) (am_tab tk_X3_paint 13 rfl) rfl ?_
  refine am_callVr (q := 29) (me2 := M_X3_add) (b := 49) (kb := 3) (nb := 2) (As := [am_i ((Int.tmod (σ.2.1 96 0) 256))]) (rest := []) (c_pAdd σ hL ([] ++ [(Int.tdiv (σ.2.1 96 0) 256)]) I14 hI14 (Int.tmod (σ.2.1 96 0) 256) (by omega) (by simp only [List.length_append, List.length_cons, List.length_nil]; omega)) ⟨rfl, rfl⟩ (Ls_49 (hI14.L hL)) (by decide) ⟨Or.inl km_X3_24, kc_X3_add, kn_X3, kd_X3_add, ⟨(Nat.le_of_ble_eq_true rfl), (Nat.le_of_ble_eq_true rfl)⟩, ⟨(Nat.le_of_ble_eq_true rfl), (Nat.le_of_ble_eq_true rfl)⟩, (Nat.le_of_ble_eq_true rfl)⟩ ki_X3_add ks_X3_add rfl (am_tab tk_X3_paint 14 rfl) rfl ?_
  rintro r I26 ⟨rfl, hI26⟩
  refine am_st (st2 := []) rfl ?_
  refine am_aload_n (q := 30) rfl (am_tab tk_X3_paint 15 rfl) rfl ?_
  refine am_aload_n (q := 31) rfl (am_tab tk_X3_paint 16 rfl) rfl ?_
  refine am_getI (q := 34) (a := 32) (k := 1) (n := 11) (j := 1) (x := (σ.2.1 96 1)) (Ls_32 (hI26.L hL)) (by decide) rfl ((hI26.1.2.2 32 1 (by unfold W_ic; omega)).trans hC.F.1.2.1) (by decide) (Or.inr kf_X3_28) (am_tab tk_X3_paint 17 rfl) rfl ?_
  refine am_callVr (q := 37) (me2 := M_X3_add) (b := 49) (kb := 3) (nb := 2) (As := [am_i ((σ.2.1 96 1))]) (rest := []) (c_pAdd σ hL ([] ++ [(Int.tdiv (σ.2.1 96 0) 256)] ++ [(Int.tmod (σ.2.1 96 0) 256)]) I26 hI26 (σ.2.1 96 1) (by omega) (by simp only [List.length_append, List.length_cons, List.length_nil]; omega)) ⟨rfl, rfl⟩ (Ls_49 (hI26.L hL)) (by decide) ⟨Or.inl km_X3_24, kc_X3_add, kn_X3, kd_X3_add, ⟨(Nat.le_of_ble_eq_true rfl), (Nat.le_of_ble_eq_true rfl)⟩, ⟨(Nat.le_of_ble_eq_true rfl), (Nat.le_of_ble_eq_true rfl)⟩, (Nat.le_of_ble_eq_true rfl)⟩ ki_X3_add ks_X3_add rfl (am_tab tk_X3_paint 18 rfl) rfl ?_
  rintro r I34 ⟨rfl, hI34⟩
  refine am_st (st2 := []) rfl ?_
  refine am_aload_n (q := 38) rfl (am_tab tk_X3_paint 19 rfl) rfl ?_
  refine am_aload_n (q := 39) rfl (am_tab tk_X3_paint 20 rfl) rfl ?_
  refine am_getI (q := 42) (a := 32) (k := 1) (n := 11) (j := 2) (x := (σ.2.1 96 2)) (Ls_32 (hI34.L hL)) (by decide) rfl ((hI34.1.2.2 32 2 (by unfold W_ic; omega)).trans hC.F.1.2.2.1) (by decide) (Or.inr kf_X3_31) (am_tab tk_X3_paint 21 rfl) rfl ?_
  refine am_callVr (q := 45) (me2 := M_X3_add) (b := 49) (kb := 3) (nb := 2) (As := [am_i ((σ.2.1 96 2))]) (rest := []) (c_pAdd σ hL ([] ++ [(Int.tdiv (σ.2.1 96 0) 256)] ++ [(Int.tmod (σ.2.1 96 0) 256)] ++ [(σ.2.1 96 1)]) I34 hI34 (σ.2.1 96 2) (by omega) (by simp only [List.length_append, List.length_cons, List.length_nil]; omega)) ⟨rfl, rfl⟩ (Ls_49 (hI34.L hL)) (by decide) ⟨Or.inl km_X3_24, kc_X3_add, kn_X3, kd_X3_add, ⟨(Nat.le_of_ble_eq_true rfl), (Nat.le_of_ble_eq_true rfl)⟩, ⟨(Nat.le_of_ble_eq_true rfl), (Nat.le_of_ble_eq_true rfl)⟩, (Nat.le_of_ble_eq_true rfl)⟩ ki_X3_add ks_X3_add rfl (am_tab tk_X3_paint 22 rfl) rfl ?_
  rintro r I42 ⟨rfl, hI42⟩
  refine am_st (st2 := []) rfl ?_
  refine am_aload_n (q := 46) rfl (am_tab tk_X3_paint 23 rfl) rfl ?_
  refine am_aload_n (q := 47) rfl (am_tab tk_X3_paint 24 rfl) rfl ?_
  refine am_getI (q := 50) (a := 32) (k := 1) (n := 11) (j := 3) (x := (σ.2.1 96 3)) (Ls_32 (hI42.L hL)) (by decide) rfl ((hI42.1.2.2 32 3 (by unfold W_ic; omega)).trans hC.F.1.2.2.2) (by decide) (Or.inr kf_X3_34) (am_tab tk_X3_paint 25 rfl) rfl ?_
  refine am_ldc (q := 52) (n := 65536) (by decide) kk_X3_37 (am_tab tk_X3_paint 26 rfl) rfl ?_
  refine am_idiv (q := 53) (by omega) (by omega) (am_tab tk_X3_paint 27 rfl) rfl ?_
  refine am_callVr (q := 56) (me2 := M_X3_add) (b := 49) (kb := 3) (nb := 2) (As := [am_i ((Int.tdiv (σ.2.1 96 3) 65536))]) (rest := []) (c_pAdd σ hL ([] ++ [(Int.tdiv (σ.2.1 96 0) 256)] ++ [(Int.tmod (σ.2.1 96 0) 256)] ++ [(σ.2.1 96 1)] ++ [(σ.2.1 96 2)]) I42 hI42 (Int.tdiv (σ.2.1 96 3) 65536) (by omega) (by simp only [List.length_append, List.length_cons, List.length_nil]; omega)) ⟨rfl, rfl⟩ (Ls_49 (hI42.L hL)) (by decide) ⟨Or.inl km_X3_24, kc_X3_add, kn_X3, kd_X3_add, ⟨(Nat.le_of_ble_eq_true rfl), (Nat.le_of_ble_eq_true rfl)⟩, ⟨(Nat.le_of_ble_eq_true rfl), (Nat.le_of_ble_eq_true rfl)⟩, (Nat.le_of_ble_eq_true rfl)⟩ ki_X3_add ks_X3_add rfl (am_tab tk_X3_paint 28 rfl) rfl ?_
  rintro r I53 ⟨rfl, hI53⟩
  refine am_st (st2 := []) rfl ?_
  refine am_aload_n (q := 57) rfl (am_tab tk_X3_paint 29 rfl) rfl ?_
  refine am_aload_n (q := 58) rfl (am_tab tk_X3_paint 30 rfl) rfl ?_
  refine am_getI (q := 61) (a := 32) (k := 1) (n := 11) (j := 3) (x := (σ.2.1 96 3)) (Ls_32 (hI53.L hL)) (by decide) rfl ((hI53.1.2.2 32 3 (by unfold W_ic; omega)).trans hC.F.1.2.2.2) (by decide) (Or.inr kf_X3_34) (am_tab tk_X3_paint 31 rfl) rfl ?_
  refine am_sipush (q := 64) (n := 256) (by decide) rfl (am_tab tk_X3_paint 32 rfl) rfl ?_
  refine am_idiv (q := 65) (by omega) (by omega) (am_tab tk_X3_paint 33 rfl) rfl ?_
  refine am_sipush (q := 68) (n := 256) (by decide) rfl (am_tab tk_X3_paint 34 rfl) rfl ?_
  refine am_irem (q := 69) (by omega) (by omega) (am_tab tk_X3_paint 35 rfl) rfl ?_
  refine am_callVr (q := 72) (me2 := M_X3_add) (b := 49) (kb := 3) (nb := 2) (As := [am_i ((Int.tmod (Int.tdiv (σ.2.1 96 3) 256) 256))]) (rest := []) (c_pAdd σ hL ([] ++ [(Int.tdiv (σ.2.1 96 0) 256)] ++ [(Int.tmod (σ.2.1 96 0) 256)] ++ [(σ.2.1 96 1)] ++ [(σ.2.1 96 2)] ++ [(Int.tdiv (σ.2.1 96 3) 65536)]) I53 hI53 (Int.tmod (Int.tdiv (σ.2.1 96 3) 256) 256) (by omega) (by simp only [List.length_append, List.length_cons, List.length_nil]; omega)) ⟨rfl, rfl⟩ (Ls_49 (hI53.L hL)) (by decide) ⟨Or.inl km_X3_24, kc_X3_add, kn_X3, kd_X3_add, ⟨(Nat.le_of_ble_eq_true rfl), (Nat.le_of_ble_eq_true rfl)⟩, ⟨(Nat.le_of_ble_eq_true rfl), (Nat.le_of_ble_eq_true rfl)⟩, (Nat.le_of_ble_eq_true rfl)⟩ ki_X3_add ks_X3_add rfl (am_tab tk_X3_paint 36 rfl) rfl ?_
  rintro r I69 ⟨rfl, hI69⟩
  refine am_st (st2 := []) rfl ?_
  refine am_aload_n (q := 73) rfl (am_tab tk_X3_paint 37 rfl) rfl ?_
  refine am_aload_n (q := 74) rfl (am_tab tk_X3_paint 38 rfl) rfl ?_
  refine am_getI (q := 77) (a := 32) (k := 1) (n := 11) (j := 3) (x := (σ.2.1 96 3)) (Ls_32 (hI69.L hL)) (by decide) rfl ((hI69.1.2.2 32 3 (by unfold W_ic; omega)).trans hC.F.1.2.2.2) (by decide) (Or.inr kf_X3_34) (am_tab tk_X3_paint 39 rfl) rfl ?_
  refine am_sipush (q := 80) (n := 256) (by decide) rfl (am_tab tk_X3_paint 40 rfl) rfl ?_
  refine am_irem (q := 81) (by omega) (by omega) (am_tab tk_X3_paint 41 rfl) rfl ?_
  refine am_callVr (q := 84) (me2 := M_X3_add) (b := 49) (kb := 3) (nb := 2) (As := [am_i ((Int.tmod (σ.2.1 96 3) 256))]) (rest := []) (c_pAdd σ hL ([] ++ [(Int.tdiv (σ.2.1 96 0) 256)] ++ [(Int.tmod (σ.2.1 96 0) 256)] ++ [(σ.2.1 96 1)] ++ [(σ.2.1 96 2)] ++ [(Int.tdiv (σ.2.1 96 3) 65536)] ++ [(Int.tmod (Int.tdiv (σ.2.1 96 3) 256) 256)]) I69 hI69 (Int.tmod (σ.2.1 96 3) 256) (by omega) (by simp only [List.length_append, List.length_cons, List.length_nil]; omega)) ⟨rfl, rfl⟩ (Ls_49 (hI69.L hL)) (by decide) ⟨Or.inl km_X3_24, kc_X3_add, kn_X3, kd_X3_add, ⟨(Nat.le_of_ble_eq_true rfl), (Nat.le_of_ble_eq_true rfl)⟩, ⟨(Nat.le_of_ble_eq_true rfl), (Nat.le_of_ble_eq_true rfl)⟩, (Nat.le_of_ble_eq_true rfl)⟩ ki_X3_add ks_X3_add rfl (am_tab tk_X3_paint 42 rfl) rfl ?_
  rintro r I81 ⟨rfl, hI81⟩
  refine am_st (st2 := []) rfl ?_
  refine am_iconst (q := 85) (n := 0) (by decide) (am_tab tk_X3_paint 43 rfl) rfl ?_
  refine am_istore_n (q := 86) (by decide) (ls2 := [(3, am_i 0), (0, am_r 49), (1, am_r 15), (2, am_r 32)]) rfl (am_tab tk_X3_paint 44 rfl) rfl ?_
  have L86 : ∀ (n86 : Nat) (i : Nat) (S5 : am_H), pN σ - i < n86 → i ≤ pN σ → IC σ ([] ++ [Int.tdiv (σ.2.1 96 0) 256] ++ [Int.tmod (σ.2.1 96 0) 256] ++ [(σ.2.1 96 1)] ++ [(σ.2.1 96 2)] ++ [Int.tdiv (σ.2.1 96 3) 65536] ++ [Int.tmod (Int.tdiv (σ.2.1 96 3) 256) 256] ++ [Int.tmod (σ.2.1 96 3) 256] ++ ppL σ i) S5 → am_wp M_X3_paint Q 0 0 86 [(3, am_i ((i : Int))), (0, am_r 49), (1, am_r 15), (2, am_r 32)] [] S5 := by
    intro n86
    induction n86 with
    | zero => intro i S5 hn86; exact absurd hn86 (Nat.not_lt_zero _)
    | succ n86 ih86 =>
      intro i S5 hn86 hi hI5
      have ha2 : i < pN σ → 0 ≤ σ.2.1 96 (4 + i) ∧ σ.2.1 96 (4 + i) ≤ 99 := fun h => hag i (by omega)
      have hd2 : i < pN σ → σ.2.1 96 (12 + i) = 0 ∨ σ.2.1 96 (12 + i) = 1 := fun h => hde i (by omega)
      refine am_iload_n (q := 87) rfl (am_tab tk_X3_paint 45 rfl) rfl ?_
      refine am_aload_n (q := 88) rfl (am_tab tk_X3_paint 46 rfl) rfl ?_
      refine am_getI (q := 91) (a := 15) (k := 8) (n := 17) (j := 2) (x := (σ.2.1 85 5)) (Ls_15 (hI5.L hL)) (by decide) rfl ((hI5.1.2.2 15 2 (by unfold W_ic; omega)).trans hC.W.people) (by decide) (Or.inr kf_X3_38) (am_tab tk_X3_paint 47 rfl) rfl ?_
      refine am_icmp_ge (q := 94) (t := 122) (am_tab tk_X3_paint 48 rfl) (by decide) rfl (fun h91 => ?_) (fun h91 => ?_)
      · have epn : i = pN σ := by omega
        rw [epn] at hI5
        refine am_aload_n (q := 123) rfl (am_tab tk_X3_paint 63 rfl) rfl ?_
        refine am_aload_n (q := 124) rfl (am_tab tk_X3_paint 64 rfl) rfl ?_
        refine am_getR (q := 127) (a := 32) (k := 1) (n := 11) (j := 6) (r := some (34)) (Ls_32 (hI5.L hL)) (by decide) rfl (Lr_32_6 (hI5.L hL)) (by decide) (Or.inr kf_X3_53) (am_tab tk_X3_paint 65 rfl) rfl ?_
        refine am_callVr (q := 130) (me2 := M_X3_addList) (b := 49) (kb := 3) (nb := 2) (As := [am_r 34]) (rest := []) (c_pList_34 σ hL ([] ++ [Int.tdiv (σ.2.1 96 0) 256] ++ [Int.tmod (σ.2.1 96 0) 256] ++ [(σ.2.1 96 1)] ++ [(σ.2.1 96 2)] ++ [Int.tdiv (σ.2.1 96 3) 65536] ++ [Int.tmod (Int.tdiv (σ.2.1 96 3) 256) 256] ++ [Int.tmod (σ.2.1 96 3) 256] ++ ppL σ (pN σ)) S5 hI5 hC.F hZ.1 hb20 hm20 (by simp only [List.length_append, List.length_cons, List.length_nil, ppL_len]; omega)) ⟨rfl, rfl⟩ (Ls_49 (hI5.L hL)) (by decide) ⟨Or.inl km_X3_56, kc_X3_addList, kn_X3, kd_X3_addList, ⟨(Nat.le_of_ble_eq_true rfl), (Nat.le_of_ble_eq_true rfl)⟩, ⟨(Nat.le_of_ble_eq_true rfl), (Nat.le_of_ble_eq_true rfl)⟩, (Nat.le_of_ble_eq_true rfl)⟩ ki_X3_addList ks_X3_addList rfl (am_tab tk_X3_paint 66 rfl) rfl ?_
        rintro r I127 ⟨rfl, hI127⟩
        refine am_st (st2 := []) rfl ?_
        refine am_aload_n (q := 131) rfl (am_tab tk_X3_paint 67 rfl) rfl ?_
        refine am_aload_n (q := 132) rfl (am_tab tk_X3_paint 68 rfl) rfl ?_
        refine am_getR (q := 135) (a := 32) (k := 1) (n := 11) (j := 7) (r := some (35)) (Ls_32 (hI127.L hL)) (by decide) rfl (Lr_32_7 (hI127.L hL)) (by decide) (Or.inr kf_X3_60) (am_tab tk_X3_paint 69 rfl) rfl ?_
        refine am_callVr (q := 138) (me2 := M_X3_addList) (b := 49) (kb := 3) (nb := 2) (As := [am_r 35]) (rest := []) (c_pList_35 σ hL ([] ++ [Int.tdiv (σ.2.1 96 0) 256] ++ [Int.tmod (σ.2.1 96 0) 256] ++ [(σ.2.1 96 1)] ++ [(σ.2.1 96 2)] ++ [Int.tdiv (σ.2.1 96 3) 65536] ++ [Int.tmod (Int.tdiv (σ.2.1 96 3) 256) 256] ++ [Int.tmod (σ.2.1 96 3) 256] ++ ppL σ (pN σ) ++ [stM σ 20] ++ dL (fun d => σ.2.1 96 (20 + d)) 90) I127 hI127 hC.F hZ.2.1 hb111 hm111 (by have := dL_le (σ := σ) 20 hb20; simp only [List.length_append, List.length_cons, List.length_nil, ppL_len]; omega)) ⟨rfl, rfl⟩ (Ls_49 (hI127.L hL)) (by decide) ⟨Or.inl km_X3_56, kc_X3_addList, kn_X3, kd_X3_addList, ⟨(Nat.le_of_ble_eq_true rfl), (Nat.le_of_ble_eq_true rfl)⟩, ⟨(Nat.le_of_ble_eq_true rfl), (Nat.le_of_ble_eq_true rfl)⟩, (Nat.le_of_ble_eq_true rfl)⟩ ki_X3_addList ks_X3_addList rfl (am_tab tk_X3_paint 70 rfl) rfl ?_
        rintro r I135 ⟨rfl, hI135⟩
        refine am_st (st2 := []) rfl ?_
        have hl145 : ([] ++ [Int.tdiv (σ.2.1 96 0) 256] ++ [Int.tmod (σ.2.1 96 0) 256] ++ [(σ.2.1 96 1)] ++ [(σ.2.1 96 2)] ++ [Int.tdiv (σ.2.1 96 3) 65536] ++ [Int.tmod (Int.tdiv (σ.2.1 96 3) 256) 256] ++ [Int.tmod (σ.2.1 96 3) 256] ++ ppL σ (pN σ) ++ [stM σ 20] ++ dL (fun d => σ.2.1 96 (20 + d)) 90 ++ [stM σ 111] ++ dL (fun d => σ.2.1 96 (111 + d)) 90).length < 146 := by
          have a1 := dL_le (σ := σ) 20 hb20
          have a2 := dL_le (σ := σ) 111 hb111
          simp only [List.length_append, List.length_cons, List.length_nil, ppL_len]
          omega
        have hl146 : ([] ++ [Int.tdiv (σ.2.1 96 0) 256] ++ [Int.tmod (σ.2.1 96 0) 256] ++ [(σ.2.1 96 1)] ++ [(σ.2.1 96 2)] ++ [Int.tdiv (σ.2.1 96 3) 65536] ++ [Int.tmod (Int.tdiv (σ.2.1 96 3) 256) 256] ++ [Int.tmod (σ.2.1 96 3) 256] ++ ppL σ (pN σ) ++ [stM σ 20] ++ dL (fun d => σ.2.1 96 (20 + d)) 90 ++ [stM σ 111] ++ dL (fun d => σ.2.1 96 (111 + d)) 90).length ≤ 146 := by omega
        have ckb : 0 ≤ ckL (imB σ) ∧ ckL (imB σ) ≤ 255 := by
          have h9 := ckN_rng (f := fun k => (imB σ).getD k 0) (imB σ).length (fun k hk => hI135.2.2.2 _ (getD_mem hk))
          unfold ckL; omega
        refine am_aload_n (q := 139) rfl (am_tab tk_X3_paint 71 rfl) rfl ?_
        refine am_aload_n (q := 140) rfl (am_tab tk_X3_paint 72 rfl) rfl ?_
        refine am_getR (q := 143) (a := 49) (k := 3) (n := 2) (j := 0) (r := some (50)) (Ls_49 (hI135.L hL)) (by decide) rfl (Lr_49_0 (hI135.L hL)) (by decide) (Or.inl kf_X3_11) (am_tab tk_X3_paint 73 rfl) rfl ?_
        refine am_aload_n (q := 144) rfl (am_tab tk_X3_paint 74 rfl) rfl ?_
        refine am_getI (q := 147) (a := 49) (k := 3) (n := 2) (j := 1) (x := (([] ++ [Int.tdiv (σ.2.1 96 0) 256] ++ [Int.tmod (σ.2.1 96 0) 256] ++ [(σ.2.1 96 1)] ++ [(σ.2.1 96 2)] ++ [Int.tdiv (σ.2.1 96 3) 65536] ++ [Int.tmod (Int.tdiv (σ.2.1 96 3) 256) 256] ++ [Int.tmod (σ.2.1 96 3) 256] ++ ppL σ (pN σ) ++ [stM σ 20] ++ dL (fun d => σ.2.1 96 (20 + d)) 90 ++ [stM σ 111] ++ dL (fun d => σ.2.1 96 (111 + d)) 90).length : Int)) (Ls_49 (hI135.L hL)) (by decide) rfl hI135.2.1 (by decide) (Or.inl kf_X3_15) (am_tab tk_X3_paint 75 rfl) rfl ?_
        refine am_callS0 (q := 150) (me2 := M_X3_checkOf) (As := [am_r 50, am_i ((([] ++ [Int.tdiv (σ.2.1 96 0) 256] ++ [Int.tmod (σ.2.1 96 0) 256] ++ [(σ.2.1 96 1)] ++ [(σ.2.1 96 2)] ++ [Int.tdiv (σ.2.1 96 3) 65536] ++ [Int.tmod (Int.tdiv (σ.2.1 96 3) 256) 256] ++ [Int.tmod (σ.2.1 96 3) 256] ++ ppL σ (pN σ) ++ [stM σ 20] ++ dL (fun d => σ.2.1 96 (20 + d)) 90 ++ [stM σ 111] ++ dL (fun d => σ.2.1 96 (111 + d)) 90).length : Int))]) (rest := [am_r 49]) (out := [am_i (ckN (fun i => I135.2.1 50 i) ([] ++ [Int.tdiv (σ.2.1 96 0) 256] ++ [Int.tmod (σ.2.1 96 0) 256] ++ [(σ.2.1 96 1)] ++ [(σ.2.1 96 2)] ++ [Int.tdiv (σ.2.1 96 3) 65536] ++ [Int.tmod (Int.tdiv (σ.2.1 96 3) 256) 256] ++ [Int.tmod (σ.2.1 96 3) 256] ++ ppL σ (pN σ) ++ [stM σ 20] ++ dL (fun d => σ.2.1 96 (20 + d)) 90 ++ [stM σ 111] ++ dL (fun d => σ.2.1 96 (111 + d)) 90).length), am_r 49]) (c_checkOf_50 I135 (hI135.L hL) ([] ++ [Int.tdiv (σ.2.1 96 0) 256] ++ [Int.tmod (σ.2.1 96 0) 256] ++ [(σ.2.1 96 1)] ++ [(σ.2.1 96 2)] ++ [Int.tdiv (σ.2.1 96 3) 65536] ++ [Int.tmod (Int.tdiv (σ.2.1 96 3) 256) 256] ++ [Int.tmod (σ.2.1 96 3) 256] ++ ppL σ (pN σ) ++ [stM σ 20] ++ dL (fun d => σ.2.1 96 (20 + d)) 90 ++ [stM σ 111] ++ dL (fun d => σ.2.1 96 (111 + d)) 90).length hl146 (fun i hi => by rw [hI135.2.2.1 i hi]; exact hI135.2.2.2 _ (getD_mem hi))) ⟨rfl, rfl⟩ ⟨Or.inl km_X3_63, kc_X3_checkOf, kn_X3, kd_X3_checkOf, ⟨(Nat.le_of_ble_eq_true rfl), (Nat.le_of_ble_eq_true rfl)⟩, ⟨(Nat.le_of_ble_eq_true rfl), (Nat.le_of_ble_eq_true rfl)⟩, (Nat.le_of_ble_eq_true rfl)⟩ ki_X3_checkOf rfl rfl (am_tab tk_X3_paint 76 rfl) rfl ?_
        refine am_st (st2 := [am_i (ckL (imB σ)), am_r 49]) (by rw [ckN_congr (f := fun i => I135.2.1 50 i) (g := fun i => ([] ++ [Int.tdiv (σ.2.1 96 0) 256] ++ [Int.tmod (σ.2.1 96 0) 256] ++ [(σ.2.1 96 1)] ++ [(σ.2.1 96 2)] ++ [Int.tdiv (σ.2.1 96 3) 65536] ++ [Int.tmod (Int.tdiv (σ.2.1 96 3) 256) 256] ++ [Int.tmod (σ.2.1 96 3) 256] ++ ppL σ (pN σ) ++ [stM σ 20] ++ dL (fun d => σ.2.1 96 (20 + d)) 90 ++ [stM σ 111] ++ dL (fun d => σ.2.1 96 (111 + d)) 90).getD i 0) _ (fun i hi => hI135.2.2.1 i hi)]; rfl) ?_
        refine am_callVr (q := 153) (me2 := M_X3_add) (b := 49) (kb := 3) (nb := 2) (As := [am_i (ckL (imB σ))]) (rest := []) (c_pAdd σ hL ([] ++ [Int.tdiv (σ.2.1 96 0) 256] ++ [Int.tmod (σ.2.1 96 0) 256] ++ [(σ.2.1 96 1)] ++ [(σ.2.1 96 2)] ++ [Int.tdiv (σ.2.1 96 3) 65536] ++ [Int.tmod (Int.tdiv (σ.2.1 96 3) 256) 256] ++ [Int.tmod (σ.2.1 96 3) 256] ++ ppL σ (pN σ) ++ [stM σ 20] ++ dL (fun d => σ.2.1 96 (20 + d)) 90 ++ [stM σ 111] ++ dL (fun d => σ.2.1 96 (111 + d)) 90) I135 hI135 (ckL (imB σ)) (by exact ckb) (by omega)) ⟨rfl, rfl⟩ (Ls_49 (hI135.L hL)) (by decide) ⟨Or.inl km_X3_24, kc_X3_add, kn_X3, kd_X3_add, ⟨(Nat.le_of_ble_eq_true rfl), (Nat.le_of_ble_eq_true rfl)⟩, ⟨(Nat.le_of_ble_eq_true rfl), (Nat.le_of_ble_eq_true rfl)⟩, (Nat.le_of_ble_eq_true rfl)⟩ ki_X3_add ks_X3_add rfl (am_tab tk_X3_paint 77 rfl) rfl ?_
        rintro r I150 ⟨rfl, hI150⟩
        refine am_st (st2 := []) rfl ?_
        refine am_vret rfl (Nat.le_of_ble_eq_true rfl) (Nat.le_of_ble_eq_true rfl) (am_tab tk_X3_paint 78 rfl) ?_
        refine hQ _ _ ?_
        exact ⟨rfl, hI150⟩
      · refine am_aload_n (q := 95) rfl (am_tab tk_X3_paint 49 rfl) rfl ?_
        refine am_aload_n (q := 96) rfl (am_tab tk_X3_paint 50 rfl) rfl ?_
        refine am_getR (q := 99) (a := 32) (k := 1) (n := 11) (j := 5) (r := some (33)) (Ls_32 (hI5.L hL)) (by decide) rfl (Lr_32_5 (hI5.L hL)) (by decide) (Or.inr kf_X3_43) (am_tab tk_X3_paint 51 rfl) rfl ?_
        refine am_iload_n (q := 100) rfl (am_tab tk_X3_paint 52 rfl) rfl ?_
        refine am_iald (q := 101) (a := 33) (n := 8) (x := (σ.2.1 96 (4 + i))) (Ls_33 (hI5.L hL)) (by omega) (by omega) (by rw [show Int.toNat (i : Int) = i by omega, hI5.1.2.2 33 i (by unfold W_ic; omega)]; exact hC.F.2.2.2.1 i (by omega)) (am_tab tk_X3_paint 53 rfl) rfl ?_
        refine am_callVr (q := 104) (me2 := M_X3_add) (b := 49) (kb := 3) (nb := 2) (As := [am_i ((σ.2.1 96 (4 + i)))]) (rest := []) (c_pAdd σ hL ([] ++ [Int.tdiv (σ.2.1 96 0) 256] ++ [Int.tmod (σ.2.1 96 0) 256] ++ [(σ.2.1 96 1)] ++ [(σ.2.1 96 2)] ++ [Int.tdiv (σ.2.1 96 3) 65536] ++ [Int.tmod (Int.tdiv (σ.2.1 96 3) 256) 256] ++ [Int.tmod (σ.2.1 96 3) 256] ++ ppL σ i) S5 hI5 (σ.2.1 96 (4 + i)) (by have := ha2 (by omega); omega) (by simp only [List.length_append, List.length_cons, List.length_nil, ppL_len]; omega)) ⟨rfl, rfl⟩ (Ls_49 (hI5.L hL)) (by decide) ⟨Or.inl km_X3_24, kc_X3_add, kn_X3, kd_X3_add, ⟨(Nat.le_of_ble_eq_true rfl), (Nat.le_of_ble_eq_true rfl)⟩, ⟨(Nat.le_of_ble_eq_true rfl), (Nat.le_of_ble_eq_true rfl)⟩, (Nat.le_of_ble_eq_true rfl)⟩ ki_X3_add ks_X3_add rfl (am_tab tk_X3_paint 54 rfl) rfl ?_
        rintro r I101 ⟨rfl, hI101⟩
        refine am_st (st2 := []) rfl ?_
        refine am_aload_n (q := 105) rfl (am_tab tk_X3_paint 55 rfl) rfl ?_
        refine am_aload_n (q := 106) rfl (am_tab tk_X3_paint 56 rfl) rfl ?_
        refine am_getI (q := 109) (a := 32) (k := 1) (n := 11) (j := 4) (x := (σ.2.1 32 4)) (Ls_32 (hI101.L hL)) (by decide) rfl (hI101.1.2.2 32 4 (by unfold W_ic; omega)) (by decide) (Or.inr kf_X3_46) (am_tab tk_X3_paint 57 rfl) rfl ?_
        refine am_iload_n (q := 110) rfl (am_tab tk_X3_paint 58 rfl) rfl ?_
        refine am_callSr (q := 113) (me2 := M_X9_bit) (As := [am_i ((σ.2.1 32 4)), am_i ((i : Int))]) (rest := [am_r 49]) (c_bit I101 (σ.2.1 32 4) (i : Int) hC.F.2.1 (by omega)) ⟨rfl, rfl⟩ ⟨Or.inr km_X3_49, kc_X9_bit, kn_X9, kd_X9_bit, ⟨(Nat.le_of_ble_eq_true rfl), (Nat.le_of_ble_eq_true rfl)⟩, ⟨(Nat.le_of_ble_eq_true rfl), (Nat.le_of_ble_eq_true rfl)⟩, (Nat.le_of_ble_eq_true rfl)⟩ ki_X9_bit rfl (am_tab tk_X3_paint 59 rfl) rfl ?_
        rintro r τ ⟨hr9, hτ⟩
        rw [show tb (σ.2.1 32 4) (i : Int) = σ.2.1 96 (12 + i) from hC.F.2.2.1 i (by omega)] at hr9
        rw [hr9, hτ]
        refine am_st (st2 := [am_i ((σ.2.1 96 (12 + i))), am_r 49]) rfl ?_
        refine am_callVr (q := 116) (me2 := M_X3_add) (b := 49) (kb := 3) (nb := 2) (As := [am_i ((σ.2.1 96 (12 + i)))]) (rest := []) (c_pAdd σ hL ([] ++ [Int.tdiv (σ.2.1 96 0) 256] ++ [Int.tmod (σ.2.1 96 0) 256] ++ [(σ.2.1 96 1)] ++ [(σ.2.1 96 2)] ++ [Int.tdiv (σ.2.1 96 3) 65536] ++ [Int.tmod (Int.tdiv (σ.2.1 96 3) 256) 256] ++ [Int.tmod (σ.2.1 96 3) 256] ++ ppL σ i ++ [(σ.2.1 96 (4 + i))]) I101 hI101 (σ.2.1 96 (12 + i)) (by have := hd2 (by omega); omega) (by simp only [List.length_append, List.length_cons, List.length_nil, ppL_len]; omega)) ⟨rfl, rfl⟩ (Ls_49 (hI101.L hL)) (by decide) ⟨Or.inl km_X3_24, kc_X3_add, kn_X3, kd_X3_add, ⟨(Nat.le_of_ble_eq_true rfl), (Nat.le_of_ble_eq_true rfl)⟩, ⟨(Nat.le_of_ble_eq_true rfl), (Nat.le_of_ble_eq_true rfl)⟩, (Nat.le_of_ble_eq_true rfl)⟩ ki_X3_add ks_X3_add rfl (am_tab tk_X3_paint 60 rfl) rfl ?_
        rintro r I113 ⟨rfl, hI113⟩
        refine am_st (st2 := []) rfl ?_
        refine am_iinc (q := 119) rfl (by omega) (by decide) (ls2 := [(3, am_i (((i : Int) + 1))), (0, am_r 49), (1, am_r 15), (2, am_r 32)]) rfl (am_tab tk_X3_paint 61 rfl) rfl ?_
        refine am_goto (t := 86) (am_tab tk_X3_paint 62 rfl) (by decide) ?_
        have hpp : [] ++ [Int.tdiv (σ.2.1 96 0) 256] ++ [Int.tmod (σ.2.1 96 0) 256] ++ [(σ.2.1 96 1)] ++ [(σ.2.1 96 2)] ++ [Int.tdiv (σ.2.1 96 3) 65536] ++ [Int.tmod (Int.tdiv (σ.2.1 96 3) 256) 256] ++ [Int.tmod (σ.2.1 96 3) 256] ++ ppL σ (i + 1) = [] ++ [Int.tdiv (σ.2.1 96 0) 256] ++ [Int.tmod (σ.2.1 96 0) 256] ++ [(σ.2.1 96 1)] ++ [(σ.2.1 96 2)] ++ [Int.tdiv (σ.2.1 96 3) 65536] ++ [Int.tmod (Int.tdiv (σ.2.1 96 3) 256) 256] ++ [Int.tmod (σ.2.1 96 3) 256] ++ ppL σ i ++ [(σ.2.1 96 (4 + i))] ++ [(σ.2.1 96 (12 + i))] := by
          show _ ++ (ppL σ i ++ [σ.2.1 96 (4 + i)] ++ [σ.2.1 96 (12 + i)]) = _
          simp only [List.append_assoc]
        exact am_less (by intro q hq; simp only [List.mem_cons, List.not_mem_nil, or_false] at hq; rcases hq with rfl | rfl | rfl | rfl <;> simp) (ih86 (i + 1) I113 (by omega) (by omega) (by rw [hpp]; exact hI113))
  refine am_less (by intro q hq; simp only [List.mem_cons, List.not_mem_nil, or_false] at hq; rcases hq with rfl | rfl | rfl | rfl <;> simp) (L86 (_ + 1) 0 I81 (by exact Nat.lt_succ_self _) (by omega) (by simpa [ppL] using hI81))
theorem c_image_15 (σ : am_H) (hC : CI 15 σ)  (hZ : ZR (σ.2.1 85 9) (fun j => σ.2.1 96 j)) (hm20 : 0 ≤ stM σ 20 ∧ stM σ 20 ≤ 30) (hm111 : 0 ≤ stM σ 111 ∧ stM σ 111 ≤ 30) : am_met M_X9_image [am_r 0] σ (fun r σ' => r = some (am_i ((imL σ).length : Int)) ∧ IC σ (imL σ) σ') := by
  refine am_qq (fun Q hQ => ?_)
  refine am_enter (show plainFor yX9_image = true by decide +kernel) rfl (Nat.le_of_ble_eq_true rfl) (fun _ _ _ => trivial) ?_
  have hL := hC.G.L
  refine am_aload_n (q := 1) rfl (am_tab tk_X9_image 0 rfl) rfl ?_
  refine am_getR (q := 4) (a := 0) (k := 9) (n := 17) (j := 8) (r := some (49)) (Ls_0 hL) (by decide) rfl (Lr_0_8 hL) (by decide) (Or.inl kf_X9_64) (am_tab tk_X9_image 1 rfl) rfl ?_
  refine am_aload_n (q := 5) rfl (am_tab tk_X9_image 2 rfl) rfl ?_
  refine am_getR (q := 8) (a := 0) (k := 9) (n := 17) (j := 2) (r := some (15)) (Ls_0 hL) (by decide) rfl hC.t (by decide) (Or.inl kf_X9_19) (am_tab tk_X9_image 3 rfl) rfl ?_
  refine am_aload_n (q := 9) rfl (am_tab tk_X9_image 4 rfl) rfl ?_
  refine am_getR (q := 12) (a := 0) (k := 9) (n := 17) (j := 4) (r := some (32)) (Ls_0 hL) (by decide) rfl (Lr_0_4 hL) (by decide) (Or.inl kf_X9_38) (am_tab tk_X9_image 5 rfl) rfl ?_
  refine am_callVr (q := 15) (me2 := M_X3_paint) (b := 49) (kb := 3) (nb := 2) (As := [am_r 15, am_r 32]) (rest := []) (c_paint_15 σ hC hZ hm20 hm111) ⟨rfl, rfl⟩ (Ls_49 hL) (by decide) ⟨Or.inr km_X9_322, kc_X3_paint, kn_X3, kd_X3_paint, ⟨(Nat.le_of_ble_eq_true rfl), (Nat.le_of_ble_eq_true rfl)⟩, ⟨(Nat.le_of_ble_eq_true rfl), (Nat.le_of_ble_eq_true rfl)⟩, (Nat.le_of_ble_eq_true rfl)⟩ ki_X3_paint ks_X3_paint rfl (am_tab tk_X9_image 6 rfl) rfl ?_
  rintro r S ⟨rfl, hI⟩
  refine am_st (st2 := []) rfl ?_
  refine am_aload_n (q := 16) rfl (am_tab tk_X9_image 7 rfl) rfl ?_
  refine am_getR (q := 19) (a := 0) (k := 9) (n := 17) (j := 8) (r := some (49)) (Ls_0 (hI.L hL)) (by decide) rfl (Lr_0_8 (hI.L hL)) (by decide) (Or.inl kf_X9_64) (am_tab tk_X9_image 8 rfl) rfl ?_
  refine am_getI (q := 22) (a := 49) (k := 3) (n := 2) (j := 1) (x := ((imL σ).length : Int)) (Ls_49 (hI.L hL)) (by decide) rfl hI.2.1 (by decide) (Or.inr kf_X9_325) (am_tab tk_X9_image 9 rfl) rfl ?_
  refine am_iret (Or.inl rfl) (Nat.le_of_ble_eq_true rfl) (Nat.le_of_ble_eq_true rfl) (am_tab tk_X9_image 10 rfl) ?_
  refine hQ _ _ ?_
  exact ⟨rfl, hI⟩
