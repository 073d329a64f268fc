set_option maxRecDepth 100000 in
theorem st_tail_3_0 (b : Nat → Int) (E : Nat) (cv : Nat → Int) (M : Nat) (p : PZ) (σ : am_H) (hX : RY b E cv M σ p) (hR : σ.2.2 27 2 = some 3) (h1 : 0 ≤ σ.2.1 3 1 ∧ σ.2.1 3 1 ≤ 1000) (x y : Int) (Q : Option am_V → am_H → Prop) (hQ : ∀ r τ, (r = none ∧ RY b E cv M τ (sgF b E 59 p) ∧ frw W_rz (am_setN σ 3 1 (σ.2.1 3 1 + 1)) τ) → Q r τ) : am_wp (M_X4_readStatement 0 0) Q 0 0 280 [(0, am_r 27), (1, am_i x), (2, am_i y)] [] σ := by
  have hX0 := hX
  have hG0 := frw.refl W_rz σ
  refine am_aload_n (q := 281) rfl (am_tab tk_X4_readStatement 104 rfl) rfl ?_
  refine am_aload_n (q := 282) rfl (am_tab tk_X4_readStatement 105 rfl) rfl ?_
  refine am_getI (q := 285) (a := 27) (k := 4) (n := 13) (j := 4) (x := (kdZ b E (p))) (Ls_27 hX.1) (by decide) rfl hX0.kd (by decide) (Or.inl kf_X4_45) (am_tab tk_X4_readStatement 106 rfl) rfl ?_
  refine am_bipush (q := 287) (n := 59) (by decide) rfl (am_tab tk_X4_readStatement 107 rfl) rfl ?_
  refine am_icmp_ne (q := 290) (t := 294) (am_tab tk_X4_readStatement 108 rfl) (by decide) rfl (fun h287 => ?_) (fun h287 => ?_)
  · refine am_iconst (q := 295) (n := 0) (by decide) (am_tab tk_X4_readStatement 111 rfl) rfl ?_
    refine am_iconst (q := 296) (n := 1) (by decide) (am_tab tk_X4_readStatement 112 rfl) rfl ?_
    refine am_callVr (q := 299) (me2 := M_X4_pass) (b := 27) (kb := 4) (nb := 13) (As := [am_i 0, am_i 1]) (rest := []) (c_passYF hX0 1 (by decide)) ⟨rfl, rfl⟩ (Ls_27 hX.1) (by decide) ⟨Or.inl km_X4_71, kc_X4_pass, kn_X4, kd_X4_pass, ⟨(Nat.le_of_ble_eq_true rfl), (Nat.le_of_ble_eq_true rfl)⟩, ⟨(Nat.le_of_ble_eq_true rfl), (Nat.le_of_ble_eq_true rfl)⟩, (Nat.le_of_ble_eq_true rfl)⟩ ki_X4_pass ks_X4_pass rfl (am_tab tk_X4_readStatement 113 rfl) rfl ?_
    rintro r T1 ⟨rfl, hX1, hG⟩
    have hG1 := hG0.trans hG
    rw [show ftZ b E 1 (p) = sgF b E 59 p from sg_F h287] at hX1
    have e1 : T1.2.1 3 1 = σ.2.1 3 1 := hG1.2.2 3 1 (by unfold W_rz; omega)
    refine am_aload_n (q := 300) rfl (am_tab tk_X4_readStatement 114 rfl) rfl ?_
    refine am_getR (q := 303) (a := 27) (k := 4) (n := 13) (j := 2) (r := some (3)) (Ls_27 hX1.1) (by decide) rfl (show T1.2.2 27 2 = some 3 by rw [hG1.2.1]; exact hR) (by decide) (Or.inl kf_X4_29) (am_tab tk_X4_readStatement 115 rfl) rfl ?_
    refine am_dup (q := 304) rfl (am_tab tk_X4_readStatement 116 rfl) rfl ?_
    refine am_getI (q := 307) (a := 3) (k := 8) (n := 17) (j := 1) (x := (T1.2.1 3 1)) (Ls_3 hX1.1) (by decide) rfl rfl (by decide) (Or.inr kf_X4_52) (am_tab tk_X4_readStatement 117 rfl) rfl ?_
    refine am_iconst (q := 308) (n := 1) (by decide) (am_tab tk_X4_readStatement 118 rfl) rfl ?_
    refine am_iadd (q := 309) (by omega) (am_tab tk_X4_readStatement 119 rfl) rfl ?_
    refine am_putI (q := 312) (k := 8) (n := 17) (j := 1) (Ls_3 hX1.1) (by decide) rfl (by decide) (Or.inr (Or.inl ⟨kf_X4_52, rfl⟩)) (am_tab tk_X4_readStatement 120 rfl) rfl ?_
    refine am_vret rfl (Nat.le_of_ble_eq_true rfl) (Nat.le_of_ble_eq_true rfl) (am_tab tk_X4_readStatement 121 rfl) ?_
    refine hQ _ _ ?_
    refine ⟨rfl, hX1.fr ((frw.refl (fun a _ => a = 3) T1).setN rfl) (fun a j h => by omega), ?_⟩
    rw [e1]
    exact hG1.both 3 1 _
  · refine am_iconst (q := 291) (n := 1) (by decide) (am_tab tk_X4_readStatement 109 rfl) rfl ?_
    refine am_goto (t := 295) (am_tab tk_X4_readStatement 110 rfl) (by decide) ?_
    refine am_iconst (q := 296) (n := 1) (by decide) (am_tab tk_X4_readStatement 112 rfl) rfl ?_
    refine am_callVr (q := 299) (me2 := M_X4_pass) (b := 27) (kb := 4) (nb := 13) (As := [am_i 1, am_i 1]) (rest := []) (c_passYT hX0 (by rw [h287]; decide) 1) ⟨rfl, rfl⟩ (Ls_27 hX.1) (by decide) ⟨Or.inl km_X4_71, kc_X4_pass, kn_X4, kd_X4_pass, ⟨(Nat.le_of_ble_eq_true rfl), (Nat.le_of_ble_eq_true rfl)⟩, ⟨(Nat.le_of_ble_eq_true rfl), (Nat.le_of_ble_eq_true rfl)⟩, (Nat.le_of_ble_eq_true rfl)⟩ ki_X4_pass ks_X4_pass rfl (am_tab tk_X4_readStatement 113 rfl) rfl ?_
    rintro r T1 ⟨rfl, hX1, hG⟩
    have hG1 := hG0.trans hG
    rw [show npZ (p) = sgF b E 59 p from sg_T h287] at hX1
    have e1 : T1.2.1 3 1 = σ.2.1 3 1 := hG1.2.2 3 1 (by unfold W_rz; omega)
    refine am_aload_n (q := 300) rfl (am_tab tk_X4_readStatement 114 rfl) rfl ?_
    refine am_getR (q := 303) (a := 27) (k := 4) (n := 13) (j := 2) (r := some (3)) (Ls_27 hX1.1) (by decide) rfl (show T1.2.2 27 2 = some 3 by rw [hG1.2.1]; exact hR) (by decide) (Or.inl kf_X4_29) (am_tab tk_X4_readStatement 115 rfl) rfl ?_
    refine am_dup (q := 304) rfl (am_tab tk_X4_readStatement 116 rfl) rfl ?_
    refine am_getI (q := 307) (a := 3) (k := 8) (n := 17) (j := 1) (x := (T1.2.1 3 1)) (Ls_3 hX1.1) (by decide) rfl rfl (by decide) (Or.inr kf_X4_52) (am_tab tk_X4_readStatement 117 rfl) rfl ?_
    refine am_iconst (q := 308) (n := 1) (by decide) (am_tab tk_X4_readStatement 118 rfl) rfl ?_
    refine am_iadd (q := 309) (by omega) (am_tab tk_X4_readStatement 119 rfl) rfl ?_
    refine am_putI (q := 312) (k := 8) (n := 17) (j := 1) (Ls_3 hX1.1) (by decide) rfl (by decide) (Or.inr (Or.inl ⟨kf_X4_52, rfl⟩)) (am_tab tk_X4_readStatement 120 rfl) rfl ?_
    refine am_vret rfl (Nat.le_of_ble_eq_true rfl) (Nat.le_of_ble_eq_true rfl) (am_tab tk_X4_readStatement 121 rfl) ?_
    refine hQ _ _ ?_
    refine ⟨rfl, hX1.fr ((frw.refl (fun a _ => a = 3) T1).setN rfl) (fun a j h => by omega), ?_⟩
    rw [e1]
    exact hG1.both 3 1 _
set_option maxRecDepth 100000 in
theorem st_head_3_0 (b : Nat → Int) (E : Nat) (cv : Nat → Int) (M : Nat) (i : Nat) (σ : am_H) (hX : RY b E cv M σ (.inl i)) (hR : σ.2.2 27 2 = some 3) (K : Int) (hK : zK b E i = K) (hk6 : ¬ zK b E i = 6) (Q : Option am_V → am_H → Prop) (hT : ∀ (p : PZ) (T : am_H), RY b E cv M T p → frw W_rz σ T → ((p = .inl (i + 1) ∧ ¬ ((K = 129 ∧ 8 ≤ σ.2.1 3 2) ∨ (K = 132 ∧ 30 ≤ σ.2.1 3 3) ∨ (K = 134 ∧ 20 ≤ σ.2.1 3 4) ∨ (K = 135 ∧ 4 ≤ σ.2.1 3 5) ∨ (K = 137 ∧ 0 < σ.2.1 11 1) ∨ (K = 138 ∧ 0 < σ.2.1 13 1)) ∧ σ.2.1 3 1 < 70) ∨ (p = .inr (5, (zP b E i : Int)) ∧ (70 ≤ σ.2.1 3 1 ∨ ((K = 129 ∧ 8 ≤ σ.2.1 3 2) ∨ (K = 132 ∧ 30 ≤ σ.2.1 3 3) ∨ (K = 134 ∧ 20 ≤ σ.2.1 3 4) ∨ (K = 135 ∧ 4 ≤ σ.2.1 3 5) ∨ (K = 137 ∧ 0 < σ.2.1 11 1) ∨ (K = 138 ∧ 0 < σ.2.1 13 1))))) → am_wp (M_X4_readStatement 0 0) Q 0 0 43 [(0, am_r 27), (1, am_i K), (2, am_i (zP b E i : Int))] [] T) : am_wp (M_X4_readStatement 0 0) Q 0 0 0 [(0, am_r 27)] [] σ := by
  have hX0 := hX
  have hG0 := frw.refl W_rz σ
  refine am_aload_n (q := 1) rfl (am_tab tk_X4_readStatement 0 rfl) rfl ?_
  refine am_getI (q := 4) (a := 27) (k := 4) (n := 13) (j := 4) (x := K) (Ls_27 hX.1) (by decide) rfl (hX.kd.trans hK) (by decide) (Or.inl kf_X4_45) (am_tab tk_X4_readStatement 1 rfl) rfl ?_
  refine am_istore_n (q := 5) (by decide) (ls2 := [(1, am_i K), (0, am_r 27)]) rfl (am_tab tk_X4_readStatement 2 rfl) rfl ?_
  refine am_aload_n (q := 6) rfl (am_tab tk_X4_readStatement 3 rfl) rfl ?_
  refine am_getI (q := 9) (a := 27) (k := 4) (n := 13) (j := 5) (x := (zP b E i : Int)) (Ls_27 hX.1) (by decide) rfl (hX.pz rfl) (by decide) (Or.inl kf_X4_55) (am_tab tk_X4_readStatement 4 rfl) rfl ?_
  refine am_istore_n (q := 10) (by decide) (ls2 := [(2, am_i ((zP b E i : Int))), (1, am_i K), (0, am_r 27)]) rfl (am_tab tk_X4_readStatement 5 rfl) rfl ?_
  refine am_aload_n (q := 11) rfl (am_tab tk_X4_readStatement 6 rfl) rfl ?_
  refine am_aload_n (q := 12) rfl (am_tab tk_X4_readStatement 7 rfl) rfl ?_
  refine am_getR (q := 15) (a := 27) (k := 4) (n := 13) (j := 2) (r := some (3)) (Ls_27 hX.1) (by decide) rfl hR (by decide) (Or.inl kf_X4_29) (am_tab tk_X4_readStatement 8 rfl) rfl ?_
  refine am_getI (q := 18) (a := 3) (k := 8) (n := 17) (j := 1) (x := (σ.2.1 3 1)) (Ls_3 hX.1) (by decide) rfl rfl (by decide) (Or.inr kf_X4_52) (am_tab tk_X4_readStatement 9 rfl) rfl ?_
  refine am_bipush (q := 20) (n := 70) (by decide) rfl (am_tab tk_X4_readStatement 10 rfl) rfl ?_
  refine am_icmp_ge (q := 23) (t := 38) (am_tab tk_X4_readStatement 11 rfl) (by decide) rfl (fun h20 => ?_) (fun h20 => ?_)
  · refine am_iconst (q := 39) (n := 0) (by decide) (am_tab tk_X4_readStatement 19 rfl) rfl ?_
    refine am_iconst (q := 40) (n := 5) (by decide) (am_tab tk_X4_readStatement 20 rfl) rfl ?_
    refine am_callVr (q := 43) (me2 := M_X4_pass) (b := 27) (kb := 4) (nb := 13) (As := [am_i 0, am_i 5]) (rest := []) (c_passYF hX 5 (by decide)) ⟨rfl, rfl⟩ (Ls_27 hX.1) (by decide) ⟨Or.inl km_X4_71, kc_X4_pass, kn_X4, kd_X4_pass, ⟨(Nat.le_of_ble_eq_true rfl), (Nat.le_of_ble_eq_true rfl)⟩, ⟨(Nat.le_of_ble_eq_true rfl), (Nat.le_of_ble_eq_true rfl)⟩, (Nat.le_of_ble_eq_true rfl)⟩ ki_X4_pass ks_X4_pass rfl (am_tab tk_X4_readStatement 21 rfl) rfl ?_
    rintro r T1 ⟨rfl, hX1, hG1⟩
    exact am_less (by intro q hq; simp only [List.mem_cons, List.not_mem_nil, or_false] at hq; rcases hq with rfl | rfl | rfl <;> simp) (hT (.inr (5, (zP b E i : Int))) T1 hX1 hG1 (Or.inr ⟨rfl, Or.inl (by omega)⟩))
  · refine am_aload_n (q := 24) rfl (am_tab tk_X4_readStatement 12 rfl) rfl ?_
    refine am_getR (q := 27) (a := 27) (k := 4) (n := 13) (j := 2) (r := some (3)) (Ls_27 hX.1) (by decide) rfl hR (by decide) (Or.inl kf_X4_29) (am_tab tk_X4_readStatement 13 rfl) rfl ?_
    refine am_iload_n (q := 28) rfl (am_tab tk_X4_readStatement 14 rfl) rfl ?_
    by_cases full : ((K = 129 ∧ 8 ≤ σ.2.1 3 2) ∨ (K = 132 ∧ 30 ≤ σ.2.1 3 3) ∨ (K = 134 ∧ 20 ≤ σ.2.1 3 4) ∨ (K = 135 ∧ 4 ≤ σ.2.1 3 5) ∨ (K = 137 ∧ 0 < σ.2.1 11 1) ∨ (K = 138 ∧ 0 < σ.2.1 13 1))
    · refine am_callVr (q := 31) (me2 := M_X8_isFull) (b := 3) (kb := 8) (nb := 17) (As := [am_i K]) (rest := [am_r 27]) (c_townFull_3 σ hX.1 K) ⟨rfl, rfl⟩ (Ls_3 hX.1) (by decide) ⟨Or.inr km_X4_107, kc_X8_isFull, kn_X8, kd_X8_isFull, ⟨(Nat.le_of_ble_eq_true rfl), (Nat.le_of_ble_eq_true rfl)⟩, ⟨(Nat.le_of_ble_eq_true rfl), (Nat.le_of_ble_eq_true rfl)⟩, (Nat.le_of_ble_eq_true rfl)⟩ ki_X8_isFull ks_X8_isFull rfl (am_tab tk_X4_readStatement 15 rfl) rfl ?_
      rintro r τ9 ⟨rfl, hτ9⟩
      rw [hτ9, if_pos full]
      refine am_if_ne (q := 34) (t := 38) (am_tab tk_X4_readStatement 16 rfl) (by decide) rfl (fun h31 => ?_) (fun h31 => ?_)
      · refine am_iconst (q := 39) (n := 0) (by decide) (am_tab tk_X4_readStatement 19 rfl) rfl ?_
        refine am_iconst (q := 40) (n := 5) (by decide) (am_tab tk_X4_readStatement 20 rfl) rfl ?_
        refine am_callVr (q := 43) (me2 := M_X4_pass) (b := 27) (kb := 4) (nb := 13) (As := [am_i 0, am_i 5]) (rest := []) (c_passYF hX 5 (by decide)) ⟨rfl, rfl⟩ (Ls_27 hX.1) (by decide) ⟨Or.inl km_X4_71, kc_X4_pass, kn_X4, kd_X4_pass, ⟨(Nat.le_of_ble_eq_true rfl), (Nat.le_of_ble_eq_true rfl)⟩, ⟨(Nat.le_of_ble_eq_true rfl), (Nat.le_of_ble_eq_true rfl)⟩, (Nat.le_of_ble_eq_true rfl)⟩ ki_X4_pass ks_X4_pass rfl (am_tab tk_X4_readStatement 21 rfl) rfl ?_
        rintro r T1 ⟨rfl, hX1, hG1⟩
        exact am_less (by intro q hq; simp only [List.mem_cons, List.not_mem_nil, or_false] at hq; rcases hq with rfl | rfl | rfl <;> simp) (hT (.inr (5, (zP b E i : Int))) T1 hX1 hG1 (Or.inr ⟨rfl, Or.inr full⟩))
      · exact absurd h31 (by decide)
    · refine am_callVr (q := 31) (me2 := M_X8_isFull) (b := 3) (kb := 8) (nb := 17) (As := [am_i K]) (rest := [am_r 27]) (c_townFull_3 σ hX.1 K) ⟨rfl, rfl⟩ (Ls_3 hX.1) (by decide) ⟨Or.inr km_X4_107, kc_X8_isFull, kn_X8, kd_X8_isFull, ⟨(Nat.le_of_ble_eq_true rfl), (Nat.le_of_ble_eq_true rfl)⟩, ⟨(Nat.le_of_ble_eq_true rfl), (Nat.le_of_ble_eq_true rfl)⟩, (Nat.le_of_ble_eq_true rfl)⟩ ki_X8_isFull ks_X8_isFull rfl (am_tab tk_X4_readStatement 15 rfl) rfl ?_
      rintro r τ9 ⟨rfl, hτ9⟩
      rw [hτ9, if_neg full]
      refine am_if_ne (q := 34) (t := 38) (am_tab tk_X4_readStatement 16 rfl) (by decide) rfl (fun h31 => ?_) (fun h31 => ?_)
      · exact absurd rfl h31
      · refine am_iconst (q := 35) (n := 1) (by decide) (am_tab tk_X4_readStatement 17 rfl) rfl ?_
        refine am_goto (t := 39) (am_tab tk_X4_readStatement 18 rfl) (by decide) ?_
        refine am_iconst (q := 40) (n := 5) (by decide) (am_tab tk_X4_readStatement 20 rfl) rfl ?_
        refine am_callVr (q := 43) (me2 := M_X4_pass) (b := 27) (kb := 4) (nb := 13) (As := [am_i 1, am_i 5]) (rest := []) (c_passYT hX hk6 5) ⟨rfl, rfl⟩ (Ls_27 hX.1) (by decide) ⟨Or.inl km_X4_71, kc_X4_pass, kn_X4, kd_X4_pass, ⟨(Nat.le_of_ble_eq_true rfl), (Nat.le_of_ble_eq_true rfl)⟩, ⟨(Nat.le_of_ble_eq_true rfl), (Nat.le_of_ble_eq_true rfl)⟩, (Nat.le_of_ble_eq_true rfl)⟩ ki_X4_pass ks_X4_pass rfl (am_tab tk_X4_readStatement 21 rfl) rfl ?_
        rintro r T1 ⟨rfl, hX1, hG1⟩
        exact am_less (by intro q hq; simp only [List.mem_cons, List.not_mem_nil, or_false] at hq; rcases hq with rfl | rfl | rfl <;> simp) (hT (.inl (i + 1)) T1 hX1 hG1 (Or.inl ⟨rfl, full, by omega⟩))
set_option maxRecDepth 100000 in
theorem st_tail_3_1 (b : Nat → Int) (E : Nat) (cv : Nat → Int) (M : Nat) (p : PZ) (σ : am_H) (hX : RY b E cv M σ p) (hR : σ.2.2 27 2 = some 3) (h1 : 0 ≤ σ.2.1 3 1 ∧ σ.2.1 3 1 ≤ 1000) (x y : Int) (Q : Option am_V → am_H → Prop) (hQ : ∀ r τ, (r = none ∧ RY b E cv M τ (sgF b E 59 p) ∧ frw W_rz (am_setN σ 3 1 (σ.2.1 3 1 + 1)) τ) → Q r τ) : am_wp (M_X4_readStatement 1 1600) Q 1 1600 280 [(0, am_r 27), (1, am_i x), (2, am_i y)] [] σ := by
  have hX0 := hX
  have hG0 := frw.refl W_rz σ
  refine am_aload_n (q := 281) rfl (am_tab tk_X4_readStatement 104 rfl) rfl ?_
  refine am_aload_n (q := 282) rfl (am_tab tk_X4_readStatement 105 rfl) rfl ?_
  refine am_getI (q := 285) (a := 27) (k := 4) (n := 13) (j := 4) (x := (kdZ b E (p))) (Ls_27 hX.1) (by decide) rfl hX0.kd (by decide) (Or.inl kf_X4_45) (am_tab tk_X4_readStatement 106 rfl) rfl ?_
  refine am_bipush (q := 287) (n := 59) (by decide) rfl (am_tab tk_X4_readStatement 107 rfl) rfl ?_
  refine am_icmp_ne (q := 290) (t := 294) (am_tab tk_X4_readStatement 108 rfl) (by decide) rfl (fun h287 => ?_) (fun h287 => ?_)
  · refine am_iconst (q := 295) (n := 0) (by decide) (am_tab tk_X4_readStatement 111 rfl) rfl ?_
    refine am_iconst (q := 296) (n := 1) (by decide) (am_tab tk_X4_readStatement 112 rfl) rfl ?_
    refine am_callVr (q := 299) (me2 := M_X4_pass) (b := 27) (kb := 4) (nb := 13) (As := [am_i 0, am_i 1]) (rest := []) (c_passYF hX0 1 (by decide)) ⟨rfl, rfl⟩ (Ls_27 hX.1) (by decide) ⟨Or.inl km_X4_71, kc_X4_pass, kn_X4, kd_X4_pass, ⟨(Nat.le_of_ble_eq_true rfl), (Nat.le_of_ble_eq_true rfl)⟩, ⟨(Nat.le_of_ble_eq_true rfl), (Nat.le_of_ble_eq_true rfl)⟩, (Nat.le_of_ble_eq_true rfl)⟩ ki_X4_pass ks_X4_pass rfl (am_tab tk_X4_readStatement 113 rfl) rfl ?_
    rintro r T1 ⟨rfl, hX1, hG⟩
    have hG1 := hG0.trans hG
    rw [show ftZ b E 1 (p) = sgF b E 59 p from sg_F h287] at hX1
    have e1 : T1.2.1 3 1 = σ.2.1 3 1 := hG1.2.2 3 1 (by unfold W_rz; omega)
    refine am_aload_n (q := 300) rfl (am_tab tk_X4_readStatement 114 rfl) rfl ?_
    refine am_getR (q := 303) (a := 27) (k := 4) (n := 13) (j := 2) (r := some (3)) (Ls_27 hX1.1) (by decide) rfl (show T1.2.2 27 2 = some 3 by rw [hG1.2.1]; exact hR) (by decide) (Or.inl kf_X4_29) (am_tab tk_X4_readStatement 115 rfl) rfl ?_
    refine am_dup (q := 304) rfl (am_tab tk_X4_readStatement 116 rfl) rfl ?_
    refine am_getI (q := 307) (a := 3) (k := 8) (n := 17) (j := 1) (x := (T1.2.1 3 1)) (Ls_3 hX1.1) (by decide) rfl rfl (by decide) (Or.inr kf_X4_52) (am_tab tk_X4_readStatement 117 rfl) rfl ?_
    refine am_iconst (q := 308) (n := 1) (by decide) (am_tab tk_X4_readStatement 118 rfl) rfl ?_
    refine am_iadd (q := 309) (by omega) (am_tab tk_X4_readStatement 119 rfl) rfl ?_
    refine am_putI (q := 312) (k := 8) (n := 17) (j := 1) (Ls_3 hX1.1) (by decide) rfl (by decide) (Or.inr (Or.inl ⟨kf_X4_52, rfl⟩)) (am_tab tk_X4_readStatement 120 rfl) rfl ?_
    refine am_vret rfl (Nat.le_of_ble_eq_true rfl) (Nat.le_of_ble_eq_true rfl) (am_tab tk_X4_readStatement 121 rfl) ?_
    refine hQ _ _ ?_
    refine ⟨rfl, hX1.fr ((frw.refl (fun a _ => a = 3) T1).setN rfl) (fun a j h => by omega), ?_⟩
    rw [e1]
    exact hG1.both 3 1 _
  · refine am_iconst (q := 291) (n := 1) (by decide) (am_tab tk_X4_readStatement 109 rfl) rfl ?_
    refine am_goto (t := 295) (am_tab tk_X4_readStatement 110 rfl) (by decide) ?_
    refine am_iconst (q := 296) (n := 1) (by decide) (am_tab tk_X4_readStatement 112 rfl) rfl ?_
    refine am_callVr (q := 299) (me2 := M_X4_pass) (b := 27) (kb := 4) (nb := 13) (As := [am_i 1, am_i 1]) (rest := []) (c_passYT hX0 (by rw [h287]; decide) 1) ⟨rfl, rfl⟩ (Ls_27 hX.1) (by decide) ⟨Or.inl km_X4_71, kc_X4_pass, kn_X4, kd_X4_pass, ⟨(Nat.le_of_ble_eq_true rfl), (Nat.le_of_ble_eq_true rfl)⟩, ⟨(Nat.le_of_ble_eq_true rfl), (Nat.le_of_ble_eq_true rfl)⟩, (Nat.le_of_ble_eq_true rfl)⟩ ki_X4_pass ks_X4_pass rfl (am_tab tk_X4_readStatement 113 rfl) rfl ?_
    rintro r T1 ⟨rfl, hX1, hG⟩
    have hG1 := hG0.trans hG
    rw [show npZ (p) = sgF b E 59 p from sg_T h287] at hX1
    have e1 : T1.2.1 3 1 = σ.2.1 3 1 := hG1.2.2 3 1 (by unfold W_rz; omega)
    refine am_aload_n (q := 300) rfl (am_tab tk_X4_readStatement 114 rfl) rfl ?_
    refine am_getR (q := 303) (a := 27) (k := 4) (n := 13) (j := 2) (r := some (3)) (Ls_27 hX1.1) (by decide) rfl (show T1.2.2 27 2 = some 3 by rw [hG1.2.1]; exact hR) (by decide) (Or.inl kf_X4_29) (am_tab tk_X4_readStatement 115 rfl) rfl ?_
    refine am_dup (q := 304) rfl (am_tab tk_X4_readStatement 116 rfl) rfl ?_
    refine am_getI (q := 307) (a := 3) (k := 8) (n := 17) (j := 1) (x := (T1.2.1 3 1)) (Ls_3 hX1.1) (by decide) rfl rfl (by decide) (Or.inr kf_X4_52) (am_tab tk_X4_readStatement 117 rfl) rfl ?_
    refine am_iconst (q := 308) (n := 1) (by decide) (am_tab tk_X4_readStatement 118 rfl) rfl ?_
    refine am_iadd (q := 309) (by omega) (am_tab tk_X4_readStatement 119 rfl) rfl ?_
    refine am_putI (q := 312) (k := 8) (n := 17) (j := 1) (Ls_3 hX1.1) (by decide) rfl (by decide) (Or.inr (Or.inl ⟨kf_X4_52, rfl⟩)) (am_tab tk_X4_readStatement 120 rfl) rfl ?_
    refine am_vret rfl (Nat.le_of_ble_eq_true rfl) (Nat.le_of_ble_eq_true rfl) (am_tab tk_X4_readStatement 121 rfl) ?_
    refine hQ _ _ ?_
    refine ⟨rfl, hX1.fr ((frw.refl (fun a _ => a = 3) T1).setN rfl) (fun a j h => by omega), ?_⟩
    rw [e1]
    exact hG1.both 3 1 _
set_option maxRecDepth 100000 in
theorem st_head_3_1 (b : Nat → Int) (E : Nat) (cv : Nat → Int) (M : Nat) (i : Nat) (σ : am_H) (hX : RY b E cv M σ (.inl i)) (hR : σ.2.2 27 2 = some 3) (K : Int) (hK : zK b E i = K) (hk6 : ¬ zK b E i = 6) (Q : Option am_V → am_H → Prop) (hT : ∀ (p : PZ) (T : am_H), RY b E cv M T p → frw W_rz σ T → ((p = .inl (i + 1) ∧ ¬ ((K = 129 ∧ 8 ≤ σ.2.1 3 2) ∨ (K = 132 ∧ 30 ≤ σ.2.1 3 3) ∨ (K = 134 ∧ 20 ≤ σ.2.1 3 4) ∨ (K = 135 ∧ 4 ≤ σ.2.1 3 5) ∨ (K = 137 ∧ 0 < σ.2.1 11 1) ∨ (K = 138 ∧ 0 < σ.2.1 13 1)) ∧ σ.2.1 3 1 < 70) ∨ (p = .inr (5, (zP b E i : Int)) ∧ (70 ≤ σ.2.1 3 1 ∨ ((K = 129 ∧ 8 ≤ σ.2.1 3 2) ∨ (K = 132 ∧ 30 ≤ σ.2.1 3 3) ∨ (K = 134 ∧ 20 ≤ σ.2.1 3 4) ∨ (K = 135 ∧ 4 ≤ σ.2.1 3 5) ∨ (K = 137 ∧ 0 < σ.2.1 11 1) ∨ (K = 138 ∧ 0 < σ.2.1 13 1))))) → am_wp (M_X4_readStatement 1 1600) Q 0 0 43 [(0, am_r 27), (1, am_i K), (2, am_i (zP b E i : Int))] [] T) : am_wp (M_X4_readStatement 1 1600) Q 0 0 0 [(0, am_r 27)] [] σ := by
  have hX0 := hX
  have hG0 := frw.refl W_rz σ
  refine am_aload_n (q := 1) rfl (am_tab tk_X4_readStatement 0 rfl) rfl ?_
  refine am_getI (q := 4) (a := 27) (k := 4) (n := 13) (j := 4) (x := K) (Ls_27 hX.1) (by decide) rfl (hX.kd.trans hK) (by decide) (Or.inl kf_X4_45) (am_tab tk_X4_readStatement 1 rfl) rfl ?_
  refine am_istore_n (q := 5) (by decide) (ls2 := [(1, am_i K), (0, am_r 27)]) rfl (am_tab tk_X4_readStatement 2 rfl) rfl ?_
  refine am_aload_n (q := 6) rfl (am_tab tk_X4_readStatement 3 rfl) rfl ?_
  refine am_getI (q := 9) (a := 27) (k := 4) (n := 13) (j := 5) (x := (zP b E i : Int)) (Ls_27 hX.1) (by decide) rfl (hX.pz rfl) (by decide) (Or.inl kf_X4_55) (am_tab tk_X4_readStatement 4 rfl) rfl ?_
  refine am_istore_n (q := 10) (by decide) (ls2 := [(2, am_i ((zP b E i : Int))), (1, am_i K), (0, am_r 27)]) rfl (am_tab tk_X4_readStatement 5 rfl) rfl ?_
  refine am_aload_n (q := 11) rfl (am_tab tk_X4_readStatement 6 rfl) rfl ?_
  refine am_aload_n (q := 12) rfl (am_tab tk_X4_readStatement 7 rfl) rfl ?_
  refine am_getR (q := 15) (a := 27) (k := 4) (n := 13) (j := 2) (r := some (3)) (Ls_27 hX.1) (by decide) rfl hR (by decide) (Or.inl kf_X4_29) (am_tab tk_X4_readStatement 8 rfl) rfl ?_
  refine am_getI (q := 18) (a := 3) (k := 8) (n := 17) (j := 1) (x := (σ.2.1 3 1)) (Ls_3 hX.1) (by decide) rfl rfl (by decide) (Or.inr kf_X4_52) (am_tab tk_X4_readStatement 9 rfl) rfl ?_
  refine am_bipush (q := 20) (n := 70) (by decide) rfl (am_tab tk_X4_readStatement 10 rfl) rfl ?_
  refine am_icmp_ge (q := 23) (t := 38) (am_tab tk_X4_readStatement 11 rfl) (by decide) rfl (fun h20 => ?_) (fun h20 => ?_)
  · refine am_iconst (q := 39) (n := 0) (by decide) (am_tab tk_X4_readStatement 19 rfl) rfl ?_
    refine am_iconst (q := 40) (n := 5) (by decide) (am_tab tk_X4_readStatement 20 rfl) rfl ?_
    refine am_callVr (q := 43) (me2 := M_X4_pass) (b := 27) (kb := 4) (nb := 13) (As := [am_i 0, am_i 5]) (rest := []) (c_passYF hX 5 (by decide)) ⟨rfl, rfl⟩ (Ls_27 hX.1) (by decide) ⟨Or.inl km_X4_71, kc_X4_pass, kn_X4, kd_X4_pass, ⟨(Nat.le_of_ble_eq_true rfl), (Nat.le_of_ble_eq_true rfl)⟩, ⟨(Nat.le_of_ble_eq_true rfl), (Nat.le_of_ble_eq_true rfl)⟩, (Nat.le_of_ble_eq_true rfl)⟩ ki_X4_pass ks_X4_pass rfl (am_tab tk_X4_readStatement 21 rfl) rfl ?_
    rintro r T1 ⟨rfl, hX1, hG1⟩
    exact am_less (by intro q hq; simp only [List.mem_cons, List.not_mem_nil, or_false] at hq; rcases hq with rfl | rfl | rfl <;> simp) (hT (.inr (5, (zP b E i : Int))) T1 hX1 hG1 (Or.inr ⟨rfl, Or.inl (by omega)⟩))
  · refine am_aload_n (q := 24) rfl (am_tab tk_X4_readStatement 12 rfl) rfl ?_
    refine am_getR (q := 27) (a := 27) (k := 4) (n := 13) (j := 2) (r := some (3)) (Ls_27 hX.1) (by decide) rfl hR (by decide) (Or.inl kf_X4_29) (am_tab tk_X4_readStatement 13 rfl) rfl ?_
    refine am_iload_n (q := 28) rfl (am_tab tk_X4_readStatement 14 rfl) rfl ?_
    by_cases full : ((K = 129 ∧ 8 ≤ σ.2.1 3 2) ∨ (K = 132 ∧ 30 ≤ σ.2.1 3 3) ∨ (K = 134 ∧ 20 ≤ σ.2.1 3 4) ∨ (K = 135 ∧ 4 ≤ σ.2.1 3 5) ∨ (K = 137 ∧ 0 < σ.2.1 11 1) ∨ (K = 138 ∧ 0 < σ.2.1 13 1))
    · refine am_callVr (q := 31) (me2 := M_X8_isFull) (b := 3) (kb := 8) (nb := 17) (As := [am_i K]) (rest := [am_r 27]) (c_townFull_3 σ hX.1 K) ⟨rfl, rfl⟩ (Ls_3 hX.1) (by decide) ⟨Or.inr km_X4_107, kc_X8_isFull, kn_X8, kd_X8_isFull, ⟨(Nat.le_of_ble_eq_true rfl), (Nat.le_of_ble_eq_true rfl)⟩, ⟨(Nat.le_of_ble_eq_true rfl), (Nat.le_of_ble_eq_true rfl)⟩, (Nat.le_of_ble_eq_true rfl)⟩ ki_X8_isFull ks_X8_isFull rfl (am_tab tk_X4_readStatement 15 rfl) rfl ?_
      rintro r τ9 ⟨rfl, hτ9⟩
      rw [hτ9, if_pos full]
      refine am_if_ne (q := 34) (t := 38) (am_tab tk_X4_readStatement 16 rfl) (by decide) rfl (fun h31 => ?_) (fun h31 => ?_)
      · refine am_iconst (q := 39) (n := 0) (by decide) (am_tab tk_X4_readStatement 19 rfl) rfl ?_
        refine am_iconst (q := 40) (n := 5) (by decide) (am_tab tk_X4_readStatement 20 rfl) rfl ?_
        refine am_callVr (q := 43) (me2 := M_X4_pass) (b := 27) (kb := 4) (nb := 13) (As := [am_i 0, am_i 5]) (rest := []) (c_passYF hX 5 (by decide)) ⟨rfl, rfl⟩ (Ls_27 hX.1) (by decide) ⟨Or.inl km_X4_71, kc_X4_pass, kn_X4, kd_X4_pass, ⟨(Nat.le_of_ble_eq_true rfl), (Nat.le_of_ble_eq_true rfl)⟩, ⟨(Nat.le_of_ble_eq_true rfl), (Nat.le_of_ble_eq_true rfl)⟩, (Nat.le_of_ble_eq_true rfl)⟩ ki_X4_pass ks_X4_pass rfl (am_tab tk_X4_readStatement 21 rfl) rfl ?_
        rintro r T1 ⟨rfl, hX1, hG1⟩
        exact am_less (by intro q hq; simp only [List.mem_cons, List.not_mem_nil, or_false] at hq; rcases hq with rfl | rfl | rfl <;> simp) (hT (.inr (5, (zP b E i : Int))) T1 hX1 hG1 (Or.inr ⟨rfl, Or.inr full⟩))
      · exact absurd h31 (by decide)
    · refine am_callVr (q := 31) (me2 := M_X8_isFull) (b := 3) (kb := 8) (nb := 17) (As := [am_i K]) (rest := [am_r 27]) (c_townFull_3 σ hX.1 K) ⟨rfl, rfl⟩ (Ls_3 hX.1) (by decide) ⟨Or.inr km_X4_107, kc_X8_isFull, kn_X8, kd_X8_isFull, ⟨(Nat.le_of_ble_eq_true rfl), (Nat.le_of_ble_eq_true rfl)⟩, ⟨(Nat.le_of_ble_eq_true rfl), (Nat.le_of_ble_eq_true rfl)⟩, (Nat.le_of_ble_eq_true rfl)⟩ ki_X8_isFull ks_X8_isFull rfl (am_tab tk_X4_readStatement 15 rfl) rfl ?_
      rintro r τ9 ⟨rfl, hτ9⟩
      rw [hτ9, if_neg full]
      refine am_if_ne (q := 34) (t := 38) (am_tab tk_X4_readStatement 16 rfl) (by decide) rfl (fun h31 => ?_) (fun h31 => ?_)
      · exact absurd rfl h31
      · refine am_iconst (q := 35) (n := 1) (by decide) (am_tab tk_X4_readStatement 17 rfl) rfl ?_
        refine am_goto (t := 39) (am_tab tk_X4_readStatement 18 rfl) (by decide) ?_
        refine am_iconst (q := 40) (n := 5) (by decide) (am_tab tk_X4_readStatement 20 rfl) rfl ?_
        refine am_callVr (q := 43) (me2 := M_X4_pass) (b := 27) (kb := 4) (nb := 13) (As := [am_i 1, am_i 5]) (rest := []) (c_passYT hX hk6 5) ⟨rfl, rfl⟩ (Ls_27 hX.1) (by decide) ⟨Or.inl km_X4_71, kc_X4_pass, kn_X4, kd_X4_pass, ⟨(Nat.le_of_ble_eq_true rfl), (Nat.le_of_ble_eq_true rfl)⟩, ⟨(Nat.le_of_ble_eq_true rfl), (Nat.le_of_ble_eq_true rfl)⟩, (Nat.le_of_ble_eq_true rfl)⟩ ki_X4_pass ks_X4_pass rfl (am_tab tk_X4_readStatement 21 rfl) rfl ?_
        rintro r T1 ⟨rfl, hX1, hG1⟩
        exact am_less (by intro q hq; simp only [List.mem_cons, List.not_mem_nil, or_false] at hq; rcases hq with rfl | rfl | rfl <;> simp) (hT (.inl (i + 1)) T1 hX1 hG1 (Or.inl ⟨rfl, full, by omega⟩))
set_option maxRecDepth 100000 in
theorem st_tail_15_0 (b : Nat → Int) (E : Nat) (cv : Nat → Int) (M : Nat) (p : PZ) (σ : am_H) (hX : RY b E cv M σ p) (hR : σ.2.2 27 2 = some 15) (h1 : 0 ≤ σ.2.1 15 1 ∧ σ.2.1 15 1 ≤ 1000) (x y : Int) (Q : Option am_V → am_H → Prop) (hQ : ∀ r τ, (r = none ∧ RY b E cv M τ (sgF b E 59 p) ∧ frw W_rz (am_setN σ 15 1 (σ.2.1 15 1 + 1)) τ) → Q r τ) : am_wp (M_X4_readStatement 0 0) Q 0 0 280 [(0, am_r 27), (1, am_i x), (2, am_i y)] [] σ := by
  have hX0 := hX
  have hG0 := frw.refl W_rz σ
  refine am_aload_n (q := 281) rfl (am_tab tk_X4_readStatement 104 rfl) rfl ?_
  refine am_aload_n (q := 282) rfl (am_tab tk_X4_readStatement 105 rfl) rfl ?_
  refine am_getI (q := 285) (a := 27) (k := 4) (n := 13) (j := 4) (x := (kdZ b E (p))) (Ls_27 hX.1) (by decide) rfl hX0.kd (by decide) (Or.inl kf_X4_45) (am_tab tk_X4_readStatement 106 rfl) rfl ?_
  refine am_bipush (q := 287) (n := 59) (by decide) rfl (am_tab tk_X4_readStatement 107 rfl) rfl ?_
  refine am_icmp_ne (q := 290) (t := 294) (am_tab tk_X4_readStatement 108 rfl) (by decide) rfl (fun h287 => ?_) (fun h287 => ?_)
  · refine am_iconst (q := 295) (n := 0) (by decide) (am_tab tk_X4_readStatement 111 rfl) rfl ?_
    refine am_iconst (q := 296) (n := 1) (by decide) (am_tab tk_X4_readStatement 112 rfl) rfl ?_
    refine am_callVr (q := 299) (me2 := M_X4_pass) (b := 27) (kb := 4) (nb := 13) (As := [am_i 0, am_i 1]) (rest := []) (c_passYF hX0 1 (by decide)) ⟨rfl, rfl⟩ (Ls_27 hX.1) (by decide) ⟨Or.inl km_X4_71, kc_X4_pass, kn_X4, kd_X4_pass, ⟨(Nat.le_of_ble_eq_true rfl), (Nat.le_of_ble_eq_true rfl)⟩, ⟨(Nat.le_of_ble_eq_true rfl), (Nat.le_of_ble_eq_true rfl)⟩, (Nat.le_of_ble_eq_true rfl)⟩ ki_X4_pass ks_X4_pass rfl (am_tab tk_X4_readStatement 113 rfl) rfl ?_
    rintro r T1 ⟨rfl, hX1, hG⟩
    have hG1 := hG0.trans hG
    rw [show ftZ b E 1 (p) = sgF b E 59 p from sg_F h287] at hX1
    have e1 : T1.2.1 15 1 = σ.2.1 15 1 := hG1.2.2 15 1 (by unfold W_rz; omega)
    refine am_aload_n (q := 300) rfl (am_tab tk_X4_readStatement 114 rfl) rfl ?_
    refine am_getR (q := 303) (a := 27) (k := 4) (n := 13) (j := 2) (r := some (15)) (Ls_27 hX1.1) (by decide) rfl (show T1.2.2 27 2 = some 15 by rw [hG1.2.1]; exact hR) (by decide) (Or.inl kf_X4_29) (am_tab tk_X4_readStatement 115 rfl) rfl ?_
    refine am_dup (q := 304) rfl (am_tab tk_X4_readStatement 116 rfl) rfl ?_
    refine am_getI (q := 307) (a := 15) (k := 8) (n := 17) (j := 1) (x := (T1.2.1 15 1)) (Ls_15 hX1.1) (by decide) rfl rfl (by decide) (Or.inr kf_X4_52) (am_tab tk_X4_readStatement 117 rfl) rfl ?_
    refine am_iconst (q := 308) (n := 1) (by decide) (am_tab tk_X4_readStatement 118 rfl) rfl ?_
    refine am_iadd (q := 309) (by omega) (am_tab tk_X4_readStatement 119 rfl) rfl ?_
    refine am_putI (q := 312) (k := 8) (n := 17) (j := 1) (Ls_15 hX1.1) (by decide) rfl (by decide) (Or.inr (Or.inl ⟨kf_X4_52, rfl⟩)) (am_tab tk_X4_readStatement 120 rfl) rfl ?_
    refine am_vret rfl (Nat.le_of_ble_eq_true rfl) (Nat.le_of_ble_eq_true rfl) (am_tab tk_X4_readStatement 121 rfl) ?_
    refine hQ _ _ ?_
    refine ⟨rfl, hX1.fr ((frw.refl (fun a _ => a = 15) T1).setN rfl) (fun a j h => by omega), ?_⟩
    rw [e1]
    exact hG1.both 15 1 _
  · refine am_iconst (q := 291) (n := 1) (by decide) (am_tab tk_X4_readStatement 109 rfl) rfl ?_
    refine am_goto (t := 295) (am_tab tk_X4_readStatement 110 rfl) (by decide) ?_
    refine am_iconst (q := 296) (n := 1) (by decide) (am_tab tk_X4_readStatement 112 rfl) rfl ?_
    refine am_callVr (q := 299) (me2 := M_X4_pass) (b := 27) (kb := 4) (nb := 13) (As := [am_i 1, am_i 1]) (rest := []) (c_passYT hX0 (by rw [h287]; decide) 1) ⟨rfl, rfl⟩ (Ls_27 hX.1) (by decide) ⟨Or.inl km_X4_71, kc_X4_pass, kn_X4, kd_X4_pass, ⟨(Nat.le_of_ble_eq_true rfl), (Nat.le_of_ble_eq_true rfl)⟩, ⟨(Nat.le_of_ble_eq_true rfl), (Nat.le_of_ble_eq_true rfl)⟩, (Nat.le_of_ble_eq_true rfl)⟩ ki_X4_pass ks_X4_pass rfl (am_tab tk_X4_readStatement 113 rfl) rfl ?_
    rintro r T1 ⟨rfl, hX1, hG⟩
    have hG1 := hG0.trans hG
    rw [show npZ (p) = sgF b E 59 p from sg_T h287] at hX1
    have e1 : T1.2.1 15 1 = σ.2.1 15 1 := hG1.2.2 15 1 (by unfold W_rz; omega)
    refine am_aload_n (q := 300) rfl (am_tab tk_X4_readStatement 114 rfl) rfl ?_
    refine am_getR (q := 303) (a := 27) (k := 4) (n := 13) (j := 2) (r := some (15)) (Ls_27 hX1.1) (by decide) rfl (show T1.2.2 27 2 = some 15 by rw [hG1.2.1]; exact hR) (by decide) (Or.inl kf_X4_29) (am_tab tk_X4_readStatement 115 rfl) rfl ?_
    refine am_dup (q := 304) rfl (am_tab tk_X4_readStatement 116 rfl) rfl ?_
    refine am_getI (q := 307) (a := 15) (k := 8) (n := 17) (j := 1) (x := (T1.2.1 15 1)) (Ls_15 hX1.1) (by decide) rfl rfl (by decide) (Or.inr kf_X4_52) (am_tab tk_X4_readStatement 117 rfl) rfl ?_
    refine am_iconst (q := 308) (n := 1) (by decide) (am_tab tk_X4_readStatement 118 rfl) rfl ?_
    refine am_iadd (q := 309) (by omega) (am_tab tk_X4_readStatement 119 rfl) rfl ?_
    refine am_putI (q := 312) (k := 8) (n := 17) (j := 1) (Ls_15 hX1.1) (by decide) rfl (by decide) (Or.inr (Or.inl ⟨kf_X4_52, rfl⟩)) (am_tab tk_X4_readStatement 120 rfl) rfl ?_
    refine am_vret rfl (Nat.le_of_ble_eq_true rfl) (Nat.le_of_ble_eq_true rfl) (am_tab tk_X4_readStatement 121 rfl) ?_
    refine hQ _ _ ?_
    refine ⟨rfl, hX1.fr ((frw.refl (fun a _ => a = 15) T1).setN rfl) (fun a j h => by omega), ?_⟩
    rw [e1]
    exact hG1.both 15 1 _
set_option maxRecDepth 100000 in
theorem st_head_15_0 (b : Nat → Int) (E : Nat) (cv : Nat → Int) (M : Nat) (i : Nat) (σ : am_H) (hX : RY b E cv M σ (.inl i)) (hR : σ.2.2 27 2 = some 15) (K : Int) (hK : zK b E i = K) (hk6 : ¬ zK b E i = 6) (Q : Option am_V → am_H → Prop) (hT : ∀ (p : PZ) (T : am_H), RY b E cv M T p → frw W_rz σ T → ((p = .inl (i + 1) ∧ ¬ ((K = 129 ∧ 8 ≤ σ.2.1 15 2) ∨ (K = 132 ∧ 30 ≤ σ.2.1 15 3) ∨ (K = 134 ∧ 20 ≤ σ.2.1 15 4) ∨ (K = 135 ∧ 4 ≤ σ.2.1 15 5) ∨ (K = 137 ∧ 0 < σ.2.1 23 1) ∨ (K = 138 ∧ 0 < σ.2.1 25 1)) ∧ σ.2.1 15 1 < 70) ∨ (p = .inr (5, (zP b E i : Int)) ∧ (70 ≤ σ.2.1 15 1 ∨ ((K = 129 ∧ 8 ≤ σ.2.1 15 2) ∨ (K = 132 ∧ 30 ≤ σ.2.1 15 3) ∨ (K = 134 ∧ 20 ≤ σ.2.1 15 4) ∨ (K = 135 ∧ 4 ≤ σ.2.1 15 5) ∨ (K = 137 ∧ 0 < σ.2.1 23 1) ∨ (K = 138 ∧ 0 < σ.2.1 25 1))))) → am_wp (M_X4_readStatement 0 0) Q 0 0 43 [(0, am_r 27), (1, am_i K), (2, am_i (zP b E i : Int))] [] T) : am_wp (M_X4_readStatement 0 0) Q 0 0 0 [(0, am_r 27)] [] σ := by
  have hX0 := hX
  have hG0 := frw.refl W_rz σ
  refine am_aload_n (q := 1) rfl (am_tab tk_X4_readStatement 0 rfl) rfl ?_
  refine am_getI (q := 4) (a := 27) (k := 4) (n := 13) (j := 4) (x := K) (Ls_27 hX.1) (by decide) rfl (hX.kd.trans hK) (by decide) (Or.inl kf_X4_45) (am_tab tk_X4_readStatement 1 rfl) rfl ?_
  refine am_istore_n (q := 5) (by decide) (ls2 := [(1, am_i K), (0, am_r 27)]) rfl (am_tab tk_X4_readStatement 2 rfl) rfl ?_
  refine am_aload_n (q := 6) rfl (am_tab tk_X4_readStatement 3 rfl) rfl ?_
  refine am_getI (q := 9) (a := 27) (k := 4) (n := 13) (j := 5) (x := (zP b E i : Int)) (Ls_27 hX.1) (by decide) rfl (hX.pz rfl) (by decide) (Or.inl kf_X4_55) (am_tab tk_X4_readStatement 4 rfl) rfl ?_
  refine am_istore_n (q := 10) (by decide) (ls2 := [(2, am_i ((zP b E i : Int))), (1, am_i K), (0, am_r 27)]) rfl (am_tab tk_X4_readStatement 5 rfl) rfl ?_
  refine am_aload_n (q := 11) rfl (am_tab tk_X4_readStatement 6 rfl) rfl ?_
  refine am_aload_n (q := 12) rfl (am_tab tk_X4_readStatement 7 rfl) rfl ?_
  refine am_getR (q := 15) (a := 27) (k := 4) (n := 13) (j := 2) (r := some (15)) (Ls_27 hX.1) (by decide) rfl hR (by decide) (Or.inl kf_X4_29) (am_tab tk_X4_readStatement 8 rfl) rfl ?_
  refine am_getI (q := 18) (a := 15) (k := 8) (n := 17) (j := 1) (x := (σ.2.1 15 1)) (Ls_15 hX.1) (by decide) rfl rfl (by decide) (Or.inr kf_X4_52) (am_tab tk_X4_readStatement 9 rfl) rfl ?_
  refine am_bipush (q := 20) (n := 70) (by decide) rfl (am_tab tk_X4_readStatement 10 rfl) rfl ?_
  refine am_icmp_ge (q := 23) (t := 38) (am_tab tk_X4_readStatement 11 rfl) (by decide) rfl (fun h20 => ?_) (fun h20 => ?_)
  · refine am_iconst (q := 39) (n := 0) (by decide) (am_tab tk_X4_readStatement 19 rfl) rfl ?_
    refine am_iconst (q := 40) (n := 5) (by decide) (am_tab tk_X4_readStatement 20 rfl) rfl ?_
    refine am_callVr (q := 43) (me2 := M_X4_pass) (b := 27) (kb := 4) (nb := 13) (As := [am_i 0, am_i 5]) (rest := []) (c_passYF hX 5 (by decide)) ⟨rfl, rfl⟩ (Ls_27 hX.1) (by decide) ⟨Or.inl km_X4_71, kc_X4_pass, kn_X4, kd_X4_pass, ⟨(Nat.le_of_ble_eq_true rfl), (Nat.le_of_ble_eq_true rfl)⟩, ⟨(Nat.le_of_ble_eq_true rfl), (Nat.le_of_ble_eq_true rfl)⟩, (Nat.le_of_ble_eq_true rfl)⟩ ki_X4_pass ks_X4_pass rfl (am_tab tk_X4_readStatement 21 rfl) rfl ?_
    rintro r T1 ⟨rfl, hX1, hG1⟩
    exact am_less (by intro q hq; simp only [List.mem_cons, List.not_mem_nil, or_false] at hq; rcases hq with rfl | rfl | rfl <;> simp) (hT (.inr (5, (zP b E i : Int))) T1 hX1 hG1 (Or.inr ⟨rfl, Or.inl (by omega)⟩))
  · refine am_aload_n (q := 24) rfl (am_tab tk_X4_readStatement 12 rfl) rfl ?_
    refine am_getR (q := 27) (a := 27) (k := 4) (n := 13) (j := 2) (r := some (15)) (Ls_27 hX.1) (by decide) rfl hR (by decide) (Or.inl kf_X4_29) (am_tab tk_X4_readStatement 13 rfl) rfl ?_
    refine am_iload_n (q := 28) rfl (am_tab tk_X4_readStatement 14 rfl) rfl ?_
    by_cases full : ((K = 129 ∧ 8 ≤ σ.2.1 15 2) ∨ (K = 132 ∧ 30 ≤ σ.2.1 15 3) ∨ (K = 134 ∧ 20 ≤ σ.2.1 15 4) ∨ (K = 135 ∧ 4 ≤ σ.2.1 15 5) ∨ (K = 137 ∧ 0 < σ.2.1 23 1) ∨ (K = 138 ∧ 0 < σ.2.1 25 1))
    · refine am_callVr (q := 31) (me2 := M_X8_isFull) (b := 15) (kb := 8) (nb := 17) (As := [am_i K]) (rest := [am_r 27]) (c_townFull_15 σ hX.1 K) ⟨rfl, rfl⟩ (Ls_15 hX.1) (by decide) ⟨Or.inr km_X4_107, kc_X8_isFull, kn_X8, kd_X8_isFull, ⟨(Nat.le_of_ble_eq_true rfl), (Nat.le_of_ble_eq_true rfl)⟩, ⟨(Nat.le_of_ble_eq_true rfl), (Nat.le_of_ble_eq_true rfl)⟩, (Nat.le_of_ble_eq_true rfl)⟩ ki_X8_isFull ks_X8_isFull rfl (am_tab tk_X4_readStatement 15 rfl) rfl ?_
      rintro r τ9 ⟨rfl, hτ9⟩
      rw [hτ9, if_pos full]
      refine am_if_ne (q := 34) (t := 38) (am_tab tk_X4_readStatement 16 rfl) (by decide) rfl (fun h31 => ?_) (fun h31 => ?_)
      · refine am_iconst (q := 39) (n := 0) (by decide) (am_tab tk_X4_readStatement 19 rfl) rfl ?_
        refine am_iconst (q := 40) (n := 5) (by decide) (am_tab tk_X4_readStatement 20 rfl) rfl ?_
        refine am_callVr (q := 43) (me2 := M_X4_pass) (b := 27) (kb := 4) (nb := 13) (As := [am_i 0, am_i 5]) (rest := []) (c_passYF hX 5 (by decide)) ⟨rfl, rfl⟩ (Ls_27 hX.1) (by decide) ⟨Or.inl km_X4_71, kc_X4_pass, kn_X4, kd_X4_pass, ⟨(Nat.le_of_ble_eq_true rfl), (Nat.le_of_ble_eq_true rfl)⟩, ⟨(Nat.le_of_ble_eq_true rfl), (Nat.le_of_ble_eq_true rfl)⟩, (Nat.le_of_ble_eq_true rfl)⟩ ki_X4_pass ks_X4_pass rfl (am_tab tk_X4_readStatement 21 rfl) rfl ?_
        rintro r T1 ⟨rfl, hX1, hG1⟩
        exact am_less (by intro q hq; simp only [List.mem_cons, List.not_mem_nil, or_false] at hq; rcases hq with rfl | rfl | rfl <;> simp) (hT (.inr (5, (zP b E i : Int))) T1 hX1 hG1 (Or.inr ⟨rfl, Or.inr full⟩))
      · exact absurd h31 (by decide)
    · refine am_callVr (q := 31) (me2 := M_X8_isFull) (b := 15) (kb := 8) (nb := 17) (As := [am_i K]) (rest := [am_r 27]) (c_townFull_15 σ hX.1 K) ⟨rfl, rfl⟩ (Ls_15 hX.1) (by decide) ⟨Or.inr km_X4_107, kc_X8_isFull, kn_X8, kd_X8_isFull, ⟨(Nat.le_of_ble_eq_true rfl), (Nat.le_of_ble_eq_true rfl)⟩, ⟨(Nat.le_of_ble_eq_true rfl), (Nat.le_of_ble_eq_true rfl)⟩, (Nat.le_of_ble_eq_true rfl)⟩ ki_X8_isFull ks_X8_isFull rfl (am_tab tk_X4_readStatement 15 rfl) rfl ?_
      rintro r τ9 ⟨rfl, hτ9⟩
      rw [hτ9, if_neg full]
      refine am_if_ne (q := 34) (t := 38) (am_tab tk_X4_readStatement 16 rfl) (by decide) rfl (fun h31 => ?_) (fun h31 => ?_)
      · exact absurd rfl h31
      · refine am_iconst (q := 35) (n := 1) (by decide) (am_tab tk_X4_readStatement 17 rfl) rfl ?_
        refine am_goto (t := 39) (am_tab tk_X4_readStatement 18 rfl) (by decide) ?_
        refine am_iconst (q := 40) (n := 5) (by decide) (am_tab tk_X4_readStatement 20 rfl) rfl ?_
        refine am_callVr (q := 43) (me2 := M_X4_pass) (b := 27) (kb := 4) (nb := 13) (As := [am_i 1, am_i 5]) (rest := []) (c_passYT hX hk6 5) ⟨rfl, rfl⟩ (Ls_27 hX.1) (by decide) ⟨Or.inl km_X4_71, kc_X4_pass, kn_X4, kd_X4_pass, ⟨(Nat.le_of_ble_eq_true rfl), (Nat.le_of_ble_eq_true rfl)⟩, ⟨(Nat.le_of_ble_eq_true rfl), (Nat.le_of_ble_eq_true rfl)⟩, (Nat.le_of_ble_eq_true rfl)⟩ ki_X4_pass ks_X4_pass rfl (am_tab tk_X4_readStatement 21 rfl) rfl ?_
        rintro r T1 ⟨rfl, hX1, hG1⟩
        exact am_less (by intro q hq; simp only [List.mem_cons, List.not_mem_nil, or_false] at hq; rcases hq with rfl | rfl | rfl <;> simp) (hT (.inl (i + 1)) T1 hX1 hG1 (Or.inl ⟨rfl, full, by omega⟩))
set_option maxRecDepth 100000 in
theorem st_tail_15_1 (b : Nat → Int) (E : Nat) (cv : Nat → Int) (M : Nat) (p : PZ) (σ : am_H) (hX : RY b E cv M σ p) (hR : σ.2.2 27 2 = some 15) (h1 : 0 ≤ σ.2.1 15 1 ∧ σ.2.1 15 1 ≤ 1000) (x y : Int) (Q : Option am_V → am_H → Prop) (hQ : ∀ r τ, (r = none ∧ RY b E cv M τ (sgF b E 59 p) ∧ frw W_rz (am_setN σ 15 1 (σ.2.1 15 1 + 1)) τ) → Q r τ) : am_wp (M_X4_readStatement 1 1600) Q 1 1600 280 [(0, am_r 27), (1, am_i x), (2, am_i y)] [] σ := by
  have hX0 := hX
  have hG0 := frw.refl W_rz σ
  refine am_aload_n (q := 281) rfl (am_tab tk_X4_readStatement 104 rfl) rfl ?_
  refine am_aload_n (q := 282) rfl (am_tab tk_X4_readStatement 105 rfl) rfl ?_
  refine am_getI (q := 285) (a := 27) (k := 4) (n := 13) (j := 4) (x := (kdZ b E (p))) (Ls_27 hX.1) (by decide) rfl hX0.kd (by decide) (Or.inl kf_X4_45) (am_tab tk_X4_readStatement 106 rfl) rfl ?_
  refine am_bipush (q := 287) (n := 59) (by decide) rfl (am_tab tk_X4_readStatement 107 rfl) rfl ?_
  refine am_icmp_ne (q := 290) (t := 294) (am_tab tk_X4_readStatement 108 rfl) (by decide) rfl (fun h287 => ?_) (fun h287 => ?_)
  · refine am_iconst (q := 295) (n := 0) (by decide) (am_tab tk_X4_readStatement 111 rfl) rfl ?_
    refine am_iconst (q := 296) (n := 1) (by decide) (am_tab tk_X4_readStatement 112 rfl) rfl ?_
    refine am_callVr (q := 299) (me2 := M_X4_pass) (b := 27) (kb := 4) (nb := 13) (As := [am_i 0, am_i 1]) (rest := []) (c_passYF hX0 1 (by decide)) ⟨rfl, rfl⟩ (Ls_27 hX.1) (by decide) ⟨Or.inl km_X4_71, kc_X4_pass, kn_X4, kd_X4_pass, ⟨(Nat.le_of_ble_eq_true rfl), (Nat.le_of_ble_eq_true rfl)⟩, ⟨(Nat.le_of_ble_eq_true rfl), (Nat.le_of_ble_eq_true rfl)⟩, (Nat.le_of_ble_eq_true rfl)⟩ ki_X4_pass ks_X4_pass rfl (am_tab tk_X4_readStatement 113 rfl) rfl ?_
    rintro r T1 ⟨rfl, hX1, hG⟩
    have hG1 := hG0.trans hG
    rw [show ftZ b E 1 (p) = sgF b E 59 p from sg_F h287] at hX1
    have e1 : T1.2.1 15 1 = σ.2.1 15 1 := hG1.2.2 15 1 (by unfold W_rz; omega)
    refine am_aload_n (q := 300) rfl (am_tab tk_X4_readStatement 114 rfl) rfl ?_
    refine am_getR (q := 303) (a := 27) (k := 4) (n := 13) (j := 2) (r := some (15)) (Ls_27 hX1.1) (by decide) rfl (show T1.2.2 27 2 = some 15 by rw [hG1.2.1]; exact hR) (by decide) (Or.inl kf_X4_29) (am_tab tk_X4_readStatement 115 rfl) rfl ?_
    refine am_dup (q := 304) rfl (am_tab tk_X4_readStatement 116 rfl) rfl ?_
    refine am_getI (q := 307) (a := 15) (k := 8) (n := 17) (j := 1) (x := (T1.2.1 15 1)) (Ls_15 hX1.1) (by decide) rfl rfl (by decide) (Or.inr kf_X4_52) (am_tab tk_X4_readStatement 117 rfl) rfl ?_
    refine am_iconst (q := 308) (n := 1) (by decide) (am_tab tk_X4_readStatement 118 rfl) rfl ?_
    refine am_iadd (q := 309) (by omega) (am_tab tk_X4_readStatement 119 rfl) rfl ?_
    refine am_putI (q := 312) (k := 8) (n := 17) (j := 1) (Ls_15 hX1.1) (by decide) rfl (by decide) (Or.inr (Or.inl ⟨kf_X4_52, rfl⟩)) (am_tab tk_X4_readStatement 120 rfl) rfl ?_
    refine am_vret rfl (Nat.le_of_ble_eq_true rfl) (Nat.le_of_ble_eq_true rfl) (am_tab tk_X4_readStatement 121 rfl) ?_
    refine hQ _ _ ?_
    refine ⟨rfl, hX1.fr ((frw.refl (fun a _ => a = 15) T1).setN rfl) (fun a j h => by omega), ?_⟩
    rw [e1]
    exact hG1.both 15 1 _
  · refine am_iconst (q := 291) (n := 1) (by decide) (am_tab tk_X4_readStatement 109 rfl) rfl ?_
    refine am_goto (t := 295) (am_tab tk_X4_readStatement 110 rfl) (by decide) ?_
    refine am_iconst (q := 296) (n := 1) (by decide) (am_tab tk_X4_readStatement 112 rfl) rfl ?_
    refine am_callVr (q := 299) (me2 := M_X4_pass) (b := 27) (kb := 4) (nb := 13) (As := [am_i 1, am_i 1]) (rest := []) (c_passYT hX0 (by rw [h287]; decide) 1) ⟨rfl, rfl⟩ (Ls_27 hX.1) (by decide) ⟨Or.inl km_X4_71, kc_X4_pass, kn_X4, kd_X4_pass, ⟨(Nat.le_of_ble_eq_true rfl), (Nat.le_of_ble_eq_true rfl)⟩, ⟨(Nat.le_of_ble_eq_true rfl), (Nat.le_of_ble_eq_true rfl)⟩, (Nat.le_of_ble_eq_true rfl)⟩ ki_X4_pass ks_X4_pass rfl (am_tab tk_X4_readStatement 113 rfl) rfl ?_
    rintro r T1 ⟨rfl, hX1, hG⟩
    have hG1 := hG0.trans hG
    rw [show npZ (p) = sgF b E 59 p from sg_T h287] at hX1
    have e1 : T1.2.1 15 1 = σ.2.1 15 1 := hG1.2.2 15 1 (by unfold W_rz; omega)
    refine am_aload_n (q := 300) rfl (am_tab tk_X4_readStatement 114 rfl) rfl ?_
    refine am_getR (q := 303) (a := 27) (k := 4) (n := 13) (j := 2) (r := some (15)) (Ls_27 hX1.1) (by decide) rfl (show T1.2.2 27 2 = some 15 by rw [hG1.2.1]; exact hR) (by decide) (Or.inl kf_X4_29) (am_tab tk_X4_readStatement 115 rfl) rfl ?_
    refine am_dup (q := 304) rfl (am_tab tk_X4_readStatement 116 rfl) rfl ?_
    refine am_getI (q := 307) (a := 15) (k := 8) (n := 17) (j := 1) (x := (T1.2.1 15 1)) (Ls_15 hX1.1) (by decide) rfl rfl (by decide) (Or.inr kf_X4_52) (am_tab tk_X4_readStatement 117 rfl) rfl ?_
    refine am_iconst (q := 308) (n := 1) (by decide) (am_tab tk_X4_readStatement 118 rfl) rfl ?_
    refine am_iadd (q := 309) (by omega) (am_tab tk_X4_readStatement 119 rfl) rfl ?_
    refine am_putI (q := 312) (k := 8) (n := 17) (j := 1) (Ls_15 hX1.1) (by decide) rfl (by decide) (Or.inr (Or.inl ⟨kf_X4_52, rfl⟩)) (am_tab tk_X4_readStatement 120 rfl) rfl ?_
    refine am_vret rfl (Nat.le_of_ble_eq_true rfl) (Nat.le_of_ble_eq_true rfl) (am_tab tk_X4_readStatement 121 rfl) ?_
    refine hQ _ _ ?_
    refine ⟨rfl, hX1.fr ((frw.refl (fun a _ => a = 15) T1).setN rfl) (fun a j h => by omega), ?_⟩
    rw [e1]
    exact hG1.both 15 1 _
set_option maxRecDepth 100000 in
theorem st_head_15_1 (b : Nat → Int) (E : Nat) (cv : Nat → Int) (M : Nat) (i : Nat) (σ : am_H) (hX : RY b E cv M σ (.inl i)) (hR : σ.2.2 27 2 = some 15) (K : Int) (hK : zK b E i = K) (hk6 : ¬ zK b E i = 6) (Q : Option am_V → am_H → Prop) (hT : ∀ (p : PZ) (T : am_H), RY b E cv M T p → frw W_rz σ T → ((p = .inl (i + 1) ∧ ¬ ((K = 129 ∧ 8 ≤ σ.2.1 15 2) ∨ (K = 132 ∧ 30 ≤ σ.2.1 15 3) ∨ (K = 134 ∧ 20 ≤ σ.2.1 15 4) ∨ (K = 135 ∧ 4 ≤ σ.2.1 15 5) ∨ (K = 137 ∧ 0 < σ.2.1 23 1) ∨ (K = 138 ∧ 0 < σ.2.1 25 1)) ∧ σ.2.1 15 1 < 70) ∨ (p = .inr (5, (zP b E i : Int)) ∧ (70 ≤ σ.2.1 15 1 ∨ ((K = 129 ∧ 8 ≤ σ.2.1 15 2) ∨ (K = 132 ∧ 30 ≤ σ.2.1 15 3) ∨ (K = 134 ∧ 20 ≤ σ.2.1 15 4) ∨ (K = 135 ∧ 4 ≤ σ.2.1 15 5) ∨ (K = 137 ∧ 0 < σ.2.1 23 1) ∨ (K = 138 ∧ 0 < σ.2.1 25 1))))) → am_wp (M_X4_readStatement 1 1600) Q 0 0 43 [(0, am_r 27), (1, am_i K), (2, am_i (zP b E i : Int))] [] T) : am_wp (M_X4_readStatement 1 1600) Q 0 0 0 [(0, am_r 27)] [] σ := by
  have hX0 := hX
  have hG0 := frw.refl W_rz σ
  refine am_aload_n (q := 1) rfl (am_tab tk_X4_readStatement 0 rfl) rfl ?_
  refine am_getI (q := 4) (a := 27) (k := 4) (n := 13) (j := 4) (x := K) (Ls_27 hX.1) (by decide) rfl (hX.kd.trans hK) (by decide) (Or.inl kf_X4_45) (am_tab tk_X4_readStatement 1 rfl) rfl ?_
  refine am_istore_n (q := 5) (by decide) (ls2 := [(1, am_i K), (0, am_r 27)]) rfl (am_tab tk_X4_readStatement 2 rfl) rfl ?_
  refine am_aload_n (q := 6) rfl (am_tab tk_X4_readStatement 3 rfl) rfl ?_
  refine am_getI (q := 9) (a := 27) (k := 4) (n := 13) (j := 5) (x := (zP b E i : Int)) (Ls_27 hX.1) (by decide) rfl (hX.pz rfl) (by decide) (Or.inl kf_X4_55) (am_tab tk_X4_readStatement 4 rfl) rfl ?_
  refine am_istore_n (q := 10) (by decide) (ls2 := [(2, am_i ((zP b E i : Int))), (1, am_i K), (0, am_r 27)]) rfl (am_tab tk_X4_readStatement 5 rfl) rfl ?_
  refine am_aload_n (q := 11) rfl (am_tab tk_X4_readStatement 6 rfl) rfl ?_
  refine am_aload_n (q := 12) rfl (am_tab tk_X4_readStatement 7 rfl) rfl ?_
  refine am_getR (q := 15) (a := 27) (k := 4) (n := 13) (j := 2) (r := some (15)) (Ls_27 hX.1) (by decide) rfl hR (by decide) (Or.inl kf_X4_29) (am_tab tk_X4_readStatement 8 rfl) rfl ?_
  refine am_getI (q := 18) (a := 15) (k := 8) (n := 17) (j := 1) (x := (σ.2.1 15 1)) (Ls_15 hX.1) (by decide) rfl rfl (by decide) (Or.inr kf_X4_52) (am_tab tk_X4_readStatement 9 rfl) rfl ?_
  refine am_bipush (q := 20) (n := 70) (by decide) rfl (am_tab tk_X4_readStatement 10 rfl) rfl ?_
  refine am_icmp_ge (q := 23) (t := 38) (am_tab tk_X4_readStatement 11 rfl) (by decide) rfl (fun h20 => ?_) (fun h20 => ?_)
  · refine am_iconst (q := 39) (n := 0) (by decide) (am_tab tk_X4_readStatement 19 rfl) rfl ?_
    refine am_iconst (q := 40) (n := 5) (by decide) (am_tab tk_X4_readStatement 20 rfl) rfl ?_
    refine am_callVr (q := 43) (me2 := M_X4_pass) (b := 27) (kb := 4) (nb := 13) (As := [am_i 0, am_i 5]) (rest := []) (c_passYF hX 5 (by decide)) ⟨rfl, rfl⟩ (Ls_27 hX.1) (by decide) ⟨Or.inl km_X4_71, kc_X4_pass, kn_X4, kd_X4_pass, ⟨(Nat.le_of_ble_eq_true rfl), (Nat.le_of_ble_eq_true rfl)⟩, ⟨(Nat.le_of_ble_eq_true rfl), (Nat.le_of_ble_eq_true rfl)⟩, (Nat.le_of_ble_eq_true rfl)⟩ ki_X4_pass ks_X4_pass rfl (am_tab tk_X4_readStatement 21 rfl) rfl ?_
    rintro r T1 ⟨rfl, hX1, hG1⟩
    exact am_less (by intro q hq; simp only [List.mem_cons, List.not_mem_nil, or_false] at hq; rcases hq with rfl | rfl | rfl <;> simp) (hT (.inr (5, (zP b E i : Int))) T1 hX1 hG1 (Or.inr ⟨rfl, Or.inl (by omega)⟩))
  · refine am_aload_n (q := 24) rfl (am_tab tk_X4_readStatement 12 rfl) rfl ?_
    refine am_getR (q := 27) (a := 27) (k := 4) (n := 13) (j := 2) (r := some (15)) (Ls_27 hX.1) (by decide) rfl hR (by decide) (Or.inl kf_X4_29) (am_tab tk_X4_readStatement 13 rfl) rfl ?_
    refine am_iload_n (q := 28) rfl (am_tab tk_X4_readStatement 14 rfl) rfl ?_
    by_cases full : ((K = 129 ∧ 8 ≤ σ.2.1 15 2) ∨ (K = 132 ∧ 30 ≤ σ.2.1 15 3) ∨ (K = 134 ∧ 20 ≤ σ.2.1 15 4) ∨ (K = 135 ∧ 4 ≤ σ.2.1 15 5) ∨ (K = 137 ∧ 0 < σ.2.1 23 1) ∨ (K = 138 ∧ 0 < σ.2.1 25 1))
    · refine am_callVr (q := 31) (me2 := M_X8_isFull) (b := 15) (kb := 8) (nb := 17) (As := [am_i K]) (rest := [am_r 27]) (c_townFull_15 σ hX.1 K) ⟨rfl, rfl⟩ (Ls_15 hX.1) (by decide) ⟨Or.inr km_X4_107, kc_X8_isFull, kn_X8, kd_X8_isFull, ⟨(Nat.le_of_ble_eq_true rfl), (Nat.le_of_ble_eq_true rfl)⟩, ⟨(Nat.le_of_ble_eq_true rfl), (Nat.le_of_ble_eq_true rfl)⟩, (Nat.le_of_ble_eq_true rfl)⟩ ki_X8_isFull ks_X8_isFull rfl (am_tab tk_X4_readStatement 15 rfl) rfl ?_
      rintro r τ9 ⟨rfl, hτ9⟩
      rw [hτ9, if_pos full]
      refine am_if_ne (q := 34) (t := 38) (am_tab tk_X4_readStatement 16 rfl) (by decide) rfl (fun h31 => ?_) (fun h31 => ?_)
      · refine am_iconst (q := 39) (n := 0) (by decide) (am_tab tk_X4_readStatement 19 rfl) rfl ?_
        refine am_iconst (q := 40) (n := 5) (by decide) (am_tab tk_X4_readStatement 20 rfl) rfl ?_
        refine am_callVr (q := 43) (me2 := M_X4_pass) (b := 27) (kb := 4) (nb := 13) (As := [am_i 0, am_i 5]) (rest := []) (c_passYF hX 5 (by decide)) ⟨rfl, rfl⟩ (Ls_27 hX.1) (by decide) ⟨Or.inl km_X4_71, kc_X4_pass, kn_X4, kd_X4_pass, ⟨(Nat.le_of_ble_eq_true rfl), (Nat.le_of_ble_eq_true rfl)⟩, ⟨(Nat.le_of_ble_eq_true rfl), (Nat.le_of_ble_eq_true rfl)⟩, (Nat.le_of_ble_eq_true rfl)⟩ ki_X4_pass ks_X4_pass rfl (am_tab tk_X4_readStatement 21 rfl) rfl ?_
        rintro r T1 ⟨rfl, hX1, hG1⟩
        exact am_less (by intro q hq; simp only [List.mem_cons, List.not_mem_nil, or_false] at hq; rcases hq with rfl | rfl | rfl <;> simp) (hT (.inr (5, (zP b E i : Int))) T1 hX1 hG1 (Or.inr ⟨rfl, Or.inr full⟩))
      · exact absurd h31 (by decide)
    · refine am_callVr (q := 31) (me2 := M_X8_isFull) (b := 15) (kb := 8) (nb := 17) (As := [am_i K]) (rest := [am_r 27]) (c_townFull_15 σ hX.1 K) ⟨rfl, rfl⟩ (Ls_15 hX.1) (by decide) ⟨Or.inr km_X4_107, kc_X8_isFull, kn_X8, kd_X8_isFull, ⟨(Nat.le_of_ble_eq_true rfl), (Nat.le_of_ble_eq_true rfl)⟩, ⟨(Nat.le_of_ble_eq_true rfl), (Nat.le_of_ble_eq_true rfl)⟩, (Nat.le_of_ble_eq_true rfl)⟩ ki_X8_isFull ks_X8_isFull rfl (am_tab tk_X4_readStatement 15 rfl) rfl ?_
      rintro r τ9 ⟨rfl, hτ9⟩
      rw [hτ9, if_neg full]
      refine am_if_ne (q := 34) (t := 38) (am_tab tk_X4_readStatement 16 rfl) (by decide) rfl (fun h31 => ?_) (fun h31 => ?_)
      · exact absurd rfl h31
      · refine am_iconst (q := 35) (n := 1) (by decide) (am_tab tk_X4_readStatement 17 rfl) rfl ?_
        refine am_goto (t := 39) (am_tab tk_X4_readStatement 18 rfl) (by decide) ?_
        refine am_iconst (q := 40) (n := 5) (by decide) (am_tab tk_X4_readStatement 20 rfl) rfl ?_
        refine am_callVr (q := 43) (me2 := M_X4_pass) (b := 27) (kb := 4) (nb := 13) (As := [am_i 1, am_i 5]) (rest := []) (c_passYT hX hk6 5) ⟨rfl, rfl⟩ (Ls_27 hX.1) (by decide) ⟨Or.inl km_X4_71, kc_X4_pass, kn_X4, kd_X4_pass, ⟨(Nat.le_of_ble_eq_true rfl), (Nat.le_of_ble_eq_true rfl)⟩, ⟨(Nat.le_of_ble_eq_true rfl), (Nat.le_of_ble_eq_true rfl)⟩, (Nat.le_of_ble_eq_true rfl)⟩ ki_X4_pass ks_X4_pass rfl (am_tab tk_X4_readStatement 21 rfl) rfl ?_
        rintro r T1 ⟨rfl, hX1, hG1⟩
        exact am_less (by intro q hq; simp only [List.mem_cons, List.not_mem_nil, or_false] at hq; rcases hq with rfl | rfl | rfl <;> simp) (hT (.inl (i + 1)) T1 hX1 hG1 (Or.inl ⟨rfl, full, by omega⟩))
