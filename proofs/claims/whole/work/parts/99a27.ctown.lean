/-- a life that begins, by whom the town tells off -/
def bgL (td : Nat → Int) (k : Nat) : Int := if k = 0 then 1 else if 20 ≤ k ∧ k < 111 then td (k - 20) else 0
theorem tb00 (p : Nat) : tb 0 (p : Int) = 0 := tb0 _
set_option maxRecDepth 100000 in
theorem c_begin_3_32 (σ : am_H) (hL : lay σ)   : am_met M_X1_begin [am_r 32, am_r 3] σ (fun r σ' => r = none ∧ LF0 32 σ' (bgL (fun d => σ.2.1 9 d)) ∧ (σ'.2.1 32 9 = 0 ∧ σ'.2.1 32 10 = 0) ∧ frw (W_li 32) σ σ') := by
  refine am_qq (fun Q hQ => ?_)
  refine am_enter (show plainFor yX1_begin = true by decide +kernel) rfl (Nat.le_of_ble_eq_true rfl) (fun _ _ _ => trivial) ?_
  refine am_aload_n (q := 1) rfl (am_tab tk_X1_begin 0 rfl) rfl ?_
  refine am_iconst (q := 2) (n := 1) (by decide) (am_tab tk_X1_begin 1 rfl) rfl ?_
  refine am_putI (q := 5) (k := 1) (n := 11) (j := 0) (Ls_32 hL) (by decide) rfl (by decide) (Or.inl ⟨kf_X1_9, rfl⟩) (am_tab tk_X1_begin 2 rfl) rfl ?_
  refine am_aload_n (q := 6) rfl (am_tab tk_X1_begin 3 rfl) rfl ?_
  refine am_iconst (q := 7) (n := 0) (by decide) (am_tab tk_X1_begin 4 rfl) rfl ?_
  refine am_putI (q := 10) (k := 1) (n := 11) (j := 1) (Ls_32 hL) (by decide) rfl (by decide) (Or.inl ⟨kf_X1_28, rfl⟩) (am_tab tk_X1_begin 5 rfl) rfl ?_
  refine am_aload_n (q := 11) rfl (am_tab tk_X1_begin 6 rfl) rfl ?_
  refine am_iconst (q := 12) (n := 0) (by decide) (am_tab tk_X1_begin 7 rfl) rfl ?_
  refine am_putI (q := 15) (k := 1) (n := 11) (j := 2) (Ls_32 hL) (by decide) rfl (by decide) (Or.inl ⟨kf_X1_31, rfl⟩) (am_tab tk_X1_begin 8 rfl) rfl ?_
  refine am_aload_n (q := 16) rfl (am_tab tk_X1_begin 9 rfl) rfl ?_
  refine am_iconst (q := 17) (n := 0) (by decide) (am_tab tk_X1_begin 10 rfl) rfl ?_
  refine am_putI (q := 20) (k := 1) (n := 11) (j := 3) (Ls_32 hL) (by decide) rfl (by decide) (Or.inl ⟨kf_X1_34, rfl⟩) (am_tab tk_X1_begin 11 rfl) rfl ?_
  refine am_aload_n (q := 21) rfl (am_tab tk_X1_begin 12 rfl) rfl ?_
  refine am_iconst (q := 22) (n := 0) (by decide) (am_tab tk_X1_begin 13 rfl) rfl ?_
  refine am_putI (q := 25) (k := 1) (n := 11) (j := 4) (Ls_32 hL) (by decide) rfl (by decide) (Or.inl ⟨kf_X1_37, rfl⟩) (am_tab tk_X1_begin 14 rfl) rfl ?_
  refine am_aload_n (q := 26) rfl (am_tab tk_X1_begin 15 rfl) rfl ?_
  refine am_getR (q := 29) (a := 32) (k := 1) (n := 11) (j := 5) (r := some (33)) (Ls_32 hL) (by decide) rfl (Lr_32_5 hL) (by decide) (Or.inl kf_X1_15) (am_tab tk_X1_begin 16 rfl) rfl ?_
  refine am_iconst (q := 30) (n := 0) (by decide) (am_tab tk_X1_begin 17 rfl) rfl ?_
  refine am_callS0 (q := 33) (me2 := M_J7_fill_53178) (As := [am_r 33, am_i 0]) (rest := []) (out := []) (c_fill (am_setN (am_setN (am_setN (am_setN (am_setN σ 32 0 1) 32 1 0) 32 2 0) 32 3 0) 32 4 0) 33 8 0 (Ls_33 hL) (by decide)) ⟨rfl, rfl⟩ ⟨Or.inl km_X1_40, kc_J7_fill_53178, kn_J7, kd_J7_fill_53178, ⟨(Nat.le_of_ble_eq_true rfl), (Nat.le_of_ble_eq_true rfl)⟩, ⟨(Nat.le_of_ble_eq_true rfl), (Nat.le_of_ble_eq_true rfl)⟩, (Nat.le_of_ble_eq_true rfl)⟩ ki_J7_fill_53178 rfl rfl (am_tab tk_X1_begin 18 rfl) rfl ?_
  refine am_aload_n (q := 34) rfl (am_tab tk_X1_begin 19 rfl) rfl ?_
  refine am_getR (q := 37) (a := 3) (k := 8) (n := 17) (j := 13) (r := some (9)) (Ls_3 hL) (by decide) rfl (Lr_3_13 hL) (by decide) (Or.inr kf_X1_46) (am_tab tk_X1_begin 20 rfl) rfl ?_
  refine am_iconst (q := 38) (n := 0) (by decide) (am_tab tk_X1_begin 21 rfl) rfl ?_
  refine am_aload_n (q := 39) rfl (am_tab tk_X1_begin 22 rfl) rfl ?_
  refine am_getR (q := 42) (a := 32) (k := 1) (n := 11) (j := 6) (r := some (34)) (Ls_32 hL) (by decide) rfl (Lr_32_6 hL) (by decide) (Or.inl kf_X1_19) (am_tab tk_X1_begin 23 rfl) rfl ?_
  refine am_iconst (q := 43) (n := 0) (by decide) (am_tab tk_X1_begin 24 rfl) rfl ?_
  refine am_aload_n (q := 44) rfl (am_tab tk_X1_begin 25 rfl) rfl ?_
  refine am_getR (q := 47) (a := 32) (k := 1) (n := 11) (j := 6) (r := some (34)) (Ls_32 hL) (by decide) rfl (Lr_32_6 hL) (by decide) (Or.inl kf_X1_19) (am_tab tk_X1_begin 26 rfl) rfl ?_
  refine am_alen (q := 48) (a := 34) (k := 11) (n := 91) (Ls_34 hL) (by decide) (by decide) (am_tab tk_X1_begin 27 rfl) rfl ?_
  refine am_copy (q := 51) (a0 := 9) (a1 := 34) (n0 := 91) (n1 := 91) (Ls_9 hL) (Ls_34 hL) (by omega) (by omega) (by omega) (by omega) (by omega) (by omega) km_X1_49 kna_copy kst_copy kn_J10 (Nat.le_of_ble_eq_true rfl) (Nat.le_of_ble_eq_true rfl) (am_tab tk_X1_begin 28 rfl) rfl ?_
  refine am_aload_n (q := 52) rfl (am_tab tk_X1_begin 29 rfl) rfl ?_
  refine am_getR (q := 55) (a := 32) (k := 1) (n := 11) (j := 7) (r := some (35)) (Ls_32 hL) (by decide) rfl (Lr_32_7 hL) (by decide) (Or.inl kf_X1_22) (am_tab tk_X1_begin 30 rfl) rfl ?_
  refine am_iconst (q := 56) (n := 0) (by decide) (am_tab tk_X1_begin 31 rfl) rfl ?_
  refine am_callS0 (q := 59) (me2 := M_J7_fill_53178) (As := [am_r 35, am_i 0]) (rest := []) (out := []) (c_fill (am_setA (am_setA (am_setN (am_setN (am_setN (am_setN (am_setN σ 32 0 1) 32 1 0) 32 2 0) 32 3 0) 32 4 0) 33 (fun k => if k < 8 then 0 else (am_setN (am_setN (am_setN (am_setN (am_setN σ 32 0 1) 32 1 0) 32 2 0) 32 3 0) 32 4 0).2.1 33 k)) 34 (fun k => if Int.toNat 0 ≤ k ∧ k < Int.toNat 0 + Int.toNat 91 then (am_setA (am_setN (am_setN (am_setN (am_setN (am_setN σ 32 0 1) 32 1 0) 32 2 0) 32 3 0) 32 4 0) 33 (fun k => if k < 8 then 0 else (am_setN (am_setN (am_setN (am_setN (am_setN σ 32 0 1) 32 1 0) 32 2 0) 32 3 0) 32 4 0).2.1 33 k)).2.1 9 (Int.toNat 0 + (k - Int.toNat 0)) else (am_setA (am_setN (am_setN (am_setN (am_setN (am_setN σ 32 0 1) 32 1 0) 32 2 0) 32 3 0) 32 4 0) 33 (fun k => if k < 8 then 0 else (am_setN (am_setN (am_setN (am_setN (am_setN σ 32 0 1) 32 1 0) 32 2 0) 32 3 0) 32 4 0).2.1 33 k)).2.1 34 k)) 35 91 0 (Ls_35 hL) (by decide)) ⟨rfl, rfl⟩ ⟨Or.inl km_X1_40, kc_J7_fill_53178, kn_J7, kd_J7_fill_53178, ⟨(Nat.le_of_ble_eq_true rfl), (Nat.le_of_ble_eq_true rfl)⟩, ⟨(Nat.le_of_ble_eq_true rfl), (Nat.le_of_ble_eq_true rfl)⟩, (Nat.le_of_ble_eq_true rfl)⟩ ki_J7_fill_53178 rfl rfl (am_tab tk_X1_begin 32 rfl) rfl ?_
  refine am_aload_n (q := 60) rfl (am_tab tk_X1_begin 33 rfl) rfl ?_
  refine am_iconst (q := 61) (n := 0) (by decide) (am_tab tk_X1_begin 34 rfl) rfl ?_
  refine am_putI (q := 64) (k := 1) (n := 11) (j := 9) (Ls_32 hL) (by decide) rfl (by decide) (Or.inl ⟨kf_X1_55, rfl⟩) (am_tab tk_X1_begin 35 rfl) rfl ?_
  refine am_aload_n (q := 65) rfl (am_tab tk_X1_begin 36 rfl) rfl ?_
  refine am_iconst (q := 66) (n := 0) (by decide) (am_tab tk_X1_begin 37 rfl) rfl ?_
  refine am_putI (q := 69) (k := 1) (n := 11) (j := 10) (Ls_32 hL) (by decide) rfl (by decide) (Or.inl ⟨kf_X1_58, rfl⟩) (am_tab tk_X1_begin 38 rfl) rfl ?_
  refine am_vret rfl (Nat.le_of_ble_eq_true rfl) (Nat.le_of_ble_eq_true rfl) (am_tab tk_X1_begin 39 rfl) ?_
  refine hQ _ _ ?_
  refine ⟨rfl, ⟨⟨rfl, rfl, rfl, rfl⟩, (show (0 : Int) ≤ 0 ∧ (0 : Int) < 256 by decide), fun p hp => ?_, fun p hp => ?_, fun d hd => ?_, fun d hd => ?_⟩, ⟨rfl, rfl⟩, ((((((((((frw.refl (W_li 32) σ).setN (by unfold W_li; omega)).setN (by unfold W_li; omega)).setN (by unfold W_li; omega)).setN (by unfold W_li; omega)).setN (by unfold W_li; omega)).setA (by unfold W_li; omega)).setA (by unfold W_li; omega)).setA (by unfold W_li; omega)).setN (by unfold W_li; omega)).setN (by unfold W_li; omega)⟩
  · show tb 0 (p : Int) = bgL _ (12 + p)
    unfold bgL
    rw [tb00, if_neg (by omega), if_neg (by omega)]
  · show (if p < 8 then (0 : Int) else _) = bgL _ (4 + p)
    unfold bgL
    rw [if_pos hp, if_neg (by omega), if_neg (by omega)]
  · refine Eq.trans (cpS (f := fun d => σ.2.1 9 d) hd) ?_
    unfold bgL
    rw [if_neg (by omega), if_pos (by omega), show 20 + d - 20 = d by omega]
  · show (if d < 91 then (0 : Int) else _) = bgL _ (111 + d)
    unfold bgL
    rw [if_pos hd, if_neg (by omega), if_neg (by omega)]
set_option maxRecDepth 100000 in
theorem c_begin_3_37 (σ : am_H) (hL : lay σ)   : am_met M_X1_begin [am_r 37, am_r 3] σ (fun r σ' => r = none ∧ LF0 37 σ' (bgL (fun d => σ.2.1 9 d)) ∧ (σ'.2.1 37 9 = 0 ∧ σ'.2.1 37 10 = 0) ∧ frw (W_li 37) σ σ') := by
  refine am_qq (fun Q hQ => ?_)
  refine am_enter (show plainFor yX1_begin = true by decide +kernel) rfl (Nat.le_of_ble_eq_true rfl) (fun _ _ _ => trivial) ?_
  refine am_aload_n (q := 1) rfl (am_tab tk_X1_begin 0 rfl) rfl ?_
  refine am_iconst (q := 2) (n := 1) (by decide) (am_tab tk_X1_begin 1 rfl) rfl ?_
  refine am_putI (q := 5) (k := 1) (n := 11) (j := 0) (Ls_37 hL) (by decide) rfl (by decide) (Or.inl ⟨kf_X1_9, rfl⟩) (am_tab tk_X1_begin 2 rfl) rfl ?_
  refine am_aload_n (q := 6) rfl (am_tab tk_X1_begin 3 rfl) rfl ?_
  refine am_iconst (q := 7) (n := 0) (by decide) (am_tab tk_X1_begin 4 rfl) rfl ?_
  refine am_putI (q := 10) (k := 1) (n := 11) (j := 1) (Ls_37 hL) (by decide) rfl (by decide) (Or.inl ⟨kf_X1_28, rfl⟩) (am_tab tk_X1_begin 5 rfl) rfl ?_
  refine am_aload_n (q := 11) rfl (am_tab tk_X1_begin 6 rfl) rfl ?_
  refine am_iconst (q := 12) (n := 0) (by decide) (am_tab tk_X1_begin 7 rfl) rfl ?_
  refine am_putI (q := 15) (k := 1) (n := 11) (j := 2) (Ls_37 hL) (by decide) rfl (by decide) (Or.inl ⟨kf_X1_31, rfl⟩) (am_tab tk_X1_begin 8 rfl) rfl ?_
  refine am_aload_n (q := 16) rfl (am_tab tk_X1_begin 9 rfl) rfl ?_
  refine am_iconst (q := 17) (n := 0) (by decide) (am_tab tk_X1_begin 10 rfl) rfl ?_
  refine am_putI (q := 20) (k := 1) (n := 11) (j := 3) (Ls_37 hL) (by decide) rfl (by decide) (Or.inl ⟨kf_X1_34, rfl⟩) (am_tab tk_X1_begin 11 rfl) rfl ?_
  refine am_aload_n (q := 21) rfl (am_tab tk_X1_begin 12 rfl) rfl ?_
  refine am_iconst (q := 22) (n := 0) (by decide) (am_tab tk_X1_begin 13 rfl) rfl ?_
  refine am_putI (q := 25) (k := 1) (n := 11) (j := 4) (Ls_37 hL) (by decide) rfl (by decide) (Or.inl ⟨kf_X1_37, rfl⟩) (am_tab tk_X1_begin 14 rfl) rfl ?_
  refine am_aload_n (q := 26) rfl (am_tab tk_X1_begin 15 rfl) rfl ?_
  refine am_getR (q := 29) (a := 37) (k := 1) (n := 11) (j := 5) (r := some (38)) (Ls_37 hL) (by decide) rfl (Lr_37_5 hL) (by decide) (Or.inl kf_X1_15) (am_tab tk_X1_begin 16 rfl) rfl ?_
  refine am_iconst (q := 30) (n := 0) (by decide) (am_tab tk_X1_begin 17 rfl) rfl ?_
  refine am_callS0 (q := 33) (me2 := M_J7_fill_53178) (As := [am_r 38, am_i 0]) (rest := []) (out := []) (c_fill (am_setN (am_setN (am_setN (am_setN (am_setN σ 37 0 1) 37 1 0) 37 2 0) 37 3 0) 37 4 0) 38 8 0 (Ls_38 hL) (by decide)) ⟨rfl, rfl⟩ ⟨Or.inl km_X1_40, kc_J7_fill_53178, kn_J7, kd_J7_fill_53178, ⟨(Nat.le_of_ble_eq_true rfl), (Nat.le_of_ble_eq_true rfl)⟩, ⟨(Nat.le_of_ble_eq_true rfl), (Nat.le_of_ble_eq_true rfl)⟩, (Nat.le_of_ble_eq_true rfl)⟩ ki_J7_fill_53178 rfl rfl (am_tab tk_X1_begin 18 rfl) rfl ?_
  refine am_aload_n (q := 34) rfl (am_tab tk_X1_begin 19 rfl) rfl ?_
  refine am_getR (q := 37) (a := 3) (k := 8) (n := 17) (j := 13) (r := some (9)) (Ls_3 hL) (by decide) rfl (Lr_3_13 hL) (by decide) (Or.inr kf_X1_46) (am_tab tk_X1_begin 20 rfl) rfl ?_
  refine am_iconst (q := 38) (n := 0) (by decide) (am_tab tk_X1_begin 21 rfl) rfl ?_
  refine am_aload_n (q := 39) rfl (am_tab tk_X1_begin 22 rfl) rfl ?_
  refine am_getR (q := 42) (a := 37) (k := 1) (n := 11) (j := 6) (r := some (39)) (Ls_37 hL) (by decide) rfl (Lr_37_6 hL) (by decide) (Or.inl kf_X1_19) (am_tab tk_X1_begin 23 rfl) rfl ?_
  refine am_iconst (q := 43) (n := 0) (by decide) (am_tab tk_X1_begin 24 rfl) rfl ?_
  refine am_aload_n (q := 44) rfl (am_tab tk_X1_begin 25 rfl) rfl ?_
  refine am_getR (q := 47) (a := 37) (k := 1) (n := 11) (j := 6) (r := some (39)) (Ls_37 hL) (by decide) rfl (Lr_37_6 hL) (by decide) (Or.inl kf_X1_19) (am_tab tk_X1_begin 26 rfl) rfl ?_
  refine am_alen (q := 48) (a := 39) (k := 11) (n := 91) (Ls_39 hL) (by decide) (by decide) (am_tab tk_X1_begin 27 rfl) rfl ?_
  refine am_copy (q := 51) (a0 := 9) (a1 := 39) (n0 := 91) (n1 := 91) (Ls_9 hL) (Ls_39 hL) (by omega) (by omega) (by omega) (by omega) (by omega) (by omega) km_X1_49 kna_copy kst_copy kn_J10 (Nat.le_of_ble_eq_true rfl) (Nat.le_of_ble_eq_true rfl) (am_tab tk_X1_begin 28 rfl) rfl ?_
  refine am_aload_n (q := 52) rfl (am_tab tk_X1_begin 29 rfl) rfl ?_
  refine am_getR (q := 55) (a := 37) (k := 1) (n := 11) (j := 7) (r := some (40)) (Ls_37 hL) (by decide) rfl (Lr_37_7 hL) (by decide) (Or.inl kf_X1_22) (am_tab tk_X1_begin 30 rfl) rfl ?_
  refine am_iconst (q := 56) (n := 0) (by decide) (am_tab tk_X1_begin 31 rfl) rfl ?_
  refine am_callS0 (q := 59) (me2 := M_J7_fill_53178) (As := [am_r 40, am_i 0]) (rest := []) (out := []) (c_fill (am_setA (am_setA (am_setN (am_setN (am_setN (am_setN (am_setN σ 37 0 1) 37 1 0) 37 2 0) 37 3 0) 37 4 0) 38 (fun k => if k < 8 then 0 else (am_setN (am_setN (am_setN (am_setN (am_setN σ 37 0 1) 37 1 0) 37 2 0) 37 3 0) 37 4 0).2.1 38 k)) 39 (fun k => if Int.toNat 0 ≤ k ∧ k < Int.toNat 0 + Int.toNat 91 then (am_setA (am_setN (am_setN (am_setN (am_setN (am_setN σ 37 0 1) 37 1 0) 37 2 0) 37 3 0) 37 4 0) 38 (fun k => if k < 8 then 0 else (am_setN (am_setN (am_setN (am_setN (am_setN σ 37 0 1) 37 1 0) 37 2 0) 37 3 0) 37 4 0).2.1 38 k)).2.1 9 (Int.toNat 0 + (k - Int.toNat 0)) else (am_setA (am_setN (am_setN (am_setN (am_setN (am_setN σ 37 0 1) 37 1 0) 37 2 0) 37 3 0) 37 4 0) 38 (fun k => if k < 8 then 0 else (am_setN (am_setN (am_setN (am_setN (am_setN σ 37 0 1) 37 1 0) 37 2 0) 37 3 0) 37 4 0).2.1 38 k)).2.1 39 k)) 40 91 0 (Ls_40 hL) (by decide)) ⟨rfl, rfl⟩ ⟨Or.inl km_X1_40, kc_J7_fill_53178, kn_J7, kd_J7_fill_53178, ⟨(Nat.le_of_ble_eq_true rfl), (Nat.le_of_ble_eq_true rfl)⟩, ⟨(Nat.le_of_ble_eq_true rfl), (Nat.le_of_ble_eq_true rfl)⟩, (Nat.le_of_ble_eq_true rfl)⟩ ki_J7_fill_53178 rfl rfl (am_tab tk_X1_begin 32 rfl) rfl ?_
  refine am_aload_n (q := 60) rfl (am_tab tk_X1_begin 33 rfl) rfl ?_
  refine am_iconst (q := 61) (n := 0) (by decide) (am_tab tk_X1_begin 34 rfl) rfl ?_
  refine am_putI (q := 64) (k := 1) (n := 11) (j := 9) (Ls_37 hL) (by decide) rfl (by decide) (Or.inl ⟨kf_X1_55, rfl⟩) (am_tab tk_X1_begin 35 rfl) rfl ?_
  refine am_aload_n (q := 65) rfl (am_tab tk_X1_begin 36 rfl) rfl ?_
  refine am_iconst (q := 66) (n := 0) (by decide) (am_tab tk_X1_begin 37 rfl) rfl ?_
  refine am_putI (q := 69) (k := 1) (n := 11) (j := 10) (Ls_37 hL) (by decide) rfl (by decide) (Or.inl ⟨kf_X1_58, rfl⟩) (am_tab tk_X1_begin 38 rfl) rfl ?_
  refine am_vret rfl (Nat.le_of_ble_eq_true rfl) (Nat.le_of_ble_eq_true rfl) (am_tab tk_X1_begin 39 rfl) ?_
  refine hQ _ _ ?_
  refine ⟨rfl, ⟨⟨rfl, rfl, rfl, rfl⟩, (show (0 : Int) ≤ 0 ∧ (0 : Int) < 256 by decide), fun p hp => ?_, fun p hp => ?_, fun d hd => ?_, fun d hd => ?_⟩, ⟨rfl, rfl⟩, ((((((((((frw.refl (W_li 37) σ).setN (by unfold W_li; omega)).setN (by unfold W_li; omega)).setN (by unfold W_li; omega)).setN (by unfold W_li; omega)).setN (by unfold W_li; omega)).setA (by unfold W_li; omega)).setA (by unfold W_li; omega)).setA (by unfold W_li; omega)).setN (by unfold W_li; omega)).setN (by unfold W_li; omega)⟩
  · show tb 0 (p : Int) = bgL _ (12 + p)
    unfold bgL
    rw [tb00, if_neg (by omega), if_neg (by omega)]
  · show (if p < 8 then (0 : Int) else _) = bgL _ (4 + p)
    unfold bgL
    rw [if_pos hp, if_neg (by omega), if_neg (by omega)]
  · refine Eq.trans (cpS (f := fun d => σ.2.1 9 d) hd) ?_
    unfold bgL
    rw [if_neg (by omega), if_pos (by omega), show 20 + d - 20 = d by omega]
  · show (if d < 91 then (0 : Int) else _) = bgL _ (111 + d)
    unfold bgL
    rw [if_pos hd, if_neg (by omega), if_neg (by omega)]
set_option maxRecDepth 100000 in
theorem c_begin_15_32 (σ : am_H) (hL : lay σ)   : am_met M_X1_begin [am_r 32, am_r 15] σ (fun r σ' => r = none ∧ LF0 32 σ' (bgL (fun d => σ.2.1 21 d)) ∧ (σ'.2.1 32 9 = 0 ∧ σ'.2.1 32 10 = 0) ∧ frw (W_li 32) σ σ') := by
  refine am_qq (fun Q hQ => ?_)
  refine am_enter (show plainFor yX1_begin = true by decide +kernel) rfl (Nat.le_of_ble_eq_true rfl) (fun _ _ _ => trivial) ?_
  refine am_aload_n (q := 1) rfl (am_tab tk_X1_begin 0 rfl) rfl ?_
  refine am_iconst (q := 2) (n := 1) (by decide) (am_tab tk_X1_begin 1 rfl) rfl ?_
  refine am_putI (q := 5) (k := 1) (n := 11) (j := 0) (Ls_32 hL) (by decide) rfl (by decide) (Or.inl ⟨kf_X1_9, rfl⟩) (am_tab tk_X1_begin 2 rfl) rfl ?_
  refine am_aload_n (q := 6) rfl (am_tab tk_X1_begin 3 rfl) rfl ?_
  refine am_iconst (q := 7) (n := 0) (by decide) (am_tab tk_X1_begin 4 rfl) rfl ?_
  refine am_putI (q := 10) (k := 1) (n := 11) (j := 1) (Ls_32 hL) (by decide) rfl (by decide) (Or.inl ⟨kf_X1_28, rfl⟩) (am_tab tk_X1_begin 5 rfl) rfl ?_
  refine am_aload_n (q := 11) rfl (am_tab tk_X1_begin 6 rfl) rfl ?_
  refine am_iconst (q := 12) (n := 0) (by decide) (am_tab tk_X1_begin 7 rfl) rfl ?_
  refine am_putI (q := 15) (k := 1) (n := 11) (j := 2) (Ls_32 hL) (by decide) rfl (by decide) (Or.inl ⟨kf_X1_31, rfl⟩) (am_tab tk_X1_begin 8 rfl) rfl ?_
  refine am_aload_n (q := 16) rfl (am_tab tk_X1_begin 9 rfl) rfl ?_
  refine am_iconst (q := 17) (n := 0) (by decide) (am_tab tk_X1_begin 10 rfl) rfl ?_
  refine am_putI (q := 20) (k := 1) (n := 11) (j := 3) (Ls_32 hL) (by decide) rfl (by decide) (Or.inl ⟨kf_X1_34, rfl⟩) (am_tab tk_X1_begin 11 rfl) rfl ?_
  refine am_aload_n (q := 21) rfl (am_tab tk_X1_begin 12 rfl) rfl ?_
  refine am_iconst (q := 22) (n := 0) (by decide) (am_tab tk_X1_begin 13 rfl) rfl ?_
  refine am_putI (q := 25) (k := 1) (n := 11) (j := 4) (Ls_32 hL) (by decide) rfl (by decide) (Or.inl ⟨kf_X1_37, rfl⟩) (am_tab tk_X1_begin 14 rfl) rfl ?_
  refine am_aload_n (q := 26) rfl (am_tab tk_X1_begin 15 rfl) rfl ?_
  refine am_getR (q := 29) (a := 32) (k := 1) (n := 11) (j := 5) (r := some (33)) (Ls_32 hL) (by decide) rfl (Lr_32_5 hL) (by decide) (Or.inl kf_X1_15) (am_tab tk_X1_begin 16 rfl) rfl ?_
  refine am_iconst (q := 30) (n := 0) (by decide) (am_tab tk_X1_begin 17 rfl) rfl ?_
  refine am_callS0 (q := 33) (me2 := M_J7_fill_53178) (As := [am_r 33, am_i 0]) (rest := []) (out := []) (c_fill (am_setN (am_setN (am_setN (am_setN (am_setN σ 32 0 1) 32 1 0) 32 2 0) 32 3 0) 32 4 0) 33 8 0 (Ls_33 hL) (by decide)) ⟨rfl, rfl⟩ ⟨Or.inl km_X1_40, kc_J7_fill_53178, kn_J7, kd_J7_fill_53178, ⟨(Nat.le_of_ble_eq_true rfl), (Nat.le_of_ble_eq_true rfl)⟩, ⟨(Nat.le_of_ble_eq_true rfl), (Nat.le_of_ble_eq_true rfl)⟩, (Nat.le_of_ble_eq_true rfl)⟩ ki_J7_fill_53178 rfl rfl (am_tab tk_X1_begin 18 rfl) rfl ?_
  refine am_aload_n (q := 34) rfl (am_tab tk_X1_begin 19 rfl) rfl ?_
  refine am_getR (q := 37) (a := 15) (k := 8) (n := 17) (j := 13) (r := some (21)) (Ls_15 hL) (by decide) rfl (Lr_15_13 hL) (by decide) (Or.inr kf_X1_46) (am_tab tk_X1_begin 20 rfl) rfl ?_
  refine am_iconst (q := 38) (n := 0) (by decide) (am_tab tk_X1_begin 21 rfl) rfl ?_
  refine am_aload_n (q := 39) rfl (am_tab tk_X1_begin 22 rfl) rfl ?_
  refine am_getR (q := 42) (a := 32) (k := 1) (n := 11) (j := 6) (r := some (34)) (Ls_32 hL) (by decide) rfl (Lr_32_6 hL) (by decide) (Or.inl kf_X1_19) (am_tab tk_X1_begin 23 rfl) rfl ?_
  refine am_iconst (q := 43) (n := 0) (by decide) (am_tab tk_X1_begin 24 rfl) rfl ?_
  refine am_aload_n (q := 44) rfl (am_tab tk_X1_begin 25 rfl) rfl ?_
  refine am_getR (q := 47) (a := 32) (k := 1) (n := 11) (j := 6) (r := some (34)) (Ls_32 hL) (by decide) rfl (Lr_32_6 hL) (by decide) (Or.inl kf_X1_19) (am_tab tk_X1_begin 26 rfl) rfl ?_
  refine am_alen (q := 48) (a := 34) (k := 11) (n := 91) (Ls_34 hL) (by decide) (by decide) (am_tab tk_X1_begin 27 rfl) rfl ?_
  refine am_copy (q := 51) (a0 := 21) (a1 := 34) (n0 := 91) (n1 := 91) (Ls_21 hL) (Ls_34 hL) (by omega) (by omega) (by omega) (by omega) (by omega) (by omega) km_X1_49 kna_copy kst_copy kn_J10 (Nat.le_of_ble_eq_true rfl) (Nat.le_of_ble_eq_true rfl) (am_tab tk_X1_begin 28 rfl) rfl ?_
  refine am_aload_n (q := 52) rfl (am_tab tk_X1_begin 29 rfl) rfl ?_
  refine am_getR (q := 55) (a := 32) (k := 1) (n := 11) (j := 7) (r := some (35)) (Ls_32 hL) (by decide) rfl (Lr_32_7 hL) (by decide) (Or.inl kf_X1_22) (am_tab tk_X1_begin 30 rfl) rfl ?_
  refine am_iconst (q := 56) (n := 0) (by decide) (am_tab tk_X1_begin 31 rfl) rfl ?_
  refine am_callS0 (q := 59) (me2 := M_J7_fill_53178) (As := [am_r 35, am_i 0]) (rest := []) (out := []) (c_fill (am_setA (am_setA (am_setN (am_setN (am_setN (am_setN (am_setN σ 32 0 1) 32 1 0) 32 2 0) 32 3 0) 32 4 0) 33 (fun k => if k < 8 then 0 else (am_setN (am_setN (am_setN (am_setN (am_setN σ 32 0 1) 32 1 0) 32 2 0) 32 3 0) 32 4 0).2.1 33 k)) 34 (fun k => if Int.toNat 0 ≤ k ∧ k < Int.toNat 0 + Int.toNat 91 then (am_setA (am_setN (am_setN (am_setN (am_setN (am_setN σ 32 0 1) 32 1 0) 32 2 0) 32 3 0) 32 4 0) 33 (fun k => if k < 8 then 0 else (am_setN (am_setN (am_setN (am_setN (am_setN σ 32 0 1) 32 1 0) 32 2 0) 32 3 0) 32 4 0).2.1 33 k)).2.1 21 (Int.toNat 0 + (k - Int.toNat 0)) else (am_setA (am_setN (am_setN (am_setN (am_setN (am_setN σ 32 0 1) 32 1 0) 32 2 0) 32 3 0) 32 4 0) 33 (fun k => if k < 8 then 0 else (am_setN (am_setN (am_setN (am_setN (am_setN σ 32 0 1) 32 1 0) 32 2 0) 32 3 0) 32 4 0).2.1 33 k)).2.1 34 k)) 35 91 0 (Ls_35 hL) (by decide)) ⟨rfl, rfl⟩ ⟨Or.inl km_X1_40, kc_J7_fill_53178, kn_J7, kd_J7_fill_53178, ⟨(Nat.le_of_ble_eq_true rfl), (Nat.le_of_ble_eq_true rfl)⟩, ⟨(Nat.le_of_ble_eq_true rfl), (Nat.le_of_ble_eq_true rfl)⟩, (Nat.le_of_ble_eq_true rfl)⟩ ki_J7_fill_53178 rfl rfl (am_tab tk_X1_begin 32 rfl) rfl ?_
  refine am_aload_n (q := 60) rfl (am_tab tk_X1_begin 33 rfl) rfl ?_
  refine am_iconst (q := 61) (n := 0) (by decide) (am_tab tk_X1_begin 34 rfl) rfl ?_
  refine am_putI (q := 64) (k := 1) (n := 11) (j := 9) (Ls_32 hL) (by decide) rfl (by decide) (Or.inl ⟨kf_X1_55, rfl⟩) (am_tab tk_X1_begin 35 rfl) rfl ?_
  refine am_aload_n (q := 65) rfl (am_tab tk_X1_begin 36 rfl) rfl ?_
  refine am_iconst (q := 66) (n := 0) (by decide) (am_tab tk_X1_begin 37 rfl) rfl ?_
  refine am_putI (q := 69) (k := 1) (n := 11) (j := 10) (Ls_32 hL) (by decide) rfl (by decide) (Or.inl ⟨kf_X1_58, rfl⟩) (am_tab tk_X1_begin 38 rfl) rfl ?_
  refine am_vret rfl (Nat.le_of_ble_eq_true rfl) (Nat.le_of_ble_eq_true rfl) (am_tab tk_X1_begin 39 rfl) ?_
  refine hQ _ _ ?_
  refine ⟨rfl, ⟨⟨rfl, rfl, rfl, rfl⟩, (show (0 : Int) ≤ 0 ∧ (0 : Int) < 256 by decide), fun p hp => ?_, fun p hp => ?_, fun d hd => ?_, fun d hd => ?_⟩, ⟨rfl, rfl⟩, ((((((((((frw.refl (W_li 32) σ).setN (by unfold W_li; omega)).setN (by unfold W_li; omega)).setN (by unfold W_li; omega)).setN (by unfold W_li; omega)).setN (by unfold W_li; omega)).setA (by unfold W_li; omega)).setA (by unfold W_li; omega)).setA (by unfold W_li; omega)).setN (by unfold W_li; omega)).setN (by unfold W_li; omega)⟩
  · show tb 0 (p : Int) = bgL _ (12 + p)
    unfold bgL
    rw [tb00, if_neg (by omega), if_neg (by omega)]
  · show (if p < 8 then (0 : Int) else _) = bgL _ (4 + p)
    unfold bgL
    rw [if_pos hp, if_neg (by omega), if_neg (by omega)]
  · refine Eq.trans (cpS (f := fun d => σ.2.1 21 d) hd) ?_
    unfold bgL
    rw [if_neg (by omega), if_pos (by omega), show 20 + d - 20 = d by omega]
  · show (if d < 91 then (0 : Int) else _) = bgL _ (111 + d)
    unfold bgL
    rw [if_pos hd, if_neg (by omega), if_neg (by omega)]
set_option maxRecDepth 100000 in
theorem c_begin_15_37 (σ : am_H) (hL : lay σ)   : am_met M_X1_begin [am_r 37, am_r 15] σ (fun r σ' => r = none ∧ LF0 37 σ' (bgL (fun d => σ.2.1 21 d)) ∧ (σ'.2.1 37 9 = 0 ∧ σ'.2.1 37 10 = 0) ∧ frw (W_li 37) σ σ') := by
  refine am_qq (fun Q hQ => ?_)
  refine am_enter (show plainFor yX1_begin = true by decide +kernel) rfl (Nat.le_of_ble_eq_true rfl) (fun _ _ _ => trivial) ?_
  refine am_aload_n (q := 1) rfl (am_tab tk_X1_begin 0 rfl) rfl ?_
  refine am_iconst (q := 2) (n := 1) (by decide) (am_tab tk_X1_begin 1 rfl) rfl ?_
  refine am_putI (q := 5) (k := 1) (n := 11) (j := 0) (Ls_37 hL) (by decide) rfl (by decide) (Or.inl ⟨kf_X1_9, rfl⟩) (am_tab tk_X1_begin 2 rfl) rfl ?_
  refine am_aload_n (q := 6) rfl (am_tab tk_X1_begin 3 rfl) rfl ?_
  refine am_iconst (q := 7) (n := 0) (by decide) (am_tab tk_X1_begin 4 rfl) rfl ?_
  refine am_putI (q := 10) (k := 1) (n := 11) (j := 1) (Ls_37 hL) (by decide) rfl (by decide) (Or.inl ⟨kf_X1_28, rfl⟩) (am_tab tk_X1_begin 5 rfl) rfl ?_
  refine am_aload_n (q := 11) rfl (am_tab tk_X1_begin 6 rfl) rfl ?_
  refine am_iconst (q := 12) (n := 0) (by decide) (am_tab tk_X1_begin 7 rfl) rfl ?_
  refine am_putI (q := 15) (k := 1) (n := 11) (j := 2) (Ls_37 hL) (by decide) rfl (by decide) (Or.inl ⟨kf_X1_31, rfl⟩) (am_tab tk_X1_begin 8 rfl) rfl ?_
  refine am_aload_n (q := 16) rfl (am_tab tk_X1_begin 9 rfl) rfl ?_
  refine am_iconst (q := 17) (n := 0) (by decide) (am_tab tk_X1_begin 10 rfl) rfl ?_
  refine am_putI (q := 20) (k := 1) (n := 11) (j := 3) (Ls_37 hL) (by decide) rfl (by decide) (Or.inl ⟨kf_X1_34, rfl⟩) (am_tab tk_X1_begin 11 rfl) rfl ?_
  refine am_aload_n (q := 21) rfl (am_tab tk_X1_begin 12 rfl) rfl ?_
  refine am_iconst (q := 22) (n := 0) (by decide) (am_tab tk_X1_begin 13 rfl) rfl ?_
  refine am_putI (q := 25) (k := 1) (n := 11) (j := 4) (Ls_37 hL) (by decide) rfl (by decide) (Or.inl ⟨kf_X1_37, rfl⟩) (am_tab tk_X1_begin 14 rfl) rfl ?_
  refine am_aload_n (q := 26) rfl (am_tab tk_X1_begin 15 rfl) rfl ?_
  refine am_getR (q := 29) (a := 37) (k := 1) (n := 11) (j := 5) (r := some (38)) (Ls_37 hL) (by decide) rfl (Lr_37_5 hL) (by decide) (Or.inl kf_X1_15) (am_tab tk_X1_begin 16 rfl) rfl ?_
  refine am_iconst (q := 30) (n := 0) (by decide) (am_tab tk_X1_begin 17 rfl) rfl ?_
  refine am_callS0 (q := 33) (me2 := M_J7_fill_53178) (As := [am_r 38, am_i 0]) (rest := []) (out := []) (c_fill (am_setN (am_setN (am_setN (am_setN (am_setN σ 37 0 1) 37 1 0) 37 2 0) 37 3 0) 37 4 0) 38 8 0 (Ls_38 hL) (by decide)) ⟨rfl, rfl⟩ ⟨Or.inl km_X1_40, kc_J7_fill_53178, kn_J7, kd_J7_fill_53178, ⟨(Nat.le_of_ble_eq_true rfl), (Nat.le_of_ble_eq_true rfl)⟩, ⟨(Nat.le_of_ble_eq_true rfl), (Nat.le_of_ble_eq_true rfl)⟩, (Nat.le_of_ble_eq_true rfl)⟩ ki_J7_fill_53178 rfl rfl (am_tab tk_X1_begin 18 rfl) rfl ?_
  refine am_aload_n (q := 34) rfl (am_tab tk_X1_begin 19 rfl) rfl ?_
  refine am_getR (q := 37) (a := 15) (k := 8) (n := 17) (j := 13) (r := some (21)) (Ls_15 hL) (by decide) rfl (Lr_15_13 hL) (by decide) (Or.inr kf_X1_46) (am_tab tk_X1_begin 20 rfl) rfl ?_
  refine am_iconst (q := 38) (n := 0) (by decide) (am_tab tk_X1_begin 21 rfl) rfl ?_
  refine am_aload_n (q := 39) rfl (am_tab tk_X1_begin 22 rfl) rfl ?_
  refine am_getR (q := 42) (a := 37) (k := 1) (n := 11) (j := 6) (r := some (39)) (Ls_37 hL) (by decide) rfl (Lr_37_6 hL) (by decide) (Or.inl kf_X1_19) (am_tab tk_X1_begin 23 rfl) rfl ?_
  refine am_iconst (q := 43) (n := 0) (by decide) (am_tab tk_X1_begin 24 rfl) rfl ?_
  refine am_aload_n (q := 44) rfl (am_tab tk_X1_begin 25 rfl) rfl ?_
  refine am_getR (q := 47) (a := 37) (k := 1) (n := 11) (j := 6) (r := some (39)) (Ls_37 hL) (by decide) rfl (Lr_37_6 hL) (by decide) (Or.inl kf_X1_19) (am_tab tk_X1_begin 26 rfl) rfl ?_
  refine am_alen (q := 48) (a := 39) (k := 11) (n := 91) (Ls_39 hL) (by decide) (by decide) (am_tab tk_X1_begin 27 rfl) rfl ?_
  refine am_copy (q := 51) (a0 := 21) (a1 := 39) (n0 := 91) (n1 := 91) (Ls_21 hL) (Ls_39 hL) (by omega) (by omega) (by omega) (by omega) (by omega) (by omega) km_X1_49 kna_copy kst_copy kn_J10 (Nat.le_of_ble_eq_true rfl) (Nat.le_of_ble_eq_true rfl) (am_tab tk_X1_begin 28 rfl) rfl ?_
  refine am_aload_n (q := 52) rfl (am_tab tk_X1_begin 29 rfl) rfl ?_
  refine am_getR (q := 55) (a := 37) (k := 1) (n := 11) (j := 7) (r := some (40)) (Ls_37 hL) (by decide) rfl (Lr_37_7 hL) (by decide) (Or.inl kf_X1_22) (am_tab tk_X1_begin 30 rfl) rfl ?_
  refine am_iconst (q := 56) (n := 0) (by decide) (am_tab tk_X1_begin 31 rfl) rfl ?_
  refine am_callS0 (q := 59) (me2 := M_J7_fill_53178) (As := [am_r 40, am_i 0]) (rest := []) (out := []) (c_fill (am_setA (am_setA (am_setN (am_setN (am_setN (am_setN (am_setN σ 37 0 1) 37 1 0) 37 2 0) 37 3 0) 37 4 0) 38 (fun k => if k < 8 then 0 else (am_setN (am_setN (am_setN (am_setN (am_setN σ 37 0 1) 37 1 0) 37 2 0) 37 3 0) 37 4 0).2.1 38 k)) 39 (fun k => if Int.toNat 0 ≤ k ∧ k < Int.toNat 0 + Int.toNat 91 then (am_setA (am_setN (am_setN (am_setN (am_setN (am_setN σ 37 0 1) 37 1 0) 37 2 0) 37 3 0) 37 4 0) 38 (fun k => if k < 8 then 0 else (am_setN (am_setN (am_setN (am_setN (am_setN σ 37 0 1) 37 1 0) 37 2 0) 37 3 0) 37 4 0).2.1 38 k)).2.1 21 (Int.toNat 0 + (k - Int.toNat 0)) else (am_setA (am_setN (am_setN (am_setN (am_setN (am_setN σ 37 0 1) 37 1 0) 37 2 0) 37 3 0) 37 4 0) 38 (fun k => if k < 8 then 0 else (am_setN (am_setN (am_setN (am_setN (am_setN σ 37 0 1) 37 1 0) 37 2 0) 37 3 0) 37 4 0).2.1 38 k)).2.1 39 k)) 40 91 0 (Ls_40 hL) (by decide)) ⟨rfl, rfl⟩ ⟨Or.inl km_X1_40, kc_J7_fill_53178, kn_J7, kd_J7_fill_53178, ⟨(Nat.le_of_ble_eq_true rfl), (Nat.le_of_ble_eq_true rfl)⟩, ⟨(Nat.le_of_ble_eq_true rfl), (Nat.le_of_ble_eq_true rfl)⟩, (Nat.le_of_ble_eq_true rfl)⟩ ki_J7_fill_53178 rfl rfl (am_tab tk_X1_begin 32 rfl) rfl ?_
  refine am_aload_n (q := 60) rfl (am_tab tk_X1_begin 33 rfl) rfl ?_
  refine am_iconst (q := 61) (n := 0) (by decide) (am_tab tk_X1_begin 34 rfl) rfl ?_
  refine am_putI (q := 64) (k := 1) (n := 11) (j := 9) (Ls_37 hL) (by decide) rfl (by decide) (Or.inl ⟨kf_X1_55, rfl⟩) (am_tab tk_X1_begin 35 rfl) rfl ?_
  refine am_aload_n (q := 65) rfl (am_tab tk_X1_begin 36 rfl) rfl ?_
  refine am_iconst (q := 66) (n := 0) (by decide) (am_tab tk_X1_begin 37 rfl) rfl ?_
  refine am_putI (q := 69) (k := 1) (n := 11) (j := 10) (Ls_37 hL) (by decide) rfl (by decide) (Or.inl ⟨kf_X1_58, rfl⟩) (am_tab tk_X1_begin 38 rfl) rfl ?_
  refine am_vret rfl (Nat.le_of_ble_eq_true rfl) (Nat.le_of_ble_eq_true rfl) (am_tab tk_X1_begin 39 rfl) ?_
  refine hQ _ _ ?_
  refine ⟨rfl, ⟨⟨rfl, rfl, rfl, rfl⟩, (show (0 : Int) ≤ 0 ∧ (0 : Int) < 256 by decide), fun p hp => ?_, fun p hp => ?_, fun d hd => ?_, fun d hd => ?_⟩, ⟨rfl, rfl⟩, ((((((((((frw.refl (W_li 37) σ).setN (by unfold W_li; omega)).setN (by unfold W_li; omega)).setN (by unfold W_li; omega)).setN (by unfold W_li; omega)).setN (by unfold W_li; omega)).setA (by unfold W_li; omega)).setA (by unfold W_li; omega)).setA (by unfold W_li; omega)).setN (by unfold W_li; omega)).setN (by unfold W_li; omega)⟩
  · show tb 0 (p : Int) = bgL _ (12 + p)
    unfold bgL
    rw [tb00, if_neg (by omega), if_neg (by omega)]
  · show (if p < 8 then (0 : Int) else _) = bgL _ (4 + p)
    unfold bgL
    rw [if_pos hp, if_neg (by omega), if_neg (by omega)]
  · refine Eq.trans (cpS (f := fun d => σ.2.1 21 d) hd) ?_
    unfold bgL
    rw [if_neg (by omega), if_pos (by omega), show 20 + d - 20 = d by omega]
  · show (if d < 91 then (0 : Int) else _) = bgL _ (111 + d)
    unfold bgL
    rw [if_pos hd, if_neg (by omega), if_neg (by omega)]
theorem c_forget (σ : am_H) (hL : lay σ)   : am_met M_X2_forget [am_r 42] σ (fun r σ' => r = none ∧ σ' = am_setN σ 42 2 0) := by
  refine am_qq (fun Q hQ => ?_)
  refine am_enter (show plainFor yX2_forget = true by decide +kernel) rfl (Nat.le_of_ble_eq_true rfl) (fun _ _ _ => trivial) ?_
  refine am_aload_n (q := 1) rfl (am_tab tk_X2_forget 0 rfl) rfl ?_
  refine am_iconst (q := 2) (n := 0) (by decide) (am_tab tk_X2_forget 1 rfl) rfl ?_
  refine am_putI (q := 5) (k := 2) (n := 3) (j := 2) (Ls_42 hL) (by decide) rfl (by decide) (Or.inl ⟨kf_X2_17, rfl⟩) (am_tab tk_X2_forget 2 rfl) rfl ?_
  refine am_vret rfl (Nat.le_of_ble_eq_true rfl) (Nat.le_of_ble_eq_true rfl) (am_tab tk_X2_forget 3 rfl) ?_
  refine hQ _ _ ?_
  exact ⟨rfl, rfl⟩
theorem c_find_3 (σ : am_H) (hL : lay σ) (v : Int) (n : Nat) (hn : σ.2.1 3 2 = (n : Int)) (h8 : n ≤ 8) : am_met M_X8_find [am_r 3, am_i v] σ (fun r σ' => r = some (am_i (firstQ (fun k => decide (σ.2.1 4 k = v)) n)) ∧ σ' = σ) := by
  refine am_qq (fun Q hQ => ?_)
  refine am_enter (show plainFor yX8_find = true by decide +kernel) rfl (Nat.le_of_ble_eq_true rfl) (fun _ _ _ => trivial) ?_
  refine am_iconst (q := 1) (n := 0) (by decide) (am_tab tk_X8_find 0 rfl) rfl ?_
  refine am_istore_n (q := 2) (by decide) (ls2 := [(2, am_i 0), (0, am_r 3), (1, am_i v)]) rfl (am_tab tk_X8_find 1 rfl) rfl ?_
  have L2 : ∀ (n2 : Nat) (k : Nat), 8 - k < n2 → k ≤ n → anyB (fun k => decide (σ.2.1 4 k = v)) k = false → am_wp M_X8_find Q 0 0 2 [(2, am_i ((k : Int))), (0, am_r 3), (1, am_i v)] [] σ := by
    intro n2
    induction n2 with
    | zero => intro k hn2; exact absurd hn2 (Nat.not_lt_zero _)
    | succ n2 ih2 =>
      intro k hn2 hk hno
      refine am_iload_n (q := 3) rfl (am_tab tk_X8_find 2 rfl) rfl ?_
      refine am_aload_n (q := 4) rfl (am_tab tk_X8_find 3 rfl) rfl ?_
      refine am_getI (q := 7) (a := 3) (k := 8) (n := 17) (j := 2) (x := (n : Int)) (Ls_3 hL) (by decide) rfl hn (by decide) (Or.inl kf_X8_52) (am_tab tk_X8_find 4 rfl) rfl ?_
      refine am_icmp_ge (q := 10) (t := 28) (am_tab tk_X8_find 5 rfl) (by decide) rfl (fun h7 => ?_) (fun h7 => ?_)
      · refine am_iconst (q := 29) (n := (-1)) (by decide) (am_tab tk_X8_find 16 rfl) rfl ?_
        refine am_iret (Or.inl rfl) (Nat.le_of_ble_eq_true rfl) (Nat.le_of_ble_eq_true rfl) (am_tab tk_X8_find 17 rfl) ?_
        refine hQ _ _ ?_
        refine ⟨congrArg (fun z => some (am_i z)) ?_, rfl⟩
        rw [← show k = n by omega, firstQ_none hno]
      · refine am_aload_n (q := 11) rfl (am_tab tk_X8_find 6 rfl) rfl ?_
        refine am_getR (q := 14) (a := 3) (k := 8) (n := 17) (j := 8) (r := some (4)) (Ls_3 hL) (by decide) rfl (Lr_3_8 hL) (by decide) (Or.inl kf_X8_9) (am_tab tk_X8_find 7 rfl) rfl ?_
        refine am_iload_n (q := 15) rfl (am_tab tk_X8_find 8 rfl) rfl ?_
        refine am_iald (q := 16) (a := 4) (n := 8) (x := (σ.2.1 4 k)) (Ls_4 hL) (by omega) (by omega) (by rw [show Int.toNat (k : Int) = k by omega]) (am_tab tk_X8_find 9 rfl) rfl ?_
        refine am_iload_n (q := 17) rfl (am_tab tk_X8_find 10 rfl) rfl ?_
        refine am_icmp_ne (q := 20) (t := 22) (am_tab tk_X8_find 11 rfl) (by decide) rfl (fun h17 => ?_) (fun h17 => ?_)
        · refine am_iinc (q := 25) rfl (by omega) (by decide) (ls2 := [(2, am_i (((k : Int) + 1))), (0, am_r 3), (1, am_i v)]) rfl (am_tab tk_X8_find 14 rfl) rfl ?_
          refine am_goto (t := 2) (am_tab tk_X8_find 15 rfl) (by decide) ?_
          exact am_less (by intro q hq; simp only [List.mem_cons, List.not_mem_nil, or_false] at hq; rcases hq with rfl | rfl | rfl <;> simp) (ih2 (k + 1) (by omega) (by omega) (anyB_f hno (by rw [decide_eq_false_iff_not]; exact h17)))
        · refine am_iload_n (q := 21) rfl (am_tab tk_X8_find 12 rfl) rfl ?_
          refine am_iret (Or.inl rfl) (Nat.le_of_ble_eq_true rfl) (Nat.le_of_ble_eq_true rfl) (am_tab tk_X8_find 13 rfl) ?_
          refine hQ _ _ ?_
          refine ⟨congrArg (fun z => some (am_i z)) ?_, rfl⟩
          rw [firstQ_at (g := fun k => decide (σ.2.1 4 k = v)) (i := k) (by rw [decide_eq_true_eq]; exact h17) hno (by omega)]
  refine am_less (by intro q hq; simp only [List.mem_cons, List.not_mem_nil, or_false] at hq; rcases hq with rfl | rfl | rfl <;> simp) (L2 (_ + 1) 0 (by exact Nat.lt_succ_self _) (Nat.zero_le _) rfl)
theorem c_find_15 (σ : am_H) (hL : lay σ) (v : Int) (n : Nat) (hn : σ.2.1 15 2 = (n : Int)) (h8 : n ≤ 8) : am_met M_X8_find [am_r 15, am_i v] σ (fun r σ' => r = some (am_i (firstQ (fun k => decide (σ.2.1 16 k = v)) n)) ∧ σ' = σ) := by
  refine am_qq (fun Q hQ => ?_)
  refine am_enter (show plainFor yX8_find = true by decide +kernel) rfl (Nat.le_of_ble_eq_true rfl) (fun _ _ _ => trivial) ?_
  refine am_iconst (q := 1) (n := 0) (by decide) (am_tab tk_X8_find 0 rfl) rfl ?_
  refine am_istore_n (q := 2) (by decide) (ls2 := [(2, am_i 0), (0, am_r 15), (1, am_i v)]) rfl (am_tab tk_X8_find 1 rfl) rfl ?_
  have L2 : ∀ (n2 : Nat) (k : Nat), 8 - k < n2 → k ≤ n → anyB (fun k => decide (σ.2.1 16 k = v)) k = false → am_wp M_X8_find Q 0 0 2 [(2, am_i ((k : Int))), (0, am_r 15), (1, am_i v)] [] σ := by
    intro n2
    induction n2 with
    | zero => intro k hn2; exact absurd hn2 (Nat.not_lt_zero _)
    | succ n2 ih2 =>
      intro k hn2 hk hno
      refine am_iload_n (q := 3) rfl (am_tab tk_X8_find 2 rfl) rfl ?_
      refine am_aload_n (q := 4) rfl (am_tab tk_X8_find 3 rfl) rfl ?_
      refine am_getI (q := 7) (a := 15) (k := 8) (n := 17) (j := 2) (x := (n : Int)) (Ls_15 hL) (by decide) rfl hn (by decide) (Or.inl kf_X8_52) (am_tab tk_X8_find 4 rfl) rfl ?_
      refine am_icmp_ge (q := 10) (t := 28) (am_tab tk_X8_find 5 rfl) (by decide) rfl (fun h7 => ?_) (fun h7 => ?_)
      · refine am_iconst (q := 29) (n := (-1)) (by decide) (am_tab tk_X8_find 16 rfl) rfl ?_
        refine am_iret (Or.inl rfl) (Nat.le_of_ble_eq_true rfl) (Nat.le_of_ble_eq_true rfl) (am_tab tk_X8_find 17 rfl) ?_
        refine hQ _ _ ?_
        refine ⟨congrArg (fun z => some (am_i z)) ?_, rfl⟩
        rw [← show k = n by omega, firstQ_none hno]
      · refine am_aload_n (q := 11) rfl (am_tab tk_X8_find 6 rfl) rfl ?_
        refine am_getR (q := 14) (a := 15) (k := 8) (n := 17) (j := 8) (r := some (16)) (Ls_15 hL) (by decide) rfl (Lr_15_8 hL) (by decide) (Or.inl kf_X8_9) (am_tab tk_X8_find 7 rfl) rfl ?_
        refine am_iload_n (q := 15) rfl (am_tab tk_X8_find 8 rfl) rfl ?_
        refine am_iald (q := 16) (a := 16) (n := 8) (x := (σ.2.1 16 k)) (Ls_16 hL) (by omega) (by omega) (by rw [show Int.toNat (k : Int) = k by omega]) (am_tab tk_X8_find 9 rfl) rfl ?_
        refine am_iload_n (q := 17) rfl (am_tab tk_X8_find 10 rfl) rfl ?_
        refine am_icmp_ne (q := 20) (t := 22) (am_tab tk_X8_find 11 rfl) (by decide) rfl (fun h17 => ?_) (fun h17 => ?_)
        · refine am_iinc (q := 25) rfl (by omega) (by decide) (ls2 := [(2, am_i (((k : Int) + 1))), (0, am_r 15), (1, am_i v)]) rfl (am_tab tk_X8_find 14 rfl) rfl ?_
          refine am_goto (t := 2) (am_tab tk_X8_find 15 rfl) (by decide) ?_
          exact am_less (by intro q hq; simp only [List.mem_cons, List.not_mem_nil, or_false] at hq; rcases hq with rfl | rfl | rfl <;> simp) (ih2 (k + 1) (by omega) (by omega) (anyB_f hno (by rw [decide_eq_false_iff_not]; exact h17)))
        · refine am_iload_n (q := 21) rfl (am_tab tk_X8_find 12 rfl) rfl ?_
          refine am_iret (Or.inl rfl) (Nat.le_of_ble_eq_true rfl) (Nat.le_of_ble_eq_true rfl) (am_tab tk_X8_find 13 rfl) ?_
          refine hQ _ _ ?_
          refine ⟨congrArg (fun z => some (am_i z)) ?_, rfl⟩
          rw [firstQ_at (g := fun k => decide (σ.2.1 16 k = v)) (i := k) (by rw [decide_eq_true_eq]; exact h17) hno (by omega)]
  refine am_less (by intro q hq; simp only [List.mem_cons, List.not_mem_nil, or_false] at hq; rcases hq with rfl | rfl | rfl <;> simp) (L2 (_ + 1) 0 (by exact Nat.lt_succ_self _) (Nat.zero_le _) rfl)
theorem c_addPerson_3 (σ : am_H) (hL : lay σ) (nm : Int) (mi : Int) (co : Int) (n : Nat) (hn : σ.2.1 3 2 = (n : Int)) (h8 : n < 8) : am_met M_X8_addPerson [am_r 3, am_i nm, am_i mi, am_i co] σ (fun r σ' => r = none ∧ σ' = am_setN (am_setN (am_setN (am_setN σ 4 n nm) 5 n mi) 6 n co) 3 2 ((n : Int) + 1)) := by
  refine am_qq (fun Q hQ => ?_)
  refine am_enter (show plainFor yX8_addPerson = true by decide +kernel) rfl (Nat.le_of_ble_eq_true rfl) (fun _ _ _ => trivial) ?_
  refine am_aload_n (q := 1) rfl (am_tab tk_X8_addPerson 0 rfl) rfl ?_
  refine am_getI (q := 4) (a := 3) (k := 8) (n := 17) (j := 2) (x := (n : Int)) (Ls_3 hL) (by decide) rfl hn (by decide) (Or.inl kf_X8_52) (am_tab tk_X8_addPerson 1 rfl) rfl ?_
  refine am_bipush (q := 6) (n := 8) (by decide) rfl (am_tab tk_X8_addPerson 2 rfl) rfl ?_
  refine am_icmp_ge (q := 9) (t := 49) (am_tab tk_X8_addPerson 3 rfl) (by decide) rfl (fun h6 => ?_) (fun h6 => ?_)
  · exact absurd h6 (by omega)
  · refine am_aload_n (q := 10) rfl (am_tab tk_X8_addPerson 4 rfl) rfl ?_
    refine am_getR (q := 13) (a := 3) (k := 8) (n := 17) (j := 8) (r := some (4)) (Ls_3 hL) (by decide) rfl (Lr_3_8 hL) (by decide) (Or.inl kf_X8_9) (am_tab tk_X8_addPerson 5 rfl) rfl ?_
    refine am_aload_n (q := 14) rfl (am_tab tk_X8_addPerson 6 rfl) rfl ?_
    refine am_getI (q := 17) (a := 3) (k := 8) (n := 17) (j := 2) (x := (n : Int)) (Ls_3 hL) (by decide) rfl hn (by decide) (Or.inl kf_X8_52) (am_tab tk_X8_addPerson 7 rfl) rfl ?_
    refine am_iload_n (q := 18) rfl (am_tab tk_X8_addPerson 8 rfl) rfl ?_
    refine am_iast (q := 19) (a := 4) (n := 8) (Ls_4 hL) (by omega) (by omega) (am_tab tk_X8_addPerson 9 rfl) rfl ?_
    refine am_aload_n (q := 20) rfl (am_tab tk_X8_addPerson 10 rfl) rfl ?_
    refine am_getR (q := 23) (a := 3) (k := 8) (n := 17) (j := 9) (r := some (5)) (Ls_3 hL) (by decide) rfl (Lr_3_9 hL) (by decide) (Or.inl kf_X8_15) (am_tab tk_X8_addPerson 11 rfl) rfl ?_
    refine am_aload_n (q := 24) rfl (am_tab tk_X8_addPerson 12 rfl) rfl ?_
    refine am_getI (q := 27) (a := 3) (k := 8) (n := 17) (j := 2) (x := (n : Int)) (Ls_3 hL) (by decide) rfl hn (by decide) (Or.inl kf_X8_52) (am_tab tk_X8_addPerson 13 rfl) rfl ?_
    refine am_iload_n (q := 28) rfl (am_tab tk_X8_addPerson 14 rfl) rfl ?_
    refine am_iast (q := 29) (a := 5) (n := 8) (Ls_5 hL) (by omega) (by omega) (am_tab tk_X8_addPerson 15 rfl) rfl ?_
    refine am_aload_n (q := 30) rfl (am_tab tk_X8_addPerson 16 rfl) rfl ?_
    refine am_getR (q := 33) (a := 3) (k := 8) (n := 17) (j := 10) (r := some (6)) (Ls_3 hL) (by decide) rfl (Lr_3_10 hL) (by decide) (Or.inl kf_X8_18) (am_tab tk_X8_addPerson 17 rfl) rfl ?_
    refine am_aload_n (q := 34) rfl (am_tab tk_X8_addPerson 18 rfl) rfl ?_
    refine am_getI (q := 37) (a := 3) (k := 8) (n := 17) (j := 2) (x := (n : Int)) (Ls_3 hL) (by decide) rfl hn (by decide) (Or.inl kf_X8_52) (am_tab tk_X8_addPerson 19 rfl) rfl ?_
    refine am_iload_n (q := 38) rfl (am_tab tk_X8_addPerson 20 rfl) rfl ?_
    refine am_iast (q := 39) (a := 6) (n := 8) (Ls_6 hL) (by omega) (by omega) (am_tab tk_X8_addPerson 21 rfl) rfl ?_
    refine am_aload_n (q := 40) rfl (am_tab tk_X8_addPerson 22 rfl) rfl ?_
    refine am_dup (q := 41) rfl (am_tab tk_X8_addPerson 23 rfl) rfl ?_
    refine am_getI (q := 44) (a := 3) (k := 8) (n := 17) (j := 2) (x := (n : Int)) (Ls_3 hL) (by decide) rfl hn (by decide) (Or.inl kf_X8_52) (am_tab tk_X8_addPerson 24 rfl) rfl ?_
    refine am_iconst (q := 45) (n := 1) (by decide) (am_tab tk_X8_addPerson 25 rfl) rfl ?_
    refine am_iadd (q := 46) (by omega) (am_tab tk_X8_addPerson 26 rfl) rfl ?_
    refine am_putI (q := 49) (k := 8) (n := 17) (j := 2) (Ls_3 hL) (by decide) rfl (by decide) (Or.inl ⟨kf_X8_52, rfl⟩) (am_tab tk_X8_addPerson 27 rfl) rfl ?_
    refine am_vret rfl (Nat.le_of_ble_eq_true rfl) (Nat.le_of_ble_eq_true rfl) (am_tab tk_X8_addPerson 28 rfl) ?_
    refine hQ _ _ ?_
    rw [show Int.toNat (n : Int) = n by omega]
    exact ⟨rfl, rfl⟩
theorem c_addTold_3 (σ : am_H) (hL : lay σ) (p : Nat) (d : Nat) (hp : p < 8) (hd : 1 ≤ d ∧ d ≤ 90) (hr : 0 ≤ σ.2.1 9 d ∧ σ.2.1 9 d < 256) (hc : 0 ≤ σ.2.1 3 3 ∧ σ.2.1 3 3 ≤ 1000) : am_met M_X8_addTold [am_r 3, am_i ((p : Int)), am_i ((d : Int))] σ (fun r σ' => (tb (σ.2.1 9 d) p = 1 ∧ r = some (am_i 0) ∧ σ' = σ) ∨ (¬ tb (σ.2.1 9 d) p = 1 ∧ r = some (am_i 1) ∧ σ' = am_setN (am_setN σ 9 d (ao_or (σ.2.1 9 d) (ao_shl 1 (p : Int)))) 3 3 (σ.2.1 3 3 + 1))) := by
  refine am_qq (fun Q hQ => ?_)
  refine am_enter (show plainFor yX8_addTold = true by decide +kernel) rfl (Nat.le_of_ble_eq_true rfl) (fun _ _ _ => trivial) ?_
  refine am_iload_n (q := 1) rfl (am_tab tk_X8_addTold 0 rfl) rfl ?_
  refine am_iconst (q := 2) (n := 1) (by decide) (am_tab tk_X8_addTold 1 rfl) rfl ?_
  refine am_icmp_lt (q := 5) (t := 25) (am_tab tk_X8_addTold 2 rfl) (by decide) rfl (fun h2 => ?_) (fun h2 => ?_)
  · exact absurd h2 (by omega)
  · refine am_iload_n (q := 6) rfl (am_tab tk_X8_addTold 3 rfl) rfl ?_
    refine am_bipush (q := 8) (n := 90) (by decide) rfl (am_tab tk_X8_addTold 4 rfl) rfl ?_
    refine am_icmp_gt (q := 11) (t := 25) (am_tab tk_X8_addTold 5 rfl) (by decide) rfl (fun h8 => ?_) (fun h8 => ?_)
    · exact absurd h8 (by omega)
    · refine am_aload_n (q := 12) rfl (am_tab tk_X8_addTold 6 rfl) rfl ?_
      refine am_getR (q := 15) (a := 3) (k := 8) (n := 17) (j := 13) (r := some (9)) (Ls_3 hL) (by decide) rfl (Lr_3_13 hL) (by decide) (Or.inl kf_X8_27) (am_tab tk_X8_addTold 7 rfl) rfl ?_
      refine am_iload_n (q := 16) rfl (am_tab tk_X8_addTold 8 rfl) rfl ?_
      refine am_iald (q := 17) (a := 9) (n := 91) (x := (σ.2.1 9 d)) (Ls_9 hL) (by omega) (by omega) (by rw [show Int.toNat (d : Int) = d by omega]) (am_tab tk_X8_addTold 9 rfl) rfl ?_
      refine am_iload_n (q := 18) rfl (am_tab tk_X8_addTold 10 rfl) rfl ?_
      refine am_callS0 (q := 21) (me2 := M_X9_bit) (As := [am_i ((σ.2.1 9 d)), am_i ((p : Int))]) (rest := []) (out := [am_i (tb (σ.2.1 9 d) (p : Int))]) (c_bit σ (σ.2.1 9 d) (p : Int) (hr) (by omega)) ⟨rfl, rfl⟩ ⟨Or.inr km_X8_79, kc_X9_bit, kn_X9, kd_X9_bit, ⟨(Nat.le_of_ble_eq_true rfl), (Nat.le_of_ble_eq_true rfl)⟩, ⟨(Nat.le_of_ble_eq_true rfl), (Nat.le_of_ble_eq_true rfl)⟩, (Nat.le_of_ble_eq_true rfl)⟩ ki_X9_bit rfl rfl (am_tab tk_X8_addTold 11 rfl) rfl ?_
      refine am_iconst (q := 22) (n := 1) (by decide) (am_tab tk_X8_addTold 12 rfl) rfl ?_
      refine am_icmp_ne (q := 25) (t := 27) (am_tab tk_X8_addTold 13 rfl) (by decide) rfl (fun h22 => ?_) (fun h22 => ?_)
      · refine am_aload_n (q := 28) rfl (am_tab tk_X8_addTold 16 rfl) rfl ?_
        refine am_getR (q := 31) (a := 3) (k := 8) (n := 17) (j := 13) (r := some (9)) (Ls_3 hL) (by decide) rfl (Lr_3_13 hL) (by decide) (Or.inl kf_X8_27) (am_tab tk_X8_addTold 17 rfl) rfl ?_
        refine am_iload_n (q := 32) rfl (am_tab tk_X8_addTold 18 rfl) rfl ?_
        refine am_dup2 (q := 33) rfl rfl (am_tab tk_X8_addTold 19 rfl) rfl ?_
        refine am_iald (q := 34) (a := 9) (n := 91) (x := (σ.2.1 9 d)) (Ls_9 hL) (by omega) (by omega) (by rw [show Int.toNat (d : Int) = d by omega]) (am_tab tk_X8_addTold 20 rfl) rfl ?_
        refine am_iconst (q := 35) (n := 1) (by decide) (am_tab tk_X8_addTold 21 rfl) rfl ?_
        refine am_iload_n (q := 36) rfl (am_tab tk_X8_addTold 22 rfl) rfl ?_
        refine am_ishl (q := 37) (am_tab tk_X8_addTold 23 rfl) rfl ?_
        refine am_ior (q := 38) (am_tab tk_X8_addTold 24 rfl) rfl ?_
        refine am_iast (q := 39) (a := 9) (n := 91) (Ls_9 hL) (by omega) (by omega) (am_tab tk_X8_addTold 25 rfl) rfl ?_
        refine am_aload_n (q := 40) rfl (am_tab tk_X8_addTold 26 rfl) rfl ?_
        refine am_dup (q := 41) rfl (am_tab tk_X8_addTold 27 rfl) rfl ?_
        refine am_getI (q := 44) (a := 3) (k := 8) (n := 17) (j := 3) (x := (σ.2.1 3 3)) (Ls_3 hL) (by decide) rfl rfl (by decide) (Or.inl kf_X8_55) (am_tab tk_X8_addTold 28 rfl) rfl ?_
        refine am_iconst (q := 45) (n := 1) (by decide) (am_tab tk_X8_addTold 29 rfl) rfl ?_
        refine am_iadd (q := 46) (by omega) (am_tab tk_X8_addTold 30 rfl) rfl ?_
        refine am_putI (q := 49) (k := 8) (n := 17) (j := 3) (Ls_3 hL) (by decide) rfl (by decide) (Or.inl ⟨kf_X8_55, rfl⟩) (am_tab tk_X8_addTold 31 rfl) rfl ?_
        refine am_iconst (q := 50) (n := 1) (by decide) (am_tab tk_X8_addTold 32 rfl) rfl ?_
        refine am_iret (Or.inr ⟨rfl, by first | exact Or.inl rfl | exact Or.inr rfl | omega⟩) (Nat.le_of_ble_eq_true rfl) (Nat.le_of_ble_eq_true rfl) (am_tab tk_X8_addTold 33 rfl) ?_
        refine hQ _ _ ?_
        rw [show Int.toNat (d : Int) = d by omega]
        exact Or.inr ⟨h22, rfl, rfl⟩
      · refine am_iconst (q := 26) (n := 0) (by decide) (am_tab tk_X8_addTold 14 rfl) rfl ?_
        refine am_iret (Or.inr ⟨rfl, by first | exact Or.inl rfl | exact Or.inr rfl | omega⟩) (Nat.le_of_ble_eq_true rfl) (Nat.le_of_ble_eq_true rfl) (am_tab tk_X8_addTold 15 rfl) ?_
        refine hQ _ _ ?_
        exact Or.inl ⟨h22, rfl, rfl⟩
theorem c_addReminds_3 (σ : am_H) (hL : lay σ) (p : Nat) (q : Nat) (hp : p < 8) (hq : q < 8) (hr : 0 ≤ σ.2.1 7 p ∧ σ.2.1 7 p < 256) (hc : 0 ≤ σ.2.1 3 4 ∧ σ.2.1 3 4 ≤ 1000) : am_met M_X8_addReminds [am_r 3, am_i ((p : Int)), am_i ((q : Int))] σ (fun r σ' => ((p = q ∨ tb (σ.2.1 7 p) q = 1) ∧ r = some (am_i 0) ∧ σ' = σ) ∨ (¬ (p = q ∨ tb (σ.2.1 7 p) q = 1) ∧ r = some (am_i 1) ∧ σ' = am_setN (am_setN (am_setN σ 7 p (ao_or (σ.2.1 7 p) (ao_shl 1 (q : Int)))) 8 q (ao_or (σ.2.1 8 q) (ao_shl 1 (p : Int)))) 3 4 (σ.2.1 3 4 + 1))) := by
  refine am_qq (fun Q hQ => ?_)
  refine am_enter (show plainFor yX8_addReminds = true by decide +kernel) rfl (Nat.le_of_ble_eq_true rfl) (fun _ _ _ => trivial) ?_
  refine am_iload_n (q := 1) rfl (am_tab tk_X8_addReminds 0 rfl) rfl ?_
  refine am_if_lt (q := 4) (t := 27) (am_tab tk_X8_addReminds 1 rfl) (by decide) rfl (fun h1 => ?_) (fun h1 => ?_)
  · exact absurd h1 (by omega)
  · refine am_iload_n (q := 5) rfl (am_tab tk_X8_addReminds 2 rfl) rfl ?_
    refine am_if_lt (q := 8) (t := 27) (am_tab tk_X8_addReminds 3 rfl) (by decide) rfl (fun h5 => ?_) (fun h5 => ?_)
    · exact absurd h5 (by omega)
    · refine am_iload_n (q := 9) rfl (am_tab tk_X8_addReminds 4 rfl) rfl ?_
      refine am_iload_n (q := 10) rfl (am_tab tk_X8_addReminds 5 rfl) rfl ?_
      refine am_icmp_eq (q := 13) (t := 27) (am_tab tk_X8_addReminds 6 rfl) (by decide) rfl (fun h10 => ?_) (fun h10 => ?_)
      · refine am_iconst (q := 28) (n := 0) (by decide) (am_tab tk_X8_addReminds 15 rfl) rfl ?_
        refine am_iret (Or.inr ⟨rfl, by first | exact Or.inl rfl | exact Or.inr rfl | omega⟩) (Nat.le_of_ble_eq_true rfl) (Nat.le_of_ble_eq_true rfl) (am_tab tk_X8_addReminds 16 rfl) ?_
        refine hQ _ _ ?_
        exact Or.inl ⟨Or.inl (by omega), rfl, rfl⟩
      · refine am_aload_n (q := 14) rfl (am_tab tk_X8_addReminds 7 rfl) rfl ?_
        refine am_getR (q := 17) (a := 3) (k := 8) (n := 17) (j := 11) (r := some (7)) (Ls_3 hL) (by decide) rfl (Lr_3_11 hL) (by decide) (Or.inl kf_X8_21) (am_tab tk_X8_addReminds 8 rfl) rfl ?_
        refine am_iload_n (q := 18) rfl (am_tab tk_X8_addReminds 9 rfl) rfl ?_
        refine am_iald (q := 19) (a := 7) (n := 8) (x := (σ.2.1 7 p)) (Ls_7 hL) (by omega) (by omega) (by rw [show Int.toNat (p : Int) = p by omega]) (am_tab tk_X8_addReminds 10 rfl) rfl ?_
        refine am_iload_n (q := 20) rfl (am_tab tk_X8_addReminds 11 rfl) rfl ?_
        refine am_callS0 (q := 23) (me2 := M_X9_bit) (As := [am_i ((σ.2.1 7 p)), am_i ((q : Int))]) (rest := []) (out := [am_i (tb (σ.2.1 7 p) (q : Int))]) (c_bit σ (σ.2.1 7 p) (q : Int) (hr) (by omega)) ⟨rfl, rfl⟩ ⟨Or.inr km_X8_79, kc_X9_bit, kn_X9, kd_X9_bit, ⟨(Nat.le_of_ble_eq_true rfl), (Nat.le_of_ble_eq_true rfl)⟩, ⟨(Nat.le_of_ble_eq_true rfl), (Nat.le_of_ble_eq_true rfl)⟩, (Nat.le_of_ble_eq_true rfl)⟩ ki_X9_bit rfl rfl (am_tab tk_X8_addReminds 12 rfl) rfl ?_
        refine am_iconst (q := 24) (n := 1) (by decide) (am_tab tk_X8_addReminds 13 rfl) rfl ?_
        refine am_icmp_ne (q := 27) (t := 29) (am_tab tk_X8_addReminds 14 rfl) (by decide) rfl (fun h24 => ?_) (fun h24 => ?_)
        · refine am_aload_n (q := 30) rfl (am_tab tk_X8_addReminds 17 rfl) rfl ?_
          refine am_getR (q := 33) (a := 3) (k := 8) (n := 17) (j := 11) (r := some (7)) (Ls_3 hL) (by decide) rfl (Lr_3_11 hL) (by decide) (Or.inl kf_X8_21) (am_tab tk_X8_addReminds 18 rfl) rfl ?_
          refine am_iload_n (q := 34) rfl (am_tab tk_X8_addReminds 19 rfl) rfl ?_
          refine am_dup2 (q := 35) rfl rfl (am_tab tk_X8_addReminds 20 rfl) rfl ?_
          refine am_iald (q := 36) (a := 7) (n := 8) (x := (σ.2.1 7 p)) (Ls_7 hL) (by omega) (by omega) (by rw [show Int.toNat (p : Int) = p by omega]) (am_tab tk_X8_addReminds 21 rfl) rfl ?_
          refine am_iconst (q := 37) (n := 1) (by decide) (am_tab tk_X8_addReminds 22 rfl) rfl ?_
          refine am_iload_n (q := 38) rfl (am_tab tk_X8_addReminds 23 rfl) rfl ?_
          refine am_ishl (q := 39) (am_tab tk_X8_addReminds 24 rfl) rfl ?_
          refine am_ior (q := 40) (am_tab tk_X8_addReminds 25 rfl) rfl ?_
          refine am_iast (q := 41) (a := 7) (n := 8) (Ls_7 hL) (by omega) (by omega) (am_tab tk_X8_addReminds 26 rfl) rfl ?_
          refine am_aload_n (q := 42) rfl (am_tab tk_X8_addReminds 27 rfl) rfl ?_
          refine am_getR (q := 45) (a := 3) (k := 8) (n := 17) (j := 12) (r := some (8)) (Ls_3 hL) (by decide) rfl (Lr_3_12 hL) (by decide) (Or.inl kf_X8_24) (am_tab tk_X8_addReminds 28 rfl) rfl ?_
          refine am_iload_n (q := 46) rfl (am_tab tk_X8_addReminds 29 rfl) rfl ?_
          refine am_dup2 (q := 47) rfl rfl (am_tab tk_X8_addReminds 30 rfl) rfl ?_
          refine am_iald (q := 48) (a := 8) (n := 8) (x := (σ.2.1 8 q)) (Ls_8 hL) (by omega) (by omega) (by rw [show Int.toNat (q : Int) = q by omega]; rfl) (am_tab tk_X8_addReminds 31 rfl) rfl ?_
          refine am_iconst (q := 49) (n := 1) (by decide) (am_tab tk_X8_addReminds 32 rfl) rfl ?_
          refine am_iload_n (q := 50) rfl (am_tab tk_X8_addReminds 33 rfl) rfl ?_
          refine am_ishl (q := 51) (am_tab tk_X8_addReminds 34 rfl) rfl ?_
          refine am_ior (q := 52) (am_tab tk_X8_addReminds 35 rfl) rfl ?_
          refine am_iast (q := 53) (a := 8) (n := 8) (Ls_8 hL) (by omega) (by omega) (am_tab tk_X8_addReminds 36 rfl) rfl ?_
          refine am_aload_n (q := 54) rfl (am_tab tk_X8_addReminds 37 rfl) rfl ?_
          refine am_dup (q := 55) rfl (am_tab tk_X8_addReminds 38 rfl) rfl ?_
          refine am_getI (q := 58) (a := 3) (k := 8) (n := 17) (j := 4) (x := (σ.2.1 3 4)) (Ls_3 hL) (by decide) rfl rfl (by decide) (Or.inl kf_X8_58) (am_tab tk_X8_addReminds 39 rfl) rfl ?_
          refine am_iconst (q := 59) (n := 1) (by decide) (am_tab tk_X8_addReminds 40 rfl) rfl ?_
          refine am_iadd (q := 60) (by omega) (am_tab tk_X8_addReminds 41 rfl) rfl ?_
          refine am_putI (q := 63) (k := 8) (n := 17) (j := 4) (Ls_3 hL) (by decide) rfl (by decide) (Or.inl ⟨kf_X8_58, rfl⟩) (am_tab tk_X8_addReminds 42 rfl) rfl ?_
          refine am_iconst (q := 64) (n := 1) (by decide) (am_tab tk_X8_addReminds 43 rfl) rfl ?_
          refine am_iret (Or.inr ⟨rfl, by first | exact Or.inl rfl | exact Or.inr rfl | omega⟩) (Nat.le_of_ble_eq_true rfl) (Nat.le_of_ble_eq_true rfl) (am_tab tk_X8_addReminds 44 rfl) ?_
          refine hQ _ _ ?_
          rw [show Int.toNat (p : Int) = p by omega, show Int.toNat (q : Int) = q by omega]
          exact Or.inr ⟨fun h => h.elim (fun z => h10 (by omega)) (fun z => h24 z), rfl, rfl⟩
        · refine am_iconst (q := 28) (n := 0) (by decide) (am_tab tk_X8_addReminds 15 rfl) rfl ?_
          refine am_iret (Or.inr ⟨rfl, by first | exact Or.inl rfl | exact Or.inr rfl | omega⟩) (Nat.le_of_ble_eq_true rfl) (Nat.le_of_ble_eq_true rfl) (am_tab tk_X8_addReminds 16 rfl) ?_
          refine hQ _ _ ?_
          exact Or.inl ⟨Or.inr h24, rfl, rfl⟩
theorem c_addPerson_15 (σ : am_H) (hL : lay σ) (nm : Int) (mi : Int) (co : Int) (n : Nat) (hn : σ.2.1 15 2 = (n : Int)) (h8 : n < 8) : am_met M_X8_addPerson [am_r 15, am_i nm, am_i mi, am_i co] σ (fun r σ' => r = none ∧ σ' = am_setN (am_setN (am_setN (am_setN σ 16 n nm) 17 n mi) 18 n co) 15 2 ((n : Int) + 1)) := by
  refine am_qq (fun Q hQ => ?_)
  refine am_enter (show plainFor yX8_addPerson = true by decide +kernel) rfl (Nat.le_of_ble_eq_true rfl) (fun _ _ _ => trivial) ?_
  refine am_aload_n (q := 1) rfl (am_tab tk_X8_addPerson 0 rfl) rfl ?_
  refine am_getI (q := 4) (a := 15) (k := 8) (n := 17) (j := 2) (x := (n : Int)) (Ls_15 hL) (by decide) rfl hn (by decide) (Or.inl kf_X8_52) (am_tab tk_X8_addPerson 1 rfl) rfl ?_
  refine am_bipush (q := 6) (n := 8) (by decide) rfl (am_tab tk_X8_addPerson 2 rfl) rfl ?_
  refine am_icmp_ge (q := 9) (t := 49) (am_tab tk_X8_addPerson 3 rfl) (by decide) rfl (fun h6 => ?_) (fun h6 => ?_)
  · exact absurd h6 (by omega)
  · refine am_aload_n (q := 10) rfl (am_tab tk_X8_addPerson 4 rfl) rfl ?_
    refine am_getR (q := 13) (a := 15) (k := 8) (n := 17) (j := 8) (r := some (16)) (Ls_15 hL) (by decide) rfl (Lr_15_8 hL) (by decide) (Or.inl kf_X8_9) (am_tab tk_X8_addPerson 5 rfl) rfl ?_
    refine am_aload_n (q := 14) rfl (am_tab tk_X8_addPerson 6 rfl) rfl ?_
    refine am_getI (q := 17) (a := 15) (k := 8) (n := 17) (j := 2) (x := (n : Int)) (Ls_15 hL) (by decide) rfl hn (by decide) (Or.inl kf_X8_52) (am_tab tk_X8_addPerson 7 rfl) rfl ?_
    refine am_iload_n (q := 18) rfl (am_tab tk_X8_addPerson 8 rfl) rfl ?_
    refine am_iast (q := 19) (a := 16) (n := 8) (Ls_16 hL) (by omega) (by omega) (am_tab tk_X8_addPerson 9 rfl) rfl ?_
    refine am_aload_n (q := 20) rfl (am_tab tk_X8_addPerson 10 rfl) rfl ?_
    refine am_getR (q := 23) (a := 15) (k := 8) (n := 17) (j := 9) (r := some (17)) (Ls_15 hL) (by decide) rfl (Lr_15_9 hL) (by decide) (Or.inl kf_X8_15) (am_tab tk_X8_addPerson 11 rfl) rfl ?_
    refine am_aload_n (q := 24) rfl (am_tab tk_X8_addPerson 12 rfl) rfl ?_
    refine am_getI (q := 27) (a := 15) (k := 8) (n := 17) (j := 2) (x := (n : Int)) (Ls_15 hL) (by decide) rfl hn (by decide) (Or.inl kf_X8_52) (am_tab tk_X8_addPerson 13 rfl) rfl ?_
    refine am_iload_n (q := 28) rfl (am_tab tk_X8_addPerson 14 rfl) rfl ?_
    refine am_iast (q := 29) (a := 17) (n := 8) (Ls_17 hL) (by omega) (by omega) (am_tab tk_X8_addPerson 15 rfl) rfl ?_
    refine am_aload_n (q := 30) rfl (am_tab tk_X8_addPerson 16 rfl) rfl ?_
    refine am_getR (q := 33) (a := 15) (k := 8) (n := 17) (j := 10) (r := some (18)) (Ls_15 hL) (by decide) rfl (Lr_15_10 hL) (by decide) (Or.inl kf_X8_18) (am_tab tk_X8_addPerson 17 rfl) rfl ?_
    refine am_aload_n (q := 34) rfl (am_tab tk_X8_addPerson 18 rfl) rfl ?_
    refine am_getI (q := 37) (a := 15) (k := 8) (n := 17) (j := 2) (x := (n : Int)) (Ls_15 hL) (by decide) rfl hn (by decide) (Or.inl kf_X8_52) (am_tab tk_X8_addPerson 19 rfl) rfl ?_
    refine am_iload_n (q := 38) rfl (am_tab tk_X8_addPerson 20 rfl) rfl ?_
    refine am_iast (q := 39) (a := 18) (n := 8) (Ls_18 hL) (by omega) (by omega) (am_tab tk_X8_addPerson 21 rfl) rfl ?_
    refine am_aload_n (q := 40) rfl (am_tab tk_X8_addPerson 22 rfl) rfl ?_
    refine am_dup (q := 41) rfl (am_tab tk_X8_addPerson 23 rfl) rfl ?_
    refine am_getI (q := 44) (a := 15) (k := 8) (n := 17) (j := 2) (x := (n : Int)) (Ls_15 hL) (by decide) rfl hn (by decide) (Or.inl kf_X8_52) (am_tab tk_X8_addPerson 24 rfl) rfl ?_
    refine am_iconst (q := 45) (n := 1) (by decide) (am_tab tk_X8_addPerson 25 rfl) rfl ?_
    refine am_iadd (q := 46) (by omega) (am_tab tk_X8_addPerson 26 rfl) rfl ?_
    refine am_putI (q := 49) (k := 8) (n := 17) (j := 2) (Ls_15 hL) (by decide) rfl (by decide) (Or.inl ⟨kf_X8_52, rfl⟩) (am_tab tk_X8_addPerson 27 rfl) rfl ?_
    refine am_vret rfl (Nat.le_of_ble_eq_true rfl) (Nat.le_of_ble_eq_true rfl) (am_tab tk_X8_addPerson 28 rfl) ?_
    refine hQ _ _ ?_
    rw [show Int.toNat (n : Int) = n by omega]
    exact ⟨rfl, rfl⟩
theorem c_addTold_15 (σ : am_H) (hL : lay σ) (p : Nat) (d : Nat) (hp : p < 8) (hd : 1 ≤ d ∧ d ≤ 90) (hr : 0 ≤ σ.2.1 21 d ∧ σ.2.1 21 d < 256) (hc : 0 ≤ σ.2.1 15 3 ∧ σ.2.1 15 3 ≤ 1000) : am_met M_X8_addTold [am_r 15, am_i ((p : Int)), am_i ((d : Int))] σ (fun r σ' => (tb (σ.2.1 21 d) p = 1 ∧ r = some (am_i 0) ∧ σ' = σ) ∨ (¬ tb (σ.2.1 21 d) p = 1 ∧ r = some (am_i 1) ∧ σ' = am_setN (am_setN σ 21 d (ao_or (σ.2.1 21 d) (ao_shl 1 (p : Int)))) 15 3 (σ.2.1 15 3 + 1))) := by
  refine am_qq (fun Q hQ => ?_)
  refine am_enter (show plainFor yX8_addTold = true by decide +kernel) rfl (Nat.le_of_ble_eq_true rfl) (fun _ _ _ => trivial) ?_
  refine am_iload_n (q := 1) rfl (am_tab tk_X8_addTold 0 rfl) rfl ?_
  refine am_iconst (q := 2) (n := 1) (by decide) (am_tab tk_X8_addTold 1 rfl) rfl ?_
  refine am_icmp_lt (q := 5) (t := 25) (am_tab tk_X8_addTold 2 rfl) (by decide) rfl (fun h2 => ?_) (fun h2 => ?_)
  · exact absurd h2 (by omega)
  · refine am_iload_n (q := 6) rfl (am_tab tk_X8_addTold 3 rfl) rfl ?_
    refine am_bipush (q := 8) (n := 90) (by decide) rfl (am_tab tk_X8_addTold 4 rfl) rfl ?_
    refine am_icmp_gt (q := 11) (t := 25) (am_tab tk_X8_addTold 5 rfl) (by decide) rfl (fun h8 => ?_) (fun h8 => ?_)
    · exact absurd h8 (by omega)
    · refine am_aload_n (q := 12) rfl (am_tab tk_X8_addTold 6 rfl) rfl ?_
      refine am_getR (q := 15) (a := 15) (k := 8) (n := 17) (j := 13) (r := some (21)) (Ls_15 hL) (by decide) rfl (Lr_15_13 hL) (by decide) (Or.inl kf_X8_27) (am_tab tk_X8_addTold 7 rfl) rfl ?_
      refine am_iload_n (q := 16) rfl (am_tab tk_X8_addTold 8 rfl) rfl ?_
      refine am_iald (q := 17) (a := 21) (n := 91) (x := (σ.2.1 21 d)) (Ls_21 hL) (by omega) (by omega) (by rw [show Int.toNat (d : Int) = d by omega]) (am_tab tk_X8_addTold 9 rfl) rfl ?_
      refine am_iload_n (q := 18) rfl (am_tab tk_X8_addTold 10 rfl) rfl ?_
      refine am_callS0 (q := 21) (me2 := M_X9_bit) (As := [am_i ((σ.2.1 21 d)), am_i ((p : Int))]) (rest := []) (out := [am_i (tb (σ.2.1 21 d) (p : Int))]) (c_bit σ (σ.2.1 21 d) (p : Int) (hr) (by omega)) ⟨rfl, rfl⟩ ⟨Or.inr km_X8_79, kc_X9_bit, kn_X9, kd_X9_bit, ⟨(Nat.le_of_ble_eq_true rfl), (Nat.le_of_ble_eq_true rfl)⟩, ⟨(Nat.le_of_ble_eq_true rfl), (Nat.le_of_ble_eq_true rfl)⟩, (Nat.le_of_ble_eq_true rfl)⟩ ki_X9_bit rfl rfl (am_tab tk_X8_addTold 11 rfl) rfl ?_
      refine am_iconst (q := 22) (n := 1) (by decide) (am_tab tk_X8_addTold 12 rfl) rfl ?_
      refine am_icmp_ne (q := 25) (t := 27) (am_tab tk_X8_addTold 13 rfl) (by decide) rfl (fun h22 => ?_) (fun h22 => ?_)
      · refine am_aload_n (q := 28) rfl (am_tab tk_X8_addTold 16 rfl) rfl ?_
        refine am_getR (q := 31) (a := 15) (k := 8) (n := 17) (j := 13) (r := some (21)) (Ls_15 hL) (by decide) rfl (Lr_15_13 hL) (by decide) (Or.inl kf_X8_27) (am_tab tk_X8_addTold 17 rfl) rfl ?_
        refine am_iload_n (q := 32) rfl (am_tab tk_X8_addTold 18 rfl) rfl ?_
        refine am_dup2 (q := 33) rfl rfl (am_tab tk_X8_addTold 19 rfl) rfl ?_
        refine am_iald (q := 34) (a := 21) (n := 91) (x := (σ.2.1 21 d)) (Ls_21 hL) (by omega) (by omega) (by rw [show Int.toNat (d : Int) = d by omega]) (am_tab tk_X8_addTold 20 rfl) rfl ?_
        refine am_iconst (q := 35) (n := 1) (by decide) (am_tab tk_X8_addTold 21 rfl) rfl ?_
        refine am_iload_n (q := 36) rfl (am_tab tk_X8_addTold 22 rfl) rfl ?_
        refine am_ishl (q := 37) (am_tab tk_X8_addTold 23 rfl) rfl ?_
        refine am_ior (q := 38) (am_tab tk_X8_addTold 24 rfl) rfl ?_
        refine am_iast (q := 39) (a := 21) (n := 91) (Ls_21 hL) (by omega) (by omega) (am_tab tk_X8_addTold 25 rfl) rfl ?_
        refine am_aload_n (q := 40) rfl (am_tab tk_X8_addTold 26 rfl) rfl ?_
        refine am_dup (q := 41) rfl (am_tab tk_X8_addTold 27 rfl) rfl ?_
        refine am_getI (q := 44) (a := 15) (k := 8) (n := 17) (j := 3) (x := (σ.2.1 15 3)) (Ls_15 hL) (by decide) rfl rfl (by decide) (Or.inl kf_X8_55) (am_tab tk_X8_addTold 28 rfl) rfl ?_
        refine am_iconst (q := 45) (n := 1) (by decide) (am_tab tk_X8_addTold 29 rfl) rfl ?_
        refine am_iadd (q := 46) (by omega) (am_tab tk_X8_addTold 30 rfl) rfl ?_
        refine am_putI (q := 49) (k := 8) (n := 17) (j := 3) (Ls_15 hL) (by decide) rfl (by decide) (Or.inl ⟨kf_X8_55, rfl⟩) (am_tab tk_X8_addTold 31 rfl) rfl ?_
        refine am_iconst (q := 50) (n := 1) (by decide) (am_tab tk_X8_addTold 32 rfl) rfl ?_
        refine am_iret (Or.inr ⟨rfl, by first | exact Or.inl rfl | exact Or.inr rfl | omega⟩) (Nat.le_of_ble_eq_true rfl) (Nat.le_of_ble_eq_true rfl) (am_tab tk_X8_addTold 33 rfl) ?_
        refine hQ _ _ ?_
        rw [show Int.toNat (d : Int) = d by omega]
        exact Or.inr ⟨h22, rfl, rfl⟩
      · refine am_iconst (q := 26) (n := 0) (by decide) (am_tab tk_X8_addTold 14 rfl) rfl ?_
        refine am_iret (Or.inr ⟨rfl, by first | exact Or.inl rfl | exact Or.inr rfl | omega⟩) (Nat.le_of_ble_eq_true rfl) (Nat.le_of_ble_eq_true rfl) (am_tab tk_X8_addTold 15 rfl) ?_
        refine hQ _ _ ?_
        exact Or.inl ⟨h22, rfl, rfl⟩
theorem c_addReminds_15 (σ : am_H) (hL : lay σ) (p : Nat) (q : Nat) (hp : p < 8) (hq : q < 8) (hr : 0 ≤ σ.2.1 19 p ∧ σ.2.1 19 p < 256) (hc : 0 ≤ σ.2.1 15 4 ∧ σ.2.1 15 4 ≤ 1000) : am_met M_X8_addReminds [am_r 15, am_i ((p : Int)), am_i ((q : Int))] σ (fun r σ' => ((p = q ∨ tb (σ.2.1 19 p) q = 1) ∧ r = some (am_i 0) ∧ σ' = σ) ∨ (¬ (p = q ∨ tb (σ.2.1 19 p) q = 1) ∧ r = some (am_i 1) ∧ σ' = am_setN (am_setN (am_setN σ 19 p (ao_or (σ.2.1 19 p) (ao_shl 1 (q : Int)))) 20 q (ao_or (σ.2.1 20 q) (ao_shl 1 (p : Int)))) 15 4 (σ.2.1 15 4 + 1))) := by
  refine am_qq (fun Q hQ => ?_)
  refine am_enter (show plainFor yX8_addReminds = true by decide +kernel) rfl (Nat.le_of_ble_eq_true rfl) (fun _ _ _ => trivial) ?_
  refine am_iload_n (q := 1) rfl (am_tab tk_X8_addReminds 0 rfl) rfl ?_
  refine am_if_lt (q := 4) (t := 27) (am_tab tk_X8_addReminds 1 rfl) (by decide) rfl (fun h1 => ?_) (fun h1 => ?_)
  · exact absurd h1 (by omega)
  · refine am_iload_n (q := 5) rfl (am_tab tk_X8_addReminds 2 rfl) rfl ?_
    refine am_if_lt (q := 8) (t := 27) (am_tab tk_X8_addReminds 3 rfl) (by decide) rfl (fun h5 => ?_) (fun h5 => ?_)
    · exact absurd h5 (by omega)
    · refine am_iload_n (q := 9) rfl (am_tab tk_X8_addReminds 4 rfl) rfl ?_
      refine am_iload_n (q := 10) rfl (am_tab tk_X8_addReminds 5 rfl) rfl ?_
      refine am_icmp_eq (q := 13) (t := 27) (am_tab tk_X8_addReminds 6 rfl) (by decide) rfl (fun h10 => ?_) (fun h10 => ?_)
      · refine am_iconst (q := 28) (n := 0) (by decide) (am_tab tk_X8_addReminds 15 rfl) rfl ?_
        refine am_iret (Or.inr ⟨rfl, by first | exact Or.inl rfl | exact Or.inr rfl | omega⟩) (Nat.le_of_ble_eq_true rfl) (Nat.le_of_ble_eq_true rfl) (am_tab tk_X8_addReminds 16 rfl) ?_
        refine hQ _ _ ?_
        exact Or.inl ⟨Or.inl (by omega), rfl, rfl⟩
      · refine am_aload_n (q := 14) rfl (am_tab tk_X8_addReminds 7 rfl) rfl ?_
        refine am_getR (q := 17) (a := 15) (k := 8) (n := 17) (j := 11) (r := some (19)) (Ls_15 hL) (by decide) rfl (Lr_15_11 hL) (by decide) (Or.inl kf_X8_21) (am_tab tk_X8_addReminds 8 rfl) rfl ?_
        refine am_iload_n (q := 18) rfl (am_tab tk_X8_addReminds 9 rfl) rfl ?_
        refine am_iald (q := 19) (a := 19) (n := 8) (x := (σ.2.1 19 p)) (Ls_19 hL) (by omega) (by omega) (by rw [show Int.toNat (p : Int) = p by omega]) (am_tab tk_X8_addReminds 10 rfl) rfl ?_
        refine am_iload_n (q := 20) rfl (am_tab tk_X8_addReminds 11 rfl) rfl ?_
        refine am_callS0 (q := 23) (me2 := M_X9_bit) (As := [am_i ((σ.2.1 19 p)), am_i ((q : Int))]) (rest := []) (out := [am_i (tb (σ.2.1 19 p) (q : Int))]) (c_bit σ (σ.2.1 19 p) (q : Int) (hr) (by omega)) ⟨rfl, rfl⟩ ⟨Or.inr km_X8_79, kc_X9_bit, kn_X9, kd_X9_bit, ⟨(Nat.le_of_ble_eq_true rfl), (Nat.le_of_ble_eq_true rfl)⟩, ⟨(Nat.le_of_ble_eq_true rfl), (Nat.le_of_ble_eq_true rfl)⟩, (Nat.le_of_ble_eq_true rfl)⟩ ki_X9_bit rfl rfl (am_tab tk_X8_addReminds 12 rfl) rfl ?_
        refine am_iconst (q := 24) (n := 1) (by decide) (am_tab tk_X8_addReminds 13 rfl) rfl ?_
        refine am_icmp_ne (q := 27) (t := 29) (am_tab tk_X8_addReminds 14 rfl) (by decide) rfl (fun h24 => ?_) (fun h24 => ?_)
        · refine am_aload_n (q := 30) rfl (am_tab tk_X8_addReminds 17 rfl) rfl ?_
          refine am_getR (q := 33) (a := 15) (k := 8) (n := 17) (j := 11) (r := some (19)) (Ls_15 hL) (by decide) rfl (Lr_15_11 hL) (by decide) (Or.inl kf_X8_21) (am_tab tk_X8_addReminds 18 rfl) rfl ?_
          refine am_iload_n (q := 34) rfl (am_tab tk_X8_addReminds 19 rfl) rfl ?_
          refine am_dup2 (q := 35) rfl rfl (am_tab tk_X8_addReminds 20 rfl) rfl ?_
          refine am_iald (q := 36) (a := 19) (n := 8) (x := (σ.2.1 19 p)) (Ls_19 hL) (by omega) (by omega) (by rw [show Int.toNat (p : Int) = p by omega]) (am_tab tk_X8_addReminds 21 rfl) rfl ?_
          refine am_iconst (q := 37) (n := 1) (by decide) (am_tab tk_X8_addReminds 22 rfl) rfl ?_
          refine am_iload_n (q := 38) rfl (am_tab tk_X8_addReminds 23 rfl) rfl ?_
          refine am_ishl (q := 39) (am_tab tk_X8_addReminds 24 rfl) rfl ?_
          refine am_ior (q := 40) (am_tab tk_X8_addReminds 25 rfl) rfl ?_
          refine am_iast (q := 41) (a := 19) (n := 8) (Ls_19 hL) (by omega) (by omega) (am_tab tk_X8_addReminds 26 rfl) rfl ?_
          refine am_aload_n (q := 42) rfl (am_tab tk_X8_addReminds 27 rfl) rfl ?_
          refine am_getR (q := 45) (a := 15) (k := 8) (n := 17) (j := 12) (r := some (20)) (Ls_15 hL) (by decide) rfl (Lr_15_12 hL) (by decide) (Or.inl kf_X8_24) (am_tab tk_X8_addReminds 28 rfl) rfl ?_
          refine am_iload_n (q := 46) rfl (am_tab tk_X8_addReminds 29 rfl) rfl ?_
          refine am_dup2 (q := 47) rfl rfl (am_tab tk_X8_addReminds 30 rfl) rfl ?_
          refine am_iald (q := 48) (a := 20) (n := 8) (x := (σ.2.1 20 q)) (Ls_20 hL) (by omega) (by omega) (by rw [show Int.toNat (q : Int) = q by omega]; rfl) (am_tab tk_X8_addReminds 31 rfl) rfl ?_
          refine am_iconst (q := 49) (n := 1) (by decide) (am_tab tk_X8_addReminds 32 rfl) rfl ?_
          refine am_iload_n (q := 50) rfl (am_tab tk_X8_addReminds 33 rfl) rfl ?_
          refine am_ishl (q := 51) (am_tab tk_X8_addReminds 34 rfl) rfl ?_
          refine am_ior (q := 52) (am_tab tk_X8_addReminds 35 rfl) rfl ?_
          refine am_iast (q := 53) (a := 20) (n := 8) (Ls_20 hL) (by omega) (by omega) (am_tab tk_X8_addReminds 36 rfl) rfl ?_
          refine am_aload_n (q := 54) rfl (am_tab tk_X8_addReminds 37 rfl) rfl ?_
          refine am_dup (q := 55) rfl (am_tab tk_X8_addReminds 38 rfl) rfl ?_
          refine am_getI (q := 58) (a := 15) (k := 8) (n := 17) (j := 4) (x := (σ.2.1 15 4)) (Ls_15 hL) (by decide) rfl rfl (by decide) (Or.inl kf_X8_58) (am_tab tk_X8_addReminds 39 rfl) rfl ?_
          refine am_iconst (q := 59) (n := 1) (by decide) (am_tab tk_X8_addReminds 40 rfl) rfl ?_
          refine am_iadd (q := 60) (by omega) (am_tab tk_X8_addReminds 41 rfl) rfl ?_
          refine am_putI (q := 63) (k := 8) (n := 17) (j := 4) (Ls_15 hL) (by decide) rfl (by decide) (Or.inl ⟨kf_X8_58, rfl⟩) (am_tab tk_X8_addReminds 42 rfl) rfl ?_
          refine am_iconst (q := 64) (n := 1) (by decide) (am_tab tk_X8_addReminds 43 rfl) rfl ?_
          refine am_iret (Or.inr ⟨rfl, by first | exact Or.inl rfl | exact Or.inr rfl | omega⟩) (Nat.le_of_ble_eq_true rfl) (Nat.le_of_ble_eq_true rfl) (am_tab tk_X8_addReminds 44 rfl) ?_
          refine hQ _ _ ?_
          rw [show Int.toNat (p : Int) = p by omega, show Int.toNat (q : Int) = q by omega]
          exact Or.inr ⟨fun h => h.elim (fun z => h10 (by omega)) (fun z => h24 z), rfl, rfl⟩
        · refine am_iconst (q := 28) (n := 0) (by decide) (am_tab tk_X8_addReminds 15 rfl) rfl ?_
          refine am_iret (Or.inr ⟨rfl, by first | exact Or.inl rfl | exact Or.inr rfl | omega⟩) (Nat.le_of_ble_eq_true rfl) (Nat.le_of_ble_eq_true rfl) (am_tab tk_X8_addReminds 16 rfl) ?_
          refine hQ _ _ ?_
          exact Or.inl ⟨Or.inr h24, rfl, rfl⟩
