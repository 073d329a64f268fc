/-- a life's five cells -/
def BLK (σ : am_H) (L : Nat) : Prop := (σ.1[L]? = some (1, 11) ∧ σ.1[L + 1]? = some (11, 8) ∧ σ.1[L + 2]? = some (11, 91) ∧ σ.1[L + 3]? = some (11, 91) ∧ σ.1[L + 4]? = some (11, 60)) ∧ σ.2.2 L 5 = some (L + 1) ∧ σ.2.2 L 6 = some (L + 2) ∧ σ.2.2 L 7 = some (L + 3) ∧ σ.2.2 L 8 = some (L + 4)
theorem blk_32 {σ : am_H} (h : lay σ) : BLK σ 32 := ⟨⟨Ls_32 h, Ls_33 h, Ls_34 h, Ls_35 h, Ls_36 h⟩, Lr_32_5 h, Lr_32_6 h, Lr_32_7 h, Lr_32_8 h⟩
theorem new_n {σ : am_H} {a k n b j : Nat} (h : ¬ b = a) : (am_newAt σ a k n).2.1 b j = σ.2.1 b j := if_neg h
theorem new_r {σ : am_H} {a k n b j : Nat} (h : ¬ b = a) : (am_newAt σ a k n).2.2 b j = σ.2.2 b j := if_neg h
theorem setR_n {σ : am_H} {a j : Nat} {x : Option Nat} : (am_setR σ a j x).2.1 = σ.2.1 := rfl
theorem setN_r {σ : am_H} {a j : Nat} {x : Int} : (am_setN σ a j x).2.2 = σ.2.2 := rfl
theorem setR_nn {σ : am_H} {a j c k : Nat} {x : Option Nat} (h : ¬ (c = a ∧ k = j)) : (am_setR σ a j x).2.2 c k = σ.2.2 c k := if_neg h
theorem setR_eq {σ : am_H} {a j : Nat} {x : Option Nat} : (am_setR σ a j x).2.2 a j = x := if_pos ⟨rfl, rfl⟩
theorem tm20 (n : Nat) : Int.tmod ((n : Nat) : Int) 20 = ((n % 20 : Nat) : Int) := rfl
set_option maxRecDepth 100000 in
theorem c_copyG {d s : Nat} (σ : am_H) (hd : BLK σ d) (hs : BLK σ s) (hds : d + 5 ≤ s ∨ s + 5 ≤ d) : am_met M_X1_copyFrom [am_r d, am_r s] σ (fun r σ' => r = none ∧ CPY d s σ σ' ∧ frw (W_li d) σ σ') := by
  refine am_qq (fun Q hQ => ?_)
  refine am_enter (show plainFor yX1_copyFrom = true by decide +kernel) rfl (Nat.le_of_ble_eq_true rfl) (fun _ _ _ => trivial) ?_
  refine am_aload_n (q := 1) rfl (am_tab tk_X1_copyFrom 0 rfl) rfl ?_
  refine am_aload_n (q := 2) rfl (am_tab tk_X1_copyFrom 1 rfl) rfl ?_
  refine am_getI (q := 5) (a := s) (k := 1) (n := 11) (j := 0) (x := (σ.2.1 s 0)) hs.1.1 (by decide) rfl ((frw.refl (W_li d) σ).2.2 s 0 (by unfold W_li; omega)) (by decide) (Or.inl kf_X1_9) (am_tab tk_X1_copyFrom 2 rfl) rfl ?_
  refine am_putI (q := 8) (k := 1) (n := 11) (j := 0) hd.1.1 (by decide) rfl (by decide) (Or.inl ⟨kf_X1_9, rfl⟩) (am_tab tk_X1_copyFrom 3 rfl) rfl ?_
  refine am_aload_n (q := 9) rfl (am_tab tk_X1_copyFrom 4 rfl) rfl ?_
  refine am_aload_n (q := 10) rfl (am_tab tk_X1_copyFrom 5 rfl) rfl ?_
  refine am_getI (q := 13) (a := s) (k := 1) (n := 11) (j := 1) (x := (σ.2.1 s 1)) hs.1.1 (by decide) rfl (((frw.refl (W_li d) σ).setN (by unfold W_li; omega)).2.2 s 1 (by unfold W_li; omega)) (by decide) (Or.inl kf_X1_28) (am_tab tk_X1_copyFrom 6 rfl) rfl ?_
  refine am_putI (q := 16) (k := 1) (n := 11) (j := 1) hd.1.1 (by decide) rfl (by decide) (Or.inl ⟨kf_X1_28, rfl⟩) (am_tab tk_X1_copyFrom 7 rfl) rfl ?_
  refine am_aload_n (q := 17) rfl (am_tab tk_X1_copyFrom 8 rfl) rfl ?_
  refine am_aload_n (q := 18) rfl (am_tab tk_X1_copyFrom 9 rfl) rfl ?_
  refine am_getI (q := 21) (a := s) (k := 1) (n := 11) (j := 2) (x := (σ.2.1 s 2)) hs.1.1 (by decide) rfl ((((frw.refl (W_li d) σ).setN (by unfold W_li; omega)).setN (by unfold W_li; omega)).2.2 s 2 (by unfold W_li; omega)) (by decide) (Or.inl kf_X1_31) (am_tab tk_X1_copyFrom 10 rfl) rfl ?_
  refine am_putI (q := 24) (k := 1) (n := 11) (j := 2) hd.1.1 (by decide) rfl (by decide) (Or.inl ⟨kf_X1_31, rfl⟩) (am_tab tk_X1_copyFrom 11 rfl) rfl ?_
  refine am_aload_n (q := 25) rfl (am_tab tk_X1_copyFrom 12 rfl) rfl ?_
  refine am_aload_n (q := 26) rfl (am_tab tk_X1_copyFrom 13 rfl) rfl ?_
  refine am_getI (q := 29) (a := s) (k := 1) (n := 11) (j := 3) (x := (σ.2.1 s 3)) hs.1.1 (by decide) rfl (((((frw.refl (W_li d) σ).setN (by unfold W_li; omega)).setN (by unfold W_li; omega)).setN (by unfold W_li; omega)).2.2 s 3 (by unfold W_li; omega)) (by decide) (Or.inl kf_X1_34) (am_tab tk_X1_copyFrom 14 rfl) rfl ?_
  refine am_putI (q := 32) (k := 1) (n := 11) (j := 3) hd.1.1 (by decide) rfl (by decide) (Or.inl ⟨kf_X1_34, rfl⟩) (am_tab tk_X1_copyFrom 15 rfl) rfl ?_
  refine am_aload_n (q := 33) rfl (am_tab tk_X1_copyFrom 16 rfl) rfl ?_
  refine am_aload_n (q := 34) rfl (am_tab tk_X1_copyFrom 17 rfl) rfl ?_
  refine am_getI (q := 37) (a := s) (k := 1) (n := 11) (j := 4) (x := (σ.2.1 s 4)) hs.1.1 (by decide) rfl ((((((frw.refl (W_li d) σ).setN (by unfold W_li; omega)).setN (by unfold W_li; omega)).setN (by unfold W_li; omega)).setN (by unfold W_li; omega)).2.2 s 4 (by unfold W_li; omega)) (by decide) (Or.inl kf_X1_37) (am_tab tk_X1_copyFrom 18 rfl) rfl ?_
  refine am_putI (q := 40) (k := 1) (n := 11) (j := 4) hd.1.1 (by decide) rfl (by decide) (Or.inl ⟨kf_X1_37, rfl⟩) (am_tab tk_X1_copyFrom 19 rfl) rfl ?_
  refine am_aload_n (q := 41) rfl (am_tab tk_X1_copyFrom 20 rfl) rfl ?_
  refine am_getR (q := 44) (a := s) (k := 1) (n := 11) (j := 5) (r := some (s + 1)) hs.1.1 (by decide) rfl hs.2.1 (by decide) (Or.inl kf_X1_15) (am_tab tk_X1_copyFrom 21 rfl) rfl ?_
  refine am_iconst (q := 45) (n := 0) (by decide) (am_tab tk_X1_copyFrom 22 rfl) rfl ?_
  refine am_aload_n (q := 46) rfl (am_tab tk_X1_copyFrom 23 rfl) rfl ?_
  refine am_getR (q := 49) (a := d) (k := 1) (n := 11) (j := 5) (r := some (d + 1)) hd.1.1 (by decide) rfl hd.2.1 (by decide) (Or.inl kf_X1_15) (am_tab tk_X1_copyFrom 24 rfl) rfl ?_
  refine am_iconst (q := 50) (n := 0) (by decide) (am_tab tk_X1_copyFrom 25 rfl) rfl ?_
  refine am_aload_n (q := 51) rfl (am_tab tk_X1_copyFrom 26 rfl) rfl ?_
  refine am_getR (q := 54) (a := d) (k := 1) (n := 11) (j := 5) (r := some (d + 1)) hd.1.1 (by decide) rfl hd.2.1 (by decide) (Or.inl kf_X1_15) (am_tab tk_X1_copyFrom 27 rfl) rfl ?_
  refine am_alen (q := 55) (a := (d + 1)) (k := 11) (n := 8) hd.1.2.1 (by decide) (by decide) (am_tab tk_X1_copyFrom 28 rfl) rfl ?_
  refine am_copy (q := 58) (a0 := (s + 1)) (a1 := (d + 1)) (n0 := 8) (n1 := 8) hs.1.2.1 hd.1.2.1 (by omega) (by omega) (by omega) (by omega) (by omega) (by omega) km_X1_49 kna_copy kst_copy kn_J10 (Nat.le_of_ble_eq_true rfl) (Nat.le_of_ble_eq_true rfl) (am_tab tk_X1_copyFrom 29 rfl) rfl ?_
  refine am_aload_n (q := 59) rfl (am_tab tk_X1_copyFrom 30 rfl) rfl ?_
  refine am_getR (q := 62) (a := s) (k := 1) (n := 11) (j := 6) (r := some (s + 2)) hs.1.1 (by decide) rfl hs.2.2.1 (by decide) (Or.inl kf_X1_19) (am_tab tk_X1_copyFrom 31 rfl) rfl ?_
  refine am_iconst (q := 63) (n := 0) (by decide) (am_tab tk_X1_copyFrom 32 rfl) rfl ?_
  refine am_aload_n (q := 64) rfl (am_tab tk_X1_copyFrom 33 rfl) rfl ?_
  refine am_getR (q := 67) (a := d) (k := 1) (n := 11) (j := 6) (r := some (d + 2)) hd.1.1 (by decide) rfl hd.2.2.1 (by decide) (Or.inl kf_X1_19) (am_tab tk_X1_copyFrom 34 rfl) rfl ?_
  refine am_iconst (q := 68) (n := 0) (by decide) (am_tab tk_X1_copyFrom 35 rfl) rfl ?_
  refine am_aload_n (q := 69) rfl (am_tab tk_X1_copyFrom 36 rfl) rfl ?_
  refine am_getR (q := 72) (a := d) (k := 1) (n := 11) (j := 6) (r := some (d + 2)) hd.1.1 (by decide) rfl hd.2.2.1 (by decide) (Or.inl kf_X1_19) (am_tab tk_X1_copyFrom 37 rfl) rfl ?_
  refine am_alen (q := 73) (a := (d + 2)) (k := 11) (n := 91) hd.1.2.2.1 (by decide) (by decide) (am_tab tk_X1_copyFrom 38 rfl) rfl ?_
  refine am_copy (q := 76) (a0 := (s + 2)) (a1 := (d + 2)) (n0 := 91) (n1 := 91) hs.1.2.2.1 hd.1.2.2.1 (by omega) (by omega) (by omega) (by omega) (by omega) (by omega) km_X1_49 kna_copy kst_copy kn_J10 (Nat.le_of_ble_eq_true rfl) (Nat.le_of_ble_eq_true rfl) (am_tab tk_X1_copyFrom 39 rfl) rfl ?_
  refine am_aload_n (q := 77) rfl (am_tab tk_X1_copyFrom 40 rfl) rfl ?_
  refine am_getR (q := 80) (a := s) (k := 1) (n := 11) (j := 7) (r := some (s + 3)) hs.1.1 (by decide) rfl hs.2.2.2.1 (by decide) (Or.inl kf_X1_22) (am_tab tk_X1_copyFrom 41 rfl) rfl ?_
  refine am_iconst (q := 81) (n := 0) (by decide) (am_tab tk_X1_copyFrom 42 rfl) rfl ?_
  refine am_aload_n (q := 82) rfl (am_tab tk_X1_copyFrom 43 rfl) rfl ?_
  refine am_getR (q := 85) (a := d) (k := 1) (n := 11) (j := 7) (r := some (d + 3)) hd.1.1 (by decide) rfl hd.2.2.2.1 (by decide) (Or.inl kf_X1_22) (am_tab tk_X1_copyFrom 44 rfl) rfl ?_
  refine am_iconst (q := 86) (n := 0) (by decide) (am_tab tk_X1_copyFrom 45 rfl) rfl ?_
  refine am_aload_n (q := 87) rfl (am_tab tk_X1_copyFrom 46 rfl) rfl ?_
  refine am_getR (q := 90) (a := d) (k := 1) (n := 11) (j := 7) (r := some (d + 3)) hd.1.1 (by decide) rfl hd.2.2.2.1 (by decide) (Or.inl kf_X1_22) (am_tab tk_X1_copyFrom 47 rfl) rfl ?_
  refine am_alen (q := 91) (a := (d + 3)) (k := 11) (n := 91) hd.1.2.2.2.1 (by decide) (by decide) (am_tab tk_X1_copyFrom 48 rfl) rfl ?_
  refine am_copy (q := 94) (a0 := (s + 3)) (a1 := (d + 3)) (n0 := 91) (n1 := 91) hs.1.2.2.2.1 hd.1.2.2.2.1 (by omega) (by omega) (by omega) (by omega) (by omega) (by omega) km_X1_49 kna_copy kst_copy kn_J10 (Nat.le_of_ble_eq_true rfl) (Nat.le_of_ble_eq_true rfl) (am_tab tk_X1_copyFrom 49 rfl) rfl ?_
  refine am_aload_n (q := 95) rfl (am_tab tk_X1_copyFrom 50 rfl) rfl ?_
  refine am_getR (q := 98) (a := s) (k := 1) (n := 11) (j := 8) (r := some (s + 4)) hs.1.1 (by decide) rfl hs.2.2.2.2 (by decide) (Or.inl kf_X1_25) (am_tab tk_X1_copyFrom 51 rfl) rfl ?_
  refine am_iconst (q := 99) (n := 0) (by decide) (am_tab tk_X1_copyFrom 52 rfl) rfl ?_
  refine am_aload_n (q := 100) rfl (am_tab tk_X1_copyFrom 53 rfl) rfl ?_
  refine am_getR (q := 103) (a := d) (k := 1) (n := 11) (j := 8) (r := some (d + 4)) hd.1.1 (by decide) rfl hd.2.2.2.2 (by decide) (Or.inl kf_X1_25) (am_tab tk_X1_copyFrom 54 rfl) rfl ?_
  refine am_iconst (q := 104) (n := 0) (by decide) (am_tab tk_X1_copyFrom 55 rfl) rfl ?_
  refine am_aload_n (q := 105) rfl (am_tab tk_X1_copyFrom 56 rfl) rfl ?_
  refine am_getR (q := 108) (a := d) (k := 1) (n := 11) (j := 8) (r := some (d + 4)) hd.1.1 (by decide) rfl hd.2.2.2.2 (by decide) (Or.inl kf_X1_25) (am_tab tk_X1_copyFrom 57 rfl) rfl ?_
  refine am_alen (q := 109) (a := (d + 4)) (k := 11) (n := 60) hd.1.2.2.2.2 (by decide) (by decide) (am_tab tk_X1_copyFrom 58 rfl) rfl ?_
  refine am_copy (q := 112) (a0 := (s + 4)) (a1 := (d + 4)) (n0 := 60) (n1 := 60) hs.1.2.2.2.2 hd.1.2.2.2.2 (by omega) (by omega) (by omega) (by omega) (by omega) (by omega) km_X1_49 kna_copy kst_copy kn_J10 (Nat.le_of_ble_eq_true rfl) (Nat.le_of_ble_eq_true rfl) (am_tab tk_X1_copyFrom 59 rfl) rfl ?_
  refine am_aload_n (q := 113) rfl (am_tab tk_X1_copyFrom 60 rfl) rfl ?_
  refine am_aload_n (q := 114) rfl (am_tab tk_X1_copyFrom 61 rfl) rfl ?_
  refine am_getI (q := 117) (a := s) (k := 1) (n := 11) (j := 9) (x := (σ.2.1 s 9)) hs.1.1 (by decide) rfl (((((((((((frw.refl (W_li d) σ).setN (by unfold W_li; omega)).setN (by unfold W_li; omega)).setN (by unfold W_li; omega)).setN (by unfold W_li; omega)).setN (by unfold W_li; omega)).setA (by unfold W_li; omega)).setA (by unfold W_li; omega)).setA (by unfold W_li; omega)).setA (by unfold W_li; omega)).2.2 s 9 (by unfold W_li; omega)) (by decide) (Or.inl kf_X1_55) (am_tab tk_X1_copyFrom 62 rfl) rfl ?_
  refine am_putI (q := 120) (k := 1) (n := 11) (j := 9) hd.1.1 (by decide) rfl (by decide) (Or.inl ⟨kf_X1_55, rfl⟩) (am_tab tk_X1_copyFrom 63 rfl) rfl ?_
  refine am_aload_n (q := 121) rfl (am_tab tk_X1_copyFrom 64 rfl) rfl ?_
  refine am_aload_n (q := 122) rfl (am_tab tk_X1_copyFrom 65 rfl) rfl ?_
  refine am_getI (q := 125) (a := s) (k := 1) (n := 11) (j := 10) (x := (σ.2.1 s 10)) hs.1.1 (by decide) rfl ((((((((((((frw.refl (W_li d) σ).setN (by unfold W_li; omega)).setN (by unfold W_li; omega)).setN (by unfold W_li; omega)).setN (by unfold W_li; omega)).setN (by unfold W_li; omega)).setA (by unfold W_li; omega)).setA (by unfold W_li; omega)).setA (by unfold W_li; omega)).setA (by unfold W_li; omega)).setN (by unfold W_li; omega)).2.2 s 10 (by unfold W_li; omega)) (by decide) (Or.inl kf_X1_58) (am_tab tk_X1_copyFrom 66 rfl) rfl ?_
  refine am_putI (q := 128) (k := 1) (n := 11) (j := 10) hd.1.1 (by decide) rfl (by decide) (Or.inl ⟨kf_X1_58, rfl⟩) (am_tab tk_X1_copyFrom 67 rfl) rfl ?_
  refine am_vret rfl (Nat.le_of_ble_eq_true rfl) (Nat.le_of_ble_eq_true rfl) (am_tab tk_X1_copyFrom 68 rfl) ?_
  refine hQ _ _ ?_
  refine ⟨rfl, ⟨fun j hj => ?_, fun j hj => ?_, fun j hj => ?_, fun j hj => ?_, fun j hj => ?_⟩, ?_⟩
  · rcases (show j = 0 ∨ j = 1 ∨ j = 2 ∨ j = 3 ∨ j = 4 ∨ j = 9 ∨ j = 10 by omega) with rfl | rfl | rfl | rfl | rfl | rfl | rfl <;> simp (disch := omega) only [set_eq, set_nn, setA_nn]
  · simp (disch := omega) only [set_nn, setA_nn, setA_eq]; exact cpS (n := 8) (f := fun i => σ.2.1 (s + 1) i) (g := fun i => σ.2.1 (d + 1) i) hj
  · simp (disch := omega) only [set_nn, setA_nn, setA_eq]; exact cpS (n := 91) (f := fun i => σ.2.1 (s + 2) i) (g := fun i => σ.2.1 (d + 2) i) hj
  · simp (disch := omega) only [set_nn, setA_nn, setA_eq]; exact cpS (n := 91) (f := fun i => σ.2.1 (s + 3) i) (g := fun i => σ.2.1 (d + 3) i) hj
  · simp (disch := omega) only [set_nn, setA_nn, setA_eq]; exact cpS (n := 60) (f := fun i => σ.2.1 (s + 4) i) (g := fun i => σ.2.1 (d + 4) i) hj
  · exact ((((((((((((frw.refl (W_li d) σ).setN (by unfold W_li; omega)).setN (by unfold W_li; omega)).setN (by unfold W_li; omega)).setN (by unfold W_li; omega)).setN (by unfold W_li; omega)).setA (by unfold W_li; omega)).setA (by unfold W_li; omega)).setA (by unfold W_li; omega)).setA (by unfold W_li; omega)).setN (by unfold W_li; omega)).setN (by unfold W_li; omega))
