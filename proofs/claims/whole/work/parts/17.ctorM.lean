def mi_0 (σ : am_H) : am_H := (am_setR (am_newAt σ 56 11 1600) 55 0 (some (56)))
set_option maxRecDepth 20000 in
theorem mi_0_s {Q : Option am_V → am_H → Prop} (σ : am_H) (hl : σ.1.length = 56) (h5 : σ.1[55]? = some (10, 108)) (K : am_wp M_X10_init Q 1 1600 13 [(0, am_r 55)] [] (mi_0 σ)) : am_wp M_X10_init Q 0 0 4 [(0, am_r 55)] [] σ := by
  refine am_aload_n (q := 5) rfl (am_tab tk_X10_init 2 rfl) rfl ?_
  refine am_sipush (q := 8) (n := 1600) (by decide) rfl (am_tab tk_X10_init 3 rfl) rfl ?_
  refine am_newAa (q := 10) (k := 11) (a := 56) (N := 1600) hl (Or.inl ⟨rfl, rfl⟩) ka_int rfl (by decide) (Nat.le_of_ble_eq_true rfl) (Nat.le_of_ble_eq_true rfl) (am_tab tk_X10_init 4 rfl) rfl ?_
  refine am_putR (q := 13) (k := 10) (n := 108) (j := 0) (am_newAt_old (a := 56) h5) (by decide) rfl (by decide) (Or.inr (Or.inr ⟨kf_X10_7, rfl, rfl, rfl⟩)) (am_tab tk_X10_init 5 rfl) rfl ?_
  exact K
theorem mi_0_len {σ : am_H} (hl : σ.1.length = 56) : (mi_0 σ).1.length = 57 := (am_newAt_len hl)
theorem mi_0_old {σ : am_H} {b : Nat} {q : Nat × Nat} (h : σ.1[b]? = some q) : (mi_0 σ).1[b]? = some q := (am_newAt_old (a := 56) h)
def mi_1 (σ : am_H) : am_H := (am_setN σ 55 8 (-1))
set_option maxRecDepth 20000 in
theorem mi_1_s {Q : Option am_V → am_H → Prop} (σ : am_H) (hl : σ.1.length = 57) (h5 : σ.1[55]? = some (10, 108)) (K : am_wp M_X10_init Q 1 1600 18 [(0, am_r 55)] [] (mi_1 σ)) : am_wp M_X10_init Q 1 1600 13 [(0, am_r 55)] [] σ := by
  refine am_aload_n (q := 14) rfl (am_tab tk_X10_init 6 rfl) rfl ?_
  refine am_iconst (q := 15) (n := (-1)) (by decide) (am_tab tk_X10_init 7 rfl) rfl ?_
  refine am_putI (q := 18) (k := 10) (n := 108) (j := 8) h5 (by decide) rfl (by decide) (Or.inl ⟨kf_X10_13, rfl⟩) (am_tab tk_X10_init 8 rfl) rfl ?_
  exact K
theorem mi_1_len {σ : am_H} (hl : σ.1.length = 57) : (mi_1 σ).1.length = 57 := hl
theorem mi_1_old {σ : am_H} {b : Nat} {q : Nat × Nat} (h : σ.1[b]? = some q) : (mi_1 σ).1[b]? = some q := h
def mi_2 (σ : am_H) : am_H := (am_setR (am_newAt σ 57 11 6) 55 9 (some (57)))
set_option maxRecDepth 20000 in
theorem mi_2_s {Q : Option am_V → am_H → Prop} (σ : am_H) (hl : σ.1.length = 57) (h5 : σ.1[55]? = some (10, 108)) (K : am_wp M_X10_init Q 2 1606 26 [(0, am_r 55)] [] (mi_2 σ)) : am_wp M_X10_init Q 1 1600 18 [(0, am_r 55)] [] σ := by
  refine am_aload_n (q := 19) rfl (am_tab tk_X10_init 9 rfl) rfl ?_
  refine am_bipush (q := 21) (n := 6) (by decide) rfl (am_tab tk_X10_init 10 rfl) rfl ?_
  refine am_newAa (q := 23) (k := 11) (a := 57) (N := 6) hl (Or.inl ⟨rfl, rfl⟩) ka_int rfl (by decide) (Nat.le_of_ble_eq_true rfl) (Nat.le_of_ble_eq_true rfl) (am_tab tk_X10_init 11 rfl) rfl ?_
  refine am_putR (q := 26) (k := 10) (n := 108) (j := 9) (am_newAt_old (a := 57) h5) (by decide) rfl (by decide) (Or.inr (Or.inr ⟨kf_X10_17, rfl, rfl, rfl⟩)) (am_tab tk_X10_init 12 rfl) rfl ?_
  exact K
theorem mi_2_len {σ : am_H} (hl : σ.1.length = 57) : (mi_2 σ).1.length = 58 := (am_newAt_len hl)
theorem mi_2_old {σ : am_H} {b : Nat} {q : Nat × Nat} (h : σ.1[b]? = some q) : (mi_2 σ).1[b]? = some q := (am_newAt_old (a := 57) h)
def mi_3 (σ : am_H) : am_H := (am_setR (am_setN (am_setN (am_setN (am_setN (am_newAt σ 58 13 4) 58 0 100) 58 1 97) 58 2 121) 58 3 115) 55 11 (some (58)))
set_option maxRecDepth 20000 in
theorem mi_3_s {Q : Option am_V → am_H → Prop} (σ : am_H) (hl : σ.1.length = 58) (h5 : σ.1[55]? = some (10, 108)) (K : am_wp M_X10_init Q 3 1610 53 [(0, am_r 55)] [] (mi_3 σ)) : am_wp M_X10_init Q 2 1606 26 [(0, am_r 55)] [] σ := by
  refine am_aload_n (q := 27) rfl (am_tab tk_X10_init 13 rfl) rfl ?_
  refine am_iconst (q := 28) (n := 4) (by decide) (am_tab tk_X10_init 14 rfl) rfl ?_
  refine am_newAa (q := 30) (k := 13) (a := 58) (N := 4) hl (Or.inr (Or.inr ⟨rfl, rfl⟩)) ka_char rfl (by decide) (Nat.le_of_ble_eq_true rfl) (Nat.le_of_ble_eq_true rfl) (am_tab tk_X10_init 15 rfl) rfl ?_
  refine am_dup (q := 31) rfl (am_tab tk_X10_init 16 rfl) rfl ?_
  refine am_iconst (q := 32) (n := 0) (by decide) (am_tab tk_X10_init 17 rfl) rfl ?_
  refine am_bipush (q := 34) (n := 100) (by decide) rfl (am_tab tk_X10_init 18 rfl) rfl ?_
  refine am_cast (q := 35) (a := 58) (n := 4) (am_newAt_at hl) (by omega) (by omega) (by decide) (by decide +kernel) (am_tab tk_X10_init 19 rfl) rfl ?_
  refine am_dup (q := 36) rfl (am_tab tk_X10_init 20 rfl) rfl ?_
  refine am_iconst (q := 37) (n := 1) (by decide) (am_tab tk_X10_init 21 rfl) rfl ?_
  refine am_bipush (q := 39) (n := 97) (by decide) rfl (am_tab tk_X10_init 22 rfl) rfl ?_
  refine am_cast (q := 40) (a := 58) (n := 4) (am_newAt_at hl) (by omega) (by omega) (by decide) (by decide +kernel) (am_tab tk_X10_init 23 rfl) rfl ?_
  refine am_dup (q := 41) rfl (am_tab tk_X10_init 24 rfl) rfl ?_
  refine am_iconst (q := 42) (n := 2) (by decide) (am_tab tk_X10_init 25 rfl) rfl ?_
  refine am_bipush (q := 44) (n := 121) (by decide) rfl (am_tab tk_X10_init 26 rfl) rfl ?_
  refine am_cast (q := 45) (a := 58) (n := 4) (am_newAt_at hl) (by omega) (by omega) (by decide) (by decide +kernel) (am_tab tk_X10_init 27 rfl) rfl ?_
  refine am_dup (q := 46) rfl (am_tab tk_X10_init 28 rfl) rfl ?_
  refine am_iconst (q := 47) (n := 3) (by decide) (am_tab tk_X10_init 29 rfl) rfl ?_
  refine am_bipush (q := 49) (n := 115) (by decide) rfl (am_tab tk_X10_init 30 rfl) rfl ?_
  refine am_cast (q := 50) (a := 58) (n := 4) (am_newAt_at hl) (by omega) (by omega) (by decide) (by decide +kernel) (am_tab tk_X10_init 31 rfl) rfl ?_
  refine am_putR (q := 53) (k := 10) (n := 108) (j := 11) (am_newAt_old (a := 58) h5) (by decide) rfl (by decide) (Or.inr (Or.inr ⟨kf_X10_20, rfl, rfl, rfl⟩)) (am_tab tk_X10_init 32 rfl) rfl ?_
  exact K
theorem mi_3_len {σ : am_H} (hl : σ.1.length = 58) : (mi_3 σ).1.length = 59 := (am_newAt_len hl)
theorem mi_3_old {σ : am_H} {b : Nat} {q : Nat × Nat} (h : σ.1[b]? = some q) : (mi_3 σ).1[b]? = some q := (am_newAt_old (a := 58) h)
def mi_4 (σ : am_H) : am_H := (am_setR (am_setN (am_setN (am_setN (am_setN (am_setN (am_setN (am_newAt σ 59 13 6) 59 0 112) 59 1 101) 59 2 114) 59 3 115) 59 4 111) 59 5 110) 55 12 (some (59)))
set_option maxRecDepth 20000 in
theorem mi_4_s {Q : Option am_V → am_H → Prop} (σ : am_H) (hl : σ.1.length = 59) (h5 : σ.1[55]? = some (10, 108)) (K : am_wp M_X10_init Q 4 1616 91 [(0, am_r 55)] [] (mi_4 σ)) : am_wp M_X10_init Q 3 1610 53 [(0, am_r 55)] [] σ := by
  refine am_aload_n (q := 54) rfl (am_tab tk_X10_init 33 rfl) rfl ?_
  refine am_bipush (q := 56) (n := 6) (by decide) rfl (am_tab tk_X10_init 34 rfl) rfl ?_
  refine am_newAa (q := 58) (k := 13) (a := 59) (N := 6) hl (Or.inr (Or.inr ⟨rfl, rfl⟩)) ka_char rfl (by decide) (Nat.le_of_ble_eq_true rfl) (Nat.le_of_ble_eq_true rfl) (am_tab tk_X10_init 35 rfl) rfl ?_
  refine am_dup (q := 59) rfl (am_tab tk_X10_init 36 rfl) rfl ?_
  refine am_iconst (q := 60) (n := 0) (by decide) (am_tab tk_X10_init 37 rfl) rfl ?_
  refine am_bipush (q := 62) (n := 112) (by decide) rfl (am_tab tk_X10_init 38 rfl) rfl ?_
  refine am_cast (q := 63) (a := 59) (n := 6) (am_newAt_at hl) (by omega) (by omega) (by decide) (by decide +kernel) (am_tab tk_X10_init 39 rfl) rfl ?_
  refine am_dup (q := 64) rfl (am_tab tk_X10_init 40 rfl) rfl ?_
  refine am_iconst (q := 65) (n := 1) (by decide) (am_tab tk_X10_init 41 rfl) rfl ?_
  refine am_bipush (q := 67) (n := 101) (by decide) rfl (am_tab tk_X10_init 42 rfl) rfl ?_
  refine am_cast (q := 68) (a := 59) (n := 6) (am_newAt_at hl) (by omega) (by omega) (by decide) (by decide +kernel) (am_tab tk_X10_init 43 rfl) rfl ?_
  refine am_dup (q := 69) rfl (am_tab tk_X10_init 44 rfl) rfl ?_
  refine am_iconst (q := 70) (n := 2) (by decide) (am_tab tk_X10_init 45 rfl) rfl ?_
  refine am_bipush (q := 72) (n := 114) (by decide) rfl (am_tab tk_X10_init 46 rfl) rfl ?_
  refine am_cast (q := 73) (a := 59) (n := 6) (am_newAt_at hl) (by omega) (by omega) (by decide) (by decide +kernel) (am_tab tk_X10_init 47 rfl) rfl ?_
  refine am_dup (q := 74) rfl (am_tab tk_X10_init 48 rfl) rfl ?_
  refine am_iconst (q := 75) (n := 3) (by decide) (am_tab tk_X10_init 49 rfl) rfl ?_
  refine am_bipush (q := 77) (n := 115) (by decide) rfl (am_tab tk_X10_init 50 rfl) rfl ?_
  refine am_cast (q := 78) (a := 59) (n := 6) (am_newAt_at hl) (by omega) (by omega) (by decide) (by decide +kernel) (am_tab tk_X10_init 51 rfl) rfl ?_
  refine am_dup (q := 79) rfl (am_tab tk_X10_init 52 rfl) rfl ?_
  refine am_iconst (q := 80) (n := 4) (by decide) (am_tab tk_X10_init 53 rfl) rfl ?_
  refine am_bipush (q := 82) (n := 111) (by decide) rfl (am_tab tk_X10_init 54 rfl) rfl ?_
  refine am_cast (q := 83) (a := 59) (n := 6) (am_newAt_at hl) (by omega) (by omega) (by decide) (by decide +kernel) (am_tab tk_X10_init 55 rfl) rfl ?_
  refine am_dup (q := 84) rfl (am_tab tk_X10_init 56 rfl) rfl ?_
  refine am_iconst (q := 85) (n := 5) (by decide) (am_tab tk_X10_init 57 rfl) rfl ?_
  refine am_bipush (q := 87) (n := 110) (by decide) rfl (am_tab tk_X10_init 58 rfl) rfl ?_
  refine am_cast (q := 88) (a := 59) (n := 6) (am_newAt_at hl) (by omega) (by omega) (by decide) (by decide +kernel) (am_tab tk_X10_init 59 rfl) rfl ?_
  refine am_putR (q := 91) (k := 10) (n := 108) (j := 12) (am_newAt_old (a := 59) h5) (by decide) rfl (by decide) (Or.inr (Or.inr ⟨kf_X10_24, rfl, rfl, rfl⟩)) (am_tab tk_X10_init 60 rfl) rfl ?_
  exact K
theorem mi_4_len {σ : am_H} (hl : σ.1.length = 59) : (mi_4 σ).1.length = 60 := (am_newAt_len hl)
theorem mi_4_old {σ : am_H} {b : Nat} {q : Nat × Nat} (h : σ.1[b]? = some q) : (mi_4 σ).1[b]? = some q := (am_newAt_old (a := 59) h)
def mi_5 (σ : am_H) : am_H := (am_setR (am_setN (am_setN (am_setN (am_setN (am_newAt σ 60 13 4) 60 0 109) 60 1 105) 60 2 110) 60 3 100) 55 13 (some (60)))
set_option maxRecDepth 20000 in
theorem mi_5_s {Q : Option am_V → am_H → Prop} (σ : am_H) (hl : σ.1.length = 60) (h5 : σ.1[55]? = some (10, 108)) (K : am_wp M_X10_init Q 5 1620 118 [(0, am_r 55)] [] (mi_5 σ)) : am_wp M_X10_init Q 4 1616 91 [(0, am_r 55)] [] σ := by
  refine am_aload_n (q := 92) rfl (am_tab tk_X10_init 61 rfl) rfl ?_
  refine am_iconst (q := 93) (n := 4) (by decide) (am_tab tk_X10_init 62 rfl) rfl ?_
  refine am_newAa (q := 95) (k := 13) (a := 60) (N := 4) hl (Or.inr (Or.inr ⟨rfl, rfl⟩)) ka_char rfl (by decide) (Nat.le_of_ble_eq_true rfl) (Nat.le_of_ble_eq_true rfl) (am_tab tk_X10_init 63 rfl) rfl ?_
  refine am_dup (q := 96) rfl (am_tab tk_X10_init 64 rfl) rfl ?_
  refine am_iconst (q := 97) (n := 0) (by decide) (am_tab tk_X10_init 65 rfl) rfl ?_
  refine am_bipush (q := 99) (n := 109) (by decide) rfl (am_tab tk_X10_init 66 rfl) rfl ?_
  refine am_cast (q := 100) (a := 60) (n := 4) (am_newAt_at hl) (by omega) (by omega) (by decide) (by decide +kernel) (am_tab tk_X10_init 67 rfl) rfl ?_
  refine am_dup (q := 101) rfl (am_tab tk_X10_init 68 rfl) rfl ?_
  refine am_iconst (q := 102) (n := 1) (by decide) (am_tab tk_X10_init 69 rfl) rfl ?_
  refine am_bipush (q := 104) (n := 105) (by decide) rfl (am_tab tk_X10_init 70 rfl) rfl ?_
  refine am_cast (q := 105) (a := 60) (n := 4) (am_newAt_at hl) (by omega) (by omega) (by decide) (by decide +kernel) (am_tab tk_X10_init 71 rfl) rfl ?_
  refine am_dup (q := 106) rfl (am_tab tk_X10_init 72 rfl) rfl ?_
  refine am_iconst (q := 107) (n := 2) (by decide) (am_tab tk_X10_init 73 rfl) rfl ?_
  refine am_bipush (q := 109) (n := 110) (by decide) rfl (am_tab tk_X10_init 74 rfl) rfl ?_
  refine am_cast (q := 110) (a := 60) (n := 4) (am_newAt_at hl) (by omega) (by omega) (by decide) (by decide +kernel) (am_tab tk_X10_init 75 rfl) rfl ?_
  refine am_dup (q := 111) rfl (am_tab tk_X10_init 76 rfl) rfl ?_
  refine am_iconst (q := 112) (n := 3) (by decide) (am_tab tk_X10_init 77 rfl) rfl ?_
  refine am_bipush (q := 114) (n := 100) (by decide) rfl (am_tab tk_X10_init 78 rfl) rfl ?_
  refine am_cast (q := 115) (a := 60) (n := 4) (am_newAt_at hl) (by omega) (by omega) (by decide) (by decide +kernel) (am_tab tk_X10_init 79 rfl) rfl ?_
  refine am_putR (q := 118) (k := 10) (n := 108) (j := 13) (am_newAt_old (a := 60) h5) (by decide) rfl (by decide) (Or.inr (Or.inr ⟨kf_X10_27, rfl, rfl, rfl⟩)) (am_tab tk_X10_init 80 rfl) rfl ?_
  exact K
theorem mi_5_len {σ : am_H} (hl : σ.1.length = 60) : (mi_5 σ).1.length = 61 := (am_newAt_len hl)
theorem mi_5_old {σ : am_H} {b : Nat} {q : Nat × Nat} (h : σ.1[b]? = some q) : (mi_5 σ).1[b]? = some q := (am_newAt_old (a := 60) h)
def mi_6 (σ : am_H) : am_H := (am_setR (am_setN (am_setN (am_setN (am_setN (am_newAt σ 61 13 4) 61 0 97) 61 1 115) 61 2 107) 61 3 115) 55 14 (some (61)))
set_option maxRecDepth 20000 in
theorem mi_6_s {Q : Option am_V → am_H → Prop} (σ : am_H) (hl : σ.1.length = 61) (h5 : σ.1[55]? = some (10, 108)) (K : am_wp M_X10_init Q 6 1624 145 [(0, am_r 55)] [] (mi_6 σ)) : am_wp M_X10_init Q 5 1620 118 [(0, am_r 55)] [] σ := by
  refine am_aload_n (q := 119) rfl (am_tab tk_X10_init 81 rfl) rfl ?_
  refine am_iconst (q := 120) (n := 4) (by decide) (am_tab tk_X10_init 82 rfl) rfl ?_
  refine am_newAa (q := 122) (k := 13) (a := 61) (N := 4) hl (Or.inr (Or.inr ⟨rfl, rfl⟩)) ka_char rfl (by decide) (Nat.le_of_ble_eq_true rfl) (Nat.le_of_ble_eq_true rfl) (am_tab tk_X10_init 83 rfl) rfl ?_
  refine am_dup (q := 123) rfl (am_tab tk_X10_init 84 rfl) rfl ?_
  refine am_iconst (q := 124) (n := 0) (by decide) (am_tab tk_X10_init 85 rfl) rfl ?_
  refine am_bipush (q := 126) (n := 97) (by decide) rfl (am_tab tk_X10_init 86 rfl) rfl ?_
  refine am_cast (q := 127) (a := 61) (n := 4) (am_newAt_at hl) (by omega) (by omega) (by decide) (by decide +kernel) (am_tab tk_X10_init 87 rfl) rfl ?_
  refine am_dup (q := 128) rfl (am_tab tk_X10_init 88 rfl) rfl ?_
  refine am_iconst (q := 129) (n := 1) (by decide) (am_tab tk_X10_init 89 rfl) rfl ?_
  refine am_bipush (q := 131) (n := 115) (by decide) rfl (am_tab tk_X10_init 90 rfl) rfl ?_
  refine am_cast (q := 132) (a := 61) (n := 4) (am_newAt_at hl) (by omega) (by omega) (by decide) (by decide +kernel) (am_tab tk_X10_init 91 rfl) rfl ?_
  refine am_dup (q := 133) rfl (am_tab tk_X10_init 92 rfl) rfl ?_
  refine am_iconst (q := 134) (n := 2) (by decide) (am_tab tk_X10_init 93 rfl) rfl ?_
  refine am_bipush (q := 136) (n := 107) (by decide) rfl (am_tab tk_X10_init 94 rfl) rfl ?_
  refine am_cast (q := 137) (a := 61) (n := 4) (am_newAt_at hl) (by omega) (by omega) (by decide) (by decide +kernel) (am_tab tk_X10_init 95 rfl) rfl ?_
  refine am_dup (q := 138) rfl (am_tab tk_X10_init 96 rfl) rfl ?_
  refine am_iconst (q := 139) (n := 3) (by decide) (am_tab tk_X10_init 97 rfl) rfl ?_
  refine am_bipush (q := 141) (n := 115) (by decide) rfl (am_tab tk_X10_init 98 rfl) rfl ?_
  refine am_cast (q := 142) (a := 61) (n := 4) (am_newAt_at hl) (by omega) (by omega) (by decide) (by decide +kernel) (am_tab tk_X10_init 99 rfl) rfl ?_
  refine am_putR (q := 145) (k := 10) (n := 108) (j := 14) (am_newAt_old (a := 61) h5) (by decide) rfl (by decide) (Or.inr (Or.inr ⟨kf_X10_30, rfl, rfl, rfl⟩)) (am_tab tk_X10_init 100 rfl) rfl ?_
  exact K
theorem mi_6_len {σ : am_H} (hl : σ.1.length = 61) : (mi_6 σ).1.length = 62 := (am_newAt_len hl)
theorem mi_6_old {σ : am_H} {b : Nat} {q : Nat × Nat} (h : σ.1[b]? = some q) : (mi_6 σ).1[b]? = some q := (am_newAt_old (a := 61) h)
def mi_7 (σ : am_H) : am_H := (am_setR (am_setN (am_setN (am_setN (am_setN (am_newAt σ 62 13 4) 62 0 116) 62 1 111) 62 2 108) 62 3 100) 55 15 (some (62)))
set_option maxRecDepth 20000 in
theorem mi_7_s {Q : Option am_V → am_H → Prop} (σ : am_H) (hl : σ.1.length = 62) (h5 : σ.1[55]? = some (10, 108)) (K : am_wp M_X10_init Q 7 1628 172 [(0, am_r 55)] [] (mi_7 σ)) : am_wp M_X10_init Q 6 1624 145 [(0, am_r 55)] [] σ := by
  refine am_aload_n (q := 146) rfl (am_tab tk_X10_init 101 rfl) rfl ?_
  refine am_iconst (q := 147) (n := 4) (by decide) (am_tab tk_X10_init 102 rfl) rfl ?_
  refine am_newAa (q := 149) (k := 13) (a := 62) (N := 4) hl (Or.inr (Or.inr ⟨rfl, rfl⟩)) ka_char rfl (by decide) (Nat.le_of_ble_eq_true rfl) (Nat.le_of_ble_eq_true rfl) (am_tab tk_X10_init 103 rfl) rfl ?_
  refine am_dup (q := 150) rfl (am_tab tk_X10_init 104 rfl) rfl ?_
  refine am_iconst (q := 151) (n := 0) (by decide) (am_tab tk_X10_init 105 rfl) rfl ?_
  refine am_bipush (q := 153) (n := 116) (by decide) rfl (am_tab tk_X10_init 106 rfl) rfl ?_
  refine am_cast (q := 154) (a := 62) (n := 4) (am_newAt_at hl) (by omega) (by omega) (by decide) (by decide +kernel) (am_tab tk_X10_init 107 rfl) rfl ?_
  refine am_dup (q := 155) rfl (am_tab tk_X10_init 108 rfl) rfl ?_
  refine am_iconst (q := 156) (n := 1) (by decide) (am_tab tk_X10_init 109 rfl) rfl ?_
  refine am_bipush (q := 158) (n := 111) (by decide) rfl (am_tab tk_X10_init 110 rfl) rfl ?_
  refine am_cast (q := 159) (a := 62) (n := 4) (am_newAt_at hl) (by omega) (by omega) (by decide) (by decide +kernel) (am_tab tk_X10_init 111 rfl) rfl ?_
  refine am_dup (q := 160) rfl (am_tab tk_X10_init 112 rfl) rfl ?_
  refine am_iconst (q := 161) (n := 2) (by decide) (am_tab tk_X10_init 113 rfl) rfl ?_
  refine am_bipush (q := 163) (n := 108) (by decide) rfl (am_tab tk_X10_init 114 rfl) rfl ?_
  refine am_cast (q := 164) (a := 62) (n := 4) (am_newAt_at hl) (by omega) (by omega) (by decide) (by decide +kernel) (am_tab tk_X10_init 115 rfl) rfl ?_
  refine am_dup (q := 165) rfl (am_tab tk_X10_init 116 rfl) rfl ?_
  refine am_iconst (q := 166) (n := 3) (by decide) (am_tab tk_X10_init 117 rfl) rfl ?_
  refine am_bipush (q := 168) (n := 100) (by decide) rfl (am_tab tk_X10_init 118 rfl) rfl ?_
  refine am_cast (q := 169) (a := 62) (n := 4) (am_newAt_at hl) (by omega) (by omega) (by decide) (by decide +kernel) (am_tab tk_X10_init 119 rfl) rfl ?_
  refine am_putR (q := 172) (k := 10) (n := 108) (j := 15) (am_newAt_old (a := 62) h5) (by decide) rfl (by decide) (Or.inr (Or.inr ⟨kf_X10_33, rfl, rfl, rfl⟩)) (am_tab tk_X10_init 120 rfl) rfl ?_
  exact K
theorem mi_7_len {σ : am_H} (hl : σ.1.length = 62) : (mi_7 σ).1.length = 63 := (am_newAt_len hl)
theorem mi_7_old {σ : am_H} {b : Nat} {q : Nat × Nat} (h : σ.1[b]? = some q) : (mi_7 σ).1[b]? = some q := (am_newAt_old (a := 62) h)
def mi_8 (σ : am_H) : am_H := (am_setR (am_setN (am_setN (am_newAt σ 63 13 2) 63 0 111) 63 1 110) 55 16 (some (63)))
set_option maxRecDepth 20000 in
theorem mi_8_s {Q : Option am_V → am_H → Prop} (σ : am_H) (hl : σ.1.length = 63) (h5 : σ.1[55]? = some (10, 108)) (K : am_wp M_X10_init Q 8 1630 189 [(0, am_r 55)] [] (mi_8 σ)) : am_wp M_X10_init Q 7 1628 172 [(0, am_r 55)] [] σ := by
  refine am_aload_n (q := 173) rfl (am_tab tk_X10_init 121 rfl) rfl ?_
  refine am_iconst (q := 174) (n := 2) (by decide) (am_tab tk_X10_init 122 rfl) rfl ?_
  refine am_newAa (q := 176) (k := 13) (a := 63) (N := 2) hl (Or.inr (Or.inr ⟨rfl, rfl⟩)) ka_char rfl (by decide) (Nat.le_of_ble_eq_true rfl) (Nat.le_of_ble_eq_true rfl) (am_tab tk_X10_init 123 rfl) rfl ?_
  refine am_dup (q := 177) rfl (am_tab tk_X10_init 124 rfl) rfl ?_
  refine am_iconst (q := 178) (n := 0) (by decide) (am_tab tk_X10_init 125 rfl) rfl ?_
  refine am_bipush (q := 180) (n := 111) (by decide) rfl (am_tab tk_X10_init 126 rfl) rfl ?_
  refine am_cast (q := 181) (a := 63) (n := 2) (am_newAt_at hl) (by omega) (by omega) (by decide) (by decide +kernel) (am_tab tk_X10_init 127 rfl) rfl ?_
  refine am_dup (q := 182) rfl (am_tab tk_X10_init 128 rfl) rfl ?_
  refine am_iconst (q := 183) (n := 1) (by decide) (am_tab tk_X10_init 129 rfl) rfl ?_
  refine am_bipush (q := 185) (n := 110) (by decide) rfl (am_tab tk_X10_init 130 rfl) rfl ?_
  refine am_cast (q := 186) (a := 63) (n := 2) (am_newAt_at hl) (by omega) (by omega) (by decide) (by decide +kernel) (am_tab tk_X10_init 131 rfl) rfl ?_
  refine am_putR (q := 189) (k := 10) (n := 108) (j := 16) (am_newAt_old (a := 63) h5) (by decide) rfl (by decide) (Or.inr (Or.inr ⟨kf_X10_36, rfl, rfl, rfl⟩)) (am_tab tk_X10_init 132 rfl) rfl ?_
  exact K
theorem mi_8_len {σ : am_H} (hl : σ.1.length = 63) : (mi_8 σ).1.length = 64 := (am_newAt_len hl)
theorem mi_8_old {σ : am_H} {b : Nat} {q : Nat × Nat} (h : σ.1[b]? = some q) : (mi_8 σ).1[b]? = some q := (am_newAt_old (a := 63) h)
def mi_9 (σ : am_H) : am_H := (am_setR (am_setN (am_setN (am_setN (am_setN (am_setN (am_setN (am_setN (am_newAt σ 64 13 7) 64 0 114) 64 1 101) 64 2 109) 64 3 105) 64 4 110) 64 5 100) 64 6 115) 55 17 (some (64)))
set_option maxRecDepth 20000 in
theorem mi_9_s {Q : Option am_V → am_H → Prop} (σ : am_H) (hl : σ.1.length = 64) (h5 : σ.1[55]? = some (10, 108)) (K : am_wp M_X10_init Q 9 1637 233 [(0, am_r 55)] [] (mi_9 σ)) : am_wp M_X10_init Q 8 1630 189 [(0, am_r 55)] [] σ := by
  refine am_aload_n (q := 190) rfl (am_tab tk_X10_init 133 rfl) rfl ?_
  refine am_bipush (q := 192) (n := 7) (by decide) rfl (am_tab tk_X10_init 134 rfl) rfl ?_
  refine am_newAa (q := 194) (k := 13) (a := 64) (N := 7) hl (Or.inr (Or.inr ⟨rfl, rfl⟩)) ka_char rfl (by decide) (Nat.le_of_ble_eq_true rfl) (Nat.le_of_ble_eq_true rfl) (am_tab tk_X10_init 135 rfl) rfl ?_
  refine am_dup (q := 195) rfl (am_tab tk_X10_init 136 rfl) rfl ?_
  refine am_iconst (q := 196) (n := 0) (by decide) (am_tab tk_X10_init 137 rfl) rfl ?_
  refine am_bipush (q := 198) (n := 114) (by decide) rfl (am_tab tk_X10_init 138 rfl) rfl ?_
  refine am_cast (q := 199) (a := 64) (n := 7) (am_newAt_at hl) (by omega) (by omega) (by decide) (by decide +kernel) (am_tab tk_X10_init 139 rfl) rfl ?_
  refine am_dup (q := 200) rfl (am_tab tk_X10_init 140 rfl) rfl ?_
  refine am_iconst (q := 201) (n := 1) (by decide) (am_tab tk_X10_init 141 rfl) rfl ?_
  refine am_bipush (q := 203) (n := 101) (by decide) rfl (am_tab tk_X10_init 142 rfl) rfl ?_
  refine am_cast (q := 204) (a := 64) (n := 7) (am_newAt_at hl) (by omega) (by omega) (by decide) (by decide +kernel) (am_tab tk_X10_init 143 rfl) rfl ?_
  refine am_dup (q := 205) rfl (am_tab tk_X10_init 144 rfl) rfl ?_
  refine am_iconst (q := 206) (n := 2) (by decide) (am_tab tk_X10_init 145 rfl) rfl ?_
  refine am_bipush (q := 208) (n := 109) (by decide) rfl (am_tab tk_X10_init 146 rfl) rfl ?_
  refine am_cast (q := 209) (a := 64) (n := 7) (am_newAt_at hl) (by omega) (by omega) (by decide) (by decide +kernel) (am_tab tk_X10_init 147 rfl) rfl ?_
  refine am_dup (q := 210) rfl (am_tab tk_X10_init 148 rfl) rfl ?_
  refine am_iconst (q := 211) (n := 3) (by decide) (am_tab tk_X10_init 149 rfl) rfl ?_
  refine am_bipush (q := 213) (n := 105) (by decide) rfl (am_tab tk_X10_init 150 rfl) rfl ?_
  refine am_cast (q := 214) (a := 64) (n := 7) (am_newAt_at hl) (by omega) (by omega) (by decide) (by decide +kernel) (am_tab tk_X10_init 151 rfl) rfl ?_
  refine am_dup (q := 215) rfl (am_tab tk_X10_init 152 rfl) rfl ?_
  refine am_iconst (q := 216) (n := 4) (by decide) (am_tab tk_X10_init 153 rfl) rfl ?_
  refine am_bipush (q := 218) (n := 110) (by decide) rfl (am_tab tk_X10_init 154 rfl) rfl ?_
  refine am_cast (q := 219) (a := 64) (n := 7) (am_newAt_at hl) (by omega) (by omega) (by decide) (by decide +kernel) (am_tab tk_X10_init 155 rfl) rfl ?_
  refine am_dup (q := 220) rfl (am_tab tk_X10_init 156 rfl) rfl ?_
  refine am_iconst (q := 221) (n := 5) (by decide) (am_tab tk_X10_init 157 rfl) rfl ?_
  refine am_bipush (q := 223) (n := 100) (by decide) rfl (am_tab tk_X10_init 158 rfl) rfl ?_
  refine am_cast (q := 224) (a := 64) (n := 7) (am_newAt_at hl) (by omega) (by omega) (by decide) (by decide +kernel) (am_tab tk_X10_init 159 rfl) rfl ?_
  refine am_dup (q := 225) rfl (am_tab tk_X10_init 160 rfl) rfl ?_
  refine am_bipush (q := 227) (n := 6) (by decide) rfl (am_tab tk_X10_init 161 rfl) rfl ?_
  refine am_bipush (q := 229) (n := 115) (by decide) rfl (am_tab tk_X10_init 162 rfl) rfl ?_
  refine am_cast (q := 230) (a := 64) (n := 7) (am_newAt_at hl) (by omega) (by omega) (by decide) (by decide +kernel) (am_tab tk_X10_init 163 rfl) rfl ?_
  refine am_putR (q := 233) (k := 10) (n := 108) (j := 17) (am_newAt_old (a := 64) h5) (by decide) rfl (by decide) (Or.inr (Or.inr ⟨kf_X10_39, rfl, rfl, rfl⟩)) (am_tab tk_X10_init 164 rfl) rfl ?_
  exact K
theorem mi_9_len {σ : am_H} (hl : σ.1.length = 64) : (mi_9 σ).1.length = 65 := (am_newAt_len hl)
theorem mi_9_old {σ : am_H} {b : Nat} {q : Nat × Nat} (h : σ.1[b]? = some q) : (mi_9 σ).1[b]? = some q := (am_newAt_old (a := 64) h)
def mi_10 (σ : am_H) : am_H := (am_setR (am_setN (am_setN (am_setN (am_setN (am_setN (am_newAt σ 65 13 5) 65 0 102) 65 1 114) 65 2 111) 65 3 115) 65 4 116) 55 18 (some (65)))
set_option maxRecDepth 20000 in
theorem mi_10_s {Q : Option am_V → am_H → Prop} (σ : am_H) (hl : σ.1.length = 65) (h5 : σ.1[55]? = some (10, 108)) (K : am_wp M_X10_init Q 10 1642 265 [(0, am_r 55)] [] (mi_10 σ)) : am_wp M_X10_init Q 9 1637 233 [(0, am_r 55)] [] σ := by
  refine am_aload_n (q := 234) rfl (am_tab tk_X10_init 165 rfl) rfl ?_
  refine am_iconst (q := 235) (n := 5) (by decide) (am_tab tk_X10_init 166 rfl) rfl ?_
  refine am_newAa (q := 237) (k := 13) (a := 65) (N := 5) hl (Or.inr (Or.inr ⟨rfl, rfl⟩)) ka_char rfl (by decide) (Nat.le_of_ble_eq_true rfl) (Nat.le_of_ble_eq_true rfl) (am_tab tk_X10_init 167 rfl) rfl ?_
  refine am_dup (q := 238) rfl (am_tab tk_X10_init 168 rfl) rfl ?_
  refine am_iconst (q := 239) (n := 0) (by decide) (am_tab tk_X10_init 169 rfl) rfl ?_
  refine am_bipush (q := 241) (n := 102) (by decide) rfl (am_tab tk_X10_init 170 rfl) rfl ?_
  refine am_cast (q := 242) (a := 65) (n := 5) (am_newAt_at hl) (by omega) (by omega) (by decide) (by decide +kernel) (am_tab tk_X10_init 171 rfl) rfl ?_
  refine am_dup (q := 243) rfl (am_tab tk_X10_init 172 rfl) rfl ?_
  refine am_iconst (q := 244) (n := 1) (by decide) (am_tab tk_X10_init 173 rfl) rfl ?_
  refine am_bipush (q := 246) (n := 114) (by decide) rfl (am_tab tk_X10_init 174 rfl) rfl ?_
  refine am_cast (q := 247) (a := 65) (n := 5) (am_newAt_at hl) (by omega) (by omega) (by decide) (by decide +kernel) (am_tab tk_X10_init 175 rfl) rfl ?_
  refine am_dup (q := 248) rfl (am_tab tk_X10_init 176 rfl) rfl ?_
  refine am_iconst (q := 249) (n := 2) (by decide) (am_tab tk_X10_init 177 rfl) rfl ?_
  refine am_bipush (q := 251) (n := 111) (by decide) rfl (am_tab tk_X10_init 178 rfl) rfl ?_
  refine am_cast (q := 252) (a := 65) (n := 5) (am_newAt_at hl) (by omega) (by omega) (by decide) (by decide +kernel) (am_tab tk_X10_init 179 rfl) rfl ?_
  refine am_dup (q := 253) rfl (am_tab tk_X10_init 180 rfl) rfl ?_
  refine am_iconst (q := 254) (n := 3) (by decide) (am_tab tk_X10_init 181 rfl) rfl ?_
  refine am_bipush (q := 256) (n := 115) (by decide) rfl (am_tab tk_X10_init 182 rfl) rfl ?_
  refine am_cast (q := 257) (a := 65) (n := 5) (am_newAt_at hl) (by omega) (by omega) (by decide) (by decide +kernel) (am_tab tk_X10_init 183 rfl) rfl ?_
  refine am_dup (q := 258) rfl (am_tab tk_X10_init 184 rfl) rfl ?_
  refine am_iconst (q := 259) (n := 4) (by decide) (am_tab tk_X10_init 185 rfl) rfl ?_
  refine am_bipush (q := 261) (n := 116) (by decide) rfl (am_tab tk_X10_init 186 rfl) rfl ?_
  refine am_cast (q := 262) (a := 65) (n := 5) (am_newAt_at hl) (by omega) (by omega) (by decide) (by decide +kernel) (am_tab tk_X10_init 187 rfl) rfl ?_
  refine am_putR (q := 265) (k := 10) (n := 108) (j := 18) (am_newAt_old (a := 65) h5) (by decide) rfl (by decide) (Or.inr (Or.inr ⟨kf_X10_42, rfl, rfl, rfl⟩)) (am_tab tk_X10_init 188 rfl) rfl ?_
  exact K
theorem mi_10_len {σ : am_H} (hl : σ.1.length = 65) : (mi_10 σ).1.length = 66 := (am_newAt_len hl)
theorem mi_10_old {σ : am_H} {b : Nat} {q : Nat × Nat} (h : σ.1[b]? = some q) : (mi_10 σ).1[b]? = some q := (am_newAt_old (a := 65) h)
def mi_11 (σ : am_H) : am_H := (am_setR (am_setN (am_setN (am_setN (am_newAt σ 66 13 3) 66 0 102) 66 1 111) 66 2 114) 55 19 (some (66)))
set_option maxRecDepth 20000 in
theorem mi_11_s {Q : Option am_V → am_H → Prop} (σ : am_H) (hl : σ.1.length = 66) (h5 : σ.1[55]? = some (10, 108)) (K : am_wp M_X10_init Q 11 1645 287 [(0, am_r 55)] [] (mi_11 σ)) : am_wp M_X10_init Q 10 1642 265 [(0, am_r 55)] [] σ := by
  refine am_aload_n (q := 266) rfl (am_tab tk_X10_init 189 rfl) rfl ?_
  refine am_iconst (q := 267) (n := 3) (by decide) (am_tab tk_X10_init 190 rfl) rfl ?_
  refine am_newAa (q := 269) (k := 13) (a := 66) (N := 3) hl (Or.inr (Or.inr ⟨rfl, rfl⟩)) ka_char rfl (by decide) (Nat.le_of_ble_eq_true rfl) (Nat.le_of_ble_eq_true rfl) (am_tab tk_X10_init 191 rfl) rfl ?_
  refine am_dup (q := 270) rfl (am_tab tk_X10_init 192 rfl) rfl ?_
  refine am_iconst (q := 271) (n := 0) (by decide) (am_tab tk_X10_init 193 rfl) rfl ?_
  refine am_bipush (q := 273) (n := 102) (by decide) rfl (am_tab tk_X10_init 194 rfl) rfl ?_
  refine am_cast (q := 274) (a := 66) (n := 3) (am_newAt_at hl) (by omega) (by omega) (by decide) (by decide +kernel) (am_tab tk_X10_init 195 rfl) rfl ?_
  refine am_dup (q := 275) rfl (am_tab tk_X10_init 196 rfl) rfl ?_
  refine am_iconst (q := 276) (n := 1) (by decide) (am_tab tk_X10_init 197 rfl) rfl ?_
  refine am_bipush (q := 278) (n := 111) (by decide) rfl (am_tab tk_X10_init 198 rfl) rfl ?_
  refine am_cast (q := 279) (a := 66) (n := 3) (am_newAt_at hl) (by omega) (by omega) (by decide) (by decide +kernel) (am_tab tk_X10_init 199 rfl) rfl ?_
  refine am_dup (q := 280) rfl (am_tab tk_X10_init 200 rfl) rfl ?_
  refine am_iconst (q := 281) (n := 2) (by decide) (am_tab tk_X10_init 201 rfl) rfl ?_
  refine am_bipush (q := 283) (n := 114) (by decide) rfl (am_tab tk_X10_init 202 rfl) rfl ?_
  refine am_cast (q := 284) (a := 66) (n := 3) (am_newAt_at hl) (by omega) (by omega) (by decide) (by decide +kernel) (am_tab tk_X10_init 203 rfl) rfl ?_
  refine am_putR (q := 287) (k := 10) (n := 108) (j := 19) (am_newAt_old (a := 66) h5) (by decide) rfl (by decide) (Or.inr (Or.inr ⟨kf_X10_45, rfl, rfl, rfl⟩)) (am_tab tk_X10_init 204 rfl) rfl ?_
  exact K
theorem mi_11_len {σ : am_H} (hl : σ.1.length = 66) : (mi_11 σ).1.length = 67 := (am_newAt_len hl)
theorem mi_11_old {σ : am_H} {b : Nat} {q : Nat × Nat} (h : σ.1[b]? = some q) : (mi_11 σ).1[b]? = some q := (am_newAt_old (a := 66) h)
def mi_12 (σ : am_H) : am_H := (am_setR (am_setN (am_setN (am_setN (am_setN (am_setN (am_setN (am_newAt σ 67 13 6) 67 0 116) 67 1 104) 67 2 105) 67 3 110) 67 4 107) 67 5 115) 55 20 (some (67)))
set_option maxRecDepth 20000 in
theorem mi_12_s {Q : Option am_V → am_H → Prop} (σ : am_H) (hl : σ.1.length = 67) (h5 : σ.1[55]? = some (10, 108)) (K : am_wp M_X10_init Q 12 1651 325 [(0, am_r 55)] [] (mi_12 σ)) : am_wp M_X10_init Q 11 1645 287 [(0, am_r 55)] [] σ := by
  refine am_aload_n (q := 288) rfl (am_tab tk_X10_init 205 rfl) rfl ?_
  refine am_bipush (q := 290) (n := 6) (by decide) rfl (am_tab tk_X10_init 206 rfl) rfl ?_
  refine am_newAa (q := 292) (k := 13) (a := 67) (N := 6) hl (Or.inr (Or.inr ⟨rfl, rfl⟩)) ka_char rfl (by decide) (Nat.le_of_ble_eq_true rfl) (Nat.le_of_ble_eq_true rfl) (am_tab tk_X10_init 207 rfl) rfl ?_
  refine am_dup (q := 293) rfl (am_tab tk_X10_init 208 rfl) rfl ?_
  refine am_iconst (q := 294) (n := 0) (by decide) (am_tab tk_X10_init 209 rfl) rfl ?_
  refine am_bipush (q := 296) (n := 116) (by decide) rfl (am_tab tk_X10_init 210 rfl) rfl ?_
  refine am_cast (q := 297) (a := 67) (n := 6) (am_newAt_at hl) (by omega) (by omega) (by decide) (by decide +kernel) (am_tab tk_X10_init 211 rfl) rfl ?_
  refine am_dup (q := 298) rfl (am_tab tk_X10_init 212 rfl) rfl ?_
  refine am_iconst (q := 299) (n := 1) (by decide) (am_tab tk_X10_init 213 rfl) rfl ?_
  refine am_bipush (q := 301) (n := 104) (by decide) rfl (am_tab tk_X10_init 214 rfl) rfl ?_
  refine am_cast (q := 302) (a := 67) (n := 6) (am_newAt_at hl) (by omega) (by omega) (by decide) (by decide +kernel) (am_tab tk_X10_init 215 rfl) rfl ?_
  refine am_dup (q := 303) rfl (am_tab tk_X10_init 216 rfl) rfl ?_
  refine am_iconst (q := 304) (n := 2) (by decide) (am_tab tk_X10_init 217 rfl) rfl ?_
  refine am_bipush (q := 306) (n := 105) (by decide) rfl (am_tab tk_X10_init 218 rfl) rfl ?_
  refine am_cast (q := 307) (a := 67) (n := 6) (am_newAt_at hl) (by omega) (by omega) (by decide) (by decide +kernel) (am_tab tk_X10_init 219 rfl) rfl ?_
  refine am_dup (q := 308) rfl (am_tab tk_X10_init 220 rfl) rfl ?_
  refine am_iconst (q := 309) (n := 3) (by decide) (am_tab tk_X10_init 221 rfl) rfl ?_
  refine am_bipush (q := 311) (n := 110) (by decide) rfl (am_tab tk_X10_init 222 rfl) rfl ?_
  refine am_cast (q := 312) (a := 67) (n := 6) (am_newAt_at hl) (by omega) (by omega) (by decide) (by decide +kernel) (am_tab tk_X10_init 223 rfl) rfl ?_
  refine am_dup (q := 313) rfl (am_tab tk_X10_init 224 rfl) rfl ?_
  refine am_iconst (q := 314) (n := 4) (by decide) (am_tab tk_X10_init 225 rfl) rfl ?_
  refine am_bipush (q := 316) (n := 107) (by decide) rfl (am_tab tk_X10_init 226 rfl) rfl ?_
  refine am_cast (q := 317) (a := 67) (n := 6) (am_newAt_at hl) (by omega) (by omega) (by decide) (by decide +kernel) (am_tab tk_X10_init 227 rfl) rfl ?_
  refine am_dup (q := 318) rfl (am_tab tk_X10_init 228 rfl) rfl ?_
  refine am_iconst (q := 319) (n := 5) (by decide) (am_tab tk_X10_init 229 rfl) rfl ?_
  refine am_bipush (q := 321) (n := 115) (by decide) rfl (am_tab tk_X10_init 230 rfl) rfl ?_
  refine am_cast (q := 322) (a := 67) (n := 6) (am_newAt_at hl) (by omega) (by omega) (by decide) (by decide +kernel) (am_tab tk_X10_init 231 rfl) rfl ?_
  refine am_putR (q := 325) (k := 10) (n := 108) (j := 20) (am_newAt_old (a := 67) h5) (by decide) rfl (by decide) (Or.inr (Or.inr ⟨kf_X10_48, rfl, rfl, rfl⟩)) (am_tab tk_X10_init 232 rfl) rfl ?_
  exact K
theorem mi_12_len {σ : am_H} (hl : σ.1.length = 67) : (mi_12 σ).1.length = 68 := (am_newAt_len hl)
theorem mi_12_old {σ : am_H} {b : Nat} {q : Nat × Nat} (h : σ.1[b]? = some q) : (mi_12 σ).1[b]? = some q := (am_newAt_old (a := 67) h)
def mi_13 (σ : am_H) : am_H := (am_setR (am_setN (am_setN (am_setN (am_setN (am_setN (am_newAt σ 68 13 5) 68 0 104) 68 1 101) 68 2 97) 68 3 114) 68 4 115) 55 21 (some (68)))
set_option maxRecDepth 20000 in
theorem mi_13_s {Q : Option am_V → am_H → Prop} (σ : am_H) (hl : σ.1.length = 68) (h5 : σ.1[55]? = some (10, 108)) (K : am_wp M_X10_init Q 13 1656 357 [(0, am_r 55)] [] (mi_13 σ)) : am_wp M_X10_init Q 12 1651 325 [(0, am_r 55)] [] σ := by
  refine am_aload_n (q := 326) rfl (am_tab tk_X10_init 233 rfl) rfl ?_
  refine am_iconst (q := 327) (n := 5) (by decide) (am_tab tk_X10_init 234 rfl) rfl ?_
  refine am_newAa (q := 329) (k := 13) (a := 68) (N := 5) hl (Or.inr (Or.inr ⟨rfl, rfl⟩)) ka_char rfl (by decide) (Nat.le_of_ble_eq_true rfl) (Nat.le_of_ble_eq_true rfl) (am_tab tk_X10_init 235 rfl) rfl ?_
  refine am_dup (q := 330) rfl (am_tab tk_X10_init 236 rfl) rfl ?_
  refine am_iconst (q := 331) (n := 0) (by decide) (am_tab tk_X10_init 237 rfl) rfl ?_
  refine am_bipush (q := 333) (n := 104) (by decide) rfl (am_tab tk_X10_init 238 rfl) rfl ?_
  refine am_cast (q := 334) (a := 68) (n := 5) (am_newAt_at hl) (by omega) (by omega) (by decide) (by decide +kernel) (am_tab tk_X10_init 239 rfl) rfl ?_
  refine am_dup (q := 335) rfl (am_tab tk_X10_init 240 rfl) rfl ?_
  refine am_iconst (q := 336) (n := 1) (by decide) (am_tab tk_X10_init 241 rfl) rfl ?_
  refine am_bipush (q := 338) (n := 101) (by decide) rfl (am_tab tk_X10_init 242 rfl) rfl ?_
  refine am_cast (q := 339) (a := 68) (n := 5) (am_newAt_at hl) (by omega) (by omega) (by decide) (by decide +kernel) (am_tab tk_X10_init 243 rfl) rfl ?_
  refine am_dup (q := 340) rfl (am_tab tk_X10_init 244 rfl) rfl ?_
  refine am_iconst (q := 341) (n := 2) (by decide) (am_tab tk_X10_init 245 rfl) rfl ?_
  refine am_bipush (q := 343) (n := 97) (by decide) rfl (am_tab tk_X10_init 246 rfl) rfl ?_
  refine am_cast (q := 344) (a := 68) (n := 5) (am_newAt_at hl) (by omega) (by omega) (by decide) (by decide +kernel) (am_tab tk_X10_init 247 rfl) rfl ?_
  refine am_dup (q := 345) rfl (am_tab tk_X10_init 248 rfl) rfl ?_
  refine am_iconst (q := 346) (n := 3) (by decide) (am_tab tk_X10_init 249 rfl) rfl ?_
  refine am_bipush (q := 348) (n := 114) (by decide) rfl (am_tab tk_X10_init 250 rfl) rfl ?_
  refine am_cast (q := 349) (a := 68) (n := 5) (am_newAt_at hl) (by omega) (by omega) (by decide) (by decide +kernel) (am_tab tk_X10_init 251 rfl) rfl ?_
  refine am_dup (q := 350) rfl (am_tab tk_X10_init 252 rfl) rfl ?_
  refine am_iconst (q := 351) (n := 4) (by decide) (am_tab tk_X10_init 253 rfl) rfl ?_
  refine am_bipush (q := 353) (n := 115) (by decide) rfl (am_tab tk_X10_init 254 rfl) rfl ?_
  refine am_cast (q := 354) (a := 68) (n := 5) (am_newAt_at hl) (by omega) (by omega) (by decide) (by decide +kernel) (am_tab tk_X10_init 255 rfl) rfl ?_
  refine am_putR (q := 357) (k := 10) (n := 108) (j := 21) (am_newAt_old (a := 68) h5) (by decide) rfl (by decide) (Or.inr (Or.inr ⟨kf_X10_51, rfl, rfl, rfl⟩)) (am_tab tk_X10_init 256 rfl) rfl ?_
  exact K
theorem mi_13_len {σ : am_H} (hl : σ.1.length = 68) : (mi_13 σ).1.length = 69 := (am_newAt_len hl)
theorem mi_13_old {σ : am_H} {b : Nat} {q : Nat × Nat} (h : σ.1[b]? = some q) : (mi_13 σ).1[b]? = some q := (am_newAt_old (a := 68) h)
def mi_14 (σ : am_H) : am_H := (am_setR (am_setN (am_setN (am_setN (am_setN (am_setN (am_newAt σ 69 13 5) 69 0 115) 69 1 108) 69 2 105) 69 3 112) 69 4 115) 55 22 (some (69)))
set_option maxRecDepth 20000 in
theorem mi_14_s {Q : Option am_V → am_H → Prop} (σ : am_H) (hl : σ.1.length = 69) (h5 : σ.1[55]? = some (10, 108)) (K : am_wp M_X10_init Q 14 1661 389 [(0, am_r 55)] [] (mi_14 σ)) : am_wp M_X10_init Q 13 1656 357 [(0, am_r 55)] [] σ := by
  refine am_aload_n (q := 358) rfl (am_tab tk_X10_init 257 rfl) rfl ?_
  refine am_iconst (q := 359) (n := 5) (by decide) (am_tab tk_X10_init 258 rfl) rfl ?_
  refine am_newAa (q := 361) (k := 13) (a := 69) (N := 5) hl (Or.inr (Or.inr ⟨rfl, rfl⟩)) ka_char rfl (by decide) (Nat.le_of_ble_eq_true rfl) (Nat.le_of_ble_eq_true rfl) (am_tab tk_X10_init 259 rfl) rfl ?_
  refine am_dup (q := 362) rfl (am_tab tk_X10_init 260 rfl) rfl ?_
  refine am_iconst (q := 363) (n := 0) (by decide) (am_tab tk_X10_init 261 rfl) rfl ?_
  refine am_bipush (q := 365) (n := 115) (by decide) rfl (am_tab tk_X10_init 262 rfl) rfl ?_
  refine am_cast (q := 366) (a := 69) (n := 5) (am_newAt_at hl) (by omega) (by omega) (by decide) (by decide +kernel) (am_tab tk_X10_init 263 rfl) rfl ?_
  refine am_dup (q := 367) rfl (am_tab tk_X10_init 264 rfl) rfl ?_
  refine am_iconst (q := 368) (n := 1) (by decide) (am_tab tk_X10_init 265 rfl) rfl ?_
  refine am_bipush (q := 370) (n := 108) (by decide) rfl (am_tab tk_X10_init 266 rfl) rfl ?_
  refine am_cast (q := 371) (a := 69) (n := 5) (am_newAt_at hl) (by omega) (by omega) (by decide) (by decide +kernel) (am_tab tk_X10_init 267 rfl) rfl ?_
  refine am_dup (q := 372) rfl (am_tab tk_X10_init 268 rfl) rfl ?_
  refine am_iconst (q := 373) (n := 2) (by decide) (am_tab tk_X10_init 269 rfl) rfl ?_
  refine am_bipush (q := 375) (n := 105) (by decide) rfl (am_tab tk_X10_init 270 rfl) rfl ?_
  refine am_cast (q := 376) (a := 69) (n := 5) (am_newAt_at hl) (by omega) (by omega) (by decide) (by decide +kernel) (am_tab tk_X10_init 271 rfl) rfl ?_
  refine am_dup (q := 377) rfl (am_tab tk_X10_init 272 rfl) rfl ?_
  refine am_iconst (q := 378) (n := 3) (by decide) (am_tab tk_X10_init 273 rfl) rfl ?_
  refine am_bipush (q := 380) (n := 112) (by decide) rfl (am_tab tk_X10_init 274 rfl) rfl ?_
  refine am_cast (q := 381) (a := 69) (n := 5) (am_newAt_at hl) (by omega) (by omega) (by decide) (by decide +kernel) (am_tab tk_X10_init 275 rfl) rfl ?_
  refine am_dup (q := 382) rfl (am_tab tk_X10_init 276 rfl) rfl ?_
  refine am_iconst (q := 383) (n := 4) (by decide) (am_tab tk_X10_init 277 rfl) rfl ?_
  refine am_bipush (q := 385) (n := 115) (by decide) rfl (am_tab tk_X10_init 278 rfl) rfl ?_
  refine am_cast (q := 386) (a := 69) (n := 5) (am_newAt_at hl) (by omega) (by omega) (by decide) (by decide +kernel) (am_tab tk_X10_init 279 rfl) rfl ?_
  refine am_putR (q := 389) (k := 10) (n := 108) (j := 22) (am_newAt_old (a := 69) h5) (by decide) rfl (by decide) (Or.inr (Or.inr ⟨kf_X10_54, rfl, rfl, rfl⟩)) (am_tab tk_X10_init 280 rfl) rfl ?_
  exact K
theorem mi_14_len {σ : am_H} (hl : σ.1.length = 69) : (mi_14 σ).1.length = 70 := (am_newAt_len hl)
theorem mi_14_old {σ : am_H} {b : Nat} {q : Nat × Nat} (h : σ.1[b]? = some q) : (mi_14 σ).1[b]? = some q := (am_newAt_old (a := 69) h)
def mi_15 (σ : am_H) : am_H := (am_setR (am_setN (am_setN (am_setN (am_setN (am_setN (am_setN (am_newAt σ 70 13 6) 70 0 109) 70 1 111) 70 2 114) 70 3 116) 70 4 97) 70 5 108) 55 23 (some (70)))
set_option maxRecDepth 20000 in
theorem mi_15_s {Q : Option am_V → am_H → Prop} (σ : am_H) (hl : σ.1.length = 70) (h5 : σ.1[55]? = some (10, 108)) (K : am_wp M_X10_init Q 15 1667 427 [(0, am_r 55)] [] (mi_15 σ)) : am_wp M_X10_init Q 14 1661 389 [(0, am_r 55)] [] σ := by
  refine am_aload_n (q := 390) rfl (am_tab tk_X10_init 281 rfl) rfl ?_
  refine am_bipush (q := 392) (n := 6) (by decide) rfl (am_tab tk_X10_init 282 rfl) rfl ?_
  refine am_newAa (q := 394) (k := 13) (a := 70) (N := 6) hl (Or.inr (Or.inr ⟨rfl, rfl⟩)) ka_char rfl (by decide) (Nat.le_of_ble_eq_true rfl) (Nat.le_of_ble_eq_true rfl) (am_tab tk_X10_init 283 rfl) rfl ?_
  refine am_dup (q := 395) rfl (am_tab tk_X10_init 284 rfl) rfl ?_
  refine am_iconst (q := 396) (n := 0) (by decide) (am_tab tk_X10_init 285 rfl) rfl ?_
  refine am_bipush (q := 398) (n := 109) (by decide) rfl (am_tab tk_X10_init 286 rfl) rfl ?_
  refine am_cast (q := 399) (a := 70) (n := 6) (am_newAt_at hl) (by omega) (by omega) (by decide) (by decide +kernel) (am_tab tk_X10_init 287 rfl) rfl ?_
  refine am_dup (q := 400) rfl (am_tab tk_X10_init 288 rfl) rfl ?_
  refine am_iconst (q := 401) (n := 1) (by decide) (am_tab tk_X10_init 289 rfl) rfl ?_
  refine am_bipush (q := 403) (n := 111) (by decide) rfl (am_tab tk_X10_init 290 rfl) rfl ?_
  refine am_cast (q := 404) (a := 70) (n := 6) (am_newAt_at hl) (by omega) (by omega) (by decide) (by decide +kernel) (am_tab tk_X10_init 291 rfl) rfl ?_
  refine am_dup (q := 405) rfl (am_tab tk_X10_init 292 rfl) rfl ?_
  refine am_iconst (q := 406) (n := 2) (by decide) (am_tab tk_X10_init 293 rfl) rfl ?_
  refine am_bipush (q := 408) (n := 114) (by decide) rfl (am_tab tk_X10_init 294 rfl) rfl ?_
  refine am_cast (q := 409) (a := 70) (n := 6) (am_newAt_at hl) (by omega) (by omega) (by decide) (by decide +kernel) (am_tab tk_X10_init 295 rfl) rfl ?_
  refine am_dup (q := 410) rfl (am_tab tk_X10_init 296 rfl) rfl ?_
  refine am_iconst (q := 411) (n := 3) (by decide) (am_tab tk_X10_init 297 rfl) rfl ?_
  refine am_bipush (q := 413) (n := 116) (by decide) rfl (am_tab tk_X10_init 298 rfl) rfl ?_
  refine am_cast (q := 414) (a := 70) (n := 6) (am_newAt_at hl) (by omega) (by omega) (by decide) (by decide +kernel) (am_tab tk_X10_init 299 rfl) rfl ?_
  refine am_dup (q := 415) rfl (am_tab tk_X10_init 300 rfl) rfl ?_
  refine am_iconst (q := 416) (n := 4) (by decide) (am_tab tk_X10_init 301 rfl) rfl ?_
  refine am_bipush (q := 418) (n := 97) (by decide) rfl (am_tab tk_X10_init 302 rfl) rfl ?_
  refine am_cast (q := 419) (a := 70) (n := 6) (am_newAt_at hl) (by omega) (by omega) (by decide) (by decide +kernel) (am_tab tk_X10_init 303 rfl) rfl ?_
  refine am_dup (q := 420) rfl (am_tab tk_X10_init 304 rfl) rfl ?_
  refine am_iconst (q := 421) (n := 5) (by decide) (am_tab tk_X10_init 305 rfl) rfl ?_
  refine am_bipush (q := 423) (n := 108) (by decide) rfl (am_tab tk_X10_init 306 rfl) rfl ?_
  refine am_cast (q := 424) (a := 70) (n := 6) (am_newAt_at hl) (by omega) (by omega) (by decide) (by decide +kernel) (am_tab tk_X10_init 307 rfl) rfl ?_
  refine am_putR (q := 427) (k := 10) (n := 108) (j := 23) (am_newAt_old (a := 70) h5) (by decide) rfl (by decide) (Or.inr (Or.inr ⟨kf_X10_57, rfl, rfl, rfl⟩)) (am_tab tk_X10_init 308 rfl) rfl ?_
  exact K
theorem mi_15_len {σ : am_H} (hl : σ.1.length = 70) : (mi_15 σ).1.length = 71 := (am_newAt_len hl)
theorem mi_15_old {σ : am_H} {b : Nat} {q : Nat × Nat} (h : σ.1[b]? = some q) : (mi_15 σ).1[b]? = some q := (am_newAt_old (a := 70) h)
def mi_16 (σ : am_H) : am_H := (am_setR (am_setN (am_setN (am_setN (am_newAt σ 71 13 3) 71 0 100) 71 1 97) 71 2 121) 55 24 (some (71)))
set_option maxRecDepth 20000 in
theorem mi_16_s {Q : Option am_V → am_H → Prop} (σ : am_H) (hl : σ.1.length = 71) (h5 : σ.1[55]? = some (10, 108)) (K : am_wp M_X10_init Q 16 1670 449 [(0, am_r 55)] [] (mi_16 σ)) : am_wp M_X10_init Q 15 1667 427 [(0, am_r 55)] [] σ := by
  refine am_aload_n (q := 428) rfl (am_tab tk_X10_init 309 rfl) rfl ?_
  refine am_iconst (q := 429) (n := 3) (by decide) (am_tab tk_X10_init 310 rfl) rfl ?_
  refine am_newAa (q := 431) (k := 13) (a := 71) (N := 3) hl (Or.inr (Or.inr ⟨rfl, rfl⟩)) ka_char rfl (by decide) (Nat.le_of_ble_eq_true rfl) (Nat.le_of_ble_eq_true rfl) (am_tab tk_X10_init 311 rfl) rfl ?_
  refine am_dup (q := 432) rfl (am_tab tk_X10_init 312 rfl) rfl ?_
  refine am_iconst (q := 433) (n := 0) (by decide) (am_tab tk_X10_init 313 rfl) rfl ?_
  refine am_bipush (q := 435) (n := 100) (by decide) rfl (am_tab tk_X10_init 314 rfl) rfl ?_
  refine am_cast (q := 436) (a := 71) (n := 3) (am_newAt_at hl) (by omega) (by omega) (by decide) (by decide +kernel) (am_tab tk_X10_init 315 rfl) rfl ?_
  refine am_dup (q := 437) rfl (am_tab tk_X10_init 316 rfl) rfl ?_
  refine am_iconst (q := 438) (n := 1) (by decide) (am_tab tk_X10_init 317 rfl) rfl ?_
  refine am_bipush (q := 440) (n := 97) (by decide) rfl (am_tab tk_X10_init 318 rfl) rfl ?_
  refine am_cast (q := 441) (a := 71) (n := 3) (am_newAt_at hl) (by omega) (by omega) (by decide) (by decide +kernel) (am_tab tk_X10_init 319 rfl) rfl ?_
  refine am_dup (q := 442) rfl (am_tab tk_X10_init 320 rfl) rfl ?_
  refine am_iconst (q := 443) (n := 2) (by decide) (am_tab tk_X10_init 321 rfl) rfl ?_
  refine am_bipush (q := 445) (n := 121) (by decide) rfl (am_tab tk_X10_init 322 rfl) rfl ?_
  refine am_cast (q := 446) (a := 71) (n := 3) (am_newAt_at hl) (by omega) (by omega) (by decide) (by decide +kernel) (am_tab tk_X10_init 323 rfl) rfl ?_
  refine am_putR (q := 449) (k := 10) (n := 108) (j := 24) (am_newAt_old (a := 71) h5) (by decide) rfl (by decide) (Or.inr (Or.inr ⟨kf_X10_60, rfl, rfl, rfl⟩)) (am_tab tk_X10_init 324 rfl) rfl ?_
  exact K
theorem mi_16_len {σ : am_H} (hl : σ.1.length = 71) : (mi_16 σ).1.length = 72 := (am_newAt_len hl)
theorem mi_16_old {σ : am_H} {b : Nat} {q : Nat × Nat} (h : σ.1[b]? = some q) : (mi_16 σ).1[b]? = some q := (am_newAt_old (a := 71) h)
def mi_17 (σ : am_H) : am_H := (am_setR (am_setN (am_setN (am_setN (am_setN (am_newAt σ 72 13 4) 72 0 121) 72 1 101) 72 2 97) 72 3 114) 55 25 (some (72)))
set_option maxRecDepth 20000 in
theorem mi_17_s {Q : Option am_V → am_H → Prop} (σ : am_H) (hl : σ.1.length = 72) (h5 : σ.1[55]? = some (10, 108)) (K : am_wp M_X10_init Q 17 1674 476 [(0, am_r 55)] [] (mi_17 σ)) : am_wp M_X10_init Q 16 1670 449 [(0, am_r 55)] [] σ := by
  refine am_aload_n (q := 450) rfl (am_tab tk_X10_init 325 rfl) rfl ?_
  refine am_iconst (q := 451) (n := 4) (by decide) (am_tab tk_X10_init 326 rfl) rfl ?_
  refine am_newAa (q := 453) (k := 13) (a := 72) (N := 4) hl (Or.inr (Or.inr ⟨rfl, rfl⟩)) ka_char rfl (by decide) (Nat.le_of_ble_eq_true rfl) (Nat.le_of_ble_eq_true rfl) (am_tab tk_X10_init 327 rfl) rfl ?_
  refine am_dup (q := 454) rfl (am_tab tk_X10_init 328 rfl) rfl ?_
  refine am_iconst (q := 455) (n := 0) (by decide) (am_tab tk_X10_init 329 rfl) rfl ?_
  refine am_bipush (q := 457) (n := 121) (by decide) rfl (am_tab tk_X10_init 330 rfl) rfl ?_
  refine am_cast (q := 458) (a := 72) (n := 4) (am_newAt_at hl) (by omega) (by omega) (by decide) (by decide +kernel) (am_tab tk_X10_init 331 rfl) rfl ?_
  refine am_dup (q := 459) rfl (am_tab tk_X10_init 332 rfl) rfl ?_
  refine am_iconst (q := 460) (n := 1) (by decide) (am_tab tk_X10_init 333 rfl) rfl ?_
  refine am_bipush (q := 462) (n := 101) (by decide) rfl (am_tab tk_X10_init 334 rfl) rfl ?_
  refine am_cast (q := 463) (a := 72) (n := 4) (am_newAt_at hl) (by omega) (by omega) (by decide) (by decide +kernel) (am_tab tk_X10_init 335 rfl) rfl ?_
  refine am_dup (q := 464) rfl (am_tab tk_X10_init 336 rfl) rfl ?_
  refine am_iconst (q := 465) (n := 2) (by decide) (am_tab tk_X10_init 337 rfl) rfl ?_
  refine am_bipush (q := 467) (n := 97) (by decide) rfl (am_tab tk_X10_init 338 rfl) rfl ?_
  refine am_cast (q := 468) (a := 72) (n := 4) (am_newAt_at hl) (by omega) (by omega) (by decide) (by decide +kernel) (am_tab tk_X10_init 339 rfl) rfl ?_
  refine am_dup (q := 469) rfl (am_tab tk_X10_init 340 rfl) rfl ?_
  refine am_iconst (q := 470) (n := 3) (by decide) (am_tab tk_X10_init 341 rfl) rfl ?_
  refine am_bipush (q := 472) (n := 114) (by decide) rfl (am_tab tk_X10_init 342 rfl) rfl ?_
  refine am_cast (q := 473) (a := 72) (n := 4) (am_newAt_at hl) (by omega) (by omega) (by decide) (by decide +kernel) (am_tab tk_X10_init 343 rfl) rfl ?_
  refine am_putR (q := 476) (k := 10) (n := 108) (j := 25) (am_newAt_old (a := 72) h5) (by decide) rfl (by decide) (Or.inr (Or.inr ⟨kf_X10_63, rfl, rfl, rfl⟩)) (am_tab tk_X10_init 344 rfl) rfl ?_
  exact K
theorem mi_17_len {σ : am_H} (hl : σ.1.length = 72) : (mi_17 σ).1.length = 73 := (am_newAt_len hl)
theorem mi_17_old {σ : am_H} {b : Nat} {q : Nat × Nat} (h : σ.1[b]? = some q) : (mi_17 σ).1[b]? = some q := (am_newAt_old (a := 72) h)
def mi_18 (σ : am_H) : am_H := (am_setR (am_setN (am_setN (am_setN (am_newAt σ 73 13 3) 73 0 97) 73 1 103) 73 2 111) 55 26 (some (73)))
set_option maxRecDepth 20000 in
theorem mi_18_s {Q : Option am_V → am_H → Prop} (σ : am_H) (hl : σ.1.length = 73) (h5 : σ.1[55]? = some (10, 108)) (K : am_wp M_X10_init Q 18 1677 498 [(0, am_r 55)] [] (mi_18 σ)) : am_wp M_X10_init Q 17 1674 476 [(0, am_r 55)] [] σ := by
  refine am_aload_n (q := 477) rfl (am_tab tk_X10_init 345 rfl) rfl ?_
  refine am_iconst (q := 478) (n := 3) (by decide) (am_tab tk_X10_init 346 rfl) rfl ?_
  refine am_newAa (q := 480) (k := 13) (a := 73) (N := 3) hl (Or.inr (Or.inr ⟨rfl, rfl⟩)) ka_char rfl (by decide) (Nat.le_of_ble_eq_true rfl) (Nat.le_of_ble_eq_true rfl) (am_tab tk_X10_init 347 rfl) rfl ?_
  refine am_dup (q := 481) rfl (am_tab tk_X10_init 348 rfl) rfl ?_
  refine am_iconst (q := 482) (n := 0) (by decide) (am_tab tk_X10_init 349 rfl) rfl ?_
  refine am_bipush (q := 484) (n := 97) (by decide) rfl (am_tab tk_X10_init 350 rfl) rfl ?_
  refine am_cast (q := 485) (a := 73) (n := 3) (am_newAt_at hl) (by omega) (by omega) (by decide) (by decide +kernel) (am_tab tk_X10_init 351 rfl) rfl ?_
  refine am_dup (q := 486) rfl (am_tab tk_X10_init 352 rfl) rfl ?_
  refine am_iconst (q := 487) (n := 1) (by decide) (am_tab tk_X10_init 353 rfl) rfl ?_
  refine am_bipush (q := 489) (n := 103) (by decide) rfl (am_tab tk_X10_init 354 rfl) rfl ?_
  refine am_cast (q := 490) (a := 73) (n := 3) (am_newAt_at hl) (by omega) (by omega) (by decide) (by decide +kernel) (am_tab tk_X10_init 355 rfl) rfl ?_
  refine am_dup (q := 491) rfl (am_tab tk_X10_init 356 rfl) rfl ?_
  refine am_iconst (q := 492) (n := 2) (by decide) (am_tab tk_X10_init 357 rfl) rfl ?_
  refine am_bipush (q := 494) (n := 111) (by decide) rfl (am_tab tk_X10_init 358 rfl) rfl ?_
  refine am_cast (q := 495) (a := 73) (n := 3) (am_newAt_at hl) (by omega) (by omega) (by decide) (by decide +kernel) (am_tab tk_X10_init 359 rfl) rfl ?_
  refine am_putR (q := 498) (k := 10) (n := 108) (j := 26) (am_newAt_old (a := 73) h5) (by decide) rfl (by decide) (Or.inr (Or.inr ⟨kf_X10_66, rfl, rfl, rfl⟩)) (am_tab tk_X10_init 360 rfl) rfl ?_
  exact K
theorem mi_18_len {σ : am_H} (hl : σ.1.length = 73) : (mi_18 σ).1.length = 74 := (am_newAt_len hl)
theorem mi_18_old {σ : am_H} {b : Nat} {q : Nat × Nat} (h : σ.1[b]? = some q) : (mi_18 σ).1[b]? = some q := (am_newAt_old (a := 73) h)
def mi_19 (σ : am_H) : am_H := (am_setR (am_setN (am_setN (am_setN (am_setN (am_setN (am_newAt σ 74 13 5) 74 0 102) 74 1 101) 74 2 97) 74 3 115) 74 4 116) 55 27 (some (74)))
set_option maxRecDepth 20000 in
theorem mi_19_s {Q : Option am_V → am_H → Prop} (σ : am_H) (hl : σ.1.length = 74) (h5 : σ.1[55]? = some (10, 108)) (K : am_wp M_X10_init Q 19 1682 530 [(0, am_r 55)] [] (mi_19 σ)) : am_wp M_X10_init Q 18 1677 498 [(0, am_r 55)] [] σ := by
  refine am_aload_n (q := 499) rfl (am_tab tk_X10_init 361 rfl) rfl ?_
  refine am_iconst (q := 500) (n := 5) (by decide) (am_tab tk_X10_init 362 rfl) rfl ?_
  refine am_newAa (q := 502) (k := 13) (a := 74) (N := 5) hl (Or.inr (Or.inr ⟨rfl, rfl⟩)) ka_char rfl (by decide) (Nat.le_of_ble_eq_true rfl) (Nat.le_of_ble_eq_true rfl) (am_tab tk_X10_init 363 rfl) rfl ?_
  refine am_dup (q := 503) rfl (am_tab tk_X10_init 364 rfl) rfl ?_
  refine am_iconst (q := 504) (n := 0) (by decide) (am_tab tk_X10_init 365 rfl) rfl ?_
  refine am_bipush (q := 506) (n := 102) (by decide) rfl (am_tab tk_X10_init 366 rfl) rfl ?_
  refine am_cast (q := 507) (a := 74) (n := 5) (am_newAt_at hl) (by omega) (by omega) (by decide) (by decide +kernel) (am_tab tk_X10_init 367 rfl) rfl ?_
  refine am_dup (q := 508) rfl (am_tab tk_X10_init 368 rfl) rfl ?_
  refine am_iconst (q := 509) (n := 1) (by decide) (am_tab tk_X10_init 369 rfl) rfl ?_
  refine am_bipush (q := 511) (n := 101) (by decide) rfl (am_tab tk_X10_init 370 rfl) rfl ?_
  refine am_cast (q := 512) (a := 74) (n := 5) (am_newAt_at hl) (by omega) (by omega) (by decide) (by decide +kernel) (am_tab tk_X10_init 371 rfl) rfl ?_
  refine am_dup (q := 513) rfl (am_tab tk_X10_init 372 rfl) rfl ?_
  refine am_iconst (q := 514) (n := 2) (by decide) (am_tab tk_X10_init 373 rfl) rfl ?_
  refine am_bipush (q := 516) (n := 97) (by decide) rfl (am_tab tk_X10_init 374 rfl) rfl ?_
  refine am_cast (q := 517) (a := 74) (n := 5) (am_newAt_at hl) (by omega) (by omega) (by decide) (by decide +kernel) (am_tab tk_X10_init 375 rfl) rfl ?_
  refine am_dup (q := 518) rfl (am_tab tk_X10_init 376 rfl) rfl ?_
  refine am_iconst (q := 519) (n := 3) (by decide) (am_tab tk_X10_init 377 rfl) rfl ?_
  refine am_bipush (q := 521) (n := 115) (by decide) rfl (am_tab tk_X10_init 378 rfl) rfl ?_
  refine am_cast (q := 522) (a := 74) (n := 5) (am_newAt_at hl) (by omega) (by omega) (by decide) (by decide +kernel) (am_tab tk_X10_init 379 rfl) rfl ?_
  refine am_dup (q := 523) rfl (am_tab tk_X10_init 380 rfl) rfl ?_
  refine am_iconst (q := 524) (n := 4) (by decide) (am_tab tk_X10_init 381 rfl) rfl ?_
  refine am_bipush (q := 526) (n := 116) (by decide) rfl (am_tab tk_X10_init 382 rfl) rfl ?_
  refine am_cast (q := 527) (a := 74) (n := 5) (am_newAt_at hl) (by omega) (by omega) (by decide) (by decide +kernel) (am_tab tk_X10_init 383 rfl) rfl ?_
  refine am_putR (q := 530) (k := 10) (n := 108) (j := 27) (am_newAt_old (a := 74) h5) (by decide) rfl (by decide) (Or.inr (Or.inr ⟨kf_X10_69, rfl, rfl, rfl⟩)) (am_tab tk_X10_init 384 rfl) rfl ?_
  exact K
theorem mi_19_len {σ : am_H} (hl : σ.1.length = 74) : (mi_19 σ).1.length = 75 := (am_newAt_len hl)
theorem mi_19_old {σ : am_H} {b : Nat} {q : Nat × Nat} (h : σ.1[b]? = some q) : (mi_19 σ).1[b]? = some q := (am_newAt_old (a := 74) h)
def mi_20 (σ : am_H) : am_H := (am_setR (am_setN (am_setN (am_setN (am_setN (am_setN (am_newAt σ 75 13 5) 75 0 111) 75 1 116) 75 2 104) 75 3 101) 75 4 114) 55 28 (some (75)))
set_option maxRecDepth 20000 in
theorem mi_20_s {Q : Option am_V → am_H → Prop} (σ : am_H) (hl : σ.1.length = 75) (h5 : σ.1[55]? = some (10, 108)) (K : am_wp M_X10_init Q 20 1687 562 [(0, am_r 55)] [] (mi_20 σ)) : am_wp M_X10_init Q 19 1682 530 [(0, am_r 55)] [] σ := by
  refine am_aload_n (q := 531) rfl (am_tab tk_X10_init 385 rfl) rfl ?_
  refine am_iconst (q := 532) (n := 5) (by decide) (am_tab tk_X10_init 386 rfl) rfl ?_
  refine am_newAa (q := 534) (k := 13) (a := 75) (N := 5) hl (Or.inr (Or.inr ⟨rfl, rfl⟩)) ka_char rfl (by decide) (Nat.le_of_ble_eq_true rfl) (Nat.le_of_ble_eq_true rfl) (am_tab tk_X10_init 387 rfl) rfl ?_
  refine am_dup (q := 535) rfl (am_tab tk_X10_init 388 rfl) rfl ?_
  refine am_iconst (q := 536) (n := 0) (by decide) (am_tab tk_X10_init 389 rfl) rfl ?_
  refine am_bipush (q := 538) (n := 111) (by decide) rfl (am_tab tk_X10_init 390 rfl) rfl ?_
  refine am_cast (q := 539) (a := 75) (n := 5) (am_newAt_at hl) (by omega) (by omega) (by decide) (by decide +kernel) (am_tab tk_X10_init 391 rfl) rfl ?_
  refine am_dup (q := 540) rfl (am_tab tk_X10_init 392 rfl) rfl ?_
  refine am_iconst (q := 541) (n := 1) (by decide) (am_tab tk_X10_init 393 rfl) rfl ?_
  refine am_bipush (q := 543) (n := 116) (by decide) rfl (am_tab tk_X10_init 394 rfl) rfl ?_
  refine am_cast (q := 544) (a := 75) (n := 5) (am_newAt_at hl) (by omega) (by omega) (by decide) (by decide +kernel) (am_tab tk_X10_init 395 rfl) rfl ?_
  refine am_dup (q := 545) rfl (am_tab tk_X10_init 396 rfl) rfl ?_
  refine am_iconst (q := 546) (n := 2) (by decide) (am_tab tk_X10_init 397 rfl) rfl ?_
  refine am_bipush (q := 548) (n := 104) (by decide) rfl (am_tab tk_X10_init 398 rfl) rfl ?_
  refine am_cast (q := 549) (a := 75) (n := 5) (am_newAt_at hl) (by omega) (by omega) (by decide) (by decide +kernel) (am_tab tk_X10_init 399 rfl) rfl ?_
  refine am_dup (q := 550) rfl (am_tab tk_X10_init 400 rfl) rfl ?_
  refine am_iconst (q := 551) (n := 3) (by decide) (am_tab tk_X10_init 401 rfl) rfl ?_
  refine am_bipush (q := 553) (n := 101) (by decide) rfl (am_tab tk_X10_init 402 rfl) rfl ?_
  refine am_cast (q := 554) (a := 75) (n := 5) (am_newAt_at hl) (by omega) (by omega) (by decide) (by decide +kernel) (am_tab tk_X10_init 403 rfl) rfl ?_
  refine am_dup (q := 555) rfl (am_tab tk_X10_init 404 rfl) rfl ?_
  refine am_iconst (q := 556) (n := 4) (by decide) (am_tab tk_X10_init 405 rfl) rfl ?_
  refine am_bipush (q := 558) (n := 114) (by decide) rfl (am_tab tk_X10_init 406 rfl) rfl ?_
  refine am_cast (q := 559) (a := 75) (n := 5) (am_newAt_at hl) (by omega) (by omega) (by decide) (by decide +kernel) (am_tab tk_X10_init 407 rfl) rfl ?_
  refine am_putR (q := 562) (k := 10) (n := 108) (j := 28) (am_newAt_old (a := 75) h5) (by decide) rfl (by decide) (Or.inr (Or.inr ⟨kf_X10_72, rfl, rfl, rfl⟩)) (am_tab tk_X10_init 408 rfl) rfl ?_
  exact K
theorem mi_20_len {σ : am_H} (hl : σ.1.length = 75) : (mi_20 σ).1.length = 76 := (am_newAt_len hl)
theorem mi_20_old {σ : am_H} {b : Nat} {q : Nat × Nat} (h : σ.1[b]? = some q) : (mi_20 σ).1[b]? = some q := (am_newAt_old (a := 75) h)
def mi_21 (σ : am_H) : am_H := (am_setR (am_setN (am_setN (am_setN (am_setN (am_setN (am_setN (am_newAt σ 76 13 6) 76 0 110) 76 1 117) 76 2 109) 76 3 98) 76 4 101) 76 5 114) 55 29 (some (76)))
set_option maxRecDepth 20000 in
theorem mi_21_s {Q : Option am_V → am_H → Prop} (σ : am_H) (hl : σ.1.length = 76) (h5 : σ.1[55]? = some (10, 108)) (K : am_wp M_X10_init Q 21 1693 600 [(0, am_r 55)] [] (mi_21 σ)) : am_wp M_X10_init Q 20 1687 562 [(0, am_r 55)] [] σ := by
  refine am_aload_n (q := 563) rfl (am_tab tk_X10_init 409 rfl) rfl ?_
  refine am_bipush (q := 565) (n := 6) (by decide) rfl (am_tab tk_X10_init 410 rfl) rfl ?_
  refine am_newAa (q := 567) (k := 13) (a := 76) (N := 6) hl (Or.inr (Or.inr ⟨rfl, rfl⟩)) ka_char rfl (by decide) (Nat.le_of_ble_eq_true rfl) (Nat.le_of_ble_eq_true rfl) (am_tab tk_X10_init 411 rfl) rfl ?_
  refine am_dup (q := 568) rfl (am_tab tk_X10_init 412 rfl) rfl ?_
  refine am_iconst (q := 569) (n := 0) (by decide) (am_tab tk_X10_init 413 rfl) rfl ?_
  refine am_bipush (q := 571) (n := 110) (by decide) rfl (am_tab tk_X10_init 414 rfl) rfl ?_
  refine am_cast (q := 572) (a := 76) (n := 6) (am_newAt_at hl) (by omega) (by omega) (by decide) (by decide +kernel) (am_tab tk_X10_init 415 rfl) rfl ?_
  refine am_dup (q := 573) rfl (am_tab tk_X10_init 416 rfl) rfl ?_
  refine am_iconst (q := 574) (n := 1) (by decide) (am_tab tk_X10_init 417 rfl) rfl ?_
  refine am_bipush (q := 576) (n := 117) (by decide) rfl (am_tab tk_X10_init 418 rfl) rfl ?_
  refine am_cast (q := 577) (a := 76) (n := 6) (am_newAt_at hl) (by omega) (by omega) (by decide) (by decide +kernel) (am_tab tk_X10_init 419 rfl) rfl ?_
  refine am_dup (q := 578) rfl (am_tab tk_X10_init 420 rfl) rfl ?_
  refine am_iconst (q := 579) (n := 2) (by decide) (am_tab tk_X10_init 421 rfl) rfl ?_
  refine am_bipush (q := 581) (n := 109) (by decide) rfl (am_tab tk_X10_init 422 rfl) rfl ?_
  refine am_cast (q := 582) (a := 76) (n := 6) (am_newAt_at hl) (by omega) (by omega) (by decide) (by decide +kernel) (am_tab tk_X10_init 423 rfl) rfl ?_
  refine am_dup (q := 583) rfl (am_tab tk_X10_init 424 rfl) rfl ?_
  refine am_iconst (q := 584) (n := 3) (by decide) (am_tab tk_X10_init 425 rfl) rfl ?_
  refine am_bipush (q := 586) (n := 98) (by decide) rfl (am_tab tk_X10_init 426 rfl) rfl ?_
  refine am_cast (q := 587) (a := 76) (n := 6) (am_newAt_at hl) (by omega) (by omega) (by decide) (by decide +kernel) (am_tab tk_X10_init 427 rfl) rfl ?_
  refine am_dup (q := 588) rfl (am_tab tk_X10_init 428 rfl) rfl ?_
  refine am_iconst (q := 589) (n := 4) (by decide) (am_tab tk_X10_init 429 rfl) rfl ?_
  refine am_bipush (q := 591) (n := 101) (by decide) rfl (am_tab tk_X10_init 430 rfl) rfl ?_
  refine am_cast (q := 592) (a := 76) (n := 6) (am_newAt_at hl) (by omega) (by omega) (by decide) (by decide +kernel) (am_tab tk_X10_init 431 rfl) rfl ?_
  refine am_dup (q := 593) rfl (am_tab tk_X10_init 432 rfl) rfl ?_
  refine am_iconst (q := 594) (n := 5) (by decide) (am_tab tk_X10_init 433 rfl) rfl ?_
  refine am_bipush (q := 596) (n := 114) (by decide) rfl (am_tab tk_X10_init 434 rfl) rfl ?_
  refine am_cast (q := 597) (a := 76) (n := 6) (am_newAt_at hl) (by omega) (by omega) (by decide) (by decide +kernel) (am_tab tk_X10_init 435 rfl) rfl ?_
  refine am_putR (q := 600) (k := 10) (n := 108) (j := 29) (am_newAt_old (a := 76) h5) (by decide) rfl (by decide) (Or.inr (Or.inr ⟨kf_X10_75, rfl, rfl, rfl⟩)) (am_tab tk_X10_init 436 rfl) rfl ?_
  exact K
theorem mi_21_len {σ : am_H} (hl : σ.1.length = 76) : (mi_21 σ).1.length = 77 := (am_newAt_len hl)
theorem mi_21_old {σ : am_H} {b : Nat} {q : Nat × Nat} (h : σ.1[b]? = some q) : (mi_21 σ).1[b]? = some q := (am_newAt_old (a := 76) h)
def mi_22 (σ : am_H) : am_H := (am_setR (am_setN (am_setN (am_setN (am_setN (am_newAt σ 77 13 4) 77 0 100) 77 1 101) 77 2 97) 77 3 100) 55 30 (some (77)))
set_option maxRecDepth 20000 in
theorem mi_22_s {Q : Option am_V → am_H → Prop} (σ : am_H) (hl : σ.1.length = 77) (h5 : σ.1[55]? = some (10, 108)) (K : am_wp M_X10_init Q 22 1697 627 [(0, am_r 55)] [] (mi_22 σ)) : am_wp M_X10_init Q 21 1693 600 [(0, am_r 55)] [] σ := by
  refine am_aload_n (q := 601) rfl (am_tab tk_X10_init 437 rfl) rfl ?_
  refine am_iconst (q := 602) (n := 4) (by decide) (am_tab tk_X10_init 438 rfl) rfl ?_
  refine am_newAa (q := 604) (k := 13) (a := 77) (N := 4) hl (Or.inr (Or.inr ⟨rfl, rfl⟩)) ka_char rfl (by decide) (Nat.le_of_ble_eq_true rfl) (Nat.le_of_ble_eq_true rfl) (am_tab tk_X10_init 439 rfl) rfl ?_
  refine am_dup (q := 605) rfl (am_tab tk_X10_init 440 rfl) rfl ?_
  refine am_iconst (q := 606) (n := 0) (by decide) (am_tab tk_X10_init 441 rfl) rfl ?_
  refine am_bipush (q := 608) (n := 100) (by decide) rfl (am_tab tk_X10_init 442 rfl) rfl ?_
  refine am_cast (q := 609) (a := 77) (n := 4) (am_newAt_at hl) (by omega) (by omega) (by decide) (by decide +kernel) (am_tab tk_X10_init 443 rfl) rfl ?_
  refine am_dup (q := 610) rfl (am_tab tk_X10_init 444 rfl) rfl ?_
  refine am_iconst (q := 611) (n := 1) (by decide) (am_tab tk_X10_init 445 rfl) rfl ?_
  refine am_bipush (q := 613) (n := 101) (by decide) rfl (am_tab tk_X10_init 446 rfl) rfl ?_
  refine am_cast (q := 614) (a := 77) (n := 4) (am_newAt_at hl) (by omega) (by omega) (by decide) (by decide +kernel) (am_tab tk_X10_init 447 rfl) rfl ?_
  refine am_dup (q := 615) rfl (am_tab tk_X10_init 448 rfl) rfl ?_
  refine am_iconst (q := 616) (n := 2) (by decide) (am_tab tk_X10_init 449 rfl) rfl ?_
  refine am_bipush (q := 618) (n := 97) (by decide) rfl (am_tab tk_X10_init 450 rfl) rfl ?_
  refine am_cast (q := 619) (a := 77) (n := 4) (am_newAt_at hl) (by omega) (by omega) (by decide) (by decide +kernel) (am_tab tk_X10_init 451 rfl) rfl ?_
  refine am_dup (q := 620) rfl (am_tab tk_X10_init 452 rfl) rfl ?_
  refine am_iconst (q := 621) (n := 3) (by decide) (am_tab tk_X10_init 453 rfl) rfl ?_
  refine am_bipush (q := 623) (n := 100) (by decide) rfl (am_tab tk_X10_init 454 rfl) rfl ?_
  refine am_cast (q := 624) (a := 77) (n := 4) (am_newAt_at hl) (by omega) (by omega) (by decide) (by decide +kernel) (am_tab tk_X10_init 455 rfl) rfl ?_
  refine am_putR (q := 627) (k := 10) (n := 108) (j := 30) (am_newAt_old (a := 77) h5) (by decide) rfl (by decide) (Or.inr (Or.inr ⟨kf_X10_78, rfl, rfl, rfl⟩)) (am_tab tk_X10_init 456 rfl) rfl ?_
  exact K
theorem mi_22_len {σ : am_H} (hl : σ.1.length = 77) : (mi_22 σ).1.length = 78 := (am_newAt_len hl)
theorem mi_22_old {σ : am_H} {b : Nat} {q : Nat × Nat} (h : σ.1[b]? = some q) : (mi_22 σ).1[b]? = some q := (am_newAt_old (a := 77) h)
def mi_23 (σ : am_H) : am_H := (am_setR (am_setN (am_setN (am_setN (am_setN (am_setN (am_newAt σ 78 13 5) 78 0 107) 78 1 110) 78 2 111) 78 3 119) 78 4 115) 55 31 (some (78)))
set_option maxRecDepth 20000 in
theorem mi_23_s {Q : Option am_V → am_H → Prop} (σ : am_H) (hl : σ.1.length = 78) (h5 : σ.1[55]? = some (10, 108)) (K : am_wp M_X10_init Q 23 1702 659 [(0, am_r 55)] [] (mi_23 σ)) : am_wp M_X10_init Q 22 1697 627 [(0, am_r 55)] [] σ := by
  refine am_aload_n (q := 628) rfl (am_tab tk_X10_init 457 rfl) rfl ?_
  refine am_iconst (q := 629) (n := 5) (by decide) (am_tab tk_X10_init 458 rfl) rfl ?_
  refine am_newAa (q := 631) (k := 13) (a := 78) (N := 5) hl (Or.inr (Or.inr ⟨rfl, rfl⟩)) ka_char rfl (by decide) (Nat.le_of_ble_eq_true rfl) (Nat.le_of_ble_eq_true rfl) (am_tab tk_X10_init 459 rfl) rfl ?_
  refine am_dup (q := 632) rfl (am_tab tk_X10_init 460 rfl) rfl ?_
  refine am_iconst (q := 633) (n := 0) (by decide) (am_tab tk_X10_init 461 rfl) rfl ?_
  refine am_bipush (q := 635) (n := 107) (by decide) rfl (am_tab tk_X10_init 462 rfl) rfl ?_
  refine am_cast (q := 636) (a := 78) (n := 5) (am_newAt_at hl) (by omega) (by omega) (by decide) (by decide +kernel) (am_tab tk_X10_init 463 rfl) rfl ?_
  refine am_dup (q := 637) rfl (am_tab tk_X10_init 464 rfl) rfl ?_
  refine am_iconst (q := 638) (n := 1) (by decide) (am_tab tk_X10_init 465 rfl) rfl ?_
  refine am_bipush (q := 640) (n := 110) (by decide) rfl (am_tab tk_X10_init 466 rfl) rfl ?_
  refine am_cast (q := 641) (a := 78) (n := 5) (am_newAt_at hl) (by omega) (by omega) (by decide) (by decide +kernel) (am_tab tk_X10_init 467 rfl) rfl ?_
  refine am_dup (q := 642) rfl (am_tab tk_X10_init 468 rfl) rfl ?_
  refine am_iconst (q := 643) (n := 2) (by decide) (am_tab tk_X10_init 469 rfl) rfl ?_
  refine am_bipush (q := 645) (n := 111) (by decide) rfl (am_tab tk_X10_init 470 rfl) rfl ?_
  refine am_cast (q := 646) (a := 78) (n := 5) (am_newAt_at hl) (by omega) (by omega) (by decide) (by decide +kernel) (am_tab tk_X10_init 471 rfl) rfl ?_
  refine am_dup (q := 647) rfl (am_tab tk_X10_init 472 rfl) rfl ?_
  refine am_iconst (q := 648) (n := 3) (by decide) (am_tab tk_X10_init 473 rfl) rfl ?_
  refine am_bipush (q := 650) (n := 119) (by decide) rfl (am_tab tk_X10_init 474 rfl) rfl ?_
  refine am_cast (q := 651) (a := 78) (n := 5) (am_newAt_at hl) (by omega) (by omega) (by decide) (by decide +kernel) (am_tab tk_X10_init 475 rfl) rfl ?_
  refine am_dup (q := 652) rfl (am_tab tk_X10_init 476 rfl) rfl ?_
  refine am_iconst (q := 653) (n := 4) (by decide) (am_tab tk_X10_init 477 rfl) rfl ?_
  refine am_bipush (q := 655) (n := 115) (by decide) rfl (am_tab tk_X10_init 478 rfl) rfl ?_
  refine am_cast (q := 656) (a := 78) (n := 5) (am_newAt_at hl) (by omega) (by omega) (by decide) (by decide +kernel) (am_tab tk_X10_init 479 rfl) rfl ?_
  refine am_putR (q := 659) (k := 10) (n := 108) (j := 31) (am_newAt_old (a := 78) h5) (by decide) rfl (by decide) (Or.inr (Or.inr ⟨kf_X10_81, rfl, rfl, rfl⟩)) (am_tab tk_X10_init 480 rfl) rfl ?_
  exact K
theorem mi_23_len {σ : am_H} (hl : σ.1.length = 78) : (mi_23 σ).1.length = 79 := (am_newAt_len hl)
theorem mi_23_old {σ : am_H} {b : Nat} {q : Nat × Nat} (h : σ.1[b]? = some q) : (mi_23 σ).1[b]? = some q := (am_newAt_old (a := 78) h)
def mi_24 (σ : am_H) : am_H := (am_setR (am_setN (am_setN (am_newAt σ 79 13 2) 79 0 111) 79 1 114) 55 32 (some (79)))
set_option maxRecDepth 20000 in
theorem mi_24_s {Q : Option am_V → am_H → Prop} (σ : am_H) (hl : σ.1.length = 79) (h5 : σ.1[55]? = some (10, 108)) (K : am_wp M_X10_init Q 24 1704 676 [(0, am_r 55)] [] (mi_24 σ)) : am_wp M_X10_init Q 23 1702 659 [(0, am_r 55)] [] σ := by
  refine am_aload_n (q := 660) rfl (am_tab tk_X10_init 481 rfl) rfl ?_
  refine am_iconst (q := 661) (n := 2) (by decide) (am_tab tk_X10_init 482 rfl) rfl ?_
  refine am_newAa (q := 663) (k := 13) (a := 79) (N := 2) hl (Or.inr (Or.inr ⟨rfl, rfl⟩)) ka_char rfl (by decide) (Nat.le_of_ble_eq_true rfl) (Nat.le_of_ble_eq_true rfl) (am_tab tk_X10_init 483 rfl) rfl ?_
  refine am_dup (q := 664) rfl (am_tab tk_X10_init 484 rfl) rfl ?_
  refine am_iconst (q := 665) (n := 0) (by decide) (am_tab tk_X10_init 485 rfl) rfl ?_
  refine am_bipush (q := 667) (n := 111) (by decide) rfl (am_tab tk_X10_init 486 rfl) rfl ?_
  refine am_cast (q := 668) (a := 79) (n := 2) (am_newAt_at hl) (by omega) (by omega) (by decide) (by decide +kernel) (am_tab tk_X10_init 487 rfl) rfl ?_
  refine am_dup (q := 669) rfl (am_tab tk_X10_init 488 rfl) rfl ?_
  refine am_iconst (q := 670) (n := 1) (by decide) (am_tab tk_X10_init 489 rfl) rfl ?_
  refine am_bipush (q := 672) (n := 114) (by decide) rfl (am_tab tk_X10_init 490 rfl) rfl ?_
  refine am_cast (q := 673) (a := 79) (n := 2) (am_newAt_at hl) (by omega) (by omega) (by decide) (by decide +kernel) (am_tab tk_X10_init 491 rfl) rfl ?_
  refine am_putR (q := 676) (k := 10) (n := 108) (j := 32) (am_newAt_old (a := 79) h5) (by decide) rfl (by decide) (Or.inr (Or.inr ⟨kf_X10_84, rfl, rfl, rfl⟩)) (am_tab tk_X10_init 492 rfl) rfl ?_
  exact K
theorem mi_24_len {σ : am_H} (hl : σ.1.length = 79) : (mi_24 σ).1.length = 80 := (am_newAt_len hl)
theorem mi_24_old {σ : am_H} {b : Nat} {q : Nat × Nat} (h : σ.1[b]? = some q) : (mi_24 σ).1[b]? = some q := (am_newAt_old (a := 79) h)
def mi_25 (σ : am_H) : am_H := (am_setR (am_setN (am_setN (am_setN (am_newAt σ 80 13 3) 80 0 97) 80 1 110) 80 2 100) 55 33 (some (80)))
set_option maxRecDepth 20000 in
theorem mi_25_s {Q : Option am_V → am_H → Prop} (σ : am_H) (hl : σ.1.length = 80) (h5 : σ.1[55]? = some (10, 108)) (K : am_wp M_X10_init Q 25 1707 698 [(0, am_r 55)] [] (mi_25 σ)) : am_wp M_X10_init Q 24 1704 676 [(0, am_r 55)] [] σ := by
  refine am_aload_n (q := 677) rfl (am_tab tk_X10_init 493 rfl) rfl ?_
  refine am_iconst (q := 678) (n := 3) (by decide) (am_tab tk_X10_init 494 rfl) rfl ?_
  refine am_newAa (q := 680) (k := 13) (a := 80) (N := 3) hl (Or.inr (Or.inr ⟨rfl, rfl⟩)) ka_char rfl (by decide) (Nat.le_of_ble_eq_true rfl) (Nat.le_of_ble_eq_true rfl) (am_tab tk_X10_init 495 rfl) rfl ?_
  refine am_dup (q := 681) rfl (am_tab tk_X10_init 496 rfl) rfl ?_
  refine am_iconst (q := 682) (n := 0) (by decide) (am_tab tk_X10_init 497 rfl) rfl ?_
  refine am_bipush (q := 684) (n := 97) (by decide) rfl (am_tab tk_X10_init 498 rfl) rfl ?_
  refine am_cast (q := 685) (a := 80) (n := 3) (am_newAt_at hl) (by omega) (by omega) (by decide) (by decide +kernel) (am_tab tk_X10_init 499 rfl) rfl ?_
  refine am_dup (q := 686) rfl (am_tab tk_X10_init 500 rfl) rfl ?_
  refine am_iconst (q := 687) (n := 1) (by decide) (am_tab tk_X10_init 501 rfl) rfl ?_
  refine am_bipush (q := 689) (n := 110) (by decide) rfl (am_tab tk_X10_init 502 rfl) rfl ?_
  refine am_cast (q := 690) (a := 80) (n := 3) (am_newAt_at hl) (by omega) (by omega) (by decide) (by decide +kernel) (am_tab tk_X10_init 503 rfl) rfl ?_
  refine am_dup (q := 691) rfl (am_tab tk_X10_init 504 rfl) rfl ?_
  refine am_iconst (q := 692) (n := 2) (by decide) (am_tab tk_X10_init 505 rfl) rfl ?_
  refine am_bipush (q := 694) (n := 100) (by decide) rfl (am_tab tk_X10_init 506 rfl) rfl ?_
  refine am_cast (q := 695) (a := 80) (n := 3) (am_newAt_at hl) (by omega) (by omega) (by decide) (by decide +kernel) (am_tab tk_X10_init 507 rfl) rfl ?_
  refine am_putR (q := 698) (k := 10) (n := 108) (j := 33) (am_newAt_old (a := 80) h5) (by decide) rfl (by decide) (Or.inr (Or.inr ⟨kf_X10_87, rfl, rfl, rfl⟩)) (am_tab tk_X10_init 508 rfl) rfl ?_
  exact K
theorem mi_25_len {σ : am_H} (hl : σ.1.length = 80) : (mi_25 σ).1.length = 81 := (am_newAt_len hl)
theorem mi_25_old {σ : am_H} {b : Nat} {q : Nat × Nat} (h : σ.1[b]? = some q) : (mi_25 σ).1[b]? = some q := (am_newAt_old (a := 80) h)
def mi_26 (σ : am_H) : am_H := (am_setR (am_setN (am_setN (am_setN (am_newAt σ 81 13 3) 81 0 110) 81 1 111) 81 2 116) 55 34 (some (81)))
set_option maxRecDepth 20000 in
theorem mi_26_s {Q : Option am_V → am_H → Prop} (σ : am_H) (hl : σ.1.length = 81) (h5 : σ.1[55]? = some (10, 108)) (K : am_wp M_X10_init Q 26 1710 720 [(0, am_r 55)] [] (mi_26 σ)) : am_wp M_X10_init Q 25 1707 698 [(0, am_r 55)] [] σ := by
  refine am_aload_n (q := 699) rfl (am_tab tk_X10_init 509 rfl) rfl ?_
  refine am_iconst (q := 700) (n := 3) (by decide) (am_tab tk_X10_init 510 rfl) rfl ?_
  refine am_newAa (q := 702) (k := 13) (a := 81) (N := 3) hl (Or.inr (Or.inr ⟨rfl, rfl⟩)) ka_char rfl (by decide) (Nat.le_of_ble_eq_true rfl) (Nat.le_of_ble_eq_true rfl) (am_tab tk_X10_init 511 rfl) rfl ?_
  refine am_dup (q := 703) rfl (am_tab tk_X10_init 512 rfl) rfl ?_
  refine am_iconst (q := 704) (n := 0) (by decide) (am_tab tk_X10_init 513 rfl) rfl ?_
  refine am_bipush (q := 706) (n := 110) (by decide) rfl (am_tab tk_X10_init 514 rfl) rfl ?_
  refine am_cast (q := 707) (a := 81) (n := 3) (am_newAt_at hl) (by omega) (by omega) (by decide) (by decide +kernel) (am_tab tk_X10_init 515 rfl) rfl ?_
  refine am_dup (q := 708) rfl (am_tab tk_X10_init 516 rfl) rfl ?_
  refine am_iconst (q := 709) (n := 1) (by decide) (am_tab tk_X10_init 517 rfl) rfl ?_
  refine am_bipush (q := 711) (n := 111) (by decide) rfl (am_tab tk_X10_init 518 rfl) rfl ?_
  refine am_cast (q := 712) (a := 81) (n := 3) (am_newAt_at hl) (by omega) (by omega) (by decide) (by decide +kernel) (am_tab tk_X10_init 519 rfl) rfl ?_
  refine am_dup (q := 713) rfl (am_tab tk_X10_init 520 rfl) rfl ?_
  refine am_iconst (q := 714) (n := 2) (by decide) (am_tab tk_X10_init 521 rfl) rfl ?_
  refine am_bipush (q := 716) (n := 116) (by decide) rfl (am_tab tk_X10_init 522 rfl) rfl ?_
  refine am_cast (q := 717) (a := 81) (n := 3) (am_newAt_at hl) (by omega) (by omega) (by decide) (by decide +kernel) (am_tab tk_X10_init 523 rfl) rfl ?_
  refine am_putR (q := 720) (k := 10) (n := 108) (j := 34) (am_newAt_old (a := 81) h5) (by decide) rfl (by decide) (Or.inr (Or.inr ⟨kf_X10_90, rfl, rfl, rfl⟩)) (am_tab tk_X10_init 524 rfl) rfl ?_
  exact K
theorem mi_26_len {σ : am_H} (hl : σ.1.length = 81) : (mi_26 σ).1.length = 82 := (am_newAt_len hl)
theorem mi_26_old {σ : am_H} {b : Nat} {q : Nat × Nat} (h : σ.1[b]? = some q) : (mi_26 σ).1[b]? = some q := (am_newAt_old (a := 81) h)
def mi_27 (σ : am_H) : am_H := (am_setR (am_setN (am_setN (am_setN (am_newAt σ 82 13 3) 82 0 97) 82 1 108) 82 2 108) 55 35 (some (82)))
set_option maxRecDepth 20000 in
theorem mi_27_s {Q : Option am_V → am_H → Prop} (σ : am_H) (hl : σ.1.length = 82) (h5 : σ.1[55]? = some (10, 108)) (K : am_wp M_X10_init Q 27 1713 742 [(0, am_r 55)] [] (mi_27 σ)) : am_wp M_X10_init Q 26 1710 720 [(0, am_r 55)] [] σ := by
  refine am_aload_n (q := 721) rfl (am_tab tk_X10_init 525 rfl) rfl ?_
  refine am_iconst (q := 722) (n := 3) (by decide) (am_tab tk_X10_init 526 rfl) rfl ?_
  refine am_newAa (q := 724) (k := 13) (a := 82) (N := 3) hl (Or.inr (Or.inr ⟨rfl, rfl⟩)) ka_char rfl (by decide) (Nat.le_of_ble_eq_true rfl) (Nat.le_of_ble_eq_true rfl) (am_tab tk_X10_init 527 rfl) rfl ?_
  refine am_dup (q := 725) rfl (am_tab tk_X10_init 528 rfl) rfl ?_
  refine am_iconst (q := 726) (n := 0) (by decide) (am_tab tk_X10_init 529 rfl) rfl ?_
  refine am_bipush (q := 728) (n := 97) (by decide) rfl (am_tab tk_X10_init 530 rfl) rfl ?_
  refine am_cast (q := 729) (a := 82) (n := 3) (am_newAt_at hl) (by omega) (by omega) (by decide) (by decide +kernel) (am_tab tk_X10_init 531 rfl) rfl ?_
  refine am_dup (q := 730) rfl (am_tab tk_X10_init 532 rfl) rfl ?_
  refine am_iconst (q := 731) (n := 1) (by decide) (am_tab tk_X10_init 533 rfl) rfl ?_
  refine am_bipush (q := 733) (n := 108) (by decide) rfl (am_tab tk_X10_init 534 rfl) rfl ?_
  refine am_cast (q := 734) (a := 82) (n := 3) (am_newAt_at hl) (by omega) (by omega) (by decide) (by decide +kernel) (am_tab tk_X10_init 535 rfl) rfl ?_
  refine am_dup (q := 735) rfl (am_tab tk_X10_init 536 rfl) rfl ?_
  refine am_iconst (q := 736) (n := 2) (by decide) (am_tab tk_X10_init 537 rfl) rfl ?_
  refine am_bipush (q := 738) (n := 108) (by decide) rfl (am_tab tk_X10_init 538 rfl) rfl ?_
  refine am_cast (q := 739) (a := 82) (n := 3) (am_newAt_at hl) (by omega) (by omega) (by decide) (by decide +kernel) (am_tab tk_X10_init 539 rfl) rfl ?_
  refine am_putR (q := 742) (k := 10) (n := 108) (j := 35) (am_newAt_old (a := 82) h5) (by decide) rfl (by decide) (Or.inr (Or.inr ⟨kf_X10_93, rfl, rfl, rfl⟩)) (am_tab tk_X10_init 540 rfl) rfl ?_
  exact K
theorem mi_27_len {σ : am_H} (hl : σ.1.length = 82) : (mi_27 σ).1.length = 83 := (am_newAt_len hl)
theorem mi_27_old {σ : am_H} {b : Nat} {q : Nat × Nat} (h : σ.1[b]? = some q) : (mi_27 σ).1[b]? = some q := (am_newAt_old (a := 82) h)
def mi_28 (σ : am_H) : am_H := (am_setR (am_setN (am_setN (am_setN (am_newAt σ 83 13 3) 83 0 109) 83 1 105) 83 2 110) 55 36 (some (83)))
set_option maxRecDepth 20000 in
theorem mi_28_s {Q : Option am_V → am_H → Prop} (σ : am_H) (hl : σ.1.length = 83) (h5 : σ.1[55]? = some (10, 108)) (K : am_wp M_X10_init Q 28 1716 764 [(0, am_r 55)] [] (mi_28 σ)) : am_wp M_X10_init Q 27 1713 742 [(0, am_r 55)] [] σ := by
  refine am_aload_n (q := 743) rfl (am_tab tk_X10_init 541 rfl) rfl ?_
  refine am_iconst (q := 744) (n := 3) (by decide) (am_tab tk_X10_init 542 rfl) rfl ?_
  refine am_newAa (q := 746) (k := 13) (a := 83) (N := 3) hl (Or.inr (Or.inr ⟨rfl, rfl⟩)) ka_char rfl (by decide) (Nat.le_of_ble_eq_true rfl) (Nat.le_of_ble_eq_true rfl) (am_tab tk_X10_init 543 rfl) rfl ?_
  refine am_dup (q := 747) rfl (am_tab tk_X10_init 544 rfl) rfl ?_
  refine am_iconst (q := 748) (n := 0) (by decide) (am_tab tk_X10_init 545 rfl) rfl ?_
  refine am_bipush (q := 750) (n := 109) (by decide) rfl (am_tab tk_X10_init 546 rfl) rfl ?_
  refine am_cast (q := 751) (a := 83) (n := 3) (am_newAt_at hl) (by omega) (by omega) (by decide) (by decide +kernel) (am_tab tk_X10_init 547 rfl) rfl ?_
  refine am_dup (q := 752) rfl (am_tab tk_X10_init 548 rfl) rfl ?_
  refine am_iconst (q := 753) (n := 1) (by decide) (am_tab tk_X10_init 549 rfl) rfl ?_
  refine am_bipush (q := 755) (n := 105) (by decide) rfl (am_tab tk_X10_init 550 rfl) rfl ?_
  refine am_cast (q := 756) (a := 83) (n := 3) (am_newAt_at hl) (by omega) (by omega) (by decide) (by decide +kernel) (am_tab tk_X10_init 551 rfl) rfl ?_
  refine am_dup (q := 757) rfl (am_tab tk_X10_init 552 rfl) rfl ?_
  refine am_iconst (q := 758) (n := 2) (by decide) (am_tab tk_X10_init 553 rfl) rfl ?_
  refine am_bipush (q := 760) (n := 110) (by decide) rfl (am_tab tk_X10_init 554 rfl) rfl ?_
  refine am_cast (q := 761) (a := 83) (n := 3) (am_newAt_at hl) (by omega) (by omega) (by decide) (by decide +kernel) (am_tab tk_X10_init 555 rfl) rfl ?_
  refine am_putR (q := 764) (k := 10) (n := 108) (j := 36) (am_newAt_old (a := 83) h5) (by decide) rfl (by decide) (Or.inr (Or.inr ⟨kf_X10_96, rfl, rfl, rfl⟩)) (am_tab tk_X10_init 556 rfl) rfl ?_
  exact K
theorem mi_28_len {σ : am_H} (hl : σ.1.length = 83) : (mi_28 σ).1.length = 84 := (am_newAt_len hl)
theorem mi_28_old {σ : am_H} {b : Nat} {q : Nat × Nat} (h : σ.1[b]? = some q) : (mi_28 σ).1[b]? = some q := (am_newAt_old (a := 83) h)
def mi_29 (σ : am_H) : am_H := (am_setR (am_setN (am_setN (am_setN (am_newAt σ 84 13 3) 84 0 109) 84 1 97) 84 2 120) 55 37 (some (84)))
set_option maxRecDepth 20000 in
theorem mi_29_s {Q : Option am_V → am_H → Prop} (σ : am_H) (hl : σ.1.length = 84) (h5 : σ.1[55]? = some (10, 108)) (K : am_wp M_X10_init Q 29 1719 786 [(0, am_r 55)] [] (mi_29 σ)) : am_wp M_X10_init Q 28 1716 764 [(0, am_r 55)] [] σ := by
  refine am_aload_n (q := 765) rfl (am_tab tk_X10_init 557 rfl) rfl ?_
  refine am_iconst (q := 766) (n := 3) (by decide) (am_tab tk_X10_init 558 rfl) rfl ?_
  refine am_newAa (q := 768) (k := 13) (a := 84) (N := 3) hl (Or.inr (Or.inr ⟨rfl, rfl⟩)) ka_char rfl (by decide) (Nat.le_of_ble_eq_true rfl) (Nat.le_of_ble_eq_true rfl) (am_tab tk_X10_init 559 rfl) rfl ?_
  refine am_dup (q := 769) rfl (am_tab tk_X10_init 560 rfl) rfl ?_
  refine am_iconst (q := 770) (n := 0) (by decide) (am_tab tk_X10_init 561 rfl) rfl ?_
  refine am_bipush (q := 772) (n := 109) (by decide) rfl (am_tab tk_X10_init 562 rfl) rfl ?_
  refine am_cast (q := 773) (a := 84) (n := 3) (am_newAt_at hl) (by omega) (by omega) (by decide) (by decide +kernel) (am_tab tk_X10_init 563 rfl) rfl ?_
  refine am_dup (q := 774) rfl (am_tab tk_X10_init 564 rfl) rfl ?_
  refine am_iconst (q := 775) (n := 1) (by decide) (am_tab tk_X10_init 565 rfl) rfl ?_
  refine am_bipush (q := 777) (n := 97) (by decide) rfl (am_tab tk_X10_init 566 rfl) rfl ?_
  refine am_cast (q := 778) (a := 84) (n := 3) (am_newAt_at hl) (by omega) (by omega) (by decide) (by decide +kernel) (am_tab tk_X10_init 567 rfl) rfl ?_
  refine am_dup (q := 779) rfl (am_tab tk_X10_init 568 rfl) rfl ?_
  refine am_iconst (q := 780) (n := 2) (by decide) (am_tab tk_X10_init 569 rfl) rfl ?_
  refine am_bipush (q := 782) (n := 120) (by decide) rfl (am_tab tk_X10_init 570 rfl) rfl ?_
  refine am_cast (q := 783) (a := 84) (n := 3) (am_newAt_at hl) (by omega) (by omega) (by decide) (by decide +kernel) (am_tab tk_X10_init 571 rfl) rfl ?_
  refine am_putR (q := 786) (k := 10) (n := 108) (j := 37) (am_newAt_old (a := 84) h5) (by decide) rfl (by decide) (Or.inr (Or.inr ⟨kf_X10_99, rfl, rfl, rfl⟩)) (am_tab tk_X10_init 572 rfl) rfl ?_
  exact K
theorem mi_29_len {σ : am_H} (hl : σ.1.length = 84) : (mi_29 σ).1.length = 85 := (am_newAt_len hl)
theorem mi_29_old {σ : am_H} {b : Nat} {q : Nat × Nat} (h : σ.1[b]? = some q) : (mi_29 σ).1[b]? = some q := (am_newAt_old (a := 84) h)
def mi_30 (σ : am_H) : am_H := (am_setR (am_newAt σ 85 11 10) 55 39 (some (85)))
set_option maxRecDepth 20000 in
theorem mi_30_s {Q : Option am_V → am_H → Prop} (σ : am_H) (hl : σ.1.length = 85) (h5 : σ.1[55]? = some (10, 108)) (K : am_wp M_X10_init Q 30 1729 794 [(0, am_r 55)] [] (mi_30 σ)) : am_wp M_X10_init Q 29 1719 786 [(0, am_r 55)] [] σ := by
  refine am_aload_n (q := 787) rfl (am_tab tk_X10_init 573 rfl) rfl ?_
  refine am_bipush (q := 789) (n := 10) (by decide) rfl (am_tab tk_X10_init 574 rfl) rfl ?_
  refine am_newAa (q := 791) (k := 11) (a := 85) (N := 10) hl (Or.inl ⟨rfl, rfl⟩) ka_int rfl (by decide) (Nat.le_of_ble_eq_true rfl) (Nat.le_of_ble_eq_true rfl) (am_tab tk_X10_init 575 rfl) rfl ?_
  refine am_putR (q := 794) (k := 10) (n := 108) (j := 39) (am_newAt_old (a := 85) h5) (by decide) rfl (by decide) (Or.inr (Or.inr ⟨kf_X10_102, rfl, rfl, rfl⟩)) (am_tab tk_X10_init 576 rfl) rfl ?_
  exact K
theorem mi_30_len {σ : am_H} (hl : σ.1.length = 85) : (mi_30 σ).1.length = 86 := (am_newAt_len hl)
theorem mi_30_old {σ : am_H} {b : Nat} {q : Nat × Nat} (h : σ.1[b]? = some q) : (mi_30 σ).1[b]? = some q := (am_newAt_old (a := 85) h)
def mi_31 (σ : am_H) : am_H := (am_setR (am_newAt σ 86 12 16) 55 40 (some (86)))
set_option maxRecDepth 20000 in
theorem mi_31_s {Q : Option am_V → am_H → Prop} (σ : am_H) (hl : σ.1.length = 86) (h5 : σ.1[55]? = some (10, 108)) (K : am_wp M_X10_init Q 31 1745 802 [(0, am_r 55)] [] (mi_31 σ)) : am_wp M_X10_init Q 30 1729 794 [(0, am_r 55)] [] σ := by
  refine am_aload_n (q := 795) rfl (am_tab tk_X10_init 577 rfl) rfl ?_
  refine am_bipush (q := 797) (n := 16) (by decide) rfl (am_tab tk_X10_init 578 rfl) rfl ?_
  refine am_newAa (q := 799) (k := 12) (a := 86) (N := 16) hl (Or.inr (Or.inl ⟨rfl, rfl⟩)) ka_long rfl (by decide) (Nat.le_of_ble_eq_true rfl) (Nat.le_of_ble_eq_true rfl) (am_tab tk_X10_init 579 rfl) rfl ?_
  refine am_putR (q := 802) (k := 10) (n := 108) (j := 40) (am_newAt_old (a := 86) h5) (by decide) rfl (by decide) (Or.inr (Or.inr ⟨kf_X10_105, rfl, rfl, rfl⟩)) (am_tab tk_X10_init 580 rfl) rfl ?_
  exact K
theorem mi_31_len {σ : am_H} (hl : σ.1.length = 86) : (mi_31 σ).1.length = 87 := (am_newAt_len hl)
theorem mi_31_old {σ : am_H} {b : Nat} {q : Nat × Nat} (h : σ.1[b]? = some q) : (mi_31 σ).1[b]? = some q := (am_newAt_old (a := 86) h)
def mi_32 (σ : am_H) : am_H := (am_setR (am_newAt σ 87 11 16) 55 41 (some (87)))
set_option maxRecDepth 20000 in
theorem mi_32_s {Q : Option am_V → am_H → Prop} (σ : am_H) (hl : σ.1.length = 87) (h5 : σ.1[55]? = some (10, 108)) (K : am_wp M_X10_init Q 32 1761 810 [(0, am_r 55)] [] (mi_32 σ)) : am_wp M_X10_init Q 31 1745 802 [(0, am_r 55)] [] σ := by
  refine am_aload_n (q := 803) rfl (am_tab tk_X10_init 581 rfl) rfl ?_
  refine am_bipush (q := 805) (n := 16) (by decide) rfl (am_tab tk_X10_init 582 rfl) rfl ?_
  refine am_newAa (q := 807) (k := 11) (a := 87) (N := 16) hl (Or.inl ⟨rfl, rfl⟩) ka_int rfl (by decide) (Nat.le_of_ble_eq_true rfl) (Nat.le_of_ble_eq_true rfl) (am_tab tk_X10_init 583 rfl) rfl ?_
  refine am_putR (q := 810) (k := 10) (n := 108) (j := 41) (am_newAt_old (a := 87) h5) (by decide) rfl (by decide) (Or.inr (Or.inr ⟨kf_X10_109, rfl, rfl, rfl⟩)) (am_tab tk_X10_init 584 rfl) rfl ?_
  exact K
theorem mi_32_len {σ : am_H} (hl : σ.1.length = 87) : (mi_32 σ).1.length = 88 := (am_newAt_len hl)
theorem mi_32_old {σ : am_H} {b : Nat} {q : Nat × Nat} (h : σ.1[b]? = some q) : (mi_32 σ).1[b]? = some q := (am_newAt_old (a := 87) h)
def mi_33 (σ : am_H) : am_H := (am_setR (am_newAt σ 88 11 16) 55 42 (some (88)))
set_option maxRecDepth 20000 in
theorem mi_33_s {Q : Option am_V → am_H → Prop} (σ : am_H) (hl : σ.1.length = 88) (h5 : σ.1[55]? = some (10, 108)) (K : am_wp M_X10_init Q 33 1777 818 [(0, am_r 55)] [] (mi_33 σ)) : am_wp M_X10_init Q 32 1761 810 [(0, am_r 55)] [] σ := by
  refine am_aload_n (q := 811) rfl (am_tab tk_X10_init 585 rfl) rfl ?_
  refine am_bipush (q := 813) (n := 16) (by decide) rfl (am_tab tk_X10_init 586 rfl) rfl ?_
  refine am_newAa (q := 815) (k := 11) (a := 88) (N := 16) hl (Or.inl ⟨rfl, rfl⟩) ka_int rfl (by decide) (Nat.le_of_ble_eq_true rfl) (Nat.le_of_ble_eq_true rfl) (am_tab tk_X10_init 587 rfl) rfl ?_
  refine am_putR (q := 818) (k := 10) (n := 108) (j := 42) (am_newAt_old (a := 88) h5) (by decide) rfl (by decide) (Or.inr (Or.inr ⟨kf_X10_112, rfl, rfl, rfl⟩)) (am_tab tk_X10_init 588 rfl) rfl ?_
  exact K
theorem mi_33_len {σ : am_H} (hl : σ.1.length = 88) : (mi_33 σ).1.length = 89 := (am_newAt_len hl)
theorem mi_33_old {σ : am_H} {b : Nat} {q : Nat × Nat} (h : σ.1[b]? = some q) : (mi_33 σ).1[b]? = some q := (am_newAt_old (a := 88) h)
def mi_34 (σ : am_H) : am_H := (am_setR (am_newAt σ 89 11 16) 55 43 (some (89)))
set_option maxRecDepth 20000 in
theorem mi_34_s {Q : Option am_V → am_H → Prop} (σ : am_H) (hl : σ.1.length = 89) (h5 : σ.1[55]? = some (10, 108)) (K : am_wp M_X10_init Q 34 1793 826 [(0, am_r 55)] [] (mi_34 σ)) : am_wp M_X10_init Q 33 1777 818 [(0, am_r 55)] [] σ := by
  refine am_aload_n (q := 819) rfl (am_tab tk_X10_init 589 rfl) rfl ?_
  refine am_bipush (q := 821) (n := 16) (by decide) rfl (am_tab tk_X10_init 590 rfl) rfl ?_
  refine am_newAa (q := 823) (k := 11) (a := 89) (N := 16) hl (Or.inl ⟨rfl, rfl⟩) ka_int rfl (by decide) (Nat.le_of_ble_eq_true rfl) (Nat.le_of_ble_eq_true rfl) (am_tab tk_X10_init 591 rfl) rfl ?_
  refine am_putR (q := 826) (k := 10) (n := 108) (j := 43) (am_newAt_old (a := 89) h5) (by decide) rfl (by decide) (Or.inr (Or.inr ⟨kf_X10_115, rfl, rfl, rfl⟩)) (am_tab tk_X10_init 592 rfl) rfl ?_
  exact K
theorem mi_34_len {σ : am_H} (hl : σ.1.length = 89) : (mi_34 σ).1.length = 90 := (am_newAt_len hl)
theorem mi_34_old {σ : am_H} {b : Nat} {q : Nat × Nat} (h : σ.1[b]? = some q) : (mi_34 σ).1[b]? = some q := (am_newAt_old (a := 89) h)
def mi_35 (σ : am_H) : am_H := (am_setR (am_newAt σ 90 11 91) 55 44 (some (90)))
set_option maxRecDepth 20000 in
theorem mi_35_s {Q : Option am_V → am_H → Prop} (σ : am_H) (hl : σ.1.length = 90) (h5 : σ.1[55]? = some (10, 108)) (K : am_wp M_X10_init Q 35 1884 834 [(0, am_r 55)] [] (mi_35 σ)) : am_wp M_X10_init Q 34 1793 826 [(0, am_r 55)] [] σ := by
  refine am_aload_n (q := 827) rfl (am_tab tk_X10_init 593 rfl) rfl ?_
  refine am_bipush (q := 829) (n := 91) (by decide) rfl (am_tab tk_X10_init 594 rfl) rfl ?_
  refine am_newAa (q := 831) (k := 11) (a := 90) (N := 91) hl (Or.inl ⟨rfl, rfl⟩) ka_int rfl (by decide) (Nat.le_of_ble_eq_true rfl) (Nat.le_of_ble_eq_true rfl) (am_tab tk_X10_init 595 rfl) rfl ?_
  refine am_putR (q := 834) (k := 10) (n := 108) (j := 44) (am_newAt_old (a := 90) h5) (by decide) rfl (by decide) (Or.inr (Or.inr ⟨kf_X10_118, rfl, rfl, rfl⟩)) (am_tab tk_X10_init 596 rfl) rfl ?_
  exact K
theorem mi_35_len {σ : am_H} (hl : σ.1.length = 90) : (mi_35 σ).1.length = 91 := (am_newAt_len hl)
theorem mi_35_old {σ : am_H} {b : Nat} {q : Nat × Nat} (h : σ.1[b]? = some q) : (mi_35 σ).1[b]? = some q := (am_newAt_old (a := 90) h)
def mi_36 (σ : am_H) : am_H := (am_setR (am_newAt σ 91 11 16) 55 45 (some (91)))
set_option maxRecDepth 20000 in
theorem mi_36_s {Q : Option am_V → am_H → Prop} (σ : am_H) (hl : σ.1.length = 91) (h5 : σ.1[55]? = some (10, 108)) (K : am_wp M_X10_init Q 36 1900 842 [(0, am_r 55)] [] (mi_36 σ)) : am_wp M_X10_init Q 35 1884 834 [(0, am_r 55)] [] σ := by
  refine am_aload_n (q := 835) rfl (am_tab tk_X10_init 597 rfl) rfl ?_
  refine am_bipush (q := 837) (n := 16) (by decide) rfl (am_tab tk_X10_init 598 rfl) rfl ?_
  refine am_newAa (q := 839) (k := 11) (a := 91) (N := 16) hl (Or.inl ⟨rfl, rfl⟩) ka_int rfl (by decide) (Nat.le_of_ble_eq_true rfl) (Nat.le_of_ble_eq_true rfl) (am_tab tk_X10_init 599 rfl) rfl ?_
  refine am_putR (q := 842) (k := 10) (n := 108) (j := 45) (am_newAt_old (a := 91) h5) (by decide) rfl (by decide) (Or.inr (Or.inr ⟨kf_X10_121, rfl, rfl, rfl⟩)) (am_tab tk_X10_init 600 rfl) rfl ?_
  exact K
theorem mi_36_len {σ : am_H} (hl : σ.1.length = 91) : (mi_36 σ).1.length = 92 := (am_newAt_len hl)
theorem mi_36_old {σ : am_H} {b : Nat} {q : Nat × Nat} (h : σ.1[b]? = some q) : (mi_36 σ).1[b]? = some q := (am_newAt_old (a := 91) h)
def mi_37 (σ : am_H) : am_H := (am_setR (am_newAt σ 92 11 4) 55 46 (some (92)))
set_option maxRecDepth 20000 in
theorem mi_37_s {Q : Option am_V → am_H → Prop} (σ : am_H) (hl : σ.1.length = 92) (h5 : σ.1[55]? = some (10, 108)) (K : am_wp M_X10_init Q 37 1904 849 [(0, am_r 55)] [] (mi_37 σ)) : am_wp M_X10_init Q 36 1900 842 [(0, am_r 55)] [] σ := by
  refine am_aload_n (q := 843) rfl (am_tab tk_X10_init 601 rfl) rfl ?_
  refine am_iconst (q := 844) (n := 4) (by decide) (am_tab tk_X10_init 602 rfl) rfl ?_
  refine am_newAa (q := 846) (k := 11) (a := 92) (N := 4) hl (Or.inl ⟨rfl, rfl⟩) ka_int rfl (by decide) (Nat.le_of_ble_eq_true rfl) (Nat.le_of_ble_eq_true rfl) (am_tab tk_X10_init 603 rfl) rfl ?_
  refine am_putR (q := 849) (k := 10) (n := 108) (j := 46) (am_newAt_old (a := 92) h5) (by decide) rfl (by decide) (Or.inr (Or.inr ⟨kf_X10_124, rfl, rfl, rfl⟩)) (am_tab tk_X10_init 604 rfl) rfl ?_
  exact K
theorem mi_37_len {σ : am_H} (hl : σ.1.length = 92) : (mi_37 σ).1.length = 93 := (am_newAt_len hl)
theorem mi_37_old {σ : am_H} {b : Nat} {q : Nat × Nat} (h : σ.1[b]? = some q) : (mi_37 σ).1[b]? = some q := (am_newAt_old (a := 92) h)
def mi_38 (σ : am_H) : am_H := (am_setR (am_setN (am_setN (am_setN (am_setN (am_newAt σ 93 11 4) 93 0 (-1)) 93 1 (-1)) 93 2 (-1)) 93 3 (-1)) 55 47 (some (93)))
set_option maxRecDepth 20000 in
theorem mi_38_s {Q : Option am_V → am_H → Prop} (σ : am_H) (hl : σ.1.length = 93) (h5 : σ.1[55]? = some (10, 108)) (K : am_wp M_X10_init Q 38 1908 872 [(0, am_r 55)] [] (mi_38 σ)) : am_wp M_X10_init Q 37 1904 849 [(0, am_r 55)] [] σ := by
  refine am_aload_n (q := 850) rfl (am_tab tk_X10_init 605 rfl) rfl ?_
  refine am_iconst (q := 851) (n := 4) (by decide) (am_tab tk_X10_init 606 rfl) rfl ?_
  refine am_newAa (q := 853) (k := 11) (a := 93) (N := 4) hl (Or.inl ⟨rfl, rfl⟩) ka_int rfl (by decide) (Nat.le_of_ble_eq_true rfl) (Nat.le_of_ble_eq_true rfl) (am_tab tk_X10_init 607 rfl) rfl ?_
  refine am_dup (q := 854) rfl (am_tab tk_X10_init 608 rfl) rfl ?_
  refine am_iconst (q := 855) (n := 0) (by decide) (am_tab tk_X10_init 609 rfl) rfl ?_
  refine am_iconst (q := 856) (n := (-1)) (by decide) (am_tab tk_X10_init 610 rfl) rfl ?_
  refine am_iast (q := 857) (a := 93) (n := 4) (am_newAt_at hl) (by omega) (by omega) (am_tab tk_X10_init 611 rfl) rfl ?_
  refine am_dup (q := 858) rfl (am_tab tk_X10_init 612 rfl) rfl ?_
  refine am_iconst (q := 859) (n := 1) (by decide) (am_tab tk_X10_init 613 rfl) rfl ?_
  refine am_iconst (q := 860) (n := (-1)) (by decide) (am_tab tk_X10_init 614 rfl) rfl ?_
  refine am_iast (q := 861) (a := 93) (n := 4) (am_newAt_at hl) (by omega) (by omega) (am_tab tk_X10_init 615 rfl) rfl ?_
  refine am_dup (q := 862) rfl (am_tab tk_X10_init 616 rfl) rfl ?_
  refine am_iconst (q := 863) (n := 2) (by decide) (am_tab tk_X10_init 617 rfl) rfl ?_
  refine am_iconst (q := 864) (n := (-1)) (by decide) (am_tab tk_X10_init 618 rfl) rfl ?_
  refine am_iast (q := 865) (a := 93) (n := 4) (am_newAt_at hl) (by omega) (by omega) (am_tab tk_X10_init 619 rfl) rfl ?_
  refine am_dup (q := 866) rfl (am_tab tk_X10_init 620 rfl) rfl ?_
  refine am_iconst (q := 867) (n := 3) (by decide) (am_tab tk_X10_init 621 rfl) rfl ?_
  refine am_iconst (q := 868) (n := (-1)) (by decide) (am_tab tk_X10_init 622 rfl) rfl ?_
  refine am_iast (q := 869) (a := 93) (n := 4) (am_newAt_at hl) (by omega) (by omega) (am_tab tk_X10_init 623 rfl) rfl ?_
  refine am_putR (q := 872) (k := 10) (n := 108) (j := 47) (am_newAt_old (a := 93) h5) (by decide) rfl (by decide) (Or.inr (Or.inr ⟨kf_X10_127, rfl, rfl, rfl⟩)) (am_tab tk_X10_init 624 rfl) rfl ?_
  exact K
theorem mi_38_len {σ : am_H} (hl : σ.1.length = 93) : (mi_38 σ).1.length = 94 := (am_newAt_len hl)
theorem mi_38_old {σ : am_H} {b : Nat} {q : Nat × Nat} (h : σ.1[b]? = some q) : (mi_38 σ).1[b]? = some q := (am_newAt_old (a := 93) h)
def mi_39 (σ : am_H) : am_H := (am_setR (am_newAt σ 94 11 4) 55 48 (some (94)))
set_option maxRecDepth 20000 in
theorem mi_39_s {Q : Option am_V → am_H → Prop} (σ : am_H) (hl : σ.1.length = 94) (h5 : σ.1[55]? = some (10, 108)) (K : am_wp M_X10_init Q 39 1912 879 [(0, am_r 55)] [] (mi_39 σ)) : am_wp M_X10_init Q 38 1908 872 [(0, am_r 55)] [] σ := by
  refine am_aload_n (q := 873) rfl (am_tab tk_X10_init 625 rfl) rfl ?_
  refine am_iconst (q := 874) (n := 4) (by decide) (am_tab tk_X10_init 626 rfl) rfl ?_
  refine am_newAa (q := 876) (k := 11) (a := 94) (N := 4) hl (Or.inl ⟨rfl, rfl⟩) ka_int rfl (by decide) (Nat.le_of_ble_eq_true rfl) (Nat.le_of_ble_eq_true rfl) (am_tab tk_X10_init 627 rfl) rfl ?_
  refine am_putR (q := 879) (k := 10) (n := 108) (j := 48) (am_newAt_old (a := 94) h5) (by decide) rfl (by decide) (Or.inr (Or.inr ⟨kf_X10_130, rfl, rfl, rfl⟩)) (am_tab tk_X10_init 628 rfl) rfl ?_
  exact K
theorem mi_39_len {σ : am_H} (hl : σ.1.length = 94) : (mi_39 σ).1.length = 95 := (am_newAt_len hl)
theorem mi_39_old {σ : am_H} {b : Nat} {q : Nat × Nat} (h : σ.1[b]? = some q) : (mi_39 σ).1[b]? = some q := (am_newAt_old (a := 94) h)
def mi_40 (σ : am_H) : am_H := (am_setR (am_newAt σ 95 11 3200) 55 49 (some (95)))
set_option maxRecDepth 20000 in
theorem mi_40_s {Q : Option am_V → am_H → Prop} (σ : am_H) (hl : σ.1.length = 95) (h5 : σ.1[55]? = some (10, 108)) (K : am_wp M_X10_init Q 40 5112 888 [(0, am_r 55)] [] (mi_40 σ)) : am_wp M_X10_init Q 39 1912 879 [(0, am_r 55)] [] σ := by
  refine am_aload_n (q := 880) rfl (am_tab tk_X10_init 629 rfl) rfl ?_
  refine am_sipush (q := 883) (n := 3200) (by decide) rfl (am_tab tk_X10_init 630 rfl) rfl ?_
  refine am_newAa (q := 885) (k := 11) (a := 95) (N := 3200) hl (Or.inl ⟨rfl, rfl⟩) ka_int rfl (by decide) (Nat.le_of_ble_eq_true rfl) (Nat.le_of_ble_eq_true rfl) (am_tab tk_X10_init 631 rfl) rfl ?_
  refine am_putR (q := 888) (k := 10) (n := 108) (j := 49) (am_newAt_old (a := 95) h5) (by decide) rfl (by decide) (Or.inr (Or.inr ⟨kf_X10_133, rfl, rfl, rfl⟩)) (am_tab tk_X10_init 632 rfl) rfl ?_
  exact K
theorem mi_40_len {σ : am_H} (hl : σ.1.length = 95) : (mi_40 σ).1.length = 96 := (am_newAt_len hl)
theorem mi_40_old {σ : am_H} {b : Nat} {q : Nat × Nat} (h : σ.1[b]? = some q) : (mi_40 σ).1[b]? = some q := (am_newAt_old (a := 95) h)
def mi_41 (σ : am_H) : am_H := (am_setR (am_newAt σ 96 11 443) 55 54 (some (96)))
set_option maxRecDepth 20000 in
theorem mi_41_s {Q : Option am_V → am_H → Prop} (σ : am_H) (hl : σ.1.length = 96) (h5 : σ.1[55]? = some (10, 108)) (K : am_wp M_X10_init Q 41 5555 897 [(0, am_r 55)] [] (mi_41 σ)) : am_wp M_X10_init Q 40 5112 888 [(0, am_r 55)] [] σ := by
  refine am_aload_n (q := 889) rfl (am_tab tk_X10_init 633 rfl) rfl ?_
  refine am_sipush (q := 892) (n := 443) (by decide) rfl (am_tab tk_X10_init 634 rfl) rfl ?_
  refine am_newAa (q := 894) (k := 11) (a := 96) (N := 443) hl (Or.inl ⟨rfl, rfl⟩) ka_int rfl (by decide) (Nat.le_of_ble_eq_true rfl) (Nat.le_of_ble_eq_true rfl) (am_tab tk_X10_init 635 rfl) rfl ?_
  refine am_putR (q := 897) (k := 10) (n := 108) (j := 54) (am_newAt_old (a := 96) h5) (by decide) rfl (by decide) (Or.inr (Or.inr ⟨kf_X10_136, rfl, rfl, rfl⟩)) (am_tab tk_X10_init 636 rfl) rfl ?_
  exact K
theorem mi_41_len {σ : am_H} (hl : σ.1.length = 96) : (mi_41 σ).1.length = 97 := (am_newAt_len hl)
theorem mi_41_old {σ : am_H} {b : Nat} {q : Nat × Nat} (h : σ.1[b]? = some q) : (mi_41 σ).1[b]? = some q := (am_newAt_old (a := 96) h)
def mi_42 (σ : am_H) : am_H := (am_setR (am_newAt σ 97 11 443) 55 55 (some (97)))
set_option maxRecDepth 20000 in
theorem mi_42_s {Q : Option am_V → am_H → Prop} (σ : am_H) (hl : σ.1.length = 97) (h5 : σ.1[55]? = some (10, 108)) (K : am_wp M_X10_init Q 42 5998 906 [(0, am_r 55)] [] (mi_42 σ)) : am_wp M_X10_init Q 41 5555 897 [(0, am_r 55)] [] σ := by
  refine am_aload_n (q := 898) rfl (am_tab tk_X10_init 637 rfl) rfl ?_
  refine am_sipush (q := 901) (n := 443) (by decide) rfl (am_tab tk_X10_init 638 rfl) rfl ?_
  refine am_newAa (q := 903) (k := 11) (a := 97) (N := 443) hl (Or.inl ⟨rfl, rfl⟩) ka_int rfl (by decide) (Nat.le_of_ble_eq_true rfl) (Nat.le_of_ble_eq_true rfl) (am_tab tk_X10_init 639 rfl) rfl ?_
  refine am_putR (q := 906) (k := 10) (n := 108) (j := 55) (am_newAt_old (a := 97) h5) (by decide) rfl (by decide) (Or.inr (Or.inr ⟨kf_X10_139, rfl, rfl, rfl⟩)) (am_tab tk_X10_init 640 rfl) rfl ?_
  exact K
theorem mi_42_len {σ : am_H} (hl : σ.1.length = 97) : (mi_42 σ).1.length = 98 := (am_newAt_len hl)
theorem mi_42_old {σ : am_H} {b : Nat} {q : Nat × Nat} (h : σ.1[b]? = some q) : (mi_42 σ).1[b]? = some q := (am_newAt_old (a := 97) h)
def mi_43 (σ : am_H) : am_H := (am_setR (am_newAt σ 98 11 8) 55 63 (some (98)))
set_option maxRecDepth 20000 in
theorem mi_43_s {Q : Option am_V → am_H → Prop} (σ : am_H) (hl : σ.1.length = 98) (h5 : σ.1[55]? = some (10, 108)) (K : am_wp M_X10_init Q 43 6006 914 [(0, am_r 55)] [] (mi_43 σ)) : am_wp M_X10_init Q 42 5998 906 [(0, am_r 55)] [] σ := by
  refine am_aload_n (q := 907) rfl (am_tab tk_X10_init 641 rfl) rfl ?_
  refine am_bipush (q := 909) (n := 8) (by decide) rfl (am_tab tk_X10_init 642 rfl) rfl ?_
  refine am_newAa (q := 911) (k := 11) (a := 98) (N := 8) hl (Or.inl ⟨rfl, rfl⟩) ka_int rfl (by decide) (Nat.le_of_ble_eq_true rfl) (Nat.le_of_ble_eq_true rfl) (am_tab tk_X10_init 643 rfl) rfl ?_
  refine am_putR (q := 914) (k := 10) (n := 108) (j := 63) (am_newAt_old (a := 98) h5) (by decide) rfl (by decide) (Or.inr (Or.inr ⟨kf_X10_142, rfl, rfl, rfl⟩)) (am_tab tk_X10_init 644 rfl) rfl ?_
  exact K
theorem mi_43_len {σ : am_H} (hl : σ.1.length = 98) : (mi_43 σ).1.length = 99 := (am_newAt_len hl)
theorem mi_43_old {σ : am_H} {b : Nat} {q : Nat × Nat} (h : σ.1[b]? = some q) : (mi_43 σ).1[b]? = some q := (am_newAt_old (a := 98) h)
def mi_44 (σ : am_H) : am_H := (am_setR (am_newAt σ 99 11 8) 55 64 (some (99)))
set_option maxRecDepth 20000 in
theorem mi_44_s {Q : Option am_V → am_H → Prop} (σ : am_H) (hl : σ.1.length = 99) (h5 : σ.1[55]? = some (10, 108)) (K : am_wp M_X10_init Q 44 6014 922 [(0, am_r 55)] [] (mi_44 σ)) : am_wp M_X10_init Q 43 6006 914 [(0, am_r 55)] [] σ := by
  refine am_aload_n (q := 915) rfl (am_tab tk_X10_init 645 rfl) rfl ?_
  refine am_bipush (q := 917) (n := 8) (by decide) rfl (am_tab tk_X10_init 646 rfl) rfl ?_
  refine am_newAa (q := 919) (k := 11) (a := 99) (N := 8) hl (Or.inl ⟨rfl, rfl⟩) ka_int rfl (by decide) (Nat.le_of_ble_eq_true rfl) (Nat.le_of_ble_eq_true rfl) (am_tab tk_X10_init 647 rfl) rfl ?_
  refine am_putR (q := 922) (k := 10) (n := 108) (j := 64) (am_newAt_old (a := 99) h5) (by decide) rfl (by decide) (Or.inr (Or.inr ⟨kf_X10_145, rfl, rfl, rfl⟩)) (am_tab tk_X10_init 648 rfl) rfl ?_
  exact K
theorem mi_44_len {σ : am_H} (hl : σ.1.length = 99) : (mi_44 σ).1.length = 100 := (am_newAt_len hl)
theorem mi_44_old {σ : am_H} {b : Nat} {q : Nat × Nat} (h : σ.1[b]? = some q) : (mi_44 σ).1[b]? = some q := (am_newAt_old (a := 99) h)
def mi_45 (σ : am_H) : am_H := (am_setR (am_newAt σ 100 11 16) 55 66 (some (100)))
set_option maxRecDepth 20000 in
theorem mi_45_s {Q : Option am_V → am_H → Prop} (σ : am_H) (hl : σ.1.length = 100) (h5 : σ.1[55]? = some (10, 108)) (K : am_wp M_X10_init Q 45 6030 930 [(0, am_r 55)] [] (mi_45 σ)) : am_wp M_X10_init Q 44 6014 922 [(0, am_r 55)] [] σ := by
  refine am_aload_n (q := 923) rfl (am_tab tk_X10_init 649 rfl) rfl ?_
  refine am_bipush (q := 925) (n := 16) (by decide) rfl (am_tab tk_X10_init 650 rfl) rfl ?_
  refine am_newAa (q := 927) (k := 11) (a := 100) (N := 16) hl (Or.inl ⟨rfl, rfl⟩) ka_int rfl (by decide) (Nat.le_of_ble_eq_true rfl) (Nat.le_of_ble_eq_true rfl) (am_tab tk_X10_init 651 rfl) rfl ?_
  refine am_putR (q := 930) (k := 10) (n := 108) (j := 66) (am_newAt_old (a := 100) h5) (by decide) rfl (by decide) (Or.inr (Or.inr ⟨kf_X10_148, rfl, rfl, rfl⟩)) (am_tab tk_X10_init 652 rfl) rfl ?_
  exact K
theorem mi_45_len {σ : am_H} (hl : σ.1.length = 100) : (mi_45 σ).1.length = 101 := (am_newAt_len hl)
theorem mi_45_old {σ : am_H} {b : Nat} {q : Nat × Nat} (h : σ.1[b]? = some q) : (mi_45 σ).1[b]? = some q := (am_newAt_old (a := 100) h)
def mi_46 (σ : am_H) : am_H := (am_setR (am_newAt σ 101 11 8) 55 67 (some (101)))
set_option maxRecDepth 20000 in
theorem mi_46_s {Q : Option am_V → am_H → Prop} (σ : am_H) (hl : σ.1.length = 101) (h5 : σ.1[55]? = some (10, 108)) (K : am_wp M_X10_init Q 46 6038 938 [(0, am_r 55)] [] (mi_46 σ)) : am_wp M_X10_init Q 45 6030 930 [(0, am_r 55)] [] σ := by
  refine am_aload_n (q := 931) rfl (am_tab tk_X10_init 653 rfl) rfl ?_
  refine am_bipush (q := 933) (n := 8) (by decide) rfl (am_tab tk_X10_init 654 rfl) rfl ?_
  refine am_newAa (q := 935) (k := 11) (a := 101) (N := 8) hl (Or.inl ⟨rfl, rfl⟩) ka_int rfl (by decide) (Nat.le_of_ble_eq_true rfl) (Nat.le_of_ble_eq_true rfl) (am_tab tk_X10_init 655 rfl) rfl ?_
  refine am_putR (q := 938) (k := 10) (n := 108) (j := 67) (am_newAt_old (a := 101) h5) (by decide) rfl (by decide) (Or.inr (Or.inr ⟨kf_X10_151, rfl, rfl, rfl⟩)) (am_tab tk_X10_init 656 rfl) rfl ?_
  exact K
theorem mi_46_len {σ : am_H} (hl : σ.1.length = 101) : (mi_46 σ).1.length = 102 := (am_newAt_len hl)
theorem mi_46_old {σ : am_H} {b : Nat} {q : Nat × Nat} (h : σ.1[b]? = some q) : (mi_46 σ).1[b]? = some q := (am_newAt_old (a := 101) h)
def mi_47 (σ : am_H) : am_H := (am_setR (am_newAt σ 102 11 8860) 55 68 (some (102)))
set_option maxRecDepth 20000 in
theorem mi_47_s {Q : Option am_V → am_H → Prop} (σ : am_H) (hl : σ.1.length = 102) (h5 : σ.1[55]? = some (10, 108)) (K : am_wp M_X10_init Q 47 14898 947 [(0, am_r 55)] [] (mi_47 σ)) : am_wp M_X10_init Q 46 6038 938 [(0, am_r 55)] [] σ := by
  refine am_aload_n (q := 939) rfl (am_tab tk_X10_init 657 rfl) rfl ?_
  refine am_sipush (q := 942) (n := 8860) (by decide) rfl (am_tab tk_X10_init 658 rfl) rfl ?_
  refine am_newAa (q := 944) (k := 11) (a := 102) (N := 8860) hl (Or.inl ⟨rfl, rfl⟩) ka_int rfl (by decide) (Nat.le_of_ble_eq_true rfl) (Nat.le_of_ble_eq_true rfl) (am_tab tk_X10_init 659 rfl) rfl ?_
  refine am_putR (q := 947) (k := 10) (n := 108) (j := 68) (am_newAt_old (a := 102) h5) (by decide) rfl (by decide) (Or.inr (Or.inr ⟨kf_X10_154, rfl, rfl, rfl⟩)) (am_tab tk_X10_init 660 rfl) rfl ?_
  exact K
theorem mi_47_len {σ : am_H} (hl : σ.1.length = 102) : (mi_47 σ).1.length = 103 := (am_newAt_len hl)
theorem mi_47_old {σ : am_H} {b : Nat} {q : Nat × Nat} (h : σ.1[b]? = some q) : (mi_47 σ).1[b]? = some q := (am_newAt_old (a := 102) h)
def mi_48 (σ : am_H) : am_H := (am_setN σ 55 71 1)
set_option maxRecDepth 20000 in
theorem mi_48_s {Q : Option am_V → am_H → Prop} (σ : am_H) (hl : σ.1.length = 103) (h5 : σ.1[55]? = some (10, 108)) (K : am_wp M_X10_init Q 47 14898 952 [(0, am_r 55)] [] (mi_48 σ)) : am_wp M_X10_init Q 47 14898 947 [(0, am_r 55)] [] σ := by
  refine am_aload_n (q := 948) rfl (am_tab tk_X10_init 661 rfl) rfl ?_
  refine am_lconst1 (q := 949) (am_tab tk_X10_init 662 rfl) rfl ?_
  refine am_putL (q := 952) (k := 10) (n := 108) (j := 71) h5 (by decide) rfl (by decide) (Or.inl ⟨kf_X10_157, rfl⟩) (am_tab tk_X10_init 663 rfl) rfl ?_
  exact K
theorem mi_48_len {σ : am_H} (hl : σ.1.length = 103) : (mi_48 σ).1.length = 103 := hl
theorem mi_48_old {σ : am_H} {b : Nat} {q : Nat × Nat} (h : σ.1[b]? = some q) : (mi_48 σ).1[b]? = some q := h
def mi_49 (σ : am_H) : am_H := (am_setR (am_setN (am_setN (am_setN (am_setN (am_setN (am_newAt σ 103 13 5) 103 0 102) 103 1 105) 103 2 114) 103 3 115) 103 4 116) 55 72 (some (103)))
set_option maxRecDepth 20000 in
theorem mi_49_s {Q : Option am_V → am_H → Prop} (σ : am_H) (hl : σ.1.length = 103) (h5 : σ.1[55]? = some (10, 108)) (K : am_wp M_X10_init Q 48 14903 984 [(0, am_r 55)] [] (mi_49 σ)) : am_wp M_X10_init Q 47 14898 952 [(0, am_r 55)] [] σ := by
  refine am_aload_n (q := 953) rfl (am_tab tk_X10_init 664 rfl) rfl ?_
  refine am_iconst (q := 954) (n := 5) (by decide) (am_tab tk_X10_init 665 rfl) rfl ?_
  refine am_newAa (q := 956) (k := 13) (a := 103) (N := 5) hl (Or.inr (Or.inr ⟨rfl, rfl⟩)) ka_char rfl (by decide) (Nat.le_of_ble_eq_true rfl) (Nat.le_of_ble_eq_true rfl) (am_tab tk_X10_init 666 rfl) rfl ?_
  refine am_dup (q := 957) rfl (am_tab tk_X10_init 667 rfl) rfl ?_
  refine am_iconst (q := 958) (n := 0) (by decide) (am_tab tk_X10_init 668 rfl) rfl ?_
  refine am_bipush (q := 960) (n := 102) (by decide) rfl (am_tab tk_X10_init 669 rfl) rfl ?_
  refine am_cast (q := 961) (a := 103) (n := 5) (am_newAt_at hl) (by omega) (by omega) (by decide) (by decide +kernel) (am_tab tk_X10_init 670 rfl) rfl ?_
  refine am_dup (q := 962) rfl (am_tab tk_X10_init 671 rfl) rfl ?_
  refine am_iconst (q := 963) (n := 1) (by decide) (am_tab tk_X10_init 672 rfl) rfl ?_
  refine am_bipush (q := 965) (n := 105) (by decide) rfl (am_tab tk_X10_init 673 rfl) rfl ?_
  refine am_cast (q := 966) (a := 103) (n := 5) (am_newAt_at hl) (by omega) (by omega) (by decide) (by decide +kernel) (am_tab tk_X10_init 674 rfl) rfl ?_
  refine am_dup (q := 967) rfl (am_tab tk_X10_init 675 rfl) rfl ?_
  refine am_iconst (q := 968) (n := 2) (by decide) (am_tab tk_X10_init 676 rfl) rfl ?_
  refine am_bipush (q := 970) (n := 114) (by decide) rfl (am_tab tk_X10_init 677 rfl) rfl ?_
  refine am_cast (q := 971) (a := 103) (n := 5) (am_newAt_at hl) (by omega) (by omega) (by decide) (by decide +kernel) (am_tab tk_X10_init 678 rfl) rfl ?_
  refine am_dup (q := 972) rfl (am_tab tk_X10_init 679 rfl) rfl ?_
  refine am_iconst (q := 973) (n := 3) (by decide) (am_tab tk_X10_init 680 rfl) rfl ?_
  refine am_bipush (q := 975) (n := 115) (by decide) rfl (am_tab tk_X10_init 681 rfl) rfl ?_
  refine am_cast (q := 976) (a := 103) (n := 5) (am_newAt_at hl) (by omega) (by omega) (by decide) (by decide +kernel) (am_tab tk_X10_init 682 rfl) rfl ?_
  refine am_dup (q := 977) rfl (am_tab tk_X10_init 683 rfl) rfl ?_
  refine am_iconst (q := 978) (n := 4) (by decide) (am_tab tk_X10_init 684 rfl) rfl ?_
  refine am_bipush (q := 980) (n := 116) (by decide) rfl (am_tab tk_X10_init 685 rfl) rfl ?_
  refine am_cast (q := 981) (a := 103) (n := 5) (am_newAt_at hl) (by omega) (by omega) (by decide) (by decide +kernel) (am_tab tk_X10_init 686 rfl) rfl ?_
  refine am_putR (q := 984) (k := 10) (n := 108) (j := 72) (am_newAt_old (a := 103) h5) (by decide) rfl (by decide) (Or.inr (Or.inr ⟨kf_X10_161, rfl, rfl, rfl⟩)) (am_tab tk_X10_init 687 rfl) rfl ?_
  exact K
theorem mi_49_len {σ : am_H} (hl : σ.1.length = 103) : (mi_49 σ).1.length = 104 := (am_newAt_len hl)
theorem mi_49_old {σ : am_H} {b : Nat} {q : Nat × Nat} (h : σ.1[b]? = some q) : (mi_49 σ).1[b]? = some q := (am_newAt_old (a := 103) h)
def mi_50 (σ : am_H) : am_H := (am_setR (am_setN (am_setN (am_setN (am_setN (am_newAt σ 104 13 4) 104 0 108) 104 1 97) 104 2 115) 104 3 116) 55 73 (some (104)))
set_option maxRecDepth 20000 in
theorem mi_50_s {Q : Option am_V → am_H → Prop} (σ : am_H) (hl : σ.1.length = 104) (h5 : σ.1[55]? = some (10, 108)) (K : am_wp M_X10_init Q 49 14907 1011 [(0, am_r 55)] [] (mi_50 σ)) : am_wp M_X10_init Q 48 14903 984 [(0, am_r 55)] [] σ := by
  refine am_aload_n (q := 985) rfl (am_tab tk_X10_init 688 rfl) rfl ?_
  refine am_iconst (q := 986) (n := 4) (by decide) (am_tab tk_X10_init 689 rfl) rfl ?_
  refine am_newAa (q := 988) (k := 13) (a := 104) (N := 4) hl (Or.inr (Or.inr ⟨rfl, rfl⟩)) ka_char rfl (by decide) (Nat.le_of_ble_eq_true rfl) (Nat.le_of_ble_eq_true rfl) (am_tab tk_X10_init 690 rfl) rfl ?_
  refine am_dup (q := 989) rfl (am_tab tk_X10_init 691 rfl) rfl ?_
  refine am_iconst (q := 990) (n := 0) (by decide) (am_tab tk_X10_init 692 rfl) rfl ?_
  refine am_bipush (q := 992) (n := 108) (by decide) rfl (am_tab tk_X10_init 693 rfl) rfl ?_
  refine am_cast (q := 993) (a := 104) (n := 4) (am_newAt_at hl) (by omega) (by omega) (by decide) (by decide +kernel) (am_tab tk_X10_init 694 rfl) rfl ?_
  refine am_dup (q := 994) rfl (am_tab tk_X10_init 695 rfl) rfl ?_
  refine am_iconst (q := 995) (n := 1) (by decide) (am_tab tk_X10_init 696 rfl) rfl ?_
  refine am_bipush (q := 997) (n := 97) (by decide) rfl (am_tab tk_X10_init 697 rfl) rfl ?_
  refine am_cast (q := 998) (a := 104) (n := 4) (am_newAt_at hl) (by omega) (by omega) (by decide) (by decide +kernel) (am_tab tk_X10_init 698 rfl) rfl ?_
  refine am_dup (q := 999) rfl (am_tab tk_X10_init 699 rfl) rfl ?_
  refine am_iconst (q := 1000) (n := 2) (by decide) (am_tab tk_X10_init 700 rfl) rfl ?_
  refine am_bipush (q := 1002) (n := 115) (by decide) rfl (am_tab tk_X10_init 701 rfl) rfl ?_
  refine am_cast (q := 1003) (a := 104) (n := 4) (am_newAt_at hl) (by omega) (by omega) (by decide) (by decide +kernel) (am_tab tk_X10_init 702 rfl) rfl ?_
  refine am_dup (q := 1004) rfl (am_tab tk_X10_init 703 rfl) rfl ?_
  refine am_iconst (q := 1005) (n := 3) (by decide) (am_tab tk_X10_init 704 rfl) rfl ?_
  refine am_bipush (q := 1007) (n := 116) (by decide) rfl (am_tab tk_X10_init 705 rfl) rfl ?_
  refine am_cast (q := 1008) (a := 104) (n := 4) (am_newAt_at hl) (by omega) (by omega) (by decide) (by decide +kernel) (am_tab tk_X10_init 706 rfl) rfl ?_
  refine am_putR (q := 1011) (k := 10) (n := 108) (j := 73) (am_newAt_old (a := 104) h5) (by decide) rfl (by decide) (Or.inr (Or.inr ⟨kf_X10_164, rfl, rfl, rfl⟩)) (am_tab tk_X10_init 707 rfl) rfl ?_
  exact K
theorem mi_50_len {σ : am_H} (hl : σ.1.length = 104) : (mi_50 σ).1.length = 105 := (am_newAt_len hl)
theorem mi_50_old {σ : am_H} {b : Nat} {q : Nat × Nat} (h : σ.1[b]? = some q) : (mi_50 σ).1[b]? = some q := (am_newAt_old (a := 104) h)
def mi_51 (σ : am_H) : am_H := (am_setR (am_setN (am_setN (am_setN (am_setN (am_setN (am_newAt σ 105 13 5) 105 0 111) 105 1 102) 105 2 116) 105 3 101) 105 4 110) 55 74 (some (105)))
set_option maxRecDepth 20000 in
theorem mi_51_s {Q : Option am_V → am_H → Prop} (σ : am_H) (hl : σ.1.length = 105) (h5 : σ.1[55]? = some (10, 108)) (K : am_wp M_X10_init Q 50 14912 1043 [(0, am_r 55)] [] (mi_51 σ)) : am_wp M_X10_init Q 49 14907 1011 [(0, am_r 55)] [] σ := by
  refine am_aload_n (q := 1012) rfl (am_tab tk_X10_init 708 rfl) rfl ?_
  refine am_iconst (q := 1013) (n := 5) (by decide) (am_tab tk_X10_init 709 rfl) rfl ?_
  refine am_newAa (q := 1015) (k := 13) (a := 105) (N := 5) hl (Or.inr (Or.inr ⟨rfl, rfl⟩)) ka_char rfl (by decide) (Nat.le_of_ble_eq_true rfl) (Nat.le_of_ble_eq_true rfl) (am_tab tk_X10_init 710 rfl) rfl ?_
  refine am_dup (q := 1016) rfl (am_tab tk_X10_init 711 rfl) rfl ?_
  refine am_iconst (q := 1017) (n := 0) (by decide) (am_tab tk_X10_init 712 rfl) rfl ?_
  refine am_bipush (q := 1019) (n := 111) (by decide) rfl (am_tab tk_X10_init 713 rfl) rfl ?_
  refine am_cast (q := 1020) (a := 105) (n := 5) (am_newAt_at hl) (by omega) (by omega) (by decide) (by decide +kernel) (am_tab tk_X10_init 714 rfl) rfl ?_
  refine am_dup (q := 1021) rfl (am_tab tk_X10_init 715 rfl) rfl ?_
  refine am_iconst (q := 1022) (n := 1) (by decide) (am_tab tk_X10_init 716 rfl) rfl ?_
  refine am_bipush (q := 1024) (n := 102) (by decide) rfl (am_tab tk_X10_init 717 rfl) rfl ?_
  refine am_cast (q := 1025) (a := 105) (n := 5) (am_newAt_at hl) (by omega) (by omega) (by decide) (by decide +kernel) (am_tab tk_X10_init 718 rfl) rfl ?_
  refine am_dup (q := 1026) rfl (am_tab tk_X10_init 719 rfl) rfl ?_
  refine am_iconst (q := 1027) (n := 2) (by decide) (am_tab tk_X10_init 720 rfl) rfl ?_
  refine am_bipush (q := 1029) (n := 116) (by decide) rfl (am_tab tk_X10_init 721 rfl) rfl ?_
  refine am_cast (q := 1030) (a := 105) (n := 5) (am_newAt_at hl) (by omega) (by omega) (by decide) (by decide +kernel) (am_tab tk_X10_init 722 rfl) rfl ?_
  refine am_dup (q := 1031) rfl (am_tab tk_X10_init 723 rfl) rfl ?_
  refine am_iconst (q := 1032) (n := 3) (by decide) (am_tab tk_X10_init 724 rfl) rfl ?_
  refine am_bipush (q := 1034) (n := 101) (by decide) rfl (am_tab tk_X10_init 725 rfl) rfl ?_
  refine am_cast (q := 1035) (a := 105) (n := 5) (am_newAt_at hl) (by omega) (by omega) (by decide) (by decide +kernel) (am_tab tk_X10_init 726 rfl) rfl ?_
  refine am_dup (q := 1036) rfl (am_tab tk_X10_init 727 rfl) rfl ?_
  refine am_iconst (q := 1037) (n := 4) (by decide) (am_tab tk_X10_init 728 rfl) rfl ?_
  refine am_bipush (q := 1039) (n := 110) (by decide) rfl (am_tab tk_X10_init 729 rfl) rfl ?_
  refine am_cast (q := 1040) (a := 105) (n := 5) (am_newAt_at hl) (by omega) (by omega) (by decide) (by decide +kernel) (am_tab tk_X10_init 730 rfl) rfl ?_
  refine am_putR (q := 1043) (k := 10) (n := 108) (j := 74) (am_newAt_old (a := 105) h5) (by decide) rfl (by decide) (Or.inr (Or.inr ⟨kf_X10_167, rfl, rfl, rfl⟩)) (am_tab tk_X10_init 731 rfl) rfl ?_
  exact K
theorem mi_51_len {σ : am_H} (hl : σ.1.length = 105) : (mi_51 σ).1.length = 106 := (am_newAt_len hl)
theorem mi_51_old {σ : am_H} {b : Nat} {q : Nat × Nat} (h : σ.1[b]? = some q) : (mi_51 σ).1[b]? = some q := (am_newAt_old (a := 105) h)
def mi_52 (σ : am_H) : am_H := (am_setR (am_setN (am_setN (am_setN (am_setN (am_setN (am_newAt σ 106 13 5) 106 0 116) 106 1 111) 106 2 116) 106 3 97) 106 4 108) 55 75 (some (106)))
set_option maxRecDepth 20000 in
theorem mi_52_s {Q : Option am_V → am_H → Prop} (σ : am_H) (hl : σ.1.length = 106) (h5 : σ.1[55]? = some (10, 108)) (K : am_wp M_X10_init Q 51 14917 1075 [(0, am_r 55)] [] (mi_52 σ)) : am_wp M_X10_init Q 50 14912 1043 [(0, am_r 55)] [] σ := by
  refine am_aload_n (q := 1044) rfl (am_tab tk_X10_init 732 rfl) rfl ?_
  refine am_iconst (q := 1045) (n := 5) (by decide) (am_tab tk_X10_init 733 rfl) rfl ?_
  refine am_newAa (q := 1047) (k := 13) (a := 106) (N := 5) hl (Or.inr (Or.inr ⟨rfl, rfl⟩)) ka_char rfl (by decide) (Nat.le_of_ble_eq_true rfl) (Nat.le_of_ble_eq_true rfl) (am_tab tk_X10_init 734 rfl) rfl ?_
  refine am_dup (q := 1048) rfl (am_tab tk_X10_init 735 rfl) rfl ?_
  refine am_iconst (q := 1049) (n := 0) (by decide) (am_tab tk_X10_init 736 rfl) rfl ?_
  refine am_bipush (q := 1051) (n := 116) (by decide) rfl (am_tab tk_X10_init 737 rfl) rfl ?_
  refine am_cast (q := 1052) (a := 106) (n := 5) (am_newAt_at hl) (by omega) (by omega) (by decide) (by decide +kernel) (am_tab tk_X10_init 738 rfl) rfl ?_
  refine am_dup (q := 1053) rfl (am_tab tk_X10_init 739 rfl) rfl ?_
  refine am_iconst (q := 1054) (n := 1) (by decide) (am_tab tk_X10_init 740 rfl) rfl ?_
  refine am_bipush (q := 1056) (n := 111) (by decide) rfl (am_tab tk_X10_init 741 rfl) rfl ?_
  refine am_cast (q := 1057) (a := 106) (n := 5) (am_newAt_at hl) (by omega) (by omega) (by decide) (by decide +kernel) (am_tab tk_X10_init 742 rfl) rfl ?_
  refine am_dup (q := 1058) rfl (am_tab tk_X10_init 743 rfl) rfl ?_
  refine am_iconst (q := 1059) (n := 2) (by decide) (am_tab tk_X10_init 744 rfl) rfl ?_
  refine am_bipush (q := 1061) (n := 116) (by decide) rfl (am_tab tk_X10_init 745 rfl) rfl ?_
  refine am_cast (q := 1062) (a := 106) (n := 5) (am_newAt_at hl) (by omega) (by omega) (by decide) (by decide +kernel) (am_tab tk_X10_init 746 rfl) rfl ?_
  refine am_dup (q := 1063) rfl (am_tab tk_X10_init 747 rfl) rfl ?_
  refine am_iconst (q := 1064) (n := 3) (by decide) (am_tab tk_X10_init 748 rfl) rfl ?_
  refine am_bipush (q := 1066) (n := 97) (by decide) rfl (am_tab tk_X10_init 749 rfl) rfl ?_
  refine am_cast (q := 1067) (a := 106) (n := 5) (am_newAt_at hl) (by omega) (by omega) (by decide) (by decide +kernel) (am_tab tk_X10_init 750 rfl) rfl ?_
  refine am_dup (q := 1068) rfl (am_tab tk_X10_init 751 rfl) rfl ?_
  refine am_iconst (q := 1069) (n := 4) (by decide) (am_tab tk_X10_init 752 rfl) rfl ?_
  refine am_bipush (q := 1071) (n := 108) (by decide) rfl (am_tab tk_X10_init 753 rfl) rfl ?_
  refine am_cast (q := 1072) (a := 106) (n := 5) (am_newAt_at hl) (by omega) (by omega) (by decide) (by decide +kernel) (am_tab tk_X10_init 754 rfl) rfl ?_
  refine am_putR (q := 1075) (k := 10) (n := 108) (j := 75) (am_newAt_old (a := 106) h5) (by decide) rfl (by decide) (Or.inr (Or.inr ⟨kf_X10_170, rfl, rfl, rfl⟩)) (am_tab tk_X10_init 755 rfl) rfl ?_
  exact K
theorem mi_52_len {σ : am_H} (hl : σ.1.length = 106) : (mi_52 σ).1.length = 107 := (am_newAt_len hl)
theorem mi_52_old {σ : am_H} {b : Nat} {q : Nat × Nat} (h : σ.1[b]? = some q) : (mi_52 σ).1[b]? = some q := (am_newAt_old (a := 106) h)
def mi_53 (σ : am_H) : am_H := (am_setR (am_setN (am_setN (am_setN (am_setN (am_newAt σ 107 13 4) 107 0 109) 107 1 111) 107 2 115) 107 3 116) 55 76 (some (107)))
set_option maxRecDepth 20000 in
theorem mi_53_s {Q : Option am_V → am_H → Prop} (σ : am_H) (hl : σ.1.length = 107) (h5 : σ.1[55]? = some (10, 108)) (K : am_wp M_X10_init Q 52 14921 1102 [(0, am_r 55)] [] (mi_53 σ)) : am_wp M_X10_init Q 51 14917 1075 [(0, am_r 55)] [] σ := by
  refine am_aload_n (q := 1076) rfl (am_tab tk_X10_init 756 rfl) rfl ?_
  refine am_iconst (q := 1077) (n := 4) (by decide) (am_tab tk_X10_init 757 rfl) rfl ?_
  refine am_newAa (q := 1079) (k := 13) (a := 107) (N := 4) hl (Or.inr (Or.inr ⟨rfl, rfl⟩)) ka_char rfl (by decide) (Nat.le_of_ble_eq_true rfl) (Nat.le_of_ble_eq_true rfl) (am_tab tk_X10_init 758 rfl) rfl ?_
  refine am_dup (q := 1080) rfl (am_tab tk_X10_init 759 rfl) rfl ?_
  refine am_iconst (q := 1081) (n := 0) (by decide) (am_tab tk_X10_init 760 rfl) rfl ?_
  refine am_bipush (q := 1083) (n := 109) (by decide) rfl (am_tab tk_X10_init 761 rfl) rfl ?_
  refine am_cast (q := 1084) (a := 107) (n := 4) (am_newAt_at hl) (by omega) (by omega) (by decide) (by decide +kernel) (am_tab tk_X10_init 762 rfl) rfl ?_
  refine am_dup (q := 1085) rfl (am_tab tk_X10_init 763 rfl) rfl ?_
  refine am_iconst (q := 1086) (n := 1) (by decide) (am_tab tk_X10_init 764 rfl) rfl ?_
  refine am_bipush (q := 1088) (n := 111) (by decide) rfl (am_tab tk_X10_init 765 rfl) rfl ?_
  refine am_cast (q := 1089) (a := 107) (n := 4) (am_newAt_at hl) (by omega) (by omega) (by decide) (by decide +kernel) (am_tab tk_X10_init 766 rfl) rfl ?_
  refine am_dup (q := 1090) rfl (am_tab tk_X10_init 767 rfl) rfl ?_
  refine am_iconst (q := 1091) (n := 2) (by decide) (am_tab tk_X10_init 768 rfl) rfl ?_
  refine am_bipush (q := 1093) (n := 115) (by decide) rfl (am_tab tk_X10_init 769 rfl) rfl ?_
  refine am_cast (q := 1094) (a := 107) (n := 4) (am_newAt_at hl) (by omega) (by omega) (by decide) (by decide +kernel) (am_tab tk_X10_init 770 rfl) rfl ?_
  refine am_dup (q := 1095) rfl (am_tab tk_X10_init 771 rfl) rfl ?_
  refine am_iconst (q := 1096) (n := 3) (by decide) (am_tab tk_X10_init 772 rfl) rfl ?_
  refine am_bipush (q := 1098) (n := 116) (by decide) rfl (am_tab tk_X10_init 773 rfl) rfl ?_
  refine am_cast (q := 1099) (a := 107) (n := 4) (am_newAt_at hl) (by omega) (by omega) (by decide) (by decide +kernel) (am_tab tk_X10_init 774 rfl) rfl ?_
  refine am_putR (q := 1102) (k := 10) (n := 108) (j := 76) (am_newAt_old (a := 107) h5) (by decide) rfl (by decide) (Or.inr (Or.inr ⟨kf_X10_173, rfl, rfl, rfl⟩)) (am_tab tk_X10_init 775 rfl) rfl ?_
  exact K
theorem mi_53_len {σ : am_H} (hl : σ.1.length = 107) : (mi_53 σ).1.length = 108 := (am_newAt_len hl)
theorem mi_53_old {σ : am_H} {b : Nat} {q : Nat × Nat} (h : σ.1[b]? = some q) : (mi_53 σ).1[b]? = some q := (am_newAt_old (a := 107) h)
def mi_54 (σ : am_H) : am_H := (am_setR (am_setN (am_setN (am_setN (am_setN (am_setN (am_newAt σ 108 13 5) 108 0 108) 108 1 101) 108 2 97) 108 3 115) 108 4 116) 55 77 (some (108)))
set_option maxRecDepth 20000 in
theorem mi_54_s {Q : Option am_V → am_H → Prop} (σ : am_H) (hl : σ.1.length = 108) (h5 : σ.1[55]? = some (10, 108)) (K : am_wp M_X10_init Q 53 14926 1134 [(0, am_r 55)] [] (mi_54 σ)) : am_wp M_X10_init Q 52 14921 1102 [(0, am_r 55)] [] σ := by
  refine am_aload_n (q := 1103) rfl (am_tab tk_X10_init 776 rfl) rfl ?_
  refine am_iconst (q := 1104) (n := 5) (by decide) (am_tab tk_X10_init 777 rfl) rfl ?_
  refine am_newAa (q := 1106) (k := 13) (a := 108) (N := 5) hl (Or.inr (Or.inr ⟨rfl, rfl⟩)) ka_char rfl (by decide) (Nat.le_of_ble_eq_true rfl) (Nat.le_of_ble_eq_true rfl) (am_tab tk_X10_init 778 rfl) rfl ?_
  refine am_dup (q := 1107) rfl (am_tab tk_X10_init 779 rfl) rfl ?_
  refine am_iconst (q := 1108) (n := 0) (by decide) (am_tab tk_X10_init 780 rfl) rfl ?_
  refine am_bipush (q := 1110) (n := 108) (by decide) rfl (am_tab tk_X10_init 781 rfl) rfl ?_
  refine am_cast (q := 1111) (a := 108) (n := 5) (am_newAt_at hl) (by omega) (by omega) (by decide) (by decide +kernel) (am_tab tk_X10_init 782 rfl) rfl ?_
  refine am_dup (q := 1112) rfl (am_tab tk_X10_init 783 rfl) rfl ?_
  refine am_iconst (q := 1113) (n := 1) (by decide) (am_tab tk_X10_init 784 rfl) rfl ?_
  refine am_bipush (q := 1115) (n := 101) (by decide) rfl (am_tab tk_X10_init 785 rfl) rfl ?_
  refine am_cast (q := 1116) (a := 108) (n := 5) (am_newAt_at hl) (by omega) (by omega) (by decide) (by decide +kernel) (am_tab tk_X10_init 786 rfl) rfl ?_
  refine am_dup (q := 1117) rfl (am_tab tk_X10_init 787 rfl) rfl ?_
  refine am_iconst (q := 1118) (n := 2) (by decide) (am_tab tk_X10_init 788 rfl) rfl ?_
  refine am_bipush (q := 1120) (n := 97) (by decide) rfl (am_tab tk_X10_init 789 rfl) rfl ?_
  refine am_cast (q := 1121) (a := 108) (n := 5) (am_newAt_at hl) (by omega) (by omega) (by decide) (by decide +kernel) (am_tab tk_X10_init 790 rfl) rfl ?_
  refine am_dup (q := 1122) rfl (am_tab tk_X10_init 791 rfl) rfl ?_
  refine am_iconst (q := 1123) (n := 3) (by decide) (am_tab tk_X10_init 792 rfl) rfl ?_
  refine am_bipush (q := 1125) (n := 115) (by decide) rfl (am_tab tk_X10_init 793 rfl) rfl ?_
  refine am_cast (q := 1126) (a := 108) (n := 5) (am_newAt_at hl) (by omega) (by omega) (by decide) (by decide +kernel) (am_tab tk_X10_init 794 rfl) rfl ?_
  refine am_dup (q := 1127) rfl (am_tab tk_X10_init 795 rfl) rfl ?_
  refine am_iconst (q := 1128) (n := 4) (by decide) (am_tab tk_X10_init 796 rfl) rfl ?_
  refine am_bipush (q := 1130) (n := 116) (by decide) rfl (am_tab tk_X10_init 797 rfl) rfl ?_
  refine am_cast (q := 1131) (a := 108) (n := 5) (am_newAt_at hl) (by omega) (by omega) (by decide) (by decide +kernel) (am_tab tk_X10_init 798 rfl) rfl ?_
  refine am_putR (q := 1134) (k := 10) (n := 108) (j := 77) (am_newAt_old (a := 108) h5) (by decide) rfl (by decide) (Or.inr (Or.inr ⟨kf_X10_176, rfl, rfl, rfl⟩)) (am_tab tk_X10_init 799 rfl) rfl ?_
  exact K
theorem mi_54_len {σ : am_H} (hl : σ.1.length = 108) : (mi_54 σ).1.length = 109 := (am_newAt_len hl)
theorem mi_54_old {σ : am_H} {b : Nat} {q : Nat × Nat} (h : σ.1[b]? = some q) : (mi_54 σ).1[b]? = some q := (am_newAt_old (a := 108) h)
def mi_55 (σ : am_H) : am_H := (am_setR (am_setN (am_setN (am_setN (am_newAt σ 109 13 3) 109 0 110) 109 1 111) 109 2 116) 55 78 (some (109)))
set_option maxRecDepth 20000 in
theorem mi_55_s {Q : Option am_V → am_H → Prop} (σ : am_H) (hl : σ.1.length = 109) (h5 : σ.1[55]? = some (10, 108)) (K : am_wp M_X10_init Q 54 14929 1156 [(0, am_r 55)] [] (mi_55 σ)) : am_wp M_X10_init Q 53 14926 1134 [(0, am_r 55)] [] σ := by
  refine am_aload_n (q := 1135) rfl (am_tab tk_X10_init 800 rfl) rfl ?_
  refine am_iconst (q := 1136) (n := 3) (by decide) (am_tab tk_X10_init 801 rfl) rfl ?_
  refine am_newAa (q := 1138) (k := 13) (a := 109) (N := 3) hl (Or.inr (Or.inr ⟨rfl, rfl⟩)) ka_char rfl (by decide) (Nat.le_of_ble_eq_true rfl) (Nat.le_of_ble_eq_true rfl) (am_tab tk_X10_init 802 rfl) rfl ?_
  refine am_dup (q := 1139) rfl (am_tab tk_X10_init 803 rfl) rfl ?_
  refine am_iconst (q := 1140) (n := 0) (by decide) (am_tab tk_X10_init 804 rfl) rfl ?_
  refine am_bipush (q := 1142) (n := 110) (by decide) rfl (am_tab tk_X10_init 805 rfl) rfl ?_
  refine am_cast (q := 1143) (a := 109) (n := 3) (am_newAt_at hl) (by omega) (by omega) (by decide) (by decide +kernel) (am_tab tk_X10_init 806 rfl) rfl ?_
  refine am_dup (q := 1144) rfl (am_tab tk_X10_init 807 rfl) rfl ?_
  refine am_iconst (q := 1145) (n := 1) (by decide) (am_tab tk_X10_init 808 rfl) rfl ?_
  refine am_bipush (q := 1147) (n := 111) (by decide) rfl (am_tab tk_X10_init 809 rfl) rfl ?_
  refine am_cast (q := 1148) (a := 109) (n := 3) (am_newAt_at hl) (by omega) (by omega) (by decide) (by decide +kernel) (am_tab tk_X10_init 810 rfl) rfl ?_
  refine am_dup (q := 1149) rfl (am_tab tk_X10_init 811 rfl) rfl ?_
  refine am_iconst (q := 1150) (n := 2) (by decide) (am_tab tk_X10_init 812 rfl) rfl ?_
  refine am_bipush (q := 1152) (n := 116) (by decide) rfl (am_tab tk_X10_init 813 rfl) rfl ?_
  refine am_cast (q := 1153) (a := 109) (n := 3) (am_newAt_at hl) (by omega) (by omega) (by decide) (by decide +kernel) (am_tab tk_X10_init 814 rfl) rfl ?_
  refine am_putR (q := 1156) (k := 10) (n := 108) (j := 78) (am_newAt_old (a := 109) h5) (by decide) rfl (by decide) (Or.inr (Or.inr ⟨kf_X10_179, rfl, rfl, rfl⟩)) (am_tab tk_X10_init 815 rfl) rfl ?_
  exact K
theorem mi_55_len {σ : am_H} (hl : σ.1.length = 109) : (mi_55 σ).1.length = 110 := (am_newAt_len hl)
theorem mi_55_old {σ : am_H} {b : Nat} {q : Nat × Nat} (h : σ.1[b]? = some q) : (mi_55 σ).1[b]? = some q := (am_newAt_old (a := 109) h)
def mi_56 (σ : am_H) : am_H := (am_setR (am_setN (am_setN (am_setN (am_newAt σ 110 13 3) 110 0 97) 110 1 110) 110 2 100) 55 79 (some (110)))
set_option maxRecDepth 20000 in
theorem mi_56_s {Q : Option am_V → am_H → Prop} (σ : am_H) (hl : σ.1.length = 110) (h5 : σ.1[55]? = some (10, 108)) (K : am_wp M_X10_init Q 55 14932 1178 [(0, am_r 55)] [] (mi_56 σ)) : am_wp M_X10_init Q 54 14929 1156 [(0, am_r 55)] [] σ := by
  refine am_aload_n (q := 1157) rfl (am_tab tk_X10_init 816 rfl) rfl ?_
  refine am_iconst (q := 1158) (n := 3) (by decide) (am_tab tk_X10_init 817 rfl) rfl ?_
  refine am_newAa (q := 1160) (k := 13) (a := 110) (N := 3) hl (Or.inr (Or.inr ⟨rfl, rfl⟩)) ka_char rfl (by decide) (Nat.le_of_ble_eq_true rfl) (Nat.le_of_ble_eq_true rfl) (am_tab tk_X10_init 818 rfl) rfl ?_
  refine am_dup (q := 1161) rfl (am_tab tk_X10_init 819 rfl) rfl ?_
  refine am_iconst (q := 1162) (n := 0) (by decide) (am_tab tk_X10_init 820 rfl) rfl ?_
  refine am_bipush (q := 1164) (n := 97) (by decide) rfl (am_tab tk_X10_init 821 rfl) rfl ?_
  refine am_cast (q := 1165) (a := 110) (n := 3) (am_newAt_at hl) (by omega) (by omega) (by decide) (by decide +kernel) (am_tab tk_X10_init 822 rfl) rfl ?_
  refine am_dup (q := 1166) rfl (am_tab tk_X10_init 823 rfl) rfl ?_
  refine am_iconst (q := 1167) (n := 1) (by decide) (am_tab tk_X10_init 824 rfl) rfl ?_
  refine am_bipush (q := 1169) (n := 110) (by decide) rfl (am_tab tk_X10_init 825 rfl) rfl ?_
  refine am_cast (q := 1170) (a := 110) (n := 3) (am_newAt_at hl) (by omega) (by omega) (by decide) (by decide +kernel) (am_tab tk_X10_init 826 rfl) rfl ?_
  refine am_dup (q := 1171) rfl (am_tab tk_X10_init 827 rfl) rfl ?_
  refine am_iconst (q := 1172) (n := 2) (by decide) (am_tab tk_X10_init 828 rfl) rfl ?_
  refine am_bipush (q := 1174) (n := 100) (by decide) rfl (am_tab tk_X10_init 829 rfl) rfl ?_
  refine am_cast (q := 1175) (a := 110) (n := 3) (am_newAt_at hl) (by omega) (by omega) (by decide) (by decide +kernel) (am_tab tk_X10_init 830 rfl) rfl ?_
  refine am_putR (q := 1178) (k := 10) (n := 108) (j := 79) (am_newAt_old (a := 110) h5) (by decide) rfl (by decide) (Or.inr (Or.inr ⟨kf_X10_182, rfl, rfl, rfl⟩)) (am_tab tk_X10_init 831 rfl) rfl ?_
  exact K
theorem mi_56_len {σ : am_H} (hl : σ.1.length = 110) : (mi_56 σ).1.length = 111 := (am_newAt_len hl)
theorem mi_56_old {σ : am_H} {b : Nat} {q : Nat × Nat} (h : σ.1[b]? = some q) : (mi_56 σ).1[b]? = some q := (am_newAt_old (a := 110) h)
def mi_57 (σ : am_H) : am_H := (am_setR (am_setN (am_setN (am_newAt σ 111 13 2) 111 0 111) 111 1 114) 55 80 (some (111)))
set_option maxRecDepth 20000 in
theorem mi_57_s {Q : Option am_V → am_H → Prop} (σ : am_H) (hl : σ.1.length = 111) (h5 : σ.1[55]? = some (10, 108)) (K : am_wp M_X10_init Q 56 14934 1195 [(0, am_r 55)] [] (mi_57 σ)) : am_wp M_X10_init Q 55 14932 1178 [(0, am_r 55)] [] σ := by
  refine am_aload_n (q := 1179) rfl (am_tab tk_X10_init 832 rfl) rfl ?_
  refine am_iconst (q := 1180) (n := 2) (by decide) (am_tab tk_X10_init 833 rfl) rfl ?_
  refine am_newAa (q := 1182) (k := 13) (a := 111) (N := 2) hl (Or.inr (Or.inr ⟨rfl, rfl⟩)) ka_char rfl (by decide) (Nat.le_of_ble_eq_true rfl) (Nat.le_of_ble_eq_true rfl) (am_tab tk_X10_init 834 rfl) rfl ?_
  refine am_dup (q := 1183) rfl (am_tab tk_X10_init 835 rfl) rfl ?_
  refine am_iconst (q := 1184) (n := 0) (by decide) (am_tab tk_X10_init 836 rfl) rfl ?_
  refine am_bipush (q := 1186) (n := 111) (by decide) rfl (am_tab tk_X10_init 837 rfl) rfl ?_
  refine am_cast (q := 1187) (a := 111) (n := 2) (am_newAt_at hl) (by omega) (by omega) (by decide) (by decide +kernel) (am_tab tk_X10_init 838 rfl) rfl ?_
  refine am_dup (q := 1188) rfl (am_tab tk_X10_init 839 rfl) rfl ?_
  refine am_iconst (q := 1189) (n := 1) (by decide) (am_tab tk_X10_init 840 rfl) rfl ?_
  refine am_bipush (q := 1191) (n := 114) (by decide) rfl (am_tab tk_X10_init 841 rfl) rfl ?_
  refine am_cast (q := 1192) (a := 111) (n := 2) (am_newAt_at hl) (by omega) (by omega) (by decide) (by decide +kernel) (am_tab tk_X10_init 842 rfl) rfl ?_
  refine am_putR (q := 1195) (k := 10) (n := 108) (j := 80) (am_newAt_old (a := 111) h5) (by decide) rfl (by decide) (Or.inr (Or.inr ⟨kf_X10_185, rfl, rfl, rfl⟩)) (am_tab tk_X10_init 843 rfl) rfl ?_
  exact K
theorem mi_57_len {σ : am_H} (hl : σ.1.length = 111) : (mi_57 σ).1.length = 112 := (am_newAt_len hl)
theorem mi_57_old {σ : am_H} {b : Nat} {q : Nat × Nat} (h : σ.1[b]? = some q) : (mi_57 σ).1[b]? = some q := (am_newAt_old (a := 111) h)
def mi_58 (σ : am_H) : am_H := (am_setR (am_setN (am_setN (am_setN (am_newAt σ 112 13 3) 112 0 97) 112 1 108) 112 2 108) 55 81 (some (112)))
set_option maxRecDepth 20000 in
theorem mi_58_s {Q : Option am_V → am_H → Prop} (σ : am_H) (hl : σ.1.length = 112) (h5 : σ.1[55]? = some (10, 108)) (K : am_wp M_X10_init Q 57 14937 1217 [(0, am_r 55)] [] (mi_58 σ)) : am_wp M_X10_init Q 56 14934 1195 [(0, am_r 55)] [] σ := by
  refine am_aload_n (q := 1196) rfl (am_tab tk_X10_init 844 rfl) rfl ?_
  refine am_iconst (q := 1197) (n := 3) (by decide) (am_tab tk_X10_init 845 rfl) rfl ?_
  refine am_newAa (q := 1199) (k := 13) (a := 112) (N := 3) hl (Or.inr (Or.inr ⟨rfl, rfl⟩)) ka_char rfl (by decide) (Nat.le_of_ble_eq_true rfl) (Nat.le_of_ble_eq_true rfl) (am_tab tk_X10_init 846 rfl) rfl ?_
  refine am_dup (q := 1200) rfl (am_tab tk_X10_init 847 rfl) rfl ?_
  refine am_iconst (q := 1201) (n := 0) (by decide) (am_tab tk_X10_init 848 rfl) rfl ?_
  refine am_bipush (q := 1203) (n := 97) (by decide) rfl (am_tab tk_X10_init 849 rfl) rfl ?_
  refine am_cast (q := 1204) (a := 112) (n := 3) (am_newAt_at hl) (by omega) (by omega) (by decide) (by decide +kernel) (am_tab tk_X10_init 850 rfl) rfl ?_
  refine am_dup (q := 1205) rfl (am_tab tk_X10_init 851 rfl) rfl ?_
  refine am_iconst (q := 1206) (n := 1) (by decide) (am_tab tk_X10_init 852 rfl) rfl ?_
  refine am_bipush (q := 1208) (n := 108) (by decide) rfl (am_tab tk_X10_init 853 rfl) rfl ?_
  refine am_cast (q := 1209) (a := 112) (n := 3) (am_newAt_at hl) (by omega) (by omega) (by decide) (by decide +kernel) (am_tab tk_X10_init 854 rfl) rfl ?_
  refine am_dup (q := 1210) rfl (am_tab tk_X10_init 855 rfl) rfl ?_
  refine am_iconst (q := 1211) (n := 2) (by decide) (am_tab tk_X10_init 856 rfl) rfl ?_
  refine am_bipush (q := 1213) (n := 108) (by decide) rfl (am_tab tk_X10_init 857 rfl) rfl ?_
  refine am_cast (q := 1214) (a := 112) (n := 3) (am_newAt_at hl) (by omega) (by omega) (by decide) (by decide +kernel) (am_tab tk_X10_init 858 rfl) rfl ?_
  refine am_putR (q := 1217) (k := 10) (n := 108) (j := 81) (am_newAt_old (a := 112) h5) (by decide) rfl (by decide) (Or.inr (Or.inr ⟨kf_X10_188, rfl, rfl, rfl⟩)) (am_tab tk_X10_init 859 rfl) rfl ?_
  exact K
theorem mi_58_len {σ : am_H} (hl : σ.1.length = 112) : (mi_58 σ).1.length = 113 := (am_newAt_len hl)
theorem mi_58_old {σ : am_H} {b : Nat} {q : Nat × Nat} (h : σ.1[b]? = some q) : (mi_58 σ).1[b]? = some q := (am_newAt_old (a := 112) h)
def mi_59 (σ : am_H) : am_H := (am_setR (am_setN (am_setN (am_setN (am_newAt σ 113 13 3) 113 0 109) 113 1 105) 113 2 110) 55 82 (some (113)))
set_option maxRecDepth 20000 in
theorem mi_59_s {Q : Option am_V → am_H → Prop} (σ : am_H) (hl : σ.1.length = 113) (h5 : σ.1[55]? = some (10, 108)) (K : am_wp M_X10_init Q 58 14940 1239 [(0, am_r 55)] [] (mi_59 σ)) : am_wp M_X10_init Q 57 14937 1217 [(0, am_r 55)] [] σ := by
  refine am_aload_n (q := 1218) rfl (am_tab tk_X10_init 860 rfl) rfl ?_
  refine am_iconst (q := 1219) (n := 3) (by decide) (am_tab tk_X10_init 861 rfl) rfl ?_
  refine am_newAa (q := 1221) (k := 13) (a := 113) (N := 3) hl (Or.inr (Or.inr ⟨rfl, rfl⟩)) ka_char rfl (by decide) (Nat.le_of_ble_eq_true rfl) (Nat.le_of_ble_eq_true rfl) (am_tab tk_X10_init 862 rfl) rfl ?_
  refine am_dup (q := 1222) rfl (am_tab tk_X10_init 863 rfl) rfl ?_
  refine am_iconst (q := 1223) (n := 0) (by decide) (am_tab tk_X10_init 864 rfl) rfl ?_
  refine am_bipush (q := 1225) (n := 109) (by decide) rfl (am_tab tk_X10_init 865 rfl) rfl ?_
  refine am_cast (q := 1226) (a := 113) (n := 3) (am_newAt_at hl) (by omega) (by omega) (by decide) (by decide +kernel) (am_tab tk_X10_init 866 rfl) rfl ?_
  refine am_dup (q := 1227) rfl (am_tab tk_X10_init 867 rfl) rfl ?_
  refine am_iconst (q := 1228) (n := 1) (by decide) (am_tab tk_X10_init 868 rfl) rfl ?_
  refine am_bipush (q := 1230) (n := 105) (by decide) rfl (am_tab tk_X10_init 869 rfl) rfl ?_
  refine am_cast (q := 1231) (a := 113) (n := 3) (am_newAt_at hl) (by omega) (by omega) (by decide) (by decide +kernel) (am_tab tk_X10_init 870 rfl) rfl ?_
  refine am_dup (q := 1232) rfl (am_tab tk_X10_init 871 rfl) rfl ?_
  refine am_iconst (q := 1233) (n := 2) (by decide) (am_tab tk_X10_init 872 rfl) rfl ?_
  refine am_bipush (q := 1235) (n := 110) (by decide) rfl (am_tab tk_X10_init 873 rfl) rfl ?_
  refine am_cast (q := 1236) (a := 113) (n := 3) (am_newAt_at hl) (by omega) (by omega) (by decide) (by decide +kernel) (am_tab tk_X10_init 874 rfl) rfl ?_
  refine am_putR (q := 1239) (k := 10) (n := 108) (j := 82) (am_newAt_old (a := 113) h5) (by decide) rfl (by decide) (Or.inr (Or.inr ⟨kf_X10_191, rfl, rfl, rfl⟩)) (am_tab tk_X10_init 875 rfl) rfl ?_
  exact K
theorem mi_59_len {σ : am_H} (hl : σ.1.length = 113) : (mi_59 σ).1.length = 114 := (am_newAt_len hl)
theorem mi_59_old {σ : am_H} {b : Nat} {q : Nat × Nat} (h : σ.1[b]? = some q) : (mi_59 σ).1[b]? = some q := (am_newAt_old (a := 113) h)
def mi_60 (σ : am_H) : am_H := (am_setR (am_setN (am_setN (am_setN (am_newAt σ 114 13 3) 114 0 109) 114 1 97) 114 2 120) 55 83 (some (114)))
set_option maxRecDepth 20000 in
theorem mi_60_s {Q : Option am_V → am_H → Prop} (σ : am_H) (hl : σ.1.length = 114) (h5 : σ.1[55]? = some (10, 108)) (K : am_wp M_X10_init Q 59 14943 1261 [(0, am_r 55)] [] (mi_60 σ)) : am_wp M_X10_init Q 58 14940 1239 [(0, am_r 55)] [] σ := by
  refine am_aload_n (q := 1240) rfl (am_tab tk_X10_init 876 rfl) rfl ?_
  refine am_iconst (q := 1241) (n := 3) (by decide) (am_tab tk_X10_init 877 rfl) rfl ?_
  refine am_newAa (q := 1243) (k := 13) (a := 114) (N := 3) hl (Or.inr (Or.inr ⟨rfl, rfl⟩)) ka_char rfl (by decide) (Nat.le_of_ble_eq_true rfl) (Nat.le_of_ble_eq_true rfl) (am_tab tk_X10_init 878 rfl) rfl ?_
  refine am_dup (q := 1244) rfl (am_tab tk_X10_init 879 rfl) rfl ?_
  refine am_iconst (q := 1245) (n := 0) (by decide) (am_tab tk_X10_init 880 rfl) rfl ?_
  refine am_bipush (q := 1247) (n := 109) (by decide) rfl (am_tab tk_X10_init 881 rfl) rfl ?_
  refine am_cast (q := 1248) (a := 114) (n := 3) (am_newAt_at hl) (by omega) (by omega) (by decide) (by decide +kernel) (am_tab tk_X10_init 882 rfl) rfl ?_
  refine am_dup (q := 1249) rfl (am_tab tk_X10_init 883 rfl) rfl ?_
  refine am_iconst (q := 1250) (n := 1) (by decide) (am_tab tk_X10_init 884 rfl) rfl ?_
  refine am_bipush (q := 1252) (n := 97) (by decide) rfl (am_tab tk_X10_init 885 rfl) rfl ?_
  refine am_cast (q := 1253) (a := 114) (n := 3) (am_newAt_at hl) (by omega) (by omega) (by decide) (by decide +kernel) (am_tab tk_X10_init 886 rfl) rfl ?_
  refine am_dup (q := 1254) rfl (am_tab tk_X10_init 887 rfl) rfl ?_
  refine am_iconst (q := 1255) (n := 2) (by decide) (am_tab tk_X10_init 888 rfl) rfl ?_
  refine am_bipush (q := 1257) (n := 120) (by decide) rfl (am_tab tk_X10_init 889 rfl) rfl ?_
  refine am_cast (q := 1258) (a := 114) (n := 3) (am_newAt_at hl) (by omega) (by omega) (by decide) (by decide +kernel) (am_tab tk_X10_init 890 rfl) rfl ?_
  refine am_putR (q := 1261) (k := 10) (n := 108) (j := 83) (am_newAt_old (a := 114) h5) (by decide) rfl (by decide) (Or.inr (Or.inr ⟨kf_X10_194, rfl, rfl, rfl⟩)) (am_tab tk_X10_init 891 rfl) rfl ?_
  exact K
theorem mi_60_len {σ : am_H} (hl : σ.1.length = 114) : (mi_60 σ).1.length = 115 := (am_newAt_len hl)
theorem mi_60_old {σ : am_H} {b : Nat} {q : Nat × Nat} (h : σ.1[b]? = some q) : (mi_60 σ).1[b]? = some q := (am_newAt_old (a := 114) h)
def mi_61 (σ : am_H) : am_H := (am_setR (am_setN (am_setN (am_setN (am_newAt σ 115 13 3) 115 0 100) 115 1 97) 115 2 121) 55 84 (some (115)))
set_option maxRecDepth 20000 in
theorem mi_61_s {Q : Option am_V → am_H → Prop} (σ : am_H) (hl : σ.1.length = 115) (h5 : σ.1[55]? = some (10, 108)) (K : am_wp M_X10_init Q 60 14946 1283 [(0, am_r 55)] [] (mi_61 σ)) : am_wp M_X10_init Q 59 14943 1261 [(0, am_r 55)] [] σ := by
  refine am_aload_n (q := 1262) rfl (am_tab tk_X10_init 892 rfl) rfl ?_
  refine am_iconst (q := 1263) (n := 3) (by decide) (am_tab tk_X10_init 893 rfl) rfl ?_
  refine am_newAa (q := 1265) (k := 13) (a := 115) (N := 3) hl (Or.inr (Or.inr ⟨rfl, rfl⟩)) ka_char rfl (by decide) (Nat.le_of_ble_eq_true rfl) (Nat.le_of_ble_eq_true rfl) (am_tab tk_X10_init 894 rfl) rfl ?_
  refine am_dup (q := 1266) rfl (am_tab tk_X10_init 895 rfl) rfl ?_
  refine am_iconst (q := 1267) (n := 0) (by decide) (am_tab tk_X10_init 896 rfl) rfl ?_
  refine am_bipush (q := 1269) (n := 100) (by decide) rfl (am_tab tk_X10_init 897 rfl) rfl ?_
  refine am_cast (q := 1270) (a := 115) (n := 3) (am_newAt_at hl) (by omega) (by omega) (by decide) (by decide +kernel) (am_tab tk_X10_init 898 rfl) rfl ?_
  refine am_dup (q := 1271) rfl (am_tab tk_X10_init 899 rfl) rfl ?_
  refine am_iconst (q := 1272) (n := 1) (by decide) (am_tab tk_X10_init 900 rfl) rfl ?_
  refine am_bipush (q := 1274) (n := 97) (by decide) rfl (am_tab tk_X10_init 901 rfl) rfl ?_
  refine am_cast (q := 1275) (a := 115) (n := 3) (am_newAt_at hl) (by omega) (by omega) (by decide) (by decide +kernel) (am_tab tk_X10_init 902 rfl) rfl ?_
  refine am_dup (q := 1276) rfl (am_tab tk_X10_init 903 rfl) rfl ?_
  refine am_iconst (q := 1277) (n := 2) (by decide) (am_tab tk_X10_init 904 rfl) rfl ?_
  refine am_bipush (q := 1279) (n := 121) (by decide) rfl (am_tab tk_X10_init 905 rfl) rfl ?_
  refine am_cast (q := 1280) (a := 115) (n := 3) (am_newAt_at hl) (by omega) (by omega) (by decide) (by decide +kernel) (am_tab tk_X10_init 906 rfl) rfl ?_
  refine am_putR (q := 1283) (k := 10) (n := 108) (j := 84) (am_newAt_old (a := 115) h5) (by decide) rfl (by decide) (Or.inr (Or.inr ⟨kf_X10_197, rfl, rfl, rfl⟩)) (am_tab tk_X10_init 907 rfl) rfl ?_
  exact K
theorem mi_61_len {σ : am_H} (hl : σ.1.length = 115) : (mi_61 σ).1.length = 116 := (am_newAt_len hl)
theorem mi_61_old {σ : am_H} {b : Nat} {q : Nat × Nat} (h : σ.1[b]? = some q) : (mi_61 σ).1[b]? = some q := (am_newAt_old (a := 115) h)
def mi_62 (σ : am_H) : am_H := (am_setR (am_setN (am_setN (am_setN (am_setN (am_newAt σ 116 13 4) 116 0 116) 116 1 111) 116 2 108) 116 3 100) 55 85 (some (116)))
set_option maxRecDepth 20000 in
theorem mi_62_s {Q : Option am_V → am_H → Prop} (σ : am_H) (hl : σ.1.length = 116) (h5 : σ.1[55]? = some (10, 108)) (K : am_wp M_X10_init Q 61 14950 1310 [(0, am_r 55)] [] (mi_62 σ)) : am_wp M_X10_init Q 60 14946 1283 [(0, am_r 55)] [] σ := by
  refine am_aload_n (q := 1284) rfl (am_tab tk_X10_init 908 rfl) rfl ?_
  refine am_iconst (q := 1285) (n := 4) (by decide) (am_tab tk_X10_init 909 rfl) rfl ?_
  refine am_newAa (q := 1287) (k := 13) (a := 116) (N := 4) hl (Or.inr (Or.inr ⟨rfl, rfl⟩)) ka_char rfl (by decide) (Nat.le_of_ble_eq_true rfl) (Nat.le_of_ble_eq_true rfl) (am_tab tk_X10_init 910 rfl) rfl ?_
  refine am_dup (q := 1288) rfl (am_tab tk_X10_init 911 rfl) rfl ?_
  refine am_iconst (q := 1289) (n := 0) (by decide) (am_tab tk_X10_init 912 rfl) rfl ?_
  refine am_bipush (q := 1291) (n := 116) (by decide) rfl (am_tab tk_X10_init 913 rfl) rfl ?_
  refine am_cast (q := 1292) (a := 116) (n := 4) (am_newAt_at hl) (by omega) (by omega) (by decide) (by decide +kernel) (am_tab tk_X10_init 914 rfl) rfl ?_
  refine am_dup (q := 1293) rfl (am_tab tk_X10_init 915 rfl) rfl ?_
  refine am_iconst (q := 1294) (n := 1) (by decide) (am_tab tk_X10_init 916 rfl) rfl ?_
  refine am_bipush (q := 1296) (n := 111) (by decide) rfl (am_tab tk_X10_init 917 rfl) rfl ?_
  refine am_cast (q := 1297) (a := 116) (n := 4) (am_newAt_at hl) (by omega) (by omega) (by decide) (by decide +kernel) (am_tab tk_X10_init 918 rfl) rfl ?_
  refine am_dup (q := 1298) rfl (am_tab tk_X10_init 919 rfl) rfl ?_
  refine am_iconst (q := 1299) (n := 2) (by decide) (am_tab tk_X10_init 920 rfl) rfl ?_
  refine am_bipush (q := 1301) (n := 108) (by decide) rfl (am_tab tk_X10_init 921 rfl) rfl ?_
  refine am_cast (q := 1302) (a := 116) (n := 4) (am_newAt_at hl) (by omega) (by omega) (by decide) (by decide +kernel) (am_tab tk_X10_init 922 rfl) rfl ?_
  refine am_dup (q := 1303) rfl (am_tab tk_X10_init 923 rfl) rfl ?_
  refine am_iconst (q := 1304) (n := 3) (by decide) (am_tab tk_X10_init 924 rfl) rfl ?_
  refine am_bipush (q := 1306) (n := 100) (by decide) rfl (am_tab tk_X10_init 925 rfl) rfl ?_
  refine am_cast (q := 1307) (a := 116) (n := 4) (am_newAt_at hl) (by omega) (by omega) (by decide) (by decide +kernel) (am_tab tk_X10_init 926 rfl) rfl ?_
  refine am_putR (q := 1310) (k := 10) (n := 108) (j := 85) (am_newAt_old (a := 116) h5) (by decide) rfl (by decide) (Or.inr (Or.inr ⟨kf_X10_200, rfl, rfl, rfl⟩)) (am_tab tk_X10_init 927 rfl) rfl ?_
  exact K
theorem mi_62_len {σ : am_H} (hl : σ.1.length = 116) : (mi_62 σ).1.length = 117 := (am_newAt_len hl)
theorem mi_62_old {σ : am_H} {b : Nat} {q : Nat × Nat} (h : σ.1[b]? = some q) : (mi_62 σ).1[b]? = some q := (am_newAt_old (a := 116) h)
def mi_63 (σ : am_H) : am_H := (am_setR (am_setN (am_setN (am_setN (am_newAt σ 117 13 3) 117 0 97) 117 1 103) 117 2 111) 55 86 (some (117)))
set_option maxRecDepth 20000 in
theorem mi_63_s {Q : Option am_V → am_H → Prop} (σ : am_H) (hl : σ.1.length = 117) (h5 : σ.1[55]? = some (10, 108)) (K : am_wp M_X10_init Q 62 14953 1332 [(0, am_r 55)] [] (mi_63 σ)) : am_wp M_X10_init Q 61 14950 1310 [(0, am_r 55)] [] σ := by
  refine am_aload_n (q := 1311) rfl (am_tab tk_X10_init 928 rfl) rfl ?_
  refine am_iconst (q := 1312) (n := 3) (by decide) (am_tab tk_X10_init 929 rfl) rfl ?_
  refine am_newAa (q := 1314) (k := 13) (a := 117) (N := 3) hl (Or.inr (Or.inr ⟨rfl, rfl⟩)) ka_char rfl (by decide) (Nat.le_of_ble_eq_true rfl) (Nat.le_of_ble_eq_true rfl) (am_tab tk_X10_init 930 rfl) rfl ?_
  refine am_dup (q := 1315) rfl (am_tab tk_X10_init 931 rfl) rfl ?_
  refine am_iconst (q := 1316) (n := 0) (by decide) (am_tab tk_X10_init 932 rfl) rfl ?_
  refine am_bipush (q := 1318) (n := 97) (by decide) rfl (am_tab tk_X10_init 933 rfl) rfl ?_
  refine am_cast (q := 1319) (a := 117) (n := 3) (am_newAt_at hl) (by omega) (by omega) (by decide) (by decide +kernel) (am_tab tk_X10_init 934 rfl) rfl ?_
  refine am_dup (q := 1320) rfl (am_tab tk_X10_init 935 rfl) rfl ?_
  refine am_iconst (q := 1321) (n := 1) (by decide) (am_tab tk_X10_init 936 rfl) rfl ?_
  refine am_bipush (q := 1323) (n := 103) (by decide) rfl (am_tab tk_X10_init 937 rfl) rfl ?_
  refine am_cast (q := 1324) (a := 117) (n := 3) (am_newAt_at hl) (by omega) (by omega) (by decide) (by decide +kernel) (am_tab tk_X10_init 938 rfl) rfl ?_
  refine am_dup (q := 1325) rfl (am_tab tk_X10_init 939 rfl) rfl ?_
  refine am_iconst (q := 1326) (n := 2) (by decide) (am_tab tk_X10_init 940 rfl) rfl ?_
  refine am_bipush (q := 1328) (n := 111) (by decide) rfl (am_tab tk_X10_init 941 rfl) rfl ?_
  refine am_cast (q := 1329) (a := 117) (n := 3) (am_newAt_at hl) (by omega) (by omega) (by decide) (by decide +kernel) (am_tab tk_X10_init 942 rfl) rfl ?_
  refine am_putR (q := 1332) (k := 10) (n := 108) (j := 86) (am_newAt_old (a := 117) h5) (by decide) rfl (by decide) (Or.inr (Or.inr ⟨kf_X10_203, rfl, rfl, rfl⟩)) (am_tab tk_X10_init 943 rfl) rfl ?_
  exact K
theorem mi_63_len {σ : am_H} (hl : σ.1.length = 117) : (mi_63 σ).1.length = 118 := (am_newAt_len hl)
theorem mi_63_old {σ : am_H} {b : Nat} {q : Nat × Nat} (h : σ.1[b]? = some q) : (mi_63 σ).1[b]? = some q := (am_newAt_old (a := 117) h)
def mi_64 (σ : am_H) : am_H := (am_setR (am_setN (am_setN (am_setN (am_setN (am_newAt σ 118 13 4) 118 0 109) 118 1 105) 118 2 110) 118 3 100) 55 87 (some (118)))
set_option maxRecDepth 20000 in
theorem mi_64_s {Q : Option am_V → am_H → Prop} (σ : am_H) (hl : σ.1.length = 118) (h5 : σ.1[55]? = some (10, 108)) (K : am_wp M_X10_init Q 63 14957 1359 [(0, am_r 55)] [] (mi_64 σ)) : am_wp M_X10_init Q 62 14953 1332 [(0, am_r 55)] [] σ := by
  refine am_aload_n (q := 1333) rfl (am_tab tk_X10_init 944 rfl) rfl ?_
  refine am_iconst (q := 1334) (n := 4) (by decide) (am_tab tk_X10_init 945 rfl) rfl ?_
  refine am_newAa (q := 1336) (k := 13) (a := 118) (N := 4) hl (Or.inr (Or.inr ⟨rfl, rfl⟩)) ka_char rfl (by decide) (Nat.le_of_ble_eq_true rfl) (Nat.le_of_ble_eq_true rfl) (am_tab tk_X10_init 946 rfl) rfl ?_
  refine am_dup (q := 1337) rfl (am_tab tk_X10_init 947 rfl) rfl ?_
  refine am_iconst (q := 1338) (n := 0) (by decide) (am_tab tk_X10_init 948 rfl) rfl ?_
  refine am_bipush (q := 1340) (n := 109) (by decide) rfl (am_tab tk_X10_init 949 rfl) rfl ?_
  refine am_cast (q := 1341) (a := 118) (n := 4) (am_newAt_at hl) (by omega) (by omega) (by decide) (by decide +kernel) (am_tab tk_X10_init 950 rfl) rfl ?_
  refine am_dup (q := 1342) rfl (am_tab tk_X10_init 951 rfl) rfl ?_
  refine am_iconst (q := 1343) (n := 1) (by decide) (am_tab tk_X10_init 952 rfl) rfl ?_
  refine am_bipush (q := 1345) (n := 105) (by decide) rfl (am_tab tk_X10_init 953 rfl) rfl ?_
  refine am_cast (q := 1346) (a := 118) (n := 4) (am_newAt_at hl) (by omega) (by omega) (by decide) (by decide +kernel) (am_tab tk_X10_init 954 rfl) rfl ?_
  refine am_dup (q := 1347) rfl (am_tab tk_X10_init 955 rfl) rfl ?_
  refine am_iconst (q := 1348) (n := 2) (by decide) (am_tab tk_X10_init 956 rfl) rfl ?_
  refine am_bipush (q := 1350) (n := 110) (by decide) rfl (am_tab tk_X10_init 957 rfl) rfl ?_
  refine am_cast (q := 1351) (a := 118) (n := 4) (am_newAt_at hl) (by omega) (by omega) (by decide) (by decide +kernel) (am_tab tk_X10_init 958 rfl) rfl ?_
  refine am_dup (q := 1352) rfl (am_tab tk_X10_init 959 rfl) rfl ?_
  refine am_iconst (q := 1353) (n := 3) (by decide) (am_tab tk_X10_init 960 rfl) rfl ?_
  refine am_bipush (q := 1355) (n := 100) (by decide) rfl (am_tab tk_X10_init 961 rfl) rfl ?_
  refine am_cast (q := 1356) (a := 118) (n := 4) (am_newAt_at hl) (by omega) (by omega) (by decide) (by decide +kernel) (am_tab tk_X10_init 962 rfl) rfl ?_
  refine am_putR (q := 1359) (k := 10) (n := 108) (j := 87) (am_newAt_old (a := 118) h5) (by decide) rfl (by decide) (Or.inr (Or.inr ⟨kf_X10_206, rfl, rfl, rfl⟩)) (am_tab tk_X10_init 963 rfl) rfl ?_
  exact K
theorem mi_64_len {σ : am_H} (hl : σ.1.length = 118) : (mi_64 σ).1.length = 119 := (am_newAt_len hl)
theorem mi_64_old {σ : am_H} {b : Nat} {q : Nat × Nat} (h : σ.1[b]? = some q) : (mi_64 σ).1[b]? = some q := (am_newAt_old (a := 118) h)
def mi_65 (σ : am_H) : am_H := (am_setR (am_setN (am_setN (am_setN (am_setN (am_setN (am_newAt σ 119 13 5) 119 0 102) 119 1 101) 119 2 97) 119 3 115) 119 4 116) 55 88 (some (119)))
set_option maxRecDepth 20000 in
theorem mi_65_s {Q : Option am_V → am_H → Prop} (σ : am_H) (hl : σ.1.length = 119) (h5 : σ.1[55]? = some (10, 108)) (K : am_wp M_X10_init Q 64 14962 1391 [(0, am_r 55)] [] (mi_65 σ)) : am_wp M_X10_init Q 63 14957 1359 [(0, am_r 55)] [] σ := by
  refine am_aload_n (q := 1360) rfl (am_tab tk_X10_init 964 rfl) rfl ?_
  refine am_iconst (q := 1361) (n := 5) (by decide) (am_tab tk_X10_init 965 rfl) rfl ?_
  refine am_newAa (q := 1363) (k := 13) (a := 119) (N := 5) hl (Or.inr (Or.inr ⟨rfl, rfl⟩)) ka_char rfl (by decide) (Nat.le_of_ble_eq_true rfl) (Nat.le_of_ble_eq_true rfl) (am_tab tk_X10_init 966 rfl) rfl ?_
  refine am_dup (q := 1364) rfl (am_tab tk_X10_init 967 rfl) rfl ?_
  refine am_iconst (q := 1365) (n := 0) (by decide) (am_tab tk_X10_init 968 rfl) rfl ?_
  refine am_bipush (q := 1367) (n := 102) (by decide) rfl (am_tab tk_X10_init 969 rfl) rfl ?_
  refine am_cast (q := 1368) (a := 119) (n := 5) (am_newAt_at hl) (by omega) (by omega) (by decide) (by decide +kernel) (am_tab tk_X10_init 970 rfl) rfl ?_
  refine am_dup (q := 1369) rfl (am_tab tk_X10_init 971 rfl) rfl ?_
  refine am_iconst (q := 1370) (n := 1) (by decide) (am_tab tk_X10_init 972 rfl) rfl ?_
  refine am_bipush (q := 1372) (n := 101) (by decide) rfl (am_tab tk_X10_init 973 rfl) rfl ?_
  refine am_cast (q := 1373) (a := 119) (n := 5) (am_newAt_at hl) (by omega) (by omega) (by decide) (by decide +kernel) (am_tab tk_X10_init 974 rfl) rfl ?_
  refine am_dup (q := 1374) rfl (am_tab tk_X10_init 975 rfl) rfl ?_
  refine am_iconst (q := 1375) (n := 2) (by decide) (am_tab tk_X10_init 976 rfl) rfl ?_
  refine am_bipush (q := 1377) (n := 97) (by decide) rfl (am_tab tk_X10_init 977 rfl) rfl ?_
  refine am_cast (q := 1378) (a := 119) (n := 5) (am_newAt_at hl) (by omega) (by omega) (by decide) (by decide +kernel) (am_tab tk_X10_init 978 rfl) rfl ?_
  refine am_dup (q := 1379) rfl (am_tab tk_X10_init 979 rfl) rfl ?_
  refine am_iconst (q := 1380) (n := 3) (by decide) (am_tab tk_X10_init 980 rfl) rfl ?_
  refine am_bipush (q := 1382) (n := 115) (by decide) rfl (am_tab tk_X10_init 981 rfl) rfl ?_
  refine am_cast (q := 1383) (a := 119) (n := 5) (am_newAt_at hl) (by omega) (by omega) (by decide) (by decide +kernel) (am_tab tk_X10_init 982 rfl) rfl ?_
  refine am_dup (q := 1384) rfl (am_tab tk_X10_init 983 rfl) rfl ?_
  refine am_iconst (q := 1385) (n := 4) (by decide) (am_tab tk_X10_init 984 rfl) rfl ?_
  refine am_bipush (q := 1387) (n := 116) (by decide) rfl (am_tab tk_X10_init 985 rfl) rfl ?_
  refine am_cast (q := 1388) (a := 119) (n := 5) (am_newAt_at hl) (by omega) (by omega) (by decide) (by decide +kernel) (am_tab tk_X10_init 986 rfl) rfl ?_
  refine am_putR (q := 1391) (k := 10) (n := 108) (j := 88) (am_newAt_old (a := 119) h5) (by decide) rfl (by decide) (Or.inr (Or.inr ⟨kf_X10_209, rfl, rfl, rfl⟩)) (am_tab tk_X10_init 987 rfl) rfl ?_
  exact K
theorem mi_65_len {σ : am_H} (hl : σ.1.length = 119) : (mi_65 σ).1.length = 120 := (am_newAt_len hl)
theorem mi_65_old {σ : am_H} {b : Nat} {q : Nat × Nat} (h : σ.1[b]? = some q) : (mi_65 σ).1[b]? = some q := (am_newAt_old (a := 119) h)
def mi_66 (σ : am_H) : am_H := (am_setR (am_setN (am_setN (am_setN (am_setN (am_newAt σ 120 13 4) 120 0 121) 120 1 101) 120 2 97) 120 3 114) 55 89 (some (120)))
set_option maxRecDepth 20000 in
theorem mi_66_s {Q : Option am_V → am_H → Prop} (σ : am_H) (hl : σ.1.length = 120) (h5 : σ.1[55]? = some (10, 108)) (K : am_wp M_X10_init Q 65 14966 1418 [(0, am_r 55)] [] (mi_66 σ)) : am_wp M_X10_init Q 64 14962 1391 [(0, am_r 55)] [] σ := by
  refine am_aload_n (q := 1392) rfl (am_tab tk_X10_init 988 rfl) rfl ?_
  refine am_iconst (q := 1393) (n := 4) (by decide) (am_tab tk_X10_init 989 rfl) rfl ?_
  refine am_newAa (q := 1395) (k := 13) (a := 120) (N := 4) hl (Or.inr (Or.inr ⟨rfl, rfl⟩)) ka_char rfl (by decide) (Nat.le_of_ble_eq_true rfl) (Nat.le_of_ble_eq_true rfl) (am_tab tk_X10_init 990 rfl) rfl ?_
  refine am_dup (q := 1396) rfl (am_tab tk_X10_init 991 rfl) rfl ?_
  refine am_iconst (q := 1397) (n := 0) (by decide) (am_tab tk_X10_init 992 rfl) rfl ?_
  refine am_bipush (q := 1399) (n := 121) (by decide) rfl (am_tab tk_X10_init 993 rfl) rfl ?_
  refine am_cast (q := 1400) (a := 120) (n := 4) (am_newAt_at hl) (by omega) (by omega) (by decide) (by decide +kernel) (am_tab tk_X10_init 994 rfl) rfl ?_
  refine am_dup (q := 1401) rfl (am_tab tk_X10_init 995 rfl) rfl ?_
  refine am_iconst (q := 1402) (n := 1) (by decide) (am_tab tk_X10_init 996 rfl) rfl ?_
  refine am_bipush (q := 1404) (n := 101) (by decide) rfl (am_tab tk_X10_init 997 rfl) rfl ?_
  refine am_cast (q := 1405) (a := 120) (n := 4) (am_newAt_at hl) (by omega) (by omega) (by decide) (by decide +kernel) (am_tab tk_X10_init 998 rfl) rfl ?_
  refine am_dup (q := 1406) rfl (am_tab tk_X10_init 999 rfl) rfl ?_
  refine am_iconst (q := 1407) (n := 2) (by decide) (am_tab tk_X10_init 1000 rfl) rfl ?_
  refine am_bipush (q := 1409) (n := 97) (by decide) rfl (am_tab tk_X10_init 1001 rfl) rfl ?_
  refine am_cast (q := 1410) (a := 120) (n := 4) (am_newAt_at hl) (by omega) (by omega) (by decide) (by decide +kernel) (am_tab tk_X10_init 1002 rfl) rfl ?_
  refine am_dup (q := 1411) rfl (am_tab tk_X10_init 1003 rfl) rfl ?_
  refine am_iconst (q := 1412) (n := 3) (by decide) (am_tab tk_X10_init 1004 rfl) rfl ?_
  refine am_bipush (q := 1414) (n := 114) (by decide) rfl (am_tab tk_X10_init 1005 rfl) rfl ?_
  refine am_cast (q := 1415) (a := 120) (n := 4) (am_newAt_at hl) (by omega) (by omega) (by decide) (by decide +kernel) (am_tab tk_X10_init 1006 rfl) rfl ?_
  refine am_putR (q := 1418) (k := 10) (n := 108) (j := 89) (am_newAt_old (a := 120) h5) (by decide) rfl (by decide) (Or.inr (Or.inr ⟨kf_X10_212, rfl, rfl, rfl⟩)) (am_tab tk_X10_init 1007 rfl) rfl ?_
  exact K
theorem mi_66_len {σ : am_H} (hl : σ.1.length = 120) : (mi_66 σ).1.length = 121 := (am_newAt_len hl)
theorem mi_66_old {σ : am_H} {b : Nat} {q : Nat × Nat} (h : σ.1[b]? = some q) : (mi_66 σ).1[b]? = some q := (am_newAt_old (a := 120) h)
def mi_67 (σ : am_H) : am_H := (am_setR (am_setN (am_setN (am_setN (am_setN (am_setN (am_newAt σ 121 13 5) 121 0 102) 121 1 114) 121 2 111) 121 3 115) 121 4 116) 55 90 (some (121)))
set_option maxRecDepth 20000 in
theorem mi_67_s {Q : Option am_V → am_H → Prop} (σ : am_H) (hl : σ.1.length = 121) (h5 : σ.1[55]? = some (10, 108)) (K : am_wp M_X10_init Q 66 14971 1450 [(0, am_r 55)] [] (mi_67 σ)) : am_wp M_X10_init Q 65 14966 1418 [(0, am_r 55)] [] σ := by
  refine am_aload_n (q := 1419) rfl (am_tab tk_X10_init 1008 rfl) rfl ?_
  refine am_iconst (q := 1420) (n := 5) (by decide) (am_tab tk_X10_init 1009 rfl) rfl ?_
  refine am_newAa (q := 1422) (k := 13) (a := 121) (N := 5) hl (Or.inr (Or.inr ⟨rfl, rfl⟩)) ka_char rfl (by decide) (Nat.le_of_ble_eq_true rfl) (Nat.le_of_ble_eq_true rfl) (am_tab tk_X10_init 1010 rfl) rfl ?_
  refine am_dup (q := 1423) rfl (am_tab tk_X10_init 1011 rfl) rfl ?_
  refine am_iconst (q := 1424) (n := 0) (by decide) (am_tab tk_X10_init 1012 rfl) rfl ?_
  refine am_bipush (q := 1426) (n := 102) (by decide) rfl (am_tab tk_X10_init 1013 rfl) rfl ?_
  refine am_cast (q := 1427) (a := 121) (n := 5) (am_newAt_at hl) (by omega) (by omega) (by decide) (by decide +kernel) (am_tab tk_X10_init 1014 rfl) rfl ?_
  refine am_dup (q := 1428) rfl (am_tab tk_X10_init 1015 rfl) rfl ?_
  refine am_iconst (q := 1429) (n := 1) (by decide) (am_tab tk_X10_init 1016 rfl) rfl ?_
  refine am_bipush (q := 1431) (n := 114) (by decide) rfl (am_tab tk_X10_init 1017 rfl) rfl ?_
  refine am_cast (q := 1432) (a := 121) (n := 5) (am_newAt_at hl) (by omega) (by omega) (by decide) (by decide +kernel) (am_tab tk_X10_init 1018 rfl) rfl ?_
  refine am_dup (q := 1433) rfl (am_tab tk_X10_init 1019 rfl) rfl ?_
  refine am_iconst (q := 1434) (n := 2) (by decide) (am_tab tk_X10_init 1020 rfl) rfl ?_
  refine am_bipush (q := 1436) (n := 111) (by decide) rfl (am_tab tk_X10_init 1021 rfl) rfl ?_
  refine am_cast (q := 1437) (a := 121) (n := 5) (am_newAt_at hl) (by omega) (by omega) (by decide) (by decide +kernel) (am_tab tk_X10_init 1022 rfl) rfl ?_
  refine am_dup (q := 1438) rfl (am_tab tk_X10_init 1023 rfl) rfl ?_
  refine am_iconst (q := 1439) (n := 3) (by decide) (am_tab tk_X10_init 1024 rfl) rfl ?_
  refine am_bipush (q := 1441) (n := 115) (by decide) rfl (am_tab tk_X10_init 1025 rfl) rfl ?_
  refine am_cast (q := 1442) (a := 121) (n := 5) (am_newAt_at hl) (by omega) (by omega) (by decide) (by decide +kernel) (am_tab tk_X10_init 1026 rfl) rfl ?_
  refine am_dup (q := 1443) rfl (am_tab tk_X10_init 1027 rfl) rfl ?_
  refine am_iconst (q := 1444) (n := 4) (by decide) (am_tab tk_X10_init 1028 rfl) rfl ?_
  refine am_bipush (q := 1446) (n := 116) (by decide) rfl (am_tab tk_X10_init 1029 rfl) rfl ?_
  refine am_cast (q := 1447) (a := 121) (n := 5) (am_newAt_at hl) (by omega) (by omega) (by decide) (by decide +kernel) (am_tab tk_X10_init 1030 rfl) rfl ?_
  refine am_putR (q := 1450) (k := 10) (n := 108) (j := 90) (am_newAt_old (a := 121) h5) (by decide) rfl (by decide) (Or.inr (Or.inr ⟨kf_X10_215, rfl, rfl, rfl⟩)) (am_tab tk_X10_init 1031 rfl) rfl ?_
  exact K
theorem mi_67_len {σ : am_H} (hl : σ.1.length = 121) : (mi_67 σ).1.length = 122 := (am_newAt_len hl)
theorem mi_67_old {σ : am_H} {b : Nat} {q : Nat × Nat} (h : σ.1[b]? = some q) : (mi_67 σ).1[b]? = some q := (am_newAt_old (a := 121) h)
def mi_68 (σ : am_H) : am_H := (am_setR (am_setN (am_setN (am_setN (am_setN (am_setN (am_newAt σ 122 13 5) 122 0 111) 122 1 116) 122 2 104) 122 3 101) 122 4 114) 55 91 (some (122)))
set_option maxRecDepth 20000 in
theorem mi_68_s {Q : Option am_V → am_H → Prop} (σ : am_H) (hl : σ.1.length = 122) (h5 : σ.1[55]? = some (10, 108)) (K : am_wp M_X10_init Q 67 14976 1482 [(0, am_r 55)] [] (mi_68 σ)) : am_wp M_X10_init Q 66 14971 1450 [(0, am_r 55)] [] σ := by
  refine am_aload_n (q := 1451) rfl (am_tab tk_X10_init 1032 rfl) rfl ?_
  refine am_iconst (q := 1452) (n := 5) (by decide) (am_tab tk_X10_init 1033 rfl) rfl ?_
  refine am_newAa (q := 1454) (k := 13) (a := 122) (N := 5) hl (Or.inr (Or.inr ⟨rfl, rfl⟩)) ka_char rfl (by decide) (Nat.le_of_ble_eq_true rfl) (Nat.le_of_ble_eq_true rfl) (am_tab tk_X10_init 1034 rfl) rfl ?_
  refine am_dup (q := 1455) rfl (am_tab tk_X10_init 1035 rfl) rfl ?_
  refine am_iconst (q := 1456) (n := 0) (by decide) (am_tab tk_X10_init 1036 rfl) rfl ?_
  refine am_bipush (q := 1458) (n := 111) (by decide) rfl (am_tab tk_X10_init 1037 rfl) rfl ?_
  refine am_cast (q := 1459) (a := 122) (n := 5) (am_newAt_at hl) (by omega) (by omega) (by decide) (by decide +kernel) (am_tab tk_X10_init 1038 rfl) rfl ?_
  refine am_dup (q := 1460) rfl (am_tab tk_X10_init 1039 rfl) rfl ?_
  refine am_iconst (q := 1461) (n := 1) (by decide) (am_tab tk_X10_init 1040 rfl) rfl ?_
  refine am_bipush (q := 1463) (n := 116) (by decide) rfl (am_tab tk_X10_init 1041 rfl) rfl ?_
  refine am_cast (q := 1464) (a := 122) (n := 5) (am_newAt_at hl) (by omega) (by omega) (by decide) (by decide +kernel) (am_tab tk_X10_init 1042 rfl) rfl ?_
  refine am_dup (q := 1465) rfl (am_tab tk_X10_init 1043 rfl) rfl ?_
  refine am_iconst (q := 1466) (n := 2) (by decide) (am_tab tk_X10_init 1044 rfl) rfl ?_
  refine am_bipush (q := 1468) (n := 104) (by decide) rfl (am_tab tk_X10_init 1045 rfl) rfl ?_
  refine am_cast (q := 1469) (a := 122) (n := 5) (am_newAt_at hl) (by omega) (by omega) (by decide) (by decide +kernel) (am_tab tk_X10_init 1046 rfl) rfl ?_
  refine am_dup (q := 1470) rfl (am_tab tk_X10_init 1047 rfl) rfl ?_
  refine am_iconst (q := 1471) (n := 3) (by decide) (am_tab tk_X10_init 1048 rfl) rfl ?_
  refine am_bipush (q := 1473) (n := 101) (by decide) rfl (am_tab tk_X10_init 1049 rfl) rfl ?_
  refine am_cast (q := 1474) (a := 122) (n := 5) (am_newAt_at hl) (by omega) (by omega) (by decide) (by decide +kernel) (am_tab tk_X10_init 1050 rfl) rfl ?_
  refine am_dup (q := 1475) rfl (am_tab tk_X10_init 1051 rfl) rfl ?_
  refine am_iconst (q := 1476) (n := 4) (by decide) (am_tab tk_X10_init 1052 rfl) rfl ?_
  refine am_bipush (q := 1478) (n := 114) (by decide) rfl (am_tab tk_X10_init 1053 rfl) rfl ?_
  refine am_cast (q := 1479) (a := 122) (n := 5) (am_newAt_at hl) (by omega) (by omega) (by decide) (by decide +kernel) (am_tab tk_X10_init 1054 rfl) rfl ?_
  refine am_putR (q := 1482) (k := 10) (n := 108) (j := 91) (am_newAt_old (a := 122) h5) (by decide) rfl (by decide) (Or.inr (Or.inr ⟨kf_X10_218, rfl, rfl, rfl⟩)) (am_tab tk_X10_init 1055 rfl) rfl ?_
  exact K
theorem mi_68_len {σ : am_H} (hl : σ.1.length = 122) : (mi_68 σ).1.length = 123 := (am_newAt_len hl)
theorem mi_68_old {σ : am_H} {b : Nat} {q : Nat × Nat} (h : σ.1[b]? = some q) : (mi_68 σ).1[b]? = some q := (am_newAt_old (a := 122) h)
def mi_69 (σ : am_H) : am_H := (am_setR (am_setN (am_setN (am_setN (am_setN (am_setN (am_setN (am_newAt σ 123 13 6) 123 0 110) 123 1 117) 123 2 109) 123 3 98) 123 4 101) 123 5 114) 55 92 (some (123)))
set_option maxRecDepth 20000 in
theorem mi_69_s {Q : Option am_V → am_H → Prop} (σ : am_H) (hl : σ.1.length = 123) (h5 : σ.1[55]? = some (10, 108)) (K : am_wp M_X10_init Q 68 14982 1520 [(0, am_r 55)] [] (mi_69 σ)) : am_wp M_X10_init Q 67 14976 1482 [(0, am_r 55)] [] σ := by
  refine am_aload_n (q := 1483) rfl (am_tab tk_X10_init 1056 rfl) rfl ?_
  refine am_bipush (q := 1485) (n := 6) (by decide) rfl (am_tab tk_X10_init 1057 rfl) rfl ?_
  refine am_newAa (q := 1487) (k := 13) (a := 123) (N := 6) hl (Or.inr (Or.inr ⟨rfl, rfl⟩)) ka_char rfl (by decide) (Nat.le_of_ble_eq_true rfl) (Nat.le_of_ble_eq_true rfl) (am_tab tk_X10_init 1058 rfl) rfl ?_
  refine am_dup (q := 1488) rfl (am_tab tk_X10_init 1059 rfl) rfl ?_
  refine am_iconst (q := 1489) (n := 0) (by decide) (am_tab tk_X10_init 1060 rfl) rfl ?_
  refine am_bipush (q := 1491) (n := 110) (by decide) rfl (am_tab tk_X10_init 1061 rfl) rfl ?_
  refine am_cast (q := 1492) (a := 123) (n := 6) (am_newAt_at hl) (by omega) (by omega) (by decide) (by decide +kernel) (am_tab tk_X10_init 1062 rfl) rfl ?_
  refine am_dup (q := 1493) rfl (am_tab tk_X10_init 1063 rfl) rfl ?_
  refine am_iconst (q := 1494) (n := 1) (by decide) (am_tab tk_X10_init 1064 rfl) rfl ?_
  refine am_bipush (q := 1496) (n := 117) (by decide) rfl (am_tab tk_X10_init 1065 rfl) rfl ?_
  refine am_cast (q := 1497) (a := 123) (n := 6) (am_newAt_at hl) (by omega) (by omega) (by decide) (by decide +kernel) (am_tab tk_X10_init 1066 rfl) rfl ?_
  refine am_dup (q := 1498) rfl (am_tab tk_X10_init 1067 rfl) rfl ?_
  refine am_iconst (q := 1499) (n := 2) (by decide) (am_tab tk_X10_init 1068 rfl) rfl ?_
  refine am_bipush (q := 1501) (n := 109) (by decide) rfl (am_tab tk_X10_init 1069 rfl) rfl ?_
  refine am_cast (q := 1502) (a := 123) (n := 6) (am_newAt_at hl) (by omega) (by omega) (by decide) (by decide +kernel) (am_tab tk_X10_init 1070 rfl) rfl ?_
  refine am_dup (q := 1503) rfl (am_tab tk_X10_init 1071 rfl) rfl ?_
  refine am_iconst (q := 1504) (n := 3) (by decide) (am_tab tk_X10_init 1072 rfl) rfl ?_
  refine am_bipush (q := 1506) (n := 98) (by decide) rfl (am_tab tk_X10_init 1073 rfl) rfl ?_
  refine am_cast (q := 1507) (a := 123) (n := 6) (am_newAt_at hl) (by omega) (by omega) (by decide) (by decide +kernel) (am_tab tk_X10_init 1074 rfl) rfl ?_
  refine am_dup (q := 1508) rfl (am_tab tk_X10_init 1075 rfl) rfl ?_
  refine am_iconst (q := 1509) (n := 4) (by decide) (am_tab tk_X10_init 1076 rfl) rfl ?_
  refine am_bipush (q := 1511) (n := 101) (by decide) rfl (am_tab tk_X10_init 1077 rfl) rfl ?_
  refine am_cast (q := 1512) (a := 123) (n := 6) (am_newAt_at hl) (by omega) (by omega) (by decide) (by decide +kernel) (am_tab tk_X10_init 1078 rfl) rfl ?_
  refine am_dup (q := 1513) rfl (am_tab tk_X10_init 1079 rfl) rfl ?_
  refine am_iconst (q := 1514) (n := 5) (by decide) (am_tab tk_X10_init 1080 rfl) rfl ?_
  refine am_bipush (q := 1516) (n := 114) (by decide) rfl (am_tab tk_X10_init 1081 rfl) rfl ?_
  refine am_cast (q := 1517) (a := 123) (n := 6) (am_newAt_at hl) (by omega) (by omega) (by decide) (by decide +kernel) (am_tab tk_X10_init 1082 rfl) rfl ?_
  refine am_putR (q := 1520) (k := 10) (n := 108) (j := 92) (am_newAt_old (a := 123) h5) (by decide) rfl (by decide) (Or.inr (Or.inr ⟨kf_X10_221, rfl, rfl, rfl⟩)) (am_tab tk_X10_init 1083 rfl) rfl ?_
  exact K
theorem mi_69_len {σ : am_H} (hl : σ.1.length = 123) : (mi_69 σ).1.length = 124 := (am_newAt_len hl)
theorem mi_69_old {σ : am_H} {b : Nat} {q : Nat × Nat} (h : σ.1[b]? = some q) : (mi_69 σ).1[b]? = some q := (am_newAt_old (a := 123) h)
def mi_70 (σ : am_H) : am_H := (am_setR (am_setN (am_setN (am_setN (am_setN (am_newAt σ 124 13 4) 124 0 100) 124 1 101) 124 2 97) 124 3 100) 55 93 (some (124)))
set_option maxRecDepth 20000 in
theorem mi_70_s {Q : Option am_V → am_H → Prop} (σ : am_H) (hl : σ.1.length = 124) (h5 : σ.1[55]? = some (10, 108)) (K : am_wp M_X10_init Q 69 14986 1547 [(0, am_r 55)] [] (mi_70 σ)) : am_wp M_X10_init Q 68 14982 1520 [(0, am_r 55)] [] σ := by
  refine am_aload_n (q := 1521) rfl (am_tab tk_X10_init 1084 rfl) rfl ?_
  refine am_iconst (q := 1522) (n := 4) (by decide) (am_tab tk_X10_init 1085 rfl) rfl ?_
  refine am_newAa (q := 1524) (k := 13) (a := 124) (N := 4) hl (Or.inr (Or.inr ⟨rfl, rfl⟩)) ka_char rfl (by decide) (Nat.le_of_ble_eq_true rfl) (Nat.le_of_ble_eq_true rfl) (am_tab tk_X10_init 1086 rfl) rfl ?_
  refine am_dup (q := 1525) rfl (am_tab tk_X10_init 1087 rfl) rfl ?_
  refine am_iconst (q := 1526) (n := 0) (by decide) (am_tab tk_X10_init 1088 rfl) rfl ?_
  refine am_bipush (q := 1528) (n := 100) (by decide) rfl (am_tab tk_X10_init 1089 rfl) rfl ?_
  refine am_cast (q := 1529) (a := 124) (n := 4) (am_newAt_at hl) (by omega) (by omega) (by decide) (by decide +kernel) (am_tab tk_X10_init 1090 rfl) rfl ?_
  refine am_dup (q := 1530) rfl (am_tab tk_X10_init 1091 rfl) rfl ?_
  refine am_iconst (q := 1531) (n := 1) (by decide) (am_tab tk_X10_init 1092 rfl) rfl ?_
  refine am_bipush (q := 1533) (n := 101) (by decide) rfl (am_tab tk_X10_init 1093 rfl) rfl ?_
  refine am_cast (q := 1534) (a := 124) (n := 4) (am_newAt_at hl) (by omega) (by omega) (by decide) (by decide +kernel) (am_tab tk_X10_init 1094 rfl) rfl ?_
  refine am_dup (q := 1535) rfl (am_tab tk_X10_init 1095 rfl) rfl ?_
  refine am_iconst (q := 1536) (n := 2) (by decide) (am_tab tk_X10_init 1096 rfl) rfl ?_
  refine am_bipush (q := 1538) (n := 97) (by decide) rfl (am_tab tk_X10_init 1097 rfl) rfl ?_
  refine am_cast (q := 1539) (a := 124) (n := 4) (am_newAt_at hl) (by omega) (by omega) (by decide) (by decide +kernel) (am_tab tk_X10_init 1098 rfl) rfl ?_
  refine am_dup (q := 1540) rfl (am_tab tk_X10_init 1099 rfl) rfl ?_
  refine am_iconst (q := 1541) (n := 3) (by decide) (am_tab tk_X10_init 1100 rfl) rfl ?_
  refine am_bipush (q := 1543) (n := 100) (by decide) rfl (am_tab tk_X10_init 1101 rfl) rfl ?_
  refine am_cast (q := 1544) (a := 124) (n := 4) (am_newAt_at hl) (by omega) (by omega) (by decide) (by decide +kernel) (am_tab tk_X10_init 1102 rfl) rfl ?_
  refine am_putR (q := 1547) (k := 10) (n := 108) (j := 93) (am_newAt_old (a := 124) h5) (by decide) rfl (by decide) (Or.inr (Or.inr ⟨kf_X10_224, rfl, rfl, rfl⟩)) (am_tab tk_X10_init 1103 rfl) rfl ?_
  exact K
theorem mi_70_len {σ : am_H} (hl : σ.1.length = 124) : (mi_70 σ).1.length = 125 := (am_newAt_len hl)
theorem mi_70_old {σ : am_H} {b : Nat} {q : Nat × Nat} (h : σ.1[b]? = some q) : (mi_70 σ).1[b]? = some q := (am_newAt_old (a := 124) h)
def mi_71 (σ : am_H) : am_H := (am_setR (am_setN (am_setN (am_setN (am_setN (am_setN (am_setN (am_newAt σ 125 13 6) 125 0 116) 125 1 104) 125 2 105) 125 3 110) 125 4 107) 125 5 115) 55 94 (some (125)))
set_option maxRecDepth 20000 in
theorem mi_71_s {Q : Option am_V → am_H → Prop} (σ : am_H) (hl : σ.1.length = 125) (h5 : σ.1[55]? = some (10, 108)) (K : am_wp M_X10_init Q 70 14992 1585 [(0, am_r 55)] [] (mi_71 σ)) : am_wp M_X10_init Q 69 14986 1547 [(0, am_r 55)] [] σ := by
  refine am_aload_n (q := 1548) rfl (am_tab tk_X10_init 1104 rfl) rfl ?_
  refine am_bipush (q := 1550) (n := 6) (by decide) rfl (am_tab tk_X10_init 1105 rfl) rfl ?_
  refine am_newAa (q := 1552) (k := 13) (a := 125) (N := 6) hl (Or.inr (Or.inr ⟨rfl, rfl⟩)) ka_char rfl (by decide) (Nat.le_of_ble_eq_true rfl) (Nat.le_of_ble_eq_true rfl) (am_tab tk_X10_init 1106 rfl) rfl ?_
  refine am_dup (q := 1553) rfl (am_tab tk_X10_init 1107 rfl) rfl ?_
  refine am_iconst (q := 1554) (n := 0) (by decide) (am_tab tk_X10_init 1108 rfl) rfl ?_
  refine am_bipush (q := 1556) (n := 116) (by decide) rfl (am_tab tk_X10_init 1109 rfl) rfl ?_
  refine am_cast (q := 1557) (a := 125) (n := 6) (am_newAt_at hl) (by omega) (by omega) (by decide) (by decide +kernel) (am_tab tk_X10_init 1110 rfl) rfl ?_
  refine am_dup (q := 1558) rfl (am_tab tk_X10_init 1111 rfl) rfl ?_
  refine am_iconst (q := 1559) (n := 1) (by decide) (am_tab tk_X10_init 1112 rfl) rfl ?_
  refine am_bipush (q := 1561) (n := 104) (by decide) rfl (am_tab tk_X10_init 1113 rfl) rfl ?_
  refine am_cast (q := 1562) (a := 125) (n := 6) (am_newAt_at hl) (by omega) (by omega) (by decide) (by decide +kernel) (am_tab tk_X10_init 1114 rfl) rfl ?_
  refine am_dup (q := 1563) rfl (am_tab tk_X10_init 1115 rfl) rfl ?_
  refine am_iconst (q := 1564) (n := 2) (by decide) (am_tab tk_X10_init 1116 rfl) rfl ?_
  refine am_bipush (q := 1566) (n := 105) (by decide) rfl (am_tab tk_X10_init 1117 rfl) rfl ?_
  refine am_cast (q := 1567) (a := 125) (n := 6) (am_newAt_at hl) (by omega) (by omega) (by decide) (by decide +kernel) (am_tab tk_X10_init 1118 rfl) rfl ?_
  refine am_dup (q := 1568) rfl (am_tab tk_X10_init 1119 rfl) rfl ?_
  refine am_iconst (q := 1569) (n := 3) (by decide) (am_tab tk_X10_init 1120 rfl) rfl ?_
  refine am_bipush (q := 1571) (n := 110) (by decide) rfl (am_tab tk_X10_init 1121 rfl) rfl ?_
  refine am_cast (q := 1572) (a := 125) (n := 6) (am_newAt_at hl) (by omega) (by omega) (by decide) (by decide +kernel) (am_tab tk_X10_init 1122 rfl) rfl ?_
  refine am_dup (q := 1573) rfl (am_tab tk_X10_init 1123 rfl) rfl ?_
  refine am_iconst (q := 1574) (n := 4) (by decide) (am_tab tk_X10_init 1124 rfl) rfl ?_
  refine am_bipush (q := 1576) (n := 107) (by decide) rfl (am_tab tk_X10_init 1125 rfl) rfl ?_
  refine am_cast (q := 1577) (a := 125) (n := 6) (am_newAt_at hl) (by omega) (by omega) (by decide) (by decide +kernel) (am_tab tk_X10_init 1126 rfl) rfl ?_
  refine am_dup (q := 1578) rfl (am_tab tk_X10_init 1127 rfl) rfl ?_
  refine am_iconst (q := 1579) (n := 5) (by decide) (am_tab tk_X10_init 1128 rfl) rfl ?_
  refine am_bipush (q := 1581) (n := 115) (by decide) rfl (am_tab tk_X10_init 1129 rfl) rfl ?_
  refine am_cast (q := 1582) (a := 125) (n := 6) (am_newAt_at hl) (by omega) (by omega) (by decide) (by decide +kernel) (am_tab tk_X10_init 1130 rfl) rfl ?_
  refine am_putR (q := 1585) (k := 10) (n := 108) (j := 94) (am_newAt_old (a := 125) h5) (by decide) rfl (by decide) (Or.inr (Or.inr ⟨kf_X10_227, rfl, rfl, rfl⟩)) (am_tab tk_X10_init 1131 rfl) rfl ?_
  exact K
theorem mi_71_len {σ : am_H} (hl : σ.1.length = 125) : (mi_71 σ).1.length = 126 := (am_newAt_len hl)
theorem mi_71_old {σ : am_H} {b : Nat} {q : Nat × Nat} (h : σ.1[b]? = some q) : (mi_71 σ).1[b]? = some q := (am_newAt_old (a := 125) h)
def mi_72 (σ : am_H) : am_H := (am_setR (am_setN (am_setN (am_setN (am_setN (am_setN (am_newAt σ 126 13 5) 126 0 107) 126 1 110) 126 2 111) 126 3 119) 126 4 115) 55 95 (some (126)))
set_option maxRecDepth 20000 in
theorem mi_72_s {Q : Option am_V → am_H → Prop} (σ : am_H) (hl : σ.1.length = 126) (h5 : σ.1[55]? = some (10, 108)) (K : am_wp M_X10_init Q 71 14997 1617 [(0, am_r 55)] [] (mi_72 σ)) : am_wp M_X10_init Q 70 14992 1585 [(0, am_r 55)] [] σ := by
  refine am_aload_n (q := 1586) rfl (am_tab tk_X10_init 1132 rfl) rfl ?_
  refine am_iconst (q := 1587) (n := 5) (by decide) (am_tab tk_X10_init 1133 rfl) rfl ?_
  refine am_newAa (q := 1589) (k := 13) (a := 126) (N := 5) hl (Or.inr (Or.inr ⟨rfl, rfl⟩)) ka_char rfl (by decide) (Nat.le_of_ble_eq_true rfl) (Nat.le_of_ble_eq_true rfl) (am_tab tk_X10_init 1134 rfl) rfl ?_
  refine am_dup (q := 1590) rfl (am_tab tk_X10_init 1135 rfl) rfl ?_
  refine am_iconst (q := 1591) (n := 0) (by decide) (am_tab tk_X10_init 1136 rfl) rfl ?_
  refine am_bipush (q := 1593) (n := 107) (by decide) rfl (am_tab tk_X10_init 1137 rfl) rfl ?_
  refine am_cast (q := 1594) (a := 126) (n := 5) (am_newAt_at hl) (by omega) (by omega) (by decide) (by decide +kernel) (am_tab tk_X10_init 1138 rfl) rfl ?_
  refine am_dup (q := 1595) rfl (am_tab tk_X10_init 1139 rfl) rfl ?_
  refine am_iconst (q := 1596) (n := 1) (by decide) (am_tab tk_X10_init 1140 rfl) rfl ?_
  refine am_bipush (q := 1598) (n := 110) (by decide) rfl (am_tab tk_X10_init 1141 rfl) rfl ?_
  refine am_cast (q := 1599) (a := 126) (n := 5) (am_newAt_at hl) (by omega) (by omega) (by decide) (by decide +kernel) (am_tab tk_X10_init 1142 rfl) rfl ?_
  refine am_dup (q := 1600) rfl (am_tab tk_X10_init 1143 rfl) rfl ?_
  refine am_iconst (q := 1601) (n := 2) (by decide) (am_tab tk_X10_init 1144 rfl) rfl ?_
  refine am_bipush (q := 1603) (n := 111) (by decide) rfl (am_tab tk_X10_init 1145 rfl) rfl ?_
  refine am_cast (q := 1604) (a := 126) (n := 5) (am_newAt_at hl) (by omega) (by omega) (by decide) (by decide +kernel) (am_tab tk_X10_init 1146 rfl) rfl ?_
  refine am_dup (q := 1605) rfl (am_tab tk_X10_init 1147 rfl) rfl ?_
  refine am_iconst (q := 1606) (n := 3) (by decide) (am_tab tk_X10_init 1148 rfl) rfl ?_
  refine am_bipush (q := 1608) (n := 119) (by decide) rfl (am_tab tk_X10_init 1149 rfl) rfl ?_
  refine am_cast (q := 1609) (a := 126) (n := 5) (am_newAt_at hl) (by omega) (by omega) (by decide) (by decide +kernel) (am_tab tk_X10_init 1150 rfl) rfl ?_
  refine am_dup (q := 1610) rfl (am_tab tk_X10_init 1151 rfl) rfl ?_
  refine am_iconst (q := 1611) (n := 4) (by decide) (am_tab tk_X10_init 1152 rfl) rfl ?_
  refine am_bipush (q := 1613) (n := 115) (by decide) rfl (am_tab tk_X10_init 1153 rfl) rfl ?_
  refine am_cast (q := 1614) (a := 126) (n := 5) (am_newAt_at hl) (by omega) (by omega) (by decide) (by decide +kernel) (am_tab tk_X10_init 1154 rfl) rfl ?_
  refine am_putR (q := 1617) (k := 10) (n := 108) (j := 95) (am_newAt_old (a := 126) h5) (by decide) rfl (by decide) (Or.inr (Or.inr ⟨kf_X10_230, rfl, rfl, rfl⟩)) (am_tab tk_X10_init 1155 rfl) rfl ?_
  exact K
theorem mi_72_len {σ : am_H} (hl : σ.1.length = 126) : (mi_72 σ).1.length = 127 := (am_newAt_len hl)
theorem mi_72_old {σ : am_H} {b : Nat} {q : Nat × Nat} (h : σ.1[b]? = some q) : (mi_72 σ).1[b]? = some q := (am_newAt_old (a := 126) h)
def mi_73 (σ : am_H) : am_H := (am_setR (am_newAt σ 127 11 1700) 55 96 (some (127)))
set_option maxRecDepth 20000 in
theorem mi_73_s {Q : Option am_V → am_H → Prop} (σ : am_H) (hl : σ.1.length = 127) (h5 : σ.1[55]? = some (10, 108)) (K : am_wp M_X10_init Q 72 16697 1626 [(0, am_r 55)] [] (mi_73 σ)) : am_wp M_X10_init Q 71 14997 1617 [(0, am_r 55)] [] σ := by
  refine am_aload_n (q := 1618) rfl (am_tab tk_X10_init 1156 rfl) rfl ?_
  refine am_sipush (q := 1621) (n := 1700) (by decide) rfl (am_tab tk_X10_init 1157 rfl) rfl ?_
  refine am_newAa (q := 1623) (k := 11) (a := 127) (N := 1700) hl (Or.inl ⟨rfl, rfl⟩) ka_int rfl (by decide) (Nat.le_of_ble_eq_true rfl) (Nat.le_of_ble_eq_true rfl) (am_tab tk_X10_init 1158 rfl) rfl ?_
  refine am_putR (q := 1626) (k := 10) (n := 108) (j := 96) (am_newAt_old (a := 127) h5) (by decide) rfl (by decide) (Or.inr (Or.inr ⟨kf_X10_233, rfl, rfl, rfl⟩)) (am_tab tk_X10_init 1159 rfl) rfl ?_
  exact K
theorem mi_73_len {σ : am_H} (hl : σ.1.length = 127) : (mi_73 σ).1.length = 128 := (am_newAt_len hl)
theorem mi_73_old {σ : am_H} {b : Nat} {q : Nat × Nat} (h : σ.1[b]? = some q) : (mi_73 σ).1[b]? = some q := (am_newAt_old (a := 127) h)
def mi_74 (σ : am_H) : am_H := (am_setR (am_newAt σ 128 11 1700) 55 98 (some (128)))
set_option maxRecDepth 20000 in
theorem mi_74_s {Q : Option am_V → am_H → Prop} (σ : am_H) (hl : σ.1.length = 128) (h5 : σ.1[55]? = some (10, 108)) (K : am_wp M_X10_init Q 73 18397 1635 [(0, am_r 55)] [] (mi_74 σ)) : am_wp M_X10_init Q 72 16697 1626 [(0, am_r 55)] [] σ := by
  refine am_aload_n (q := 1627) rfl (am_tab tk_X10_init 1160 rfl) rfl ?_
  refine am_sipush (q := 1630) (n := 1700) (by decide) rfl (am_tab tk_X10_init 1161 rfl) rfl ?_
  refine am_newAa (q := 1632) (k := 11) (a := 128) (N := 1700) hl (Or.inl ⟨rfl, rfl⟩) ka_int rfl (by decide) (Nat.le_of_ble_eq_true rfl) (Nat.le_of_ble_eq_true rfl) (am_tab tk_X10_init 1162 rfl) rfl ?_
  refine am_putR (q := 1635) (k := 10) (n := 108) (j := 98) (am_newAt_old (a := 128) h5) (by decide) rfl (by decide) (Or.inr (Or.inr ⟨kf_X10_236, rfl, rfl, rfl⟩)) (am_tab tk_X10_init 1163 rfl) rfl ?_
  exact K
theorem mi_74_len {σ : am_H} (hl : σ.1.length = 128) : (mi_74 σ).1.length = 129 := (am_newAt_len hl)
theorem mi_74_old {σ : am_H} {b : Nat} {q : Nat × Nat} (h : σ.1[b]? = some q) : (mi_74 σ).1[b]? = some q := (am_newAt_old (a := 128) h)
def mi_75 (σ : am_H) : am_H := (am_setR (am_newAt σ 129 12 1700) 55 102 (some (129)))
set_option maxRecDepth 20000 in
theorem mi_75_s {Q : Option am_V → am_H → Prop} (σ : am_H) (hl : σ.1.length = 129) (h5 : σ.1[55]? = some (10, 108)) (K : am_wp M_X10_init Q 74 20097 1644 [(0, am_r 55)] [] (mi_75 σ)) : am_wp M_X10_init Q 73 18397 1635 [(0, am_r 55)] [] σ := by
  refine am_aload_n (q := 1636) rfl (am_tab tk_X10_init 1164 rfl) rfl ?_
  refine am_sipush (q := 1639) (n := 1700) (by decide) rfl (am_tab tk_X10_init 1165 rfl) rfl ?_
  refine am_newAa (q := 1641) (k := 12) (a := 129) (N := 1700) hl (Or.inr (Or.inl ⟨rfl, rfl⟩)) ka_long rfl (by decide) (Nat.le_of_ble_eq_true rfl) (Nat.le_of_ble_eq_true rfl) (am_tab tk_X10_init 1166 rfl) rfl ?_
  refine am_putR (q := 1644) (k := 10) (n := 108) (j := 102) (am_newAt_old (a := 129) h5) (by decide) rfl (by decide) (Or.inr (Or.inr ⟨kf_X10_239, rfl, rfl, rfl⟩)) (am_tab tk_X10_init 1167 rfl) rfl ?_
  exact K
theorem mi_75_len {σ : am_H} (hl : σ.1.length = 129) : (mi_75 σ).1.length = 130 := (am_newAt_len hl)
theorem mi_75_old {σ : am_H} {b : Nat} {q : Nat × Nat} (h : σ.1[b]? = some q) : (mi_75 σ).1[b]? = some q := (am_newAt_old (a := 129) h)
def mi_76 (σ : am_H) : am_H := (am_setR (am_newAt σ 130 11 146) 55 106 (some (130)))
set_option maxRecDepth 20000 in
theorem mi_76_s {Q : Option am_V → am_H → Prop} (σ : am_H) (hl : σ.1.length = 130) (h5 : σ.1[55]? = some (10, 108)) (K : am_wp M_X10_init Q 75 20243 1653 [(0, am_r 55)] [] (mi_76 σ)) : am_wp M_X10_init Q 74 20097 1644 [(0, am_r 55)] [] σ := by
  refine am_aload_n (q := 1645) rfl (am_tab tk_X10_init 1168 rfl) rfl ?_
  refine am_sipush (q := 1648) (n := 146) (by decide) rfl (am_tab tk_X10_init 1169 rfl) rfl ?_
  refine am_newAa (q := 1650) (k := 11) (a := 130) (N := 146) hl (Or.inl ⟨rfl, rfl⟩) ka_int rfl (by decide) (Nat.le_of_ble_eq_true rfl) (Nat.le_of_ble_eq_true rfl) (am_tab tk_X10_init 1170 rfl) rfl ?_
  refine am_putR (q := 1653) (k := 10) (n := 108) (j := 106) (am_newAt_old (a := 130) h5) (by decide) rfl (by decide) (Or.inr (Or.inr ⟨kf_X10_242, rfl, rfl, rfl⟩)) (am_tab tk_X10_init 1171 rfl) rfl ?_
  exact K
theorem mi_76_len {σ : am_H} (hl : σ.1.length = 130) : (mi_76 σ).1.length = 131 := (am_newAt_len hl)
theorem mi_76_old {σ : am_H} {b : Nat} {q : Nat × Nat} (h : σ.1[b]? = some q) : (mi_76 σ).1[b]? = some q := (am_newAt_old (a := 130) h)
def mj_0 (σ : am_H) : am_H := σ
def mj_1 (σ : am_H) : am_H := mi_0 (mj_0 σ)
def mj_2 (σ : am_H) : am_H := mi_1 (mj_1 σ)
def mj_3 (σ : am_H) : am_H := mi_2 (mj_2 σ)
def mj_4 (σ : am_H) : am_H := mi_3 (mj_3 σ)
def mj_5 (σ : am_H) : am_H := mi_4 (mj_4 σ)
def mj_6 (σ : am_H) : am_H := mi_5 (mj_5 σ)
def mj_7 (σ : am_H) : am_H := mi_6 (mj_6 σ)
def mj_8 (σ : am_H) : am_H := mi_7 (mj_7 σ)
def mj_9 (σ : am_H) : am_H := mi_8 (mj_8 σ)
def mj_10 (σ : am_H) : am_H := mi_9 (mj_9 σ)
def mj_11 (σ : am_H) : am_H := mi_10 (mj_10 σ)
def mj_12 (σ : am_H) : am_H := mi_11 (mj_11 σ)
def mj_13 (σ : am_H) : am_H := mi_12 (mj_12 σ)
def mj_14 (σ : am_H) : am_H := mi_13 (mj_13 σ)
def mj_15 (σ : am_H) : am_H := mi_14 (mj_14 σ)
def mj_16 (σ : am_H) : am_H := mi_15 (mj_15 σ)
def mj_17 (σ : am_H) : am_H := mi_16 (mj_16 σ)
def mj_18 (σ : am_H) : am_H := mi_17 (mj_17 σ)
def mj_19 (σ : am_H) : am_H := mi_18 (mj_18 σ)
def mj_20 (σ : am_H) : am_H := mi_19 (mj_19 σ)
def mj_21 (σ : am_H) : am_H := mi_20 (mj_20 σ)
def mj_22 (σ : am_H) : am_H := mi_21 (mj_21 σ)
def mj_23 (σ : am_H) : am_H := mi_22 (mj_22 σ)
def mj_24 (σ : am_H) : am_H := mi_23 (mj_23 σ)
def mj_25 (σ : am_H) : am_H := mi_24 (mj_24 σ)
def mj_26 (σ : am_H) : am_H := mi_25 (mj_25 σ)
def mj_27 (σ : am_H) : am_H := mi_26 (mj_26 σ)
def mj_28 (σ : am_H) : am_H := mi_27 (mj_27 σ)
def mj_29 (σ : am_H) : am_H := mi_28 (mj_28 σ)
def mj_30 (σ : am_H) : am_H := mi_29 (mj_29 σ)
def mj_31 (σ : am_H) : am_H := mi_30 (mj_30 σ)
def mj_32 (σ : am_H) : am_H := mi_31 (mj_31 σ)
def mj_33 (σ : am_H) : am_H := mi_32 (mj_32 σ)
def mj_34 (σ : am_H) : am_H := mi_33 (mj_33 σ)
def mj_35 (σ : am_H) : am_H := mi_34 (mj_34 σ)
def mj_36 (σ : am_H) : am_H := mi_35 (mj_35 σ)
def mj_37 (σ : am_H) : am_H := mi_36 (mj_36 σ)
def mj_38 (σ : am_H) : am_H := mi_37 (mj_37 σ)
def mj_39 (σ : am_H) : am_H := mi_38 (mj_38 σ)
def mj_40 (σ : am_H) : am_H := mi_39 (mj_39 σ)
def mj_41 (σ : am_H) : am_H := mi_40 (mj_40 σ)
def mj_42 (σ : am_H) : am_H := mi_41 (mj_41 σ)
def mj_43 (σ : am_H) : am_H := mi_42 (mj_42 σ)
def mj_44 (σ : am_H) : am_H := mi_43 (mj_43 σ)
def mj_45 (σ : am_H) : am_H := mi_44 (mj_44 σ)
def mj_46 (σ : am_H) : am_H := mi_45 (mj_45 σ)
def mj_47 (σ : am_H) : am_H := mi_46 (mj_46 σ)
def mj_48 (σ : am_H) : am_H := mi_47 (mj_47 σ)
def mj_49 (σ : am_H) : am_H := mi_48 (mj_48 σ)
def mj_50 (σ : am_H) : am_H := mi_49 (mj_49 σ)
def mj_51 (σ : am_H) : am_H := mi_50 (mj_50 σ)
def mj_52 (σ : am_H) : am_H := mi_51 (mj_51 σ)
def mj_53 (σ : am_H) : am_H := mi_52 (mj_52 σ)
def mj_54 (σ : am_H) : am_H := mi_53 (mj_53 σ)
def mj_55 (σ : am_H) : am_H := mi_54 (mj_54 σ)
def mj_56 (σ : am_H) : am_H := mi_55 (mj_55 σ)
def mj_57 (σ : am_H) : am_H := mi_56 (mj_56 σ)
def mj_58 (σ : am_H) : am_H := mi_57 (mj_57 σ)
def mj_59 (σ : am_H) : am_H := mi_58 (mj_58 σ)
def mj_60 (σ : am_H) : am_H := mi_59 (mj_59 σ)
def mj_61 (σ : am_H) : am_H := mi_60 (mj_60 σ)
def mj_62 (σ : am_H) : am_H := mi_61 (mj_61 σ)
def mj_63 (σ : am_H) : am_H := mi_62 (mj_62 σ)
def mj_64 (σ : am_H) : am_H := mi_63 (mj_63 σ)
def mj_65 (σ : am_H) : am_H := mi_64 (mj_64 σ)
def mj_66 (σ : am_H) : am_H := mi_65 (mj_65 σ)
def mj_67 (σ : am_H) : am_H := mi_66 (mj_66 σ)
def mj_68 (σ : am_H) : am_H := mi_67 (mj_67 σ)
def mj_69 (σ : am_H) : am_H := mi_68 (mj_68 σ)
def mj_70 (σ : am_H) : am_H := mi_69 (mj_69 σ)
def mj_71 (σ : am_H) : am_H := mi_70 (mj_70 σ)
def mj_72 (σ : am_H) : am_H := mi_71 (mj_71 σ)
def mj_73 (σ : am_H) : am_H := mi_72 (mj_72 σ)
def mj_74 (σ : am_H) : am_H := mi_73 (mj_73 σ)
def mj_75 (σ : am_H) : am_H := mi_74 (mj_74 σ)
def mj_76 (σ : am_H) : am_H := mi_75 (mj_75 σ)
def mj_77 (σ : am_H) : am_H := mi_76 (mj_76 σ)
def iX10 (σ : am_H) : am_H := am_setN (mj_77 σ) 96 0 1
theorem mj_0_len {σ : am_H} (hl : σ.1.length = 56) : (mj_0 σ).1.length = 56 := hl
theorem mj_0_old {σ : am_H} {b : Nat} {q : Nat × Nat} (h : σ.1[b]? = some q) : (mj_0 σ).1[b]? = some q := h
theorem mj_1_len {σ : am_H} (hl : σ.1.length = 56) : (mj_1 σ).1.length = 57 := mi_0_len (mj_0_len hl)
theorem mj_1_old {σ : am_H} {b : Nat} {q : Nat × Nat} (h : σ.1[b]? = some q) : (mj_1 σ).1[b]? = some q := mi_0_old (mj_0_old h)
theorem mj_2_len {σ : am_H} (hl : σ.1.length = 56) : (mj_2 σ).1.length = 57 := mi_1_len (mj_1_len hl)
theorem mj_2_old {σ : am_H} {b : Nat} {q : Nat × Nat} (h : σ.1[b]? = some q) : (mj_2 σ).1[b]? = some q := mi_1_old (mj_1_old h)
theorem mj_3_len {σ : am_H} (hl : σ.1.length = 56) : (mj_3 σ).1.length = 58 := mi_2_len (mj_2_len hl)
theorem mj_3_old {σ : am_H} {b : Nat} {q : Nat × Nat} (h : σ.1[b]? = some q) : (mj_3 σ).1[b]? = some q := mi_2_old (mj_2_old h)
theorem mj_4_len {σ : am_H} (hl : σ.1.length = 56) : (mj_4 σ).1.length = 59 := mi_3_len (mj_3_len hl)
theorem mj_4_old {σ : am_H} {b : Nat} {q : Nat × Nat} (h : σ.1[b]? = some q) : (mj_4 σ).1[b]? = some q := mi_3_old (mj_3_old h)
theorem mj_5_len {σ : am_H} (hl : σ.1.length = 56) : (mj_5 σ).1.length = 60 := mi_4_len (mj_4_len hl)
theorem mj_5_old {σ : am_H} {b : Nat} {q : Nat × Nat} (h : σ.1[b]? = some q) : (mj_5 σ).1[b]? = some q := mi_4_old (mj_4_old h)
theorem mj_6_len {σ : am_H} (hl : σ.1.length = 56) : (mj_6 σ).1.length = 61 := mi_5_len (mj_5_len hl)
theorem mj_6_old {σ : am_H} {b : Nat} {q : Nat × Nat} (h : σ.1[b]? = some q) : (mj_6 σ).1[b]? = some q := mi_5_old (mj_5_old h)
theorem mj_7_len {σ : am_H} (hl : σ.1.length = 56) : (mj_7 σ).1.length = 62 := mi_6_len (mj_6_len hl)
theorem mj_7_old {σ : am_H} {b : Nat} {q : Nat × Nat} (h : σ.1[b]? = some q) : (mj_7 σ).1[b]? = some q := mi_6_old (mj_6_old h)
theorem mj_8_len {σ : am_H} (hl : σ.1.length = 56) : (mj_8 σ).1.length = 63 := mi_7_len (mj_7_len hl)
theorem mj_8_old {σ : am_H} {b : Nat} {q : Nat × Nat} (h : σ.1[b]? = some q) : (mj_8 σ).1[b]? = some q := mi_7_old (mj_7_old h)
theorem mj_9_len {σ : am_H} (hl : σ.1.length = 56) : (mj_9 σ).1.length = 64 := mi_8_len (mj_8_len hl)
theorem mj_9_old {σ : am_H} {b : Nat} {q : Nat × Nat} (h : σ.1[b]? = some q) : (mj_9 σ).1[b]? = some q := mi_8_old (mj_8_old h)
theorem mj_10_len {σ : am_H} (hl : σ.1.length = 56) : (mj_10 σ).1.length = 65 := mi_9_len (mj_9_len hl)
theorem mj_10_old {σ : am_H} {b : Nat} {q : Nat × Nat} (h : σ.1[b]? = some q) : (mj_10 σ).1[b]? = some q := mi_9_old (mj_9_old h)
theorem mj_11_len {σ : am_H} (hl : σ.1.length = 56) : (mj_11 σ).1.length = 66 := mi_10_len (mj_10_len hl)
theorem mj_11_old {σ : am_H} {b : Nat} {q : Nat × Nat} (h : σ.1[b]? = some q) : (mj_11 σ).1[b]? = some q := mi_10_old (mj_10_old h)
theorem mj_12_len {σ : am_H} (hl : σ.1.length = 56) : (mj_12 σ).1.length = 67 := mi_11_len (mj_11_len hl)
theorem mj_12_old {σ : am_H} {b : Nat} {q : Nat × Nat} (h : σ.1[b]? = some q) : (mj_12 σ).1[b]? = some q := mi_11_old (mj_11_old h)
theorem mj_13_len {σ : am_H} (hl : σ.1.length = 56) : (mj_13 σ).1.length = 68 := mi_12_len (mj_12_len hl)
theorem mj_13_old {σ : am_H} {b : Nat} {q : Nat × Nat} (h : σ.1[b]? = some q) : (mj_13 σ).1[b]? = some q := mi_12_old (mj_12_old h)
theorem mj_14_len {σ : am_H} (hl : σ.1.length = 56) : (mj_14 σ).1.length = 69 := mi_13_len (mj_13_len hl)
theorem mj_14_old {σ : am_H} {b : Nat} {q : Nat × Nat} (h : σ.1[b]? = some q) : (mj_14 σ).1[b]? = some q := mi_13_old (mj_13_old h)
theorem mj_15_len {σ : am_H} (hl : σ.1.length = 56) : (mj_15 σ).1.length = 70 := mi_14_len (mj_14_len hl)
theorem mj_15_old {σ : am_H} {b : Nat} {q : Nat × Nat} (h : σ.1[b]? = some q) : (mj_15 σ).1[b]? = some q := mi_14_old (mj_14_old h)
theorem mj_16_len {σ : am_H} (hl : σ.1.length = 56) : (mj_16 σ).1.length = 71 := mi_15_len (mj_15_len hl)
theorem mj_16_old {σ : am_H} {b : Nat} {q : Nat × Nat} (h : σ.1[b]? = some q) : (mj_16 σ).1[b]? = some q := mi_15_old (mj_15_old h)
theorem mj_17_len {σ : am_H} (hl : σ.1.length = 56) : (mj_17 σ).1.length = 72 := mi_16_len (mj_16_len hl)
theorem mj_17_old {σ : am_H} {b : Nat} {q : Nat × Nat} (h : σ.1[b]? = some q) : (mj_17 σ).1[b]? = some q := mi_16_old (mj_16_old h)
theorem mj_18_len {σ : am_H} (hl : σ.1.length = 56) : (mj_18 σ).1.length = 73 := mi_17_len (mj_17_len hl)
theorem mj_18_old {σ : am_H} {b : Nat} {q : Nat × Nat} (h : σ.1[b]? = some q) : (mj_18 σ).1[b]? = some q := mi_17_old (mj_17_old h)
theorem mj_19_len {σ : am_H} (hl : σ.1.length = 56) : (mj_19 σ).1.length = 74 := mi_18_len (mj_18_len hl)
theorem mj_19_old {σ : am_H} {b : Nat} {q : Nat × Nat} (h : σ.1[b]? = some q) : (mj_19 σ).1[b]? = some q := mi_18_old (mj_18_old h)
theorem mj_20_len {σ : am_H} (hl : σ.1.length = 56) : (mj_20 σ).1.length = 75 := mi_19_len (mj_19_len hl)
theorem mj_20_old {σ : am_H} {b : Nat} {q : Nat × Nat} (h : σ.1[b]? = some q) : (mj_20 σ).1[b]? = some q := mi_19_old (mj_19_old h)
theorem mj_21_len {σ : am_H} (hl : σ.1.length = 56) : (mj_21 σ).1.length = 76 := mi_20_len (mj_20_len hl)
theorem mj_21_old {σ : am_H} {b : Nat} {q : Nat × Nat} (h : σ.1[b]? = some q) : (mj_21 σ).1[b]? = some q := mi_20_old (mj_20_old h)
theorem mj_22_len {σ : am_H} (hl : σ.1.length = 56) : (mj_22 σ).1.length = 77 := mi_21_len (mj_21_len hl)
theorem mj_22_old {σ : am_H} {b : Nat} {q : Nat × Nat} (h : σ.1[b]? = some q) : (mj_22 σ).1[b]? = some q := mi_21_old (mj_21_old h)
theorem mj_23_len {σ : am_H} (hl : σ.1.length = 56) : (mj_23 σ).1.length = 78 := mi_22_len (mj_22_len hl)
theorem mj_23_old {σ : am_H} {b : Nat} {q : Nat × Nat} (h : σ.1[b]? = some q) : (mj_23 σ).1[b]? = some q := mi_22_old (mj_22_old h)
theorem mj_24_len {σ : am_H} (hl : σ.1.length = 56) : (mj_24 σ).1.length = 79 := mi_23_len (mj_23_len hl)
theorem mj_24_old {σ : am_H} {b : Nat} {q : Nat × Nat} (h : σ.1[b]? = some q) : (mj_24 σ).1[b]? = some q := mi_23_old (mj_23_old h)
theorem mj_25_len {σ : am_H} (hl : σ.1.length = 56) : (mj_25 σ).1.length = 80 := mi_24_len (mj_24_len hl)
theorem mj_25_old {σ : am_H} {b : Nat} {q : Nat × Nat} (h : σ.1[b]? = some q) : (mj_25 σ).1[b]? = some q := mi_24_old (mj_24_old h)
theorem mj_26_len {σ : am_H} (hl : σ.1.length = 56) : (mj_26 σ).1.length = 81 := mi_25_len (mj_25_len hl)
theorem mj_26_old {σ : am_H} {b : Nat} {q : Nat × Nat} (h : σ.1[b]? = some q) : (mj_26 σ).1[b]? = some q := mi_25_old (mj_25_old h)
theorem mj_27_len {σ : am_H} (hl : σ.1.length = 56) : (mj_27 σ).1.length = 82 := mi_26_len (mj_26_len hl)
theorem mj_27_old {σ : am_H} {b : Nat} {q : Nat × Nat} (h : σ.1[b]? = some q) : (mj_27 σ).1[b]? = some q := mi_26_old (mj_26_old h)
theorem mj_28_len {σ : am_H} (hl : σ.1.length = 56) : (mj_28 σ).1.length = 83 := mi_27_len (mj_27_len hl)
theorem mj_28_old {σ : am_H} {b : Nat} {q : Nat × Nat} (h : σ.1[b]? = some q) : (mj_28 σ).1[b]? = some q := mi_27_old (mj_27_old h)
theorem mj_29_len {σ : am_H} (hl : σ.1.length = 56) : (mj_29 σ).1.length = 84 := mi_28_len (mj_28_len hl)
theorem mj_29_old {σ : am_H} {b : Nat} {q : Nat × Nat} (h : σ.1[b]? = some q) : (mj_29 σ).1[b]? = some q := mi_28_old (mj_28_old h)
theorem mj_30_len {σ : am_H} (hl : σ.1.length = 56) : (mj_30 σ).1.length = 85 := mi_29_len (mj_29_len hl)
theorem mj_30_old {σ : am_H} {b : Nat} {q : Nat × Nat} (h : σ.1[b]? = some q) : (mj_30 σ).1[b]? = some q := mi_29_old (mj_29_old h)
theorem mj_31_len {σ : am_H} (hl : σ.1.length = 56) : (mj_31 σ).1.length = 86 := mi_30_len (mj_30_len hl)
theorem mj_31_old {σ : am_H} {b : Nat} {q : Nat × Nat} (h : σ.1[b]? = some q) : (mj_31 σ).1[b]? = some q := mi_30_old (mj_30_old h)
theorem mj_32_len {σ : am_H} (hl : σ.1.length = 56) : (mj_32 σ).1.length = 87 := mi_31_len (mj_31_len hl)
theorem mj_32_old {σ : am_H} {b : Nat} {q : Nat × Nat} (h : σ.1[b]? = some q) : (mj_32 σ).1[b]? = some q := mi_31_old (mj_31_old h)
theorem mj_33_len {σ : am_H} (hl : σ.1.length = 56) : (mj_33 σ).1.length = 88 := mi_32_len (mj_32_len hl)
theorem mj_33_old {σ : am_H} {b : Nat} {q : Nat × Nat} (h : σ.1[b]? = some q) : (mj_33 σ).1[b]? = some q := mi_32_old (mj_32_old h)
theorem mj_34_len {σ : am_H} (hl : σ.1.length = 56) : (mj_34 σ).1.length = 89 := mi_33_len (mj_33_len hl)
theorem mj_34_old {σ : am_H} {b : Nat} {q : Nat × Nat} (h : σ.1[b]? = some q) : (mj_34 σ).1[b]? = some q := mi_33_old (mj_33_old h)
theorem mj_35_len {σ : am_H} (hl : σ.1.length = 56) : (mj_35 σ).1.length = 90 := mi_34_len (mj_34_len hl)
theorem mj_35_old {σ : am_H} {b : Nat} {q : Nat × Nat} (h : σ.1[b]? = some q) : (mj_35 σ).1[b]? = some q := mi_34_old (mj_34_old h)
theorem mj_36_len {σ : am_H} (hl : σ.1.length = 56) : (mj_36 σ).1.length = 91 := mi_35_len (mj_35_len hl)
theorem mj_36_old {σ : am_H} {b : Nat} {q : Nat × Nat} (h : σ.1[b]? = some q) : (mj_36 σ).1[b]? = some q := mi_35_old (mj_35_old h)
theorem mj_37_len {σ : am_H} (hl : σ.1.length = 56) : (mj_37 σ).1.length = 92 := mi_36_len (mj_36_len hl)
theorem mj_37_old {σ : am_H} {b : Nat} {q : Nat × Nat} (h : σ.1[b]? = some q) : (mj_37 σ).1[b]? = some q := mi_36_old (mj_36_old h)
theorem mj_38_len {σ : am_H} (hl : σ.1.length = 56) : (mj_38 σ).1.length = 93 := mi_37_len (mj_37_len hl)
theorem mj_38_old {σ : am_H} {b : Nat} {q : Nat × Nat} (h : σ.1[b]? = some q) : (mj_38 σ).1[b]? = some q := mi_37_old (mj_37_old h)
theorem mj_39_len {σ : am_H} (hl : σ.1.length = 56) : (mj_39 σ).1.length = 94 := mi_38_len (mj_38_len hl)
theorem mj_39_old {σ : am_H} {b : Nat} {q : Nat × Nat} (h : σ.1[b]? = some q) : (mj_39 σ).1[b]? = some q := mi_38_old (mj_38_old h)
theorem mj_40_len {σ : am_H} (hl : σ.1.length = 56) : (mj_40 σ).1.length = 95 := mi_39_len (mj_39_len hl)
theorem mj_40_old {σ : am_H} {b : Nat} {q : Nat × Nat} (h : σ.1[b]? = some q) : (mj_40 σ).1[b]? = some q := mi_39_old (mj_39_old h)
theorem mj_41_len {σ : am_H} (hl : σ.1.length = 56) : (mj_41 σ).1.length = 96 := mi_40_len (mj_40_len hl)
theorem mj_41_old {σ : am_H} {b : Nat} {q : Nat × Nat} (h : σ.1[b]? = some q) : (mj_41 σ).1[b]? = some q := mi_40_old (mj_40_old h)
theorem mj_42_len {σ : am_H} (hl : σ.1.length = 56) : (mj_42 σ).1.length = 97 := mi_41_len (mj_41_len hl)
theorem mj_42_old {σ : am_H} {b : Nat} {q : Nat × Nat} (h : σ.1[b]? = some q) : (mj_42 σ).1[b]? = some q := mi_41_old (mj_41_old h)
theorem mj_43_len {σ : am_H} (hl : σ.1.length = 56) : (mj_43 σ).1.length = 98 := mi_42_len (mj_42_len hl)
theorem mj_43_old {σ : am_H} {b : Nat} {q : Nat × Nat} (h : σ.1[b]? = some q) : (mj_43 σ).1[b]? = some q := mi_42_old (mj_42_old h)
theorem mj_44_len {σ : am_H} (hl : σ.1.length = 56) : (mj_44 σ).1.length = 99 := mi_43_len (mj_43_len hl)
theorem mj_44_old {σ : am_H} {b : Nat} {q : Nat × Nat} (h : σ.1[b]? = some q) : (mj_44 σ).1[b]? = some q := mi_43_old (mj_43_old h)
theorem mj_45_len {σ : am_H} (hl : σ.1.length = 56) : (mj_45 σ).1.length = 100 := mi_44_len (mj_44_len hl)
theorem mj_45_old {σ : am_H} {b : Nat} {q : Nat × Nat} (h : σ.1[b]? = some q) : (mj_45 σ).1[b]? = some q := mi_44_old (mj_44_old h)
theorem mj_46_len {σ : am_H} (hl : σ.1.length = 56) : (mj_46 σ).1.length = 101 := mi_45_len (mj_45_len hl)
theorem mj_46_old {σ : am_H} {b : Nat} {q : Nat × Nat} (h : σ.1[b]? = some q) : (mj_46 σ).1[b]? = some q := mi_45_old (mj_45_old h)
theorem mj_47_len {σ : am_H} (hl : σ.1.length = 56) : (mj_47 σ).1.length = 102 := mi_46_len (mj_46_len hl)
theorem mj_47_old {σ : am_H} {b : Nat} {q : Nat × Nat} (h : σ.1[b]? = some q) : (mj_47 σ).1[b]? = some q := mi_46_old (mj_46_old h)
theorem mj_48_len {σ : am_H} (hl : σ.1.length = 56) : (mj_48 σ).1.length = 103 := mi_47_len (mj_47_len hl)
theorem mj_48_old {σ : am_H} {b : Nat} {q : Nat × Nat} (h : σ.1[b]? = some q) : (mj_48 σ).1[b]? = some q := mi_47_old (mj_47_old h)
theorem mj_49_len {σ : am_H} (hl : σ.1.length = 56) : (mj_49 σ).1.length = 103 := mi_48_len (mj_48_len hl)
theorem mj_49_old {σ : am_H} {b : Nat} {q : Nat × Nat} (h : σ.1[b]? = some q) : (mj_49 σ).1[b]? = some q := mi_48_old (mj_48_old h)
theorem mj_50_len {σ : am_H} (hl : σ.1.length = 56) : (mj_50 σ).1.length = 104 := mi_49_len (mj_49_len hl)
theorem mj_50_old {σ : am_H} {b : Nat} {q : Nat × Nat} (h : σ.1[b]? = some q) : (mj_50 σ).1[b]? = some q := mi_49_old (mj_49_old h)
theorem mj_51_len {σ : am_H} (hl : σ.1.length = 56) : (mj_51 σ).1.length = 105 := mi_50_len (mj_50_len hl)
theorem mj_51_old {σ : am_H} {b : Nat} {q : Nat × Nat} (h : σ.1[b]? = some q) : (mj_51 σ).1[b]? = some q := mi_50_old (mj_50_old h)
theorem mj_52_len {σ : am_H} (hl : σ.1.length = 56) : (mj_52 σ).1.length = 106 := mi_51_len (mj_51_len hl)
theorem mj_52_old {σ : am_H} {b : Nat} {q : Nat × Nat} (h : σ.1[b]? = some q) : (mj_52 σ).1[b]? = some q := mi_51_old (mj_51_old h)
theorem mj_53_len {σ : am_H} (hl : σ.1.length = 56) : (mj_53 σ).1.length = 107 := mi_52_len (mj_52_len hl)
theorem mj_53_old {σ : am_H} {b : Nat} {q : Nat × Nat} (h : σ.1[b]? = some q) : (mj_53 σ).1[b]? = some q := mi_52_old (mj_52_old h)
theorem mj_54_len {σ : am_H} (hl : σ.1.length = 56) : (mj_54 σ).1.length = 108 := mi_53_len (mj_53_len hl)
theorem mj_54_old {σ : am_H} {b : Nat} {q : Nat × Nat} (h : σ.1[b]? = some q) : (mj_54 σ).1[b]? = some q := mi_53_old (mj_53_old h)
theorem mj_55_len {σ : am_H} (hl : σ.1.length = 56) : (mj_55 σ).1.length = 109 := mi_54_len (mj_54_len hl)
theorem mj_55_old {σ : am_H} {b : Nat} {q : Nat × Nat} (h : σ.1[b]? = some q) : (mj_55 σ).1[b]? = some q := mi_54_old (mj_54_old h)
theorem mj_56_len {σ : am_H} (hl : σ.1.length = 56) : (mj_56 σ).1.length = 110 := mi_55_len (mj_55_len hl)
theorem mj_56_old {σ : am_H} {b : Nat} {q : Nat × Nat} (h : σ.1[b]? = some q) : (mj_56 σ).1[b]? = some q := mi_55_old (mj_55_old h)
theorem mj_57_len {σ : am_H} (hl : σ.1.length = 56) : (mj_57 σ).1.length = 111 := mi_56_len (mj_56_len hl)
theorem mj_57_old {σ : am_H} {b : Nat} {q : Nat × Nat} (h : σ.1[b]? = some q) : (mj_57 σ).1[b]? = some q := mi_56_old (mj_56_old h)
theorem mj_58_len {σ : am_H} (hl : σ.1.length = 56) : (mj_58 σ).1.length = 112 := mi_57_len (mj_57_len hl)
theorem mj_58_old {σ : am_H} {b : Nat} {q : Nat × Nat} (h : σ.1[b]? = some q) : (mj_58 σ).1[b]? = some q := mi_57_old (mj_57_old h)
theorem mj_59_len {σ : am_H} (hl : σ.1.length = 56) : (mj_59 σ).1.length = 113 := mi_58_len (mj_58_len hl)
theorem mj_59_old {σ : am_H} {b : Nat} {q : Nat × Nat} (h : σ.1[b]? = some q) : (mj_59 σ).1[b]? = some q := mi_58_old (mj_58_old h)
theorem mj_60_len {σ : am_H} (hl : σ.1.length = 56) : (mj_60 σ).1.length = 114 := mi_59_len (mj_59_len hl)
theorem mj_60_old {σ : am_H} {b : Nat} {q : Nat × Nat} (h : σ.1[b]? = some q) : (mj_60 σ).1[b]? = some q := mi_59_old (mj_59_old h)
theorem mj_61_len {σ : am_H} (hl : σ.1.length = 56) : (mj_61 σ).1.length = 115 := mi_60_len (mj_60_len hl)
theorem mj_61_old {σ : am_H} {b : Nat} {q : Nat × Nat} (h : σ.1[b]? = some q) : (mj_61 σ).1[b]? = some q := mi_60_old (mj_60_old h)
theorem mj_62_len {σ : am_H} (hl : σ.1.length = 56) : (mj_62 σ).1.length = 116 := mi_61_len (mj_61_len hl)
theorem mj_62_old {σ : am_H} {b : Nat} {q : Nat × Nat} (h : σ.1[b]? = some q) : (mj_62 σ).1[b]? = some q := mi_61_old (mj_61_old h)
theorem mj_63_len {σ : am_H} (hl : σ.1.length = 56) : (mj_63 σ).1.length = 117 := mi_62_len (mj_62_len hl)
theorem mj_63_old {σ : am_H} {b : Nat} {q : Nat × Nat} (h : σ.1[b]? = some q) : (mj_63 σ).1[b]? = some q := mi_62_old (mj_62_old h)
theorem mj_64_len {σ : am_H} (hl : σ.1.length = 56) : (mj_64 σ).1.length = 118 := mi_63_len (mj_63_len hl)
theorem mj_64_old {σ : am_H} {b : Nat} {q : Nat × Nat} (h : σ.1[b]? = some q) : (mj_64 σ).1[b]? = some q := mi_63_old (mj_63_old h)
theorem mj_65_len {σ : am_H} (hl : σ.1.length = 56) : (mj_65 σ).1.length = 119 := mi_64_len (mj_64_len hl)
theorem mj_65_old {σ : am_H} {b : Nat} {q : Nat × Nat} (h : σ.1[b]? = some q) : (mj_65 σ).1[b]? = some q := mi_64_old (mj_64_old h)
theorem mj_66_len {σ : am_H} (hl : σ.1.length = 56) : (mj_66 σ).1.length = 120 := mi_65_len (mj_65_len hl)
theorem mj_66_old {σ : am_H} {b : Nat} {q : Nat × Nat} (h : σ.1[b]? = some q) : (mj_66 σ).1[b]? = some q := mi_65_old (mj_65_old h)
theorem mj_67_len {σ : am_H} (hl : σ.1.length = 56) : (mj_67 σ).1.length = 121 := mi_66_len (mj_66_len hl)
theorem mj_67_old {σ : am_H} {b : Nat} {q : Nat × Nat} (h : σ.1[b]? = some q) : (mj_67 σ).1[b]? = some q := mi_66_old (mj_66_old h)
theorem mj_68_len {σ : am_H} (hl : σ.1.length = 56) : (mj_68 σ).1.length = 122 := mi_67_len (mj_67_len hl)
theorem mj_68_old {σ : am_H} {b : Nat} {q : Nat × Nat} (h : σ.1[b]? = some q) : (mj_68 σ).1[b]? = some q := mi_67_old (mj_67_old h)
theorem mj_69_len {σ : am_H} (hl : σ.1.length = 56) : (mj_69 σ).1.length = 123 := mi_68_len (mj_68_len hl)
theorem mj_69_old {σ : am_H} {b : Nat} {q : Nat × Nat} (h : σ.1[b]? = some q) : (mj_69 σ).1[b]? = some q := mi_68_old (mj_68_old h)
theorem mj_70_len {σ : am_H} (hl : σ.1.length = 56) : (mj_70 σ).1.length = 124 := mi_69_len (mj_69_len hl)
theorem mj_70_old {σ : am_H} {b : Nat} {q : Nat × Nat} (h : σ.1[b]? = some q) : (mj_70 σ).1[b]? = some q := mi_69_old (mj_69_old h)
theorem mj_71_len {σ : am_H} (hl : σ.1.length = 56) : (mj_71 σ).1.length = 125 := mi_70_len (mj_70_len hl)
theorem mj_71_old {σ : am_H} {b : Nat} {q : Nat × Nat} (h : σ.1[b]? = some q) : (mj_71 σ).1[b]? = some q := mi_70_old (mj_70_old h)
theorem mj_72_len {σ : am_H} (hl : σ.1.length = 56) : (mj_72 σ).1.length = 126 := mi_71_len (mj_71_len hl)
theorem mj_72_old {σ : am_H} {b : Nat} {q : Nat × Nat} (h : σ.1[b]? = some q) : (mj_72 σ).1[b]? = some q := mi_71_old (mj_71_old h)
theorem mj_73_len {σ : am_H} (hl : σ.1.length = 56) : (mj_73 σ).1.length = 127 := mi_72_len (mj_72_len hl)
theorem mj_73_old {σ : am_H} {b : Nat} {q : Nat × Nat} (h : σ.1[b]? = some q) : (mj_73 σ).1[b]? = some q := mi_72_old (mj_72_old h)
theorem mj_74_len {σ : am_H} (hl : σ.1.length = 56) : (mj_74 σ).1.length = 128 := mi_73_len (mj_73_len hl)
theorem mj_74_old {σ : am_H} {b : Nat} {q : Nat × Nat} (h : σ.1[b]? = some q) : (mj_74 σ).1[b]? = some q := mi_73_old (mj_73_old h)
theorem mj_75_len {σ : am_H} (hl : σ.1.length = 56) : (mj_75 σ).1.length = 129 := mi_74_len (mj_74_len hl)
theorem mj_75_old {σ : am_H} {b : Nat} {q : Nat × Nat} (h : σ.1[b]? = some q) : (mj_75 σ).1[b]? = some q := mi_74_old (mj_74_old h)
theorem mj_76_len {σ : am_H} (hl : σ.1.length = 56) : (mj_76 σ).1.length = 130 := mi_75_len (mj_75_len hl)
theorem mj_76_old {σ : am_H} {b : Nat} {q : Nat × Nat} (h : σ.1[b]? = some q) : (mj_76 σ).1[b]? = some q := mi_75_old (mj_75_old h)
theorem mj_77_len {σ : am_H} (hl : σ.1.length = 56) : (mj_77 σ).1.length = 131 := mi_76_len (mj_76_len hl)
theorem mj_77_old {σ : am_H} {b : Nat} {q : Nat × Nat} (h : σ.1[b]? = some q) : (mj_77 σ).1[b]? = some q := mi_76_old (mj_76_old h)
set_option maxRecDepth 20000 in
theorem c_X10_init (σ : am_H) (hl : σ.1.length = 56) (ha : σ.1[55]? = some (10, 108)) (hnow : (mj_77 σ).1[96]? = some (11, 443)) (hnr : (mj_77 σ).2.2 55 54 = some 96) : am_met M_X10_init [am_r 55] σ (fun r σ' => r = none ∧ σ' = iX10 σ) := by
  refine am_enter (show plainFor yX10_init = true by decide +kernel) rfl (Nat.le_of_ble_eq_true rfl) (fun _ _ _ => trivial) ?_
  refine am_aload_n (q := 1) rfl (am_tab tk_X10_init 0 rfl) rfl ?_
  refine am_objI (q := 4) km_X10_1 ki_obj kc_obj (Nat.le_of_ble_eq_true rfl) (Nat.le_of_ble_eq_true rfl) (am_tab tk_X10_init 1 rfl) rfl ?_
  refine mi_0_s (mj_0 σ) (mj_0_len hl) (mj_0_old ha) ?_
  refine mi_1_s (mj_1 σ) (mj_1_len hl) (mj_1_old ha) ?_
  refine mi_2_s (mj_2 σ) (mj_2_len hl) (mj_2_old ha) ?_
  refine mi_3_s (mj_3 σ) (mj_3_len hl) (mj_3_old ha) ?_
  refine mi_4_s (mj_4 σ) (mj_4_len hl) (mj_4_old ha) ?_
  refine mi_5_s (mj_5 σ) (mj_5_len hl) (mj_5_old ha) ?_
  refine mi_6_s (mj_6 σ) (mj_6_len hl) (mj_6_old ha) ?_
  refine mi_7_s (mj_7 σ) (mj_7_len hl) (mj_7_old ha) ?_
  refine mi_8_s (mj_8 σ) (mj_8_len hl) (mj_8_old ha) ?_
  refine mi_9_s (mj_9 σ) (mj_9_len hl) (mj_9_old ha) ?_
  refine mi_10_s (mj_10 σ) (mj_10_len hl) (mj_10_old ha) ?_
  refine mi_11_s (mj_11 σ) (mj_11_len hl) (mj_11_old ha) ?_
  refine mi_12_s (mj_12 σ) (mj_12_len hl) (mj_12_old ha) ?_
  refine mi_13_s (mj_13 σ) (mj_13_len hl) (mj_13_old ha) ?_
  refine mi_14_s (mj_14 σ) (mj_14_len hl) (mj_14_old ha) ?_
  refine mi_15_s (mj_15 σ) (mj_15_len hl) (mj_15_old ha) ?_
  refine mi_16_s (mj_16 σ) (mj_16_len hl) (mj_16_old ha) ?_
  refine mi_17_s (mj_17 σ) (mj_17_len hl) (mj_17_old ha) ?_
  refine mi_18_s (mj_18 σ) (mj_18_len hl) (mj_18_old ha) ?_
  refine mi_19_s (mj_19 σ) (mj_19_len hl) (mj_19_old ha) ?_
  refine mi_20_s (mj_20 σ) (mj_20_len hl) (mj_20_old ha) ?_
  refine mi_21_s (mj_21 σ) (mj_21_len hl) (mj_21_old ha) ?_
  refine mi_22_s (mj_22 σ) (mj_22_len hl) (mj_22_old ha) ?_
  refine mi_23_s (mj_23 σ) (mj_23_len hl) (mj_23_old ha) ?_
  refine mi_24_s (mj_24 σ) (mj_24_len hl) (mj_24_old ha) ?_
  refine mi_25_s (mj_25 σ) (mj_25_len hl) (mj_25_old ha) ?_
  refine mi_26_s (mj_26 σ) (mj_26_len hl) (mj_26_old ha) ?_
  refine mi_27_s (mj_27 σ) (mj_27_len hl) (mj_27_old ha) ?_
  refine mi_28_s (mj_28 σ) (mj_28_len hl) (mj_28_old ha) ?_
  refine mi_29_s (mj_29 σ) (mj_29_len hl) (mj_29_old ha) ?_
  refine mi_30_s (mj_30 σ) (mj_30_len hl) (mj_30_old ha) ?_
  refine mi_31_s (mj_31 σ) (mj_31_len hl) (mj_31_old ha) ?_
  refine mi_32_s (mj_32 σ) (mj_32_len hl) (mj_32_old ha) ?_
  refine mi_33_s (mj_33 σ) (mj_33_len hl) (mj_33_old ha) ?_
  refine mi_34_s (mj_34 σ) (mj_34_len hl) (mj_34_old ha) ?_
  refine mi_35_s (mj_35 σ) (mj_35_len hl) (mj_35_old ha) ?_
  refine mi_36_s (mj_36 σ) (mj_36_len hl) (mj_36_old ha) ?_
  refine mi_37_s (mj_37 σ) (mj_37_len hl) (mj_37_old ha) ?_
  refine mi_38_s (mj_38 σ) (mj_38_len hl) (mj_38_old ha) ?_
  refine mi_39_s (mj_39 σ) (mj_39_len hl) (mj_39_old ha) ?_
  refine mi_40_s (mj_40 σ) (mj_40_len hl) (mj_40_old ha) ?_
  refine mi_41_s (mj_41 σ) (mj_41_len hl) (mj_41_old ha) ?_
  refine mi_42_s (mj_42 σ) (mj_42_len hl) (mj_42_old ha) ?_
  refine mi_43_s (mj_43 σ) (mj_43_len hl) (mj_43_old ha) ?_
  refine mi_44_s (mj_44 σ) (mj_44_len hl) (mj_44_old ha) ?_
  refine mi_45_s (mj_45 σ) (mj_45_len hl) (mj_45_old ha) ?_
  refine mi_46_s (mj_46 σ) (mj_46_len hl) (mj_46_old ha) ?_
  refine mi_47_s (mj_47 σ) (mj_47_len hl) (mj_47_old ha) ?_
  refine mi_48_s (mj_48 σ) (mj_48_len hl) (mj_48_old ha) ?_
  refine mi_49_s (mj_49 σ) (mj_49_len hl) (mj_49_old ha) ?_
  refine mi_50_s (mj_50 σ) (mj_50_len hl) (mj_50_old ha) ?_
  refine mi_51_s (mj_51 σ) (mj_51_len hl) (mj_51_old ha) ?_
  refine mi_52_s (mj_52 σ) (mj_52_len hl) (mj_52_old ha) ?_
  refine mi_53_s (mj_53 σ) (mj_53_len hl) (mj_53_old ha) ?_
  refine mi_54_s (mj_54 σ) (mj_54_len hl) (mj_54_old ha) ?_
  refine mi_55_s (mj_55 σ) (mj_55_len hl) (mj_55_old ha) ?_
  refine mi_56_s (mj_56 σ) (mj_56_len hl) (mj_56_old ha) ?_
  refine mi_57_s (mj_57 σ) (mj_57_len hl) (mj_57_old ha) ?_
  refine mi_58_s (mj_58 σ) (mj_58_len hl) (mj_58_old ha) ?_
  refine mi_59_s (mj_59 σ) (mj_59_len hl) (mj_59_old ha) ?_
  refine mi_60_s (mj_60 σ) (mj_60_len hl) (mj_60_old ha) ?_
  refine mi_61_s (mj_61 σ) (mj_61_len hl) (mj_61_old ha) ?_
  refine mi_62_s (mj_62 σ) (mj_62_len hl) (mj_62_old ha) ?_
  refine mi_63_s (mj_63 σ) (mj_63_len hl) (mj_63_old ha) ?_
  refine mi_64_s (mj_64 σ) (mj_64_len hl) (mj_64_old ha) ?_
  refine mi_65_s (mj_65 σ) (mj_65_len hl) (mj_65_old ha) ?_
  refine mi_66_s (mj_66 σ) (mj_66_len hl) (mj_66_old ha) ?_
  refine mi_67_s (mj_67 σ) (mj_67_len hl) (mj_67_old ha) ?_
  refine mi_68_s (mj_68 σ) (mj_68_len hl) (mj_68_old ha) ?_
  refine mi_69_s (mj_69 σ) (mj_69_len hl) (mj_69_old ha) ?_
  refine mi_70_s (mj_70 σ) (mj_70_len hl) (mj_70_old ha) ?_
  refine mi_71_s (mj_71 σ) (mj_71_len hl) (mj_71_old ha) ?_
  refine mi_72_s (mj_72 σ) (mj_72_len hl) (mj_72_old ha) ?_
  refine mi_73_s (mj_73 σ) (mj_73_len hl) (mj_73_old ha) ?_
  refine mi_74_s (mj_74 σ) (mj_74_len hl) (mj_74_old ha) ?_
  refine mi_75_s (mj_75 σ) (mj_75_len hl) (mj_75_old ha) ?_
  refine mi_76_s (mj_76 σ) (mj_76_len hl) (mj_76_old ha) ?_
  show am_wp M_X10_init _ 75 20243 1653 [(0, am_r 55)] [] (mj_77 σ)
  refine am_aload_n (q := 1654) rfl (am_tab tk_X10_init 1172 rfl) rfl ?_
  refine am_getR (q := 1657) (a := 55) (k := 10) (n := 108) (j := 54) (r := some (96)) (mj_77_old ha) (by decide) rfl hnr (by decide) (Or.inl kf_X10_136) (am_tab tk_X10_init 1173 rfl) rfl ?_
  refine am_iconst (q := 1658) (n := 0) (by decide) (am_tab tk_X10_init 1174 rfl) rfl ?_
  refine am_iconst (q := 1659) (n := 1) (by decide) (am_tab tk_X10_init 1175 rfl) rfl ?_
  refine am_iast (q := 1660) (a := 96) (n := 443) hnow (by omega) (by omega) (am_tab tk_X10_init 1176 rfl) rfl ?_
  refine am_vret rfl (Nat.le_of_ble_eq_true rfl) (Nat.le_of_ble_eq_true rfl) (am_tab tk_X10_init 1177 rfl) ?_
  exact ⟨rfl, rfl⟩
