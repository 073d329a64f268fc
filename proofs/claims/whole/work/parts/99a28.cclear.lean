/-- a cleared town -/
def clH (t : Nat) (σ : am_H) : am_H := (σ.1, fun a j => if a = t ∧ j < 8 then 0 else if (a = t + 4 ∨ a = t + 5) ∧ j < 8 then 0 else if (a = t + 6 ∨ a = t + 7) ∧ j < 91 then 0 else if (a = t + 8 ∨ a = t + 10) ∧ j = 1 then 0 else σ.2.1 a j, σ.2.2)
set_option maxRecDepth 100000 in
theorem c_clear_3 (σ : am_H) (hL : lay σ)   : am_met M_X8_clear [am_r 3] σ (fun r σ' => r = none ∧ σ' = clH 3 σ) := by
  refine am_qq (fun Q hQ => ?_)
  refine am_enter (show plainFor yX8_clear = true by decide +kernel) rfl (Nat.le_of_ble_eq_true rfl) (fun _ _ _ => trivial) ?_
  refine am_aload_n (q := 1) rfl (am_tab tk_X8_clear 0 rfl) rfl ?_
  refine am_iconst (q := 2) (n := 0) (by decide) (am_tab tk_X8_clear 1 rfl) rfl ?_
  refine am_putI (q := 5) (k := 8) (n := 17) (j := 0) (Ls_3 hL) (by decide) rfl (by decide) (Or.inl ⟨kf_X8_45, rfl⟩) (am_tab tk_X8_clear 2 rfl) rfl ?_
  refine am_aload_n (q := 6) rfl (am_tab tk_X8_clear 3 rfl) rfl ?_
  refine am_iconst (q := 7) (n := 0) (by decide) (am_tab tk_X8_clear 4 rfl) rfl ?_
  refine am_putI (q := 10) (k := 8) (n := 17) (j := 1) (Ls_3 hL) (by decide) rfl (by decide) (Or.inl ⟨kf_X8_49, rfl⟩) (am_tab tk_X8_clear 5 rfl) rfl ?_
  refine am_aload_n (q := 11) rfl (am_tab tk_X8_clear 6 rfl) rfl ?_
  refine am_iconst (q := 12) (n := 0) (by decide) (am_tab tk_X8_clear 7 rfl) rfl ?_
  refine am_putI (q := 15) (k := 8) (n := 17) (j := 2) (Ls_3 hL) (by decide) rfl (by decide) (Or.inl ⟨kf_X8_52, rfl⟩) (am_tab tk_X8_clear 8 rfl) rfl ?_
  refine am_aload_n (q := 16) rfl (am_tab tk_X8_clear 9 rfl) rfl ?_
  refine am_iconst (q := 17) (n := 0) (by decide) (am_tab tk_X8_clear 10 rfl) rfl ?_
  refine am_putI (q := 20) (k := 8) (n := 17) (j := 3) (Ls_3 hL) (by decide) rfl (by decide) (Or.inl ⟨kf_X8_55, rfl⟩) (am_tab tk_X8_clear 11 rfl) rfl ?_
  refine am_aload_n (q := 21) rfl (am_tab tk_X8_clear 12 rfl) rfl ?_
  refine am_iconst (q := 22) (n := 0) (by decide) (am_tab tk_X8_clear 13 rfl) rfl ?_
  refine am_putI (q := 25) (k := 8) (n := 17) (j := 4) (Ls_3 hL) (by decide) rfl (by decide) (Or.inl ⟨kf_X8_58, rfl⟩) (am_tab tk_X8_clear 14 rfl) rfl ?_
  refine am_aload_n (q := 26) rfl (am_tab tk_X8_clear 15 rfl) rfl ?_
  refine am_iconst (q := 27) (n := 0) (by decide) (am_tab tk_X8_clear 16 rfl) rfl ?_
  refine am_putI (q := 30) (k := 8) (n := 17) (j := 5) (Ls_3 hL) (by decide) rfl (by decide) (Or.inl ⟨kf_X8_61, rfl⟩) (am_tab tk_X8_clear 17 rfl) rfl ?_
  refine am_aload_n (q := 31) rfl (am_tab tk_X8_clear 18 rfl) rfl ?_
  refine am_iconst (q := 32) (n := 0) (by decide) (am_tab tk_X8_clear 19 rfl) rfl ?_
  refine am_putI (q := 35) (k := 8) (n := 17) (j := 6) (Ls_3 hL) (by decide) rfl (by decide) (Or.inl ⟨kf_X8_64, rfl⟩) (am_tab tk_X8_clear 20 rfl) rfl ?_
  refine am_aload_n (q := 36) rfl (am_tab tk_X8_clear 21 rfl) rfl ?_
  refine am_iconst (q := 37) (n := 0) (by decide) (am_tab tk_X8_clear 22 rfl) rfl ?_
  refine am_putI (q := 40) (k := 8) (n := 17) (j := 7) (Ls_3 hL) (by decide) rfl (by decide) (Or.inl ⟨kf_X8_67, rfl⟩) (am_tab tk_X8_clear 23 rfl) rfl ?_
  refine am_aload_n (q := 41) rfl (am_tab tk_X8_clear 24 rfl) rfl ?_
  refine am_getR (q := 44) (a := 3) (k := 8) (n := 17) (j := 11) (r := some (7)) (Ls_3 hL) (by decide) rfl (Lr_3_11 hL) (by decide) (Or.inl kf_X8_21) (am_tab tk_X8_clear 25 rfl) rfl ?_
  refine am_iconst (q := 45) (n := 0) (by decide) (am_tab tk_X8_clear 26 rfl) rfl ?_
  refine am_callS0 (q := 48) (me2 := M_J7_fill_53178) (As := [am_r 7, am_i 0]) (rest := []) (out := []) (c_fill (am_setN (am_setN (am_setN (am_setN (am_setN (am_setN (am_setN (am_setN σ 3 0 0) 3 1 0) 3 2 0) 3 3 0) 3 4 0) 3 5 0) 3 6 0) 3 7 0) 7 8 0 (Ls_7 hL) (by decide)) ⟨rfl, rfl⟩ ⟨Or.inl km_X8_70, kc_J7_fill_53178, kn_J7, kd_J7_fill_53178, ⟨(Nat.le_of_ble_eq_true rfl), (Nat.le_of_ble_eq_true rfl)⟩, ⟨(Nat.le_of_ble_eq_true rfl), (Nat.le_of_ble_eq_true rfl)⟩, (Nat.le_of_ble_eq_true rfl)⟩ ki_J7_fill_53178 rfl rfl (am_tab tk_X8_clear 27 rfl) rfl ?_
  refine am_aload_n (q := 49) rfl (am_tab tk_X8_clear 28 rfl) rfl ?_
  refine am_getR (q := 52) (a := 3) (k := 8) (n := 17) (j := 12) (r := some (8)) (Ls_3 hL) (by decide) rfl (Lr_3_12 hL) (by decide) (Or.inl kf_X8_24) (am_tab tk_X8_clear 29 rfl) rfl ?_
  refine am_iconst (q := 53) (n := 0) (by decide) (am_tab tk_X8_clear 30 rfl) rfl ?_
  refine am_callS0 (q := 56) (me2 := M_J7_fill_53178) (As := [am_r 8, am_i 0]) (rest := []) (out := []) (c_fill (am_setA (am_setN (am_setN (am_setN (am_setN (am_setN (am_setN (am_setN (am_setN σ 3 0 0) 3 1 0) 3 2 0) 3 3 0) 3 4 0) 3 5 0) 3 6 0) 3 7 0) 7 (fun k => if k < 8 then 0 else (am_setN (am_setN (am_setN (am_setN (am_setN (am_setN (am_setN (am_setN σ 3 0 0) 3 1 0) 3 2 0) 3 3 0) 3 4 0) 3 5 0) 3 6 0) 3 7 0).2.1 7 k)) 8 8 0 (Ls_8 hL) (by decide)) ⟨rfl, rfl⟩ ⟨Or.inl km_X8_70, kc_J7_fill_53178, kn_J7, kd_J7_fill_53178, ⟨(Nat.le_of_ble_eq_true rfl), (Nat.le_of_ble_eq_true rfl)⟩, ⟨(Nat.le_of_ble_eq_true rfl), (Nat.le_of_ble_eq_true rfl)⟩, (Nat.le_of_ble_eq_true rfl)⟩ ki_J7_fill_53178 rfl rfl (am_tab tk_X8_clear 31 rfl) rfl ?_
  refine am_aload_n (q := 57) rfl (am_tab tk_X8_clear 32 rfl) rfl ?_
  refine am_getR (q := 60) (a := 3) (k := 8) (n := 17) (j := 13) (r := some (9)) (Ls_3 hL) (by decide) rfl (Lr_3_13 hL) (by decide) (Or.inl kf_X8_27) (am_tab tk_X8_clear 33 rfl) rfl ?_
  refine am_iconst (q := 61) (n := 0) (by decide) (am_tab tk_X8_clear 34 rfl) rfl ?_
  refine am_callS0 (q := 64) (me2 := M_J7_fill_53178) (As := [am_r 9, am_i 0]) (rest := []) (out := []) (c_fill (am_setA (am_setA (am_setN (am_setN (am_setN (am_setN (am_setN (am_setN (am_setN (am_setN σ 3 0 0) 3 1 0) 3 2 0) 3 3 0) 3 4 0) 3 5 0) 3 6 0) 3 7 0) 7 (fun k => if k < 8 then 0 else (am_setN (am_setN (am_setN (am_setN (am_setN (am_setN (am_setN (am_setN σ 3 0 0) 3 1 0) 3 2 0) 3 3 0) 3 4 0) 3 5 0) 3 6 0) 3 7 0).2.1 7 k)) 8 (fun k => if k < 8 then 0 else (am_setA (am_setN (am_setN (am_setN (am_setN (am_setN (am_setN (am_setN (am_setN σ 3 0 0) 3 1 0) 3 2 0) 3 3 0) 3 4 0) 3 5 0) 3 6 0) 3 7 0) 7 (fun k => if k < 8 then 0 else (am_setN (am_setN (am_setN (am_setN (am_setN (am_setN (am_setN (am_setN σ 3 0 0) 3 1 0) 3 2 0) 3 3 0) 3 4 0) 3 5 0) 3 6 0) 3 7 0).2.1 7 k)).2.1 8 k)) 9 91 0 (Ls_9 hL) (by decide)) ⟨rfl, rfl⟩ ⟨Or.inl km_X8_70, kc_J7_fill_53178, kn_J7, kd_J7_fill_53178, ⟨(Nat.le_of_ble_eq_true rfl), (Nat.le_of_ble_eq_true rfl)⟩, ⟨(Nat.le_of_ble_eq_true rfl), (Nat.le_of_ble_eq_true rfl)⟩, (Nat.le_of_ble_eq_true rfl)⟩ ki_J7_fill_53178 rfl rfl (am_tab tk_X8_clear 35 rfl) rfl ?_
  refine am_aload_n (q := 65) rfl (am_tab tk_X8_clear 36 rfl) rfl ?_
  refine am_getR (q := 68) (a := 3) (k := 8) (n := 17) (j := 14) (r := some (10)) (Ls_3 hL) (by decide) rfl (Lr_3_14 hL) (by decide) (Or.inl kf_X8_30) (am_tab tk_X8_clear 37 rfl) rfl ?_
  refine am_iconst (q := 69) (n := 0) (by decide) (am_tab tk_X8_clear 38 rfl) rfl ?_
  refine am_callS0 (q := 72) (me2 := M_J7_fill_53178) (As := [am_r 10, am_i 0]) (rest := []) (out := []) (c_fill (am_setA (am_setA (am_setA (am_setN (am_setN (am_setN (am_setN (am_setN (am_setN (am_setN (am_setN σ 3 0 0) 3 1 0) 3 2 0) 3 3 0) 3 4 0) 3 5 0) 3 6 0) 3 7 0) 7 (fun k => if k < 8 then 0 else (am_setN (am_setN (am_setN (am_setN (am_setN (am_setN (am_setN (am_setN σ 3 0 0) 3 1 0) 3 2 0) 3 3 0) 3 4 0) 3 5 0) 3 6 0) 3 7 0).2.1 7 k)) 8 (fun k => if k < 8 then 0 else (am_setA (am_setN (am_setN (am_setN (am_setN (am_setN (am_setN (am_setN (am_setN σ 3 0 0) 3 1 0) 3 2 0) 3 3 0) 3 4 0) 3 5 0) 3 6 0) 3 7 0) 7 (fun k => if k < 8 then 0 else (am_setN (am_setN (am_setN (am_setN (am_setN (am_setN (am_setN (am_setN σ 3 0 0) 3 1 0) 3 2 0) 3 3 0) 3 4 0) 3 5 0) 3 6 0) 3 7 0).2.1 7 k)).2.1 8 k)) 9 (fun k => if k < 91 then 0 else (am_setA (am_setA (am_setN (am_setN (am_setN (am_setN (am_setN (am_setN (am_setN (am_setN σ 3 0 0) 3 1 0) 3 2 0) 3 3 0) 3 4 0) 3 5 0) 3 6 0) 3 7 0) 7 (fun k => if k < 8 then 0 else (am_setN (am_setN (am_setN (am_setN (am_setN (am_setN (am_setN (am_setN σ 3 0 0) 3 1 0) 3 2 0) 3 3 0) 3 4 0) 3 5 0) 3 6 0) 3 7 0).2.1 7 k)) 8 (fun k => if k < 8 then 0 else (am_setA (am_setN (am_setN (am_setN (am_setN (am_setN (am_setN (am_setN (am_setN σ 3 0 0) 3 1 0) 3 2 0) 3 3 0) 3 4 0) 3 5 0) 3 6 0) 3 7 0) 7 (fun k => if k < 8 then 0 else (am_setN (am_setN (am_setN (am_setN (am_setN (am_setN (am_setN (am_setN σ 3 0 0) 3 1 0) 3 2 0) 3 3 0) 3 4 0) 3 5 0) 3 6 0) 3 7 0).2.1 7 k)).2.1 8 k)).2.1 9 k)) 10 91 0 (Ls_10 hL) (by decide)) ⟨rfl, rfl⟩ ⟨Or.inl km_X8_70, kc_J7_fill_53178, kn_J7, kd_J7_fill_53178, ⟨(Nat.le_of_ble_eq_true rfl), (Nat.le_of_ble_eq_true rfl)⟩, ⟨(Nat.le_of_ble_eq_true rfl), (Nat.le_of_ble_eq_true rfl)⟩, (Nat.le_of_ble_eq_true rfl)⟩ ki_J7_fill_53178 rfl rfl (am_tab tk_X8_clear 39 rfl) rfl ?_
  refine am_aload_n (q := 73) rfl (am_tab tk_X8_clear 40 rfl) rfl ?_
  refine am_getR (q := 76) (a := 3) (k := 8) (n := 17) (j := 15) (r := some (11)) (Ls_3 hL) (by decide) rfl (Lr_3_15 hL) (by decide) (Or.inl kf_X8_38) (am_tab tk_X8_clear 41 rfl) rfl ?_
  refine am_iconst (q := 77) (n := 0) (by decide) (am_tab tk_X8_clear 42 rfl) rfl ?_
  refine am_putI (q := 80) (k := 5) (n := 2) (j := 1) (Ls_11 hL) (by decide) rfl (by decide) (Or.inr (Or.inl ⟨kf_X8_76, rfl⟩)) (am_tab tk_X8_clear 43 rfl) rfl ?_
  refine am_aload_n (q := 81) rfl (am_tab tk_X8_clear 44 rfl) rfl ?_
  refine am_getR (q := 84) (a := 3) (k := 8) (n := 17) (j := 16) (r := some (13)) (Ls_3 hL) (by decide) rfl (Lr_3_16 hL) (by decide) (Or.inl kf_X8_42) (am_tab tk_X8_clear 45 rfl) rfl ?_
  refine am_iconst (q := 85) (n := 0) (by decide) (am_tab tk_X8_clear 46 rfl) rfl ?_
  refine am_putI (q := 88) (k := 5) (n := 2) (j := 1) (Ls_13 hL) (by decide) rfl (by decide) (Or.inr (Or.inl ⟨kf_X8_76, rfl⟩)) (am_tab tk_X8_clear 47 rfl) rfl ?_
  refine am_vret rfl (Nat.le_of_ble_eq_true rfl) (Nat.le_of_ble_eq_true rfl) (am_tab tk_X8_clear 48 rfl) ?_
  refine hQ _ _ ?_
  refine ⟨rfl, am_Hext rfl (fun a j => ?_) (fun _ _ => rfl)⟩
  show (if a = 13 ∧ j = 1 then 0 else if a = 11 ∧ j = 1 then 0 else if a = 10 then (if j < 91 then 0 else σ.2.1 10 j) else if a = 9 then (if j < 91 then 0 else σ.2.1 9 j) else if a = 8 then (if j < 8 then 0 else σ.2.1 8 j) else if a = 7 then (if j < 8 then 0 else σ.2.1 7 j) else if a = 3 ∧ j = 7 then 0 else if a = 3 ∧ j = 6 then 0 else if a = 3 ∧ j = 5 then 0 else if a = 3 ∧ j = 4 then 0 else if a = 3 ∧ j = 3 then 0 else if a = 3 ∧ j = 2 then 0 else if a = 3 ∧ j = 1 then 0 else if a = 3 ∧ j = 0 then 0 else σ.2.1 a j) = (if a = 3 ∧ j < 8 then 0 else if (a = 7 ∨ a = 8) ∧ j < 8 then 0 else if (a = 9 ∨ a = 10) ∧ j < 91 then 0 else if (a = 11 ∨ a = 13) ∧ j = 1 then 0 else σ.2.1 a j)
  by_cases g1 : a = 3
  · subst g1
    by_cases h8 : j < 8
    · rw [if_pos (⟨rfl, h8⟩ : 3 = 3 ∧ j < 8)]
      rcases (show j = 0 ∨ j = 1 ∨ j = 2 ∨ j = 3 ∨ j = 4 ∨ j = 5 ∨ j = 6 ∨ j = 7 by omega) with rfl | rfl | rfl | rfl | rfl | rfl | rfl | rfl <;> rfl
    · simp [h8]; omega
  · by_cases g4 : a = 7
    · subst g4; by_cases h8 : j < 8 <;> simp [h8]
    · by_cases g5 : a = 8
      · subst g5; by_cases h8 : j < 8 <;> simp [h8]
      · by_cases g6 : a = 9
        · subst g6; by_cases h8 : j < 91 <;> simp [h8]
        · by_cases g7 : a = 10
          · subst g7; by_cases h8 : j < 91 <;> simp [h8]
          · by_cases g8 : a = 11
            · subst g8; by_cases h8 : j = 1 <;> simp [h8]
            · by_cases g9 : a = 13
              · subst g9; by_cases h8 : j = 1 <;> simp [h8]
              · simp [g1, g4, g5, g6, g7, g8, g9]
set_option maxRecDepth 100000 in
theorem c_clear_15 (σ : am_H) (hL : lay σ)   : am_met M_X8_clear [am_r 15] σ (fun r σ' => r = none ∧ σ' = clH 15 σ) := by
  refine am_qq (fun Q hQ => ?_)
  refine am_enter (show plainFor yX8_clear = true by decide +kernel) rfl (Nat.le_of_ble_eq_true rfl) (fun _ _ _ => trivial) ?_
  refine am_aload_n (q := 1) rfl (am_tab tk_X8_clear 0 rfl) rfl ?_
  refine am_iconst (q := 2) (n := 0) (by decide) (am_tab tk_X8_clear 1 rfl) rfl ?_
  refine am_putI (q := 5) (k := 8) (n := 17) (j := 0) (Ls_15 hL) (by decide) rfl (by decide) (Or.inl ⟨kf_X8_45, rfl⟩) (am_tab tk_X8_clear 2 rfl) rfl ?_
  refine am_aload_n (q := 6) rfl (am_tab tk_X8_clear 3 rfl) rfl ?_
  refine am_iconst (q := 7) (n := 0) (by decide) (am_tab tk_X8_clear 4 rfl) rfl ?_
  refine am_putI (q := 10) (k := 8) (n := 17) (j := 1) (Ls_15 hL) (by decide) rfl (by decide) (Or.inl ⟨kf_X8_49, rfl⟩) (am_tab tk_X8_clear 5 rfl) rfl ?_
  refine am_aload_n (q := 11) rfl (am_tab tk_X8_clear 6 rfl) rfl ?_
  refine am_iconst (q := 12) (n := 0) (by decide) (am_tab tk_X8_clear 7 rfl) rfl ?_
  refine am_putI (q := 15) (k := 8) (n := 17) (j := 2) (Ls_15 hL) (by decide) rfl (by decide) (Or.inl ⟨kf_X8_52, rfl⟩) (am_tab tk_X8_clear 8 rfl) rfl ?_
  refine am_aload_n (q := 16) rfl (am_tab tk_X8_clear 9 rfl) rfl ?_
  refine am_iconst (q := 17) (n := 0) (by decide) (am_tab tk_X8_clear 10 rfl) rfl ?_
  refine am_putI (q := 20) (k := 8) (n := 17) (j := 3) (Ls_15 hL) (by decide) rfl (by decide) (Or.inl ⟨kf_X8_55, rfl⟩) (am_tab tk_X8_clear 11 rfl) rfl ?_
  refine am_aload_n (q := 21) rfl (am_tab tk_X8_clear 12 rfl) rfl ?_
  refine am_iconst (q := 22) (n := 0) (by decide) (am_tab tk_X8_clear 13 rfl) rfl ?_
  refine am_putI (q := 25) (k := 8) (n := 17) (j := 4) (Ls_15 hL) (by decide) rfl (by decide) (Or.inl ⟨kf_X8_58, rfl⟩) (am_tab tk_X8_clear 14 rfl) rfl ?_
  refine am_aload_n (q := 26) rfl (am_tab tk_X8_clear 15 rfl) rfl ?_
  refine am_iconst (q := 27) (n := 0) (by decide) (am_tab tk_X8_clear 16 rfl) rfl ?_
  refine am_putI (q := 30) (k := 8) (n := 17) (j := 5) (Ls_15 hL) (by decide) rfl (by decide) (Or.inl ⟨kf_X8_61, rfl⟩) (am_tab tk_X8_clear 17 rfl) rfl ?_
  refine am_aload_n (q := 31) rfl (am_tab tk_X8_clear 18 rfl) rfl ?_
  refine am_iconst (q := 32) (n := 0) (by decide) (am_tab tk_X8_clear 19 rfl) rfl ?_
  refine am_putI (q := 35) (k := 8) (n := 17) (j := 6) (Ls_15 hL) (by decide) rfl (by decide) (Or.inl ⟨kf_X8_64, rfl⟩) (am_tab tk_X8_clear 20 rfl) rfl ?_
  refine am_aload_n (q := 36) rfl (am_tab tk_X8_clear 21 rfl) rfl ?_
  refine am_iconst (q := 37) (n := 0) (by decide) (am_tab tk_X8_clear 22 rfl) rfl ?_
  refine am_putI (q := 40) (k := 8) (n := 17) (j := 7) (Ls_15 hL) (by decide) rfl (by decide) (Or.inl ⟨kf_X8_67, rfl⟩) (am_tab tk_X8_clear 23 rfl) rfl ?_
  refine am_aload_n (q := 41) rfl (am_tab tk_X8_clear 24 rfl) rfl ?_
  refine am_getR (q := 44) (a := 15) (k := 8) (n := 17) (j := 11) (r := some (19)) (Ls_15 hL) (by decide) rfl (Lr_15_11 hL) (by decide) (Or.inl kf_X8_21) (am_tab tk_X8_clear 25 rfl) rfl ?_
  refine am_iconst (q := 45) (n := 0) (by decide) (am_tab tk_X8_clear 26 rfl) rfl ?_
  refine am_callS0 (q := 48) (me2 := M_J7_fill_53178) (As := [am_r 19, am_i 0]) (rest := []) (out := []) (c_fill (am_setN (am_setN (am_setN (am_setN (am_setN (am_setN (am_setN (am_setN σ 15 0 0) 15 1 0) 15 2 0) 15 3 0) 15 4 0) 15 5 0) 15 6 0) 15 7 0) 19 8 0 (Ls_19 hL) (by decide)) ⟨rfl, rfl⟩ ⟨Or.inl km_X8_70, kc_J7_fill_53178, kn_J7, kd_J7_fill_53178, ⟨(Nat.le_of_ble_eq_true rfl), (Nat.le_of_ble_eq_true rfl)⟩, ⟨(Nat.le_of_ble_eq_true rfl), (Nat.le_of_ble_eq_true rfl)⟩, (Nat.le_of_ble_eq_true rfl)⟩ ki_J7_fill_53178 rfl rfl (am_tab tk_X8_clear 27 rfl) rfl ?_
  refine am_aload_n (q := 49) rfl (am_tab tk_X8_clear 28 rfl) rfl ?_
  refine am_getR (q := 52) (a := 15) (k := 8) (n := 17) (j := 12) (r := some (20)) (Ls_15 hL) (by decide) rfl (Lr_15_12 hL) (by decide) (Or.inl kf_X8_24) (am_tab tk_X8_clear 29 rfl) rfl ?_
  refine am_iconst (q := 53) (n := 0) (by decide) (am_tab tk_X8_clear 30 rfl) rfl ?_
  refine am_callS0 (q := 56) (me2 := M_J7_fill_53178) (As := [am_r 20, am_i 0]) (rest := []) (out := []) (c_fill (am_setA (am_setN (am_setN (am_setN (am_setN (am_setN (am_setN (am_setN (am_setN σ 15 0 0) 15 1 0) 15 2 0) 15 3 0) 15 4 0) 15 5 0) 15 6 0) 15 7 0) 19 (fun k => if k < 8 then 0 else (am_setN (am_setN (am_setN (am_setN (am_setN (am_setN (am_setN (am_setN σ 15 0 0) 15 1 0) 15 2 0) 15 3 0) 15 4 0) 15 5 0) 15 6 0) 15 7 0).2.1 19 k)) 20 8 0 (Ls_20 hL) (by decide)) ⟨rfl, rfl⟩ ⟨Or.inl km_X8_70, kc_J7_fill_53178, kn_J7, kd_J7_fill_53178, ⟨(Nat.le_of_ble_eq_true rfl), (Nat.le_of_ble_eq_true rfl)⟩, ⟨(Nat.le_of_ble_eq_true rfl), (Nat.le_of_ble_eq_true rfl)⟩, (Nat.le_of_ble_eq_true rfl)⟩ ki_J7_fill_53178 rfl rfl (am_tab tk_X8_clear 31 rfl) rfl ?_
  refine am_aload_n (q := 57) rfl (am_tab tk_X8_clear 32 rfl) rfl ?_
  refine am_getR (q := 60) (a := 15) (k := 8) (n := 17) (j := 13) (r := some (21)) (Ls_15 hL) (by decide) rfl (Lr_15_13 hL) (by decide) (Or.inl kf_X8_27) (am_tab tk_X8_clear 33 rfl) rfl ?_
  refine am_iconst (q := 61) (n := 0) (by decide) (am_tab tk_X8_clear 34 rfl) rfl ?_
  refine am_callS0 (q := 64) (me2 := M_J7_fill_53178) (As := [am_r 21, am_i 0]) (rest := []) (out := []) (c_fill (am_setA (am_setA (am_setN (am_setN (am_setN (am_setN (am_setN (am_setN (am_setN (am_setN σ 15 0 0) 15 1 0) 15 2 0) 15 3 0) 15 4 0) 15 5 0) 15 6 0) 15 7 0) 19 (fun k => if k < 8 then 0 else (am_setN (am_setN (am_setN (am_setN (am_setN (am_setN (am_setN (am_setN σ 15 0 0) 15 1 0) 15 2 0) 15 3 0) 15 4 0) 15 5 0) 15 6 0) 15 7 0).2.1 19 k)) 20 (fun k => if k < 8 then 0 else (am_setA (am_setN (am_setN (am_setN (am_setN (am_setN (am_setN (am_setN (am_setN σ 15 0 0) 15 1 0) 15 2 0) 15 3 0) 15 4 0) 15 5 0) 15 6 0) 15 7 0) 19 (fun k => if k < 8 then 0 else (am_setN (am_setN (am_setN (am_setN (am_setN (am_setN (am_setN (am_setN σ 15 0 0) 15 1 0) 15 2 0) 15 3 0) 15 4 0) 15 5 0) 15 6 0) 15 7 0).2.1 19 k)).2.1 20 k)) 21 91 0 (Ls_21 hL) (by decide)) ⟨rfl, rfl⟩ ⟨Or.inl km_X8_70, kc_J7_fill_53178, kn_J7, kd_J7_fill_53178, ⟨(Nat.le_of_ble_eq_true rfl), (Nat.le_of_ble_eq_true rfl)⟩, ⟨(Nat.le_of_ble_eq_true rfl), (Nat.le_of_ble_eq_true rfl)⟩, (Nat.le_of_ble_eq_true rfl)⟩ ki_J7_fill_53178 rfl rfl (am_tab tk_X8_clear 35 rfl) rfl ?_
  refine am_aload_n (q := 65) rfl (am_tab tk_X8_clear 36 rfl) rfl ?_
  refine am_getR (q := 68) (a := 15) (k := 8) (n := 17) (j := 14) (r := some (22)) (Ls_15 hL) (by decide) rfl (Lr_15_14 hL) (by decide) (Or.inl kf_X8_30) (am_tab tk_X8_clear 37 rfl) rfl ?_
  refine am_iconst (q := 69) (n := 0) (by decide) (am_tab tk_X8_clear 38 rfl) rfl ?_
  refine am_callS0 (q := 72) (me2 := M_J7_fill_53178) (As := [am_r 22, am_i 0]) (rest := []) (out := []) (c_fill (am_setA (am_setA (am_setA (am_setN (am_setN (am_setN (am_setN (am_setN (am_setN (am_setN (am_setN σ 15 0 0) 15 1 0) 15 2 0) 15 3 0) 15 4 0) 15 5 0) 15 6 0) 15 7 0) 19 (fun k => if k < 8 then 0 else (am_setN (am_setN (am_setN (am_setN (am_setN (am_setN (am_setN (am_setN σ 15 0 0) 15 1 0) 15 2 0) 15 3 0) 15 4 0) 15 5 0) 15 6 0) 15 7 0).2.1 19 k)) 20 (fun k => if k < 8 then 0 else (am_setA (am_setN (am_setN (am_setN (am_setN (am_setN (am_setN (am_setN (am_setN σ 15 0 0) 15 1 0) 15 2 0) 15 3 0) 15 4 0) 15 5 0) 15 6 0) 15 7 0) 19 (fun k => if k < 8 then 0 else (am_setN (am_setN (am_setN (am_setN (am_setN (am_setN (am_setN (am_setN σ 15 0 0) 15 1 0) 15 2 0) 15 3 0) 15 4 0) 15 5 0) 15 6 0) 15 7 0).2.1 19 k)).2.1 20 k)) 21 (fun k => if k < 91 then 0 else (am_setA (am_setA (am_setN (am_setN (am_setN (am_setN (am_setN (am_setN (am_setN (am_setN σ 15 0 0) 15 1 0) 15 2 0) 15 3 0) 15 4 0) 15 5 0) 15 6 0) 15 7 0) 19 (fun k => if k < 8 then 0 else (am_setN (am_setN (am_setN (am_setN (am_setN (am_setN (am_setN (am_setN σ 15 0 0) 15 1 0) 15 2 0) 15 3 0) 15 4 0) 15 5 0) 15 6 0) 15 7 0).2.1 19 k)) 20 (fun k => if k < 8 then 0 else (am_setA (am_setN (am_setN (am_setN (am_setN (am_setN (am_setN (am_setN (am_setN σ 15 0 0) 15 1 0) 15 2 0) 15 3 0) 15 4 0) 15 5 0) 15 6 0) 15 7 0) 19 (fun k => if k < 8 then 0 else (am_setN (am_setN (am_setN (am_setN (am_setN (am_setN (am_setN (am_setN σ 15 0 0) 15 1 0) 15 2 0) 15 3 0) 15 4 0) 15 5 0) 15 6 0) 15 7 0).2.1 19 k)).2.1 20 k)).2.1 21 k)) 22 91 0 (Ls_22 hL) (by decide)) ⟨rfl, rfl⟩ ⟨Or.inl km_X8_70, kc_J7_fill_53178, kn_J7, kd_J7_fill_53178, ⟨(Nat.le_of_ble_eq_true rfl), (Nat.le_of_ble_eq_true rfl)⟩, ⟨(Nat.le_of_ble_eq_true rfl), (Nat.le_of_ble_eq_true rfl)⟩, (Nat.le_of_ble_eq_true rfl)⟩ ki_J7_fill_53178 rfl rfl (am_tab tk_X8_clear 39 rfl) rfl ?_
  refine am_aload_n (q := 73) rfl (am_tab tk_X8_clear 40 rfl) rfl ?_
  refine am_getR (q := 76) (a := 15) (k := 8) (n := 17) (j := 15) (r := some (23)) (Ls_15 hL) (by decide) rfl (Lr_15_15 hL) (by decide) (Or.inl kf_X8_38) (am_tab tk_X8_clear 41 rfl) rfl ?_
  refine am_iconst (q := 77) (n := 0) (by decide) (am_tab tk_X8_clear 42 rfl) rfl ?_
  refine am_putI (q := 80) (k := 5) (n := 2) (j := 1) (Ls_23 hL) (by decide) rfl (by decide) (Or.inr (Or.inl ⟨kf_X8_76, rfl⟩)) (am_tab tk_X8_clear 43 rfl) rfl ?_
  refine am_aload_n (q := 81) rfl (am_tab tk_X8_clear 44 rfl) rfl ?_
  refine am_getR (q := 84) (a := 15) (k := 8) (n := 17) (j := 16) (r := some (25)) (Ls_15 hL) (by decide) rfl (Lr_15_16 hL) (by decide) (Or.inl kf_X8_42) (am_tab tk_X8_clear 45 rfl) rfl ?_
  refine am_iconst (q := 85) (n := 0) (by decide) (am_tab tk_X8_clear 46 rfl) rfl ?_
  refine am_putI (q := 88) (k := 5) (n := 2) (j := 1) (Ls_25 hL) (by decide) rfl (by decide) (Or.inr (Or.inl ⟨kf_X8_76, rfl⟩)) (am_tab tk_X8_clear 47 rfl) rfl ?_
  refine am_vret rfl (Nat.le_of_ble_eq_true rfl) (Nat.le_of_ble_eq_true rfl) (am_tab tk_X8_clear 48 rfl) ?_
  refine hQ _ _ ?_
  refine ⟨rfl, am_Hext rfl (fun a j => ?_) (fun _ _ => rfl)⟩
  show (if a = 25 ∧ j = 1 then 0 else if a = 23 ∧ j = 1 then 0 else if a = 22 then (if j < 91 then 0 else σ.2.1 22 j) else if a = 21 then (if j < 91 then 0 else σ.2.1 21 j) else if a = 20 then (if j < 8 then 0 else σ.2.1 20 j) else if a = 19 then (if j < 8 then 0 else σ.2.1 19 j) else if a = 15 ∧ j = 7 then 0 else if a = 15 ∧ j = 6 then 0 else if a = 15 ∧ j = 5 then 0 else if a = 15 ∧ j = 4 then 0 else if a = 15 ∧ j = 3 then 0 else if a = 15 ∧ j = 2 then 0 else if a = 15 ∧ j = 1 then 0 else if a = 15 ∧ j = 0 then 0 else σ.2.1 a j) = (if a = 15 ∧ j < 8 then 0 else if (a = 19 ∨ a = 20) ∧ j < 8 then 0 else if (a = 21 ∨ a = 22) ∧ j < 91 then 0 else if (a = 23 ∨ a = 25) ∧ j = 1 then 0 else σ.2.1 a j)
  by_cases g1 : a = 15
  · subst g1
    by_cases h8 : j < 8
    · rw [if_pos (⟨rfl, h8⟩ : 15 = 15 ∧ j < 8)]
      rcases (show j = 0 ∨ j = 1 ∨ j = 2 ∨ j = 3 ∨ j = 4 ∨ j = 5 ∨ j = 6 ∨ j = 7 by omega) with rfl | rfl | rfl | rfl | rfl | rfl | rfl | rfl <;> rfl
    · simp [h8]; omega
  · by_cases g4 : a = 19
    · subst g4; by_cases h8 : j < 8 <;> simp [h8]
    · by_cases g5 : a = 20
      · subst g5; by_cases h8 : j < 8 <;> simp [h8]
      · by_cases g6 : a = 21
        · subst g6; by_cases h8 : j < 91 <;> simp [h8]
        · by_cases g7 : a = 22
          · subst g7; by_cases h8 : j < 91 <;> simp [h8]
          · by_cases g8 : a = 23
            · subst g8; by_cases h8 : j = 1 <;> simp [h8]
            · by_cases g9 : a = 25
              · subst g9; by_cases h8 : j = 1 <;> simp [h8]
              · simp [g1, g4, g5, g6, g7, g8, g9]
