theorem c_townFull_3 (σ : am_H) (hL : lay σ) (s : Int)  : am_met M_X8_isFull [am_r 3, am_i s] σ (fun r σ' => r = some (am_i (if (s = 129 ∧ 8 ≤ σ.2.1 3 2) ∨ (s = 132 ∧ 30 ≤ σ.2.1 3 3) ∨ (s = 134 ∧ 20 ≤ σ.2.1 3 4) ∨ (s = 135 ∧ 4 ≤ σ.2.1 3 5) ∨ (s = 137 ∧ 0 < σ.2.1 11 1) ∨ (s = 138 ∧ 0 < σ.2.1 13 1) then 1 else 0)) ∧ σ' = σ) := by
  refine am_qq (fun Q hQ => ?_)
  refine am_enter (show plainFor yX8_isFull = true by decide +kernel) rfl (Nat.le_of_ble_eq_true rfl) (fun _ _ _ => trivial) ?_
  refine am_iload_n (q := 1) rfl (am_tab tk_X8_isFull 0 rfl) rfl ?_
  rcases (show s = 129 ∨ s = 130 ∨ s = 131 ∨ s = 132 ∨ s = 133 ∨ s = 134 ∨ s = 135 ∨ s = 136 ∨ s = 137 ∨ s = 138 ∨ (s < 129 ∨ 138 < s) by omega) with e1 | e1 | e1 | e1 | e1 | e1 | e1 | e1 | e1 | e1 | e1
  · refine am_tableIn (t := 56) (off := 55) (by omega) (by omega) (by rw [e1]; rfl) dsw_X8_isFull_1 (by decide) ?_
    refine am_aload_n (q := 57) rfl (am_tab tk_X8_isFull 2 rfl) rfl ?_
    refine am_getI (q := 60) (a := 3) (k := 8) (n := 17) (j := 2) (x := (σ.2.1 3 2)) (Ls_3 hL) (by decide) rfl rfl (by decide) (Or.inl kf_X8_52) (am_tab tk_X8_isFull 3 rfl) rfl ?_
    refine am_bipush (q := 62) (n := 8) (by decide) rfl (am_tab tk_X8_isFull 4 rfl) rfl ?_
    refine am_icmp_lt (q := 65) (t := 69) (am_tab tk_X8_isFull 5 rfl) (by decide) rfl (fun h62 => ?_) (fun h62 => ?_)
    · refine am_iconst (q := 70) (n := 0) (by decide) (am_tab tk_X8_isFull 8 rfl) rfl ?_
      refine am_iret (Or.inr ⟨rfl, by first | exact Or.inl rfl | exact Or.inr rfl | omega⟩) (Nat.le_of_ble_eq_true rfl) (Nat.le_of_ble_eq_true rfl) (am_tab tk_X8_isFull 9 rfl) ?_
      refine hQ _ _ ?_
      refine ⟨congrArg (fun z => some (am_i z)) ?_, rfl⟩
      first | rw [if_pos (by omega)] | rw [if_neg (by omega)]
    · refine am_iconst (q := 66) (n := 1) (by decide) (am_tab tk_X8_isFull 6 rfl) rfl ?_
      refine am_goto (t := 70) (am_tab tk_X8_isFull 7 rfl) (by decide) ?_
      refine am_iret (Or.inr ⟨rfl, by first | exact Or.inl rfl | exact Or.inr rfl | omega⟩) (Nat.le_of_ble_eq_true rfl) (Nat.le_of_ble_eq_true rfl) (am_tab tk_X8_isFull 9 rfl) ?_
      refine hQ _ _ ?_
      refine ⟨congrArg (fun z => some (am_i z)) ?_, rfl⟩
      first | rw [if_pos (by omega)] | rw [if_neg (by omega)]
  · refine am_tableIn (t := 147) (off := 146) (by omega) (by omega) (by rw [e1]; rfl) dsw_X8_isFull_1 (by decide) ?_
    refine am_iconst (q := 148) (n := 0) (by decide) (am_tab tk_X8_isFull 50 rfl) rfl ?_
    refine am_iret (Or.inr ⟨rfl, by first | exact Or.inl rfl | exact Or.inr rfl | omega⟩) (Nat.le_of_ble_eq_true rfl) (Nat.le_of_ble_eq_true rfl) (am_tab tk_X8_isFull 51 rfl) ?_
    refine hQ _ _ ?_
    refine ⟨congrArg (fun z => some (am_i z)) ?_, rfl⟩
    first | rw [if_pos (by omega)] | rw [if_neg (by omega)]
  · refine am_tableIn (t := 147) (off := 146) (by omega) (by omega) (by rw [e1]; rfl) dsw_X8_isFull_1 (by decide) ?_
    refine am_iconst (q := 148) (n := 0) (by decide) (am_tab tk_X8_isFull 50 rfl) rfl ?_
    refine am_iret (Or.inr ⟨rfl, by first | exact Or.inl rfl | exact Or.inr rfl | omega⟩) (Nat.le_of_ble_eq_true rfl) (Nat.le_of_ble_eq_true rfl) (am_tab tk_X8_isFull 51 rfl) ?_
    refine hQ _ _ ?_
    refine ⟨congrArg (fun z => some (am_i z)) ?_, rfl⟩
    first | rw [if_pos (by omega)] | rw [if_neg (by omega)]
  · refine am_tableIn (t := 71) (off := 70) (by omega) (by omega) (by rw [e1]; rfl) dsw_X8_isFull_1 (by decide) ?_
    refine am_aload_n (q := 72) rfl (am_tab tk_X8_isFull 10 rfl) rfl ?_
    refine am_getI (q := 75) (a := 3) (k := 8) (n := 17) (j := 3) (x := (σ.2.1 3 3)) (Ls_3 hL) (by decide) rfl rfl (by decide) (Or.inl kf_X8_55) (am_tab tk_X8_isFull 11 rfl) rfl ?_
    refine am_bipush (q := 77) (n := 30) (by decide) rfl (am_tab tk_X8_isFull 12 rfl) rfl ?_
    refine am_icmp_lt (q := 80) (t := 84) (am_tab tk_X8_isFull 13 rfl) (by decide) rfl (fun h77 => ?_) (fun h77 => ?_)
    · refine am_iconst (q := 85) (n := 0) (by decide) (am_tab tk_X8_isFull 16 rfl) rfl ?_
      refine am_iret (Or.inr ⟨rfl, by first | exact Or.inl rfl | exact Or.inr rfl | omega⟩) (Nat.le_of_ble_eq_true rfl) (Nat.le_of_ble_eq_true rfl) (am_tab tk_X8_isFull 17 rfl) ?_
      refine hQ _ _ ?_
      refine ⟨congrArg (fun z => some (am_i z)) ?_, rfl⟩
      first | rw [if_pos (by omega)] | rw [if_neg (by omega)]
    · refine am_iconst (q := 81) (n := 1) (by decide) (am_tab tk_X8_isFull 14 rfl) rfl ?_
      refine am_goto (t := 85) (am_tab tk_X8_isFull 15 rfl) (by decide) ?_
      refine am_iret (Or.inr ⟨rfl, by first | exact Or.inl rfl | exact Or.inr rfl | omega⟩) (Nat.le_of_ble_eq_true rfl) (Nat.le_of_ble_eq_true rfl) (am_tab tk_X8_isFull 17 rfl) ?_
      refine hQ _ _ ?_
      refine ⟨congrArg (fun z => some (am_i z)) ?_, rfl⟩
      first | rw [if_pos (by omega)] | rw [if_neg (by omega)]
  · refine am_tableIn (t := 147) (off := 146) (by omega) (by omega) (by rw [e1]; rfl) dsw_X8_isFull_1 (by decide) ?_
    refine am_iconst (q := 148) (n := 0) (by decide) (am_tab tk_X8_isFull 50 rfl) rfl ?_
    refine am_iret (Or.inr ⟨rfl, by first | exact Or.inl rfl | exact Or.inr rfl | omega⟩) (Nat.le_of_ble_eq_true rfl) (Nat.le_of_ble_eq_true rfl) (am_tab tk_X8_isFull 51 rfl) ?_
    refine hQ _ _ ?_
    refine ⟨congrArg (fun z => some (am_i z)) ?_, rfl⟩
    first | rw [if_pos (by omega)] | rw [if_neg (by omega)]
  · refine am_tableIn (t := 86) (off := 85) (by omega) (by omega) (by rw [e1]; rfl) dsw_X8_isFull_1 (by decide) ?_
    refine am_aload_n (q := 87) rfl (am_tab tk_X8_isFull 18 rfl) rfl ?_
    refine am_getI (q := 90) (a := 3) (k := 8) (n := 17) (j := 4) (x := (σ.2.1 3 4)) (Ls_3 hL) (by decide) rfl rfl (by decide) (Or.inl kf_X8_58) (am_tab tk_X8_isFull 19 rfl) rfl ?_
    refine am_bipush (q := 92) (n := 20) (by decide) rfl (am_tab tk_X8_isFull 20 rfl) rfl ?_
    refine am_icmp_lt (q := 95) (t := 99) (am_tab tk_X8_isFull 21 rfl) (by decide) rfl (fun h92 => ?_) (fun h92 => ?_)
    · refine am_iconst (q := 100) (n := 0) (by decide) (am_tab tk_X8_isFull 24 rfl) rfl ?_
      refine am_iret (Or.inr ⟨rfl, by first | exact Or.inl rfl | exact Or.inr rfl | omega⟩) (Nat.le_of_ble_eq_true rfl) (Nat.le_of_ble_eq_true rfl) (am_tab tk_X8_isFull 25 rfl) ?_
      refine hQ _ _ ?_
      refine ⟨congrArg (fun z => some (am_i z)) ?_, rfl⟩
      first | rw [if_pos (by omega)] | rw [if_neg (by omega)]
    · refine am_iconst (q := 96) (n := 1) (by decide) (am_tab tk_X8_isFull 22 rfl) rfl ?_
      refine am_goto (t := 100) (am_tab tk_X8_isFull 23 rfl) (by decide) ?_
      refine am_iret (Or.inr ⟨rfl, by first | exact Or.inl rfl | exact Or.inr rfl | omega⟩) (Nat.le_of_ble_eq_true rfl) (Nat.le_of_ble_eq_true rfl) (am_tab tk_X8_isFull 25 rfl) ?_
      refine hQ _ _ ?_
      refine ⟨congrArg (fun z => some (am_i z)) ?_, rfl⟩
      first | rw [if_pos (by omega)] | rw [if_neg (by omega)]
  · refine am_tableIn (t := 101) (off := 100) (by omega) (by omega) (by rw [e1]; rfl) dsw_X8_isFull_1 (by decide) ?_
    refine am_aload_n (q := 102) rfl (am_tab tk_X8_isFull 26 rfl) rfl ?_
    refine am_getI (q := 105) (a := 3) (k := 8) (n := 17) (j := 5) (x := (σ.2.1 3 5)) (Ls_3 hL) (by decide) rfl rfl (by decide) (Or.inl kf_X8_61) (am_tab tk_X8_isFull 27 rfl) rfl ?_
    refine am_iconst (q := 106) (n := 4) (by decide) (am_tab tk_X8_isFull 28 rfl) rfl ?_
    refine am_icmp_lt (q := 109) (t := 113) (am_tab tk_X8_isFull 29 rfl) (by decide) rfl (fun h106 => ?_) (fun h106 => ?_)
    · refine am_iconst (q := 114) (n := 0) (by decide) (am_tab tk_X8_isFull 32 rfl) rfl ?_
      refine am_iret (Or.inr ⟨rfl, by first | exact Or.inl rfl | exact Or.inr rfl | omega⟩) (Nat.le_of_ble_eq_true rfl) (Nat.le_of_ble_eq_true rfl) (am_tab tk_X8_isFull 33 rfl) ?_
      refine hQ _ _ ?_
      refine ⟨congrArg (fun z => some (am_i z)) ?_, rfl⟩
      first | rw [if_pos (by omega)] | rw [if_neg (by omega)]
    · refine am_iconst (q := 110) (n := 1) (by decide) (am_tab tk_X8_isFull 30 rfl) rfl ?_
      refine am_goto (t := 114) (am_tab tk_X8_isFull 31 rfl) (by decide) ?_
      refine am_iret (Or.inr ⟨rfl, by first | exact Or.inl rfl | exact Or.inr rfl | omega⟩) (Nat.le_of_ble_eq_true rfl) (Nat.le_of_ble_eq_true rfl) (am_tab tk_X8_isFull 33 rfl) ?_
      refine hQ _ _ ?_
      refine ⟨congrArg (fun z => some (am_i z)) ?_, rfl⟩
      first | rw [if_pos (by omega)] | rw [if_neg (by omega)]
  · refine am_tableIn (t := 147) (off := 146) (by omega) (by omega) (by rw [e1]; rfl) dsw_X8_isFull_1 (by decide) ?_
    refine am_iconst (q := 148) (n := 0) (by decide) (am_tab tk_X8_isFull 50 rfl) rfl ?_
    refine am_iret (Or.inr ⟨rfl, by first | exact Or.inl rfl | exact Or.inr rfl | omega⟩) (Nat.le_of_ble_eq_true rfl) (Nat.le_of_ble_eq_true rfl) (am_tab tk_X8_isFull 51 rfl) ?_
    refine hQ _ _ ?_
    refine ⟨congrArg (fun z => some (am_i z)) ?_, rfl⟩
    first | rw [if_pos (by omega)] | rw [if_neg (by omega)]
  · refine am_tableIn (t := 115) (off := 114) (by omega) (by omega) (by rw [e1]; rfl) dsw_X8_isFull_1 (by decide) ?_
    refine am_aload_n (q := 116) rfl (am_tab tk_X8_isFull 34 rfl) rfl ?_
    refine am_getR (q := 119) (a := 3) (k := 8) (n := 17) (j := 15) (r := some (11)) (Ls_3 hL) (by decide) rfl (Lr_3_15 hL) (by decide) (Or.inl kf_X8_38) (am_tab tk_X8_isFull 35 rfl) rfl ?_
    refine am_getI (q := 122) (a := 11) (k := 5) (n := 2) (j := 1) (x := (σ.2.1 11 1)) (Ls_11 hL) (by decide) rfl rfl (by decide) (Or.inr kf_X8_76) (am_tab tk_X8_isFull 36 rfl) rfl ?_
    refine am_if_le (q := 125) (t := 129) (am_tab tk_X8_isFull 37 rfl) (by decide) rfl (fun h122 => ?_) (fun h122 => ?_)
    · refine am_iconst (q := 130) (n := 0) (by decide) (am_tab tk_X8_isFull 40 rfl) rfl ?_
      refine am_iret (Or.inr ⟨rfl, by first | exact Or.inl rfl | exact Or.inr rfl | omega⟩) (Nat.le_of_ble_eq_true rfl) (Nat.le_of_ble_eq_true rfl) (am_tab tk_X8_isFull 41 rfl) ?_
      refine hQ _ _ ?_
      refine ⟨congrArg (fun z => some (am_i z)) ?_, rfl⟩
      first | rw [if_pos (by omega)] | rw [if_neg (by omega)]
    · refine am_iconst (q := 126) (n := 1) (by decide) (am_tab tk_X8_isFull 38 rfl) rfl ?_
      refine am_goto (t := 130) (am_tab tk_X8_isFull 39 rfl) (by decide) ?_
      refine am_iret (Or.inr ⟨rfl, by first | exact Or.inl rfl | exact Or.inr rfl | omega⟩) (Nat.le_of_ble_eq_true rfl) (Nat.le_of_ble_eq_true rfl) (am_tab tk_X8_isFull 41 rfl) ?_
      refine hQ _ _ ?_
      refine ⟨congrArg (fun z => some (am_i z)) ?_, rfl⟩
      first | rw [if_pos (by omega)] | rw [if_neg (by omega)]
  · refine am_tableIn (t := 131) (off := 130) (by omega) (by omega) (by rw [e1]; rfl) dsw_X8_isFull_1 (by decide) ?_
    refine am_aload_n (q := 132) rfl (am_tab tk_X8_isFull 42 rfl) rfl ?_
    refine am_getR (q := 135) (a := 3) (k := 8) (n := 17) (j := 16) (r := some (13)) (Ls_3 hL) (by decide) rfl (Lr_3_16 hL) (by decide) (Or.inl kf_X8_42) (am_tab tk_X8_isFull 43 rfl) rfl ?_
    refine am_getI (q := 138) (a := 13) (k := 5) (n := 2) (j := 1) (x := (σ.2.1 13 1)) (Ls_13 hL) (by decide) rfl rfl (by decide) (Or.inr kf_X8_76) (am_tab tk_X8_isFull 44 rfl) rfl ?_
    refine am_if_le (q := 141) (t := 145) (am_tab tk_X8_isFull 45 rfl) (by decide) rfl (fun h138 => ?_) (fun h138 => ?_)
    · refine am_iconst (q := 146) (n := 0) (by decide) (am_tab tk_X8_isFull 48 rfl) rfl ?_
      refine am_iret (Or.inr ⟨rfl, by first | exact Or.inl rfl | exact Or.inr rfl | omega⟩) (Nat.le_of_ble_eq_true rfl) (Nat.le_of_ble_eq_true rfl) (am_tab tk_X8_isFull 49 rfl) ?_
      refine hQ _ _ ?_
      refine ⟨congrArg (fun z => some (am_i z)) ?_, rfl⟩
      first | rw [if_pos (by omega)] | rw [if_neg (by omega)]
    · refine am_iconst (q := 142) (n := 1) (by decide) (am_tab tk_X8_isFull 46 rfl) rfl ?_
      refine am_goto (t := 146) (am_tab tk_X8_isFull 47 rfl) (by decide) ?_
      refine am_iret (Or.inr ⟨rfl, by first | exact Or.inl rfl | exact Or.inr rfl | omega⟩) (Nat.le_of_ble_eq_true rfl) (Nat.le_of_ble_eq_true rfl) (am_tab tk_X8_isFull 49 rfl) ?_
      refine hQ _ _ ?_
      refine ⟨congrArg (fun z => some (am_i z)) ?_, rfl⟩
      first | rw [if_pos (by omega)] | rw [if_neg (by omega)]
  · refine am_tableOut (t := 147) e1 dsw_X8_isFull_1 (by decide) ?_
    refine am_iconst (q := 148) (n := 0) (by decide) (am_tab tk_X8_isFull 50 rfl) rfl ?_
    refine am_iret (Or.inr ⟨rfl, by first | exact Or.inl rfl | exact Or.inr rfl | omega⟩) (Nat.le_of_ble_eq_true rfl) (Nat.le_of_ble_eq_true rfl) (am_tab tk_X8_isFull 51 rfl) ?_
    refine hQ _ _ ?_
    refine ⟨congrArg (fun z => some (am_i z)) ?_, rfl⟩
    first | rw [if_pos (by omega)] | rw [if_neg (by omega)]
theorem c_addFrost_3 (σ : am_H) (hL : lay σ) (fr : Nat) (ln : Nat) (D : Int) (hD : σ.2.1 3 0 = D) (hr : 1 ≤ fr ∧ (fr : Int) ≤ D ∧ D ≤ 90 ∧ ln ≤ 30) (hc : 0 ≤ σ.2.1 3 5 ∧ σ.2.1 3 5 ≤ 1000) : am_met M_X8_addFrost [am_r 3, am_i ((fr : Int)), am_i ((ln : Int))] σ (fun r σ' => r = none ∧ σ'.2.1 3 5 = σ.2.1 3 5 + 1 ∧ (∀ j : Nat, σ'.2.1 10 j = if fr ≤ j ∧ j < fr + ln ∧ (j : Int) ≤ D then 1 else σ.2.1 10 j) ∧ frw (fun a j => a = 10 ∨ (a = 3 ∧ j = 5)) σ σ') := by
  refine am_qq (fun Q hQ => ?_)
  refine am_enter (show plainFor yX8_addFrost = true by decide +kernel) rfl (Nat.le_of_ble_eq_true rfl) (fun _ _ _ => trivial) ?_
  refine am_iload_n (q := 1) rfl (am_tab tk_X8_addFrost 0 rfl) rfl ?_
  refine am_istore_n (q := 2) (by decide) (ls2 := [(3, am_i ((fr : Int))), (0, am_r 3), (1, am_i ((fr : Int))), (2, am_i ((ln : Int)))]) rfl (am_tab tk_X8_addFrost 1 rfl) rfl ?_
  have L2 : ∀ (n2 : Nat) (k : Nat) (T : am_H), 31 - k < n2 → frw (fun a _ => a = 10) σ T → (k ≤ ln ∧ ((fr : Int) + (k : Int) ≤ D + 1)) → (∀ j : Nat, T.2.1 10 j = if fr ≤ j ∧ j < fr + k ∧ (j : Int) ≤ D then 1 else σ.2.1 10 j) → am_wp M_X8_addFrost Q 0 0 2 [(3, am_i (((fr : Int) + (k : Int)))), (0, am_r 3), (1, am_i ((fr : Int))), (2, am_i ((ln : Int)))] [] T := by
    intro n2
    induction n2 with
    | zero => intro k T hn2; exact absurd hn2 (Nat.not_lt_zero _)
    | succ n2 ih2 =>
      intro k T hn2 hF hk hfz
      refine am_iload_n (q := 3) rfl (am_tab tk_X8_addFrost 2 rfl) rfl ?_
      refine am_iload_n (q := 4) rfl (am_tab tk_X8_addFrost 3 rfl) rfl ?_
      refine am_iload_n (q := 5) rfl (am_tab tk_X8_addFrost 4 rfl) rfl ?_
      refine am_iadd (q := 6) (by omega) (am_tab tk_X8_addFrost 5 rfl) rfl ?_
      refine am_icmp_ge (q := 9) (t := 30) (am_tab tk_X8_addFrost 6 rfl) (by decide) rfl (fun h6 => ?_) (fun h6 => ?_)
      · refine am_aload_n (q := 31) rfl (am_tab tk_X8_addFrost 18 rfl) rfl ?_
        refine am_dup (q := 32) rfl (am_tab tk_X8_addFrost 19 rfl) rfl ?_
        refine am_getI (q := 35) (a := 3) (k := 8) (n := 17) (j := 5) (x := (σ.2.1 3 5)) (Ls_3 (hF.L hL)) (by decide) rfl (hF.2.2 3 5 (by omega)) (by decide) (Or.inl kf_X8_61) (am_tab tk_X8_addFrost 20 rfl) rfl ?_
        refine am_iconst (q := 36) (n := 1) (by decide) (am_tab tk_X8_addFrost 21 rfl) rfl ?_
        refine am_iadd (q := 37) (by omega) (am_tab tk_X8_addFrost 22 rfl) rfl ?_
        refine am_putI (q := 40) (k := 8) (n := 17) (j := 5) (Ls_3 (hF.L hL)) (by decide) rfl (by decide) (Or.inl ⟨kf_X8_61, rfl⟩) (am_tab tk_X8_addFrost 23 rfl) rfl ?_
        refine am_vret rfl (Nat.le_of_ble_eq_true rfl) (Nat.le_of_ble_eq_true rfl) (am_tab tk_X8_addFrost 24 rfl) ?_
        refine hQ _ _ ?_
        refine ⟨rfl, rfl, fun j => ?_, (hF.mono (fun _ _ h => Or.inl h)).setN (Or.inr ⟨rfl, rfl⟩)⟩
        refine (hfz j).trans ?_
        by_cases g2 : fr ≤ j ∧ j < fr + k ∧ (j : Int) ≤ D
        · rw [if_pos g2, if_pos (by omega)]
        · rw [if_neg g2, if_neg (by omega)]
      · refine am_iload_n (q := 10) rfl (am_tab tk_X8_addFrost 7 rfl) rfl ?_
        refine am_aload_n (q := 11) rfl (am_tab tk_X8_addFrost 8 rfl) rfl ?_
        refine am_getI (q := 14) (a := 3) (k := 8) (n := 17) (j := 0) (x := D) (Ls_3 (hF.L hL)) (by decide) rfl ((hF.2.2 3 0 (by omega)).trans hD) (by decide) (Or.inl kf_X8_45) (am_tab tk_X8_addFrost 9 rfl) rfl ?_
        refine am_icmp_gt (q := 17) (t := 30) (am_tab tk_X8_addFrost 10 rfl) (by decide) rfl (fun h14 => ?_) (fun h14 => ?_)
        · refine am_aload_n (q := 31) rfl (am_tab tk_X8_addFrost 18 rfl) rfl ?_
          refine am_dup (q := 32) rfl (am_tab tk_X8_addFrost 19 rfl) rfl ?_
          refine am_getI (q := 35) (a := 3) (k := 8) (n := 17) (j := 5) (x := (σ.2.1 3 5)) (Ls_3 (hF.L hL)) (by decide) rfl (hF.2.2 3 5 (by omega)) (by decide) (Or.inl kf_X8_61) (am_tab tk_X8_addFrost 20 rfl) rfl ?_
          refine am_iconst (q := 36) (n := 1) (by decide) (am_tab tk_X8_addFrost 21 rfl) rfl ?_
          refine am_iadd (q := 37) (by omega) (am_tab tk_X8_addFrost 22 rfl) rfl ?_
          refine am_putI (q := 40) (k := 8) (n := 17) (j := 5) (Ls_3 (hF.L hL)) (by decide) rfl (by decide) (Or.inl ⟨kf_X8_61, rfl⟩) (am_tab tk_X8_addFrost 23 rfl) rfl ?_
          refine am_vret rfl (Nat.le_of_ble_eq_true rfl) (Nat.le_of_ble_eq_true rfl) (am_tab tk_X8_addFrost 24 rfl) ?_
          refine hQ _ _ ?_
          refine ⟨rfl, rfl, fun j => ?_, (hF.mono (fun _ _ h => Or.inl h)).setN (Or.inr ⟨rfl, rfl⟩)⟩
          refine (hfz j).trans ?_
          by_cases g2 : fr ≤ j ∧ j < fr + k ∧ (j : Int) ≤ D
          · rw [if_pos g2, if_pos (by omega)]
          · rw [if_neg g2, if_neg (by omega)]
        · refine am_aload_n (q := 18) rfl (am_tab tk_X8_addFrost 11 rfl) rfl ?_
          refine am_getR (q := 21) (a := 3) (k := 8) (n := 17) (j := 14) (r := some (10)) (Ls_3 (hF.L hL)) (by decide) rfl (Lr_3_14 (hF.L hL)) (by decide) (Or.inl kf_X8_30) (am_tab tk_X8_addFrost 12 rfl) rfl ?_
          refine am_iload_n (q := 22) rfl (am_tab tk_X8_addFrost 13 rfl) rfl ?_
          refine am_iconst (q := 23) (n := 1) (by decide) (am_tab tk_X8_addFrost 14 rfl) rfl ?_
          refine am_iast (q := 24) (a := 10) (n := 91) (Ls_10 (hF.L hL)) (by omega) (by omega) (am_tab tk_X8_addFrost 15 rfl) rfl ?_
          refine am_iinc (q := 27) rfl (by omega) (by decide) (ls2 := [(3, am_i ((((fr : Int) + (k : Int)) + 1))), (0, am_r 3), (1, am_i ((fr : Int))), (2, am_i ((ln : Int)))]) rfl (am_tab tk_X8_addFrost 16 rfl) rfl ?_
          refine am_goto (t := 2) (am_tab tk_X8_addFrost 17 rfl) (by decide) ?_
          exact am_less (by intro q hq; simp only [List.mem_cons, List.not_mem_nil, or_false] at hq; rcases hq with rfl | rfl | rfl | rfl <;> simp [Int.add_assoc]) (ih2 (k + 1) (am_setN T 10 (Int.toNat ((fr : Int) + (k : Int))) 1) (by omega) (hF.setN (by omega)) (by omega) (fun j => by by_cases g : j = fr + k; (rw [g, show Int.toNat ((fr : Int) + (k : Int)) = fr + k by omega, set_eq, if_pos (by omega)]); (rw [set_ne (by omega), hfz j]; by_cases g2 : fr ≤ j ∧ j < fr + k ∧ (j : Int) ≤ D; (rw [if_pos g2, if_pos (by omega)]); (rw [if_neg g2, if_neg (by omega)]))))
  refine am_less (by intro q hq; simp only [List.mem_cons, List.not_mem_nil, or_false] at hq; rcases hq with rfl | rfl | rfl | rfl <;> simp [Int.add_assoc]) (L2 (_ + 1) 0 σ (by exact Nat.lt_succ_self _) (frw.refl _ σ) (by omega) (fun j => by rw [if_neg (by omega)]))
theorem c_townFull_15 (σ : am_H) (hL : lay σ) (s : Int)  : am_met M_X8_isFull [am_r 15, am_i s] σ (fun r σ' => r = some (am_i (if (s = 129 ∧ 8 ≤ σ.2.1 15 2) ∨ (s = 132 ∧ 30 ≤ σ.2.1 15 3) ∨ (s = 134 ∧ 20 ≤ σ.2.1 15 4) ∨ (s = 135 ∧ 4 ≤ σ.2.1 15 5) ∨ (s = 137 ∧ 0 < σ.2.1 23 1) ∨ (s = 138 ∧ 0 < σ.2.1 25 1) then 1 else 0)) ∧ σ' = σ) := by
  refine am_qq (fun Q hQ => ?_)
  refine am_enter (show plainFor yX8_isFull = true by decide +kernel) rfl (Nat.le_of_ble_eq_true rfl) (fun _ _ _ => trivial) ?_
  refine am_iload_n (q := 1) rfl (am_tab tk_X8_isFull 0 rfl) rfl ?_
  rcases (show s = 129 ∨ s = 130 ∨ s = 131 ∨ s = 132 ∨ s = 133 ∨ s = 134 ∨ s = 135 ∨ s = 136 ∨ s = 137 ∨ s = 138 ∨ (s < 129 ∨ 138 < s) by omega) with e1 | e1 | e1 | e1 | e1 | e1 | e1 | e1 | e1 | e1 | e1
  · refine am_tableIn (t := 56) (off := 55) (by omega) (by omega) (by rw [e1]; rfl) dsw_X8_isFull_1 (by decide) ?_
    refine am_aload_n (q := 57) rfl (am_tab tk_X8_isFull 2 rfl) rfl ?_
    refine am_getI (q := 60) (a := 15) (k := 8) (n := 17) (j := 2) (x := (σ.2.1 15 2)) (Ls_15 hL) (by decide) rfl rfl (by decide) (Or.inl kf_X8_52) (am_tab tk_X8_isFull 3 rfl) rfl ?_
    refine am_bipush (q := 62) (n := 8) (by decide) rfl (am_tab tk_X8_isFull 4 rfl) rfl ?_
    refine am_icmp_lt (q := 65) (t := 69) (am_tab tk_X8_isFull 5 rfl) (by decide) rfl (fun h62 => ?_) (fun h62 => ?_)
    · refine am_iconst (q := 70) (n := 0) (by decide) (am_tab tk_X8_isFull 8 rfl) rfl ?_
      refine am_iret (Or.inr ⟨rfl, by first | exact Or.inl rfl | exact Or.inr rfl | omega⟩) (Nat.le_of_ble_eq_true rfl) (Nat.le_of_ble_eq_true rfl) (am_tab tk_X8_isFull 9 rfl) ?_
      refine hQ _ _ ?_
      refine ⟨congrArg (fun z => some (am_i z)) ?_, rfl⟩
      first | rw [if_pos (by omega)] | rw [if_neg (by omega)]
    · refine am_iconst (q := 66) (n := 1) (by decide) (am_tab tk_X8_isFull 6 rfl) rfl ?_
      refine am_goto (t := 70) (am_tab tk_X8_isFull 7 rfl) (by decide) ?_
      refine am_iret (Or.inr ⟨rfl, by first | exact Or.inl rfl | exact Or.inr rfl | omega⟩) (Nat.le_of_ble_eq_true rfl) (Nat.le_of_ble_eq_true rfl) (am_tab tk_X8_isFull 9 rfl) ?_
      refine hQ _ _ ?_
      refine ⟨congrArg (fun z => some (am_i z)) ?_, rfl⟩
      first | rw [if_pos (by omega)] | rw [if_neg (by omega)]
  · refine am_tableIn (t := 147) (off := 146) (by omega) (by omega) (by rw [e1]; rfl) dsw_X8_isFull_1 (by decide) ?_
    refine am_iconst (q := 148) (n := 0) (by decide) (am_tab tk_X8_isFull 50 rfl) rfl ?_
    refine am_iret (Or.inr ⟨rfl, by first | exact Or.inl rfl | exact Or.inr rfl | omega⟩) (Nat.le_of_ble_eq_true rfl) (Nat.le_of_ble_eq_true rfl) (am_tab tk_X8_isFull 51 rfl) ?_
    refine hQ _ _ ?_
    refine ⟨congrArg (fun z => some (am_i z)) ?_, rfl⟩
    first | rw [if_pos (by omega)] | rw [if_neg (by omega)]
  · refine am_tableIn (t := 147) (off := 146) (by omega) (by omega) (by rw [e1]; rfl) dsw_X8_isFull_1 (by decide) ?_
    refine am_iconst (q := 148) (n := 0) (by decide) (am_tab tk_X8_isFull 50 rfl) rfl ?_
    refine am_iret (Or.inr ⟨rfl, by first | exact Or.inl rfl | exact Or.inr rfl | omega⟩) (Nat.le_of_ble_eq_true rfl) (Nat.le_of_ble_eq_true rfl) (am_tab tk_X8_isFull 51 rfl) ?_
    refine hQ _ _ ?_
    refine ⟨congrArg (fun z => some (am_i z)) ?_, rfl⟩
    first | rw [if_pos (by omega)] | rw [if_neg (by omega)]
  · refine am_tableIn (t := 71) (off := 70) (by omega) (by omega) (by rw [e1]; rfl) dsw_X8_isFull_1 (by decide) ?_
    refine am_aload_n (q := 72) rfl (am_tab tk_X8_isFull 10 rfl) rfl ?_
    refine am_getI (q := 75) (a := 15) (k := 8) (n := 17) (j := 3) (x := (σ.2.1 15 3)) (Ls_15 hL) (by decide) rfl rfl (by decide) (Or.inl kf_X8_55) (am_tab tk_X8_isFull 11 rfl) rfl ?_
    refine am_bipush (q := 77) (n := 30) (by decide) rfl (am_tab tk_X8_isFull 12 rfl) rfl ?_
    refine am_icmp_lt (q := 80) (t := 84) (am_tab tk_X8_isFull 13 rfl) (by decide) rfl (fun h77 => ?_) (fun h77 => ?_)
    · refine am_iconst (q := 85) (n := 0) (by decide) (am_tab tk_X8_isFull 16 rfl) rfl ?_
      refine am_iret (Or.inr ⟨rfl, by first | exact Or.inl rfl | exact Or.inr rfl | omega⟩) (Nat.le_of_ble_eq_true rfl) (Nat.le_of_ble_eq_true rfl) (am_tab tk_X8_isFull 17 rfl) ?_
      refine hQ _ _ ?_
      refine ⟨congrArg (fun z => some (am_i z)) ?_, rfl⟩
      first | rw [if_pos (by omega)] | rw [if_neg (by omega)]
    · refine am_iconst (q := 81) (n := 1) (by decide) (am_tab tk_X8_isFull 14 rfl) rfl ?_
      refine am_goto (t := 85) (am_tab tk_X8_isFull 15 rfl) (by decide) ?_
      refine am_iret (Or.inr ⟨rfl, by first | exact Or.inl rfl | exact Or.inr rfl | omega⟩) (Nat.le_of_ble_eq_true rfl) (Nat.le_of_ble_eq_true rfl) (am_tab tk_X8_isFull 17 rfl) ?_
      refine hQ _ _ ?_
      refine ⟨congrArg (fun z => some (am_i z)) ?_, rfl⟩
      first | rw [if_pos (by omega)] | rw [if_neg (by omega)]
  · refine am_tableIn (t := 147) (off := 146) (by omega) (by omega) (by rw [e1]; rfl) dsw_X8_isFull_1 (by decide) ?_
    refine am_iconst (q := 148) (n := 0) (by decide) (am_tab tk_X8_isFull 50 rfl) rfl ?_
    refine am_iret (Or.inr ⟨rfl, by first | exact Or.inl rfl | exact Or.inr rfl | omega⟩) (Nat.le_of_ble_eq_true rfl) (Nat.le_of_ble_eq_true rfl) (am_tab tk_X8_isFull 51 rfl) ?_
    refine hQ _ _ ?_
    refine ⟨congrArg (fun z => some (am_i z)) ?_, rfl⟩
    first | rw [if_pos (by omega)] | rw [if_neg (by omega)]
  · refine am_tableIn (t := 86) (off := 85) (by omega) (by omega) (by rw [e1]; rfl) dsw_X8_isFull_1 (by decide) ?_
    refine am_aload_n (q := 87) rfl (am_tab tk_X8_isFull 18 rfl) rfl ?_
    refine am_getI (q := 90) (a := 15) (k := 8) (n := 17) (j := 4) (x := (σ.2.1 15 4)) (Ls_15 hL) (by decide) rfl rfl (by decide) (Or.inl kf_X8_58) (am_tab tk_X8_isFull 19 rfl) rfl ?_
    refine am_bipush (q := 92) (n := 20) (by decide) rfl (am_tab tk_X8_isFull 20 rfl) rfl ?_
    refine am_icmp_lt (q := 95) (t := 99) (am_tab tk_X8_isFull 21 rfl) (by decide) rfl (fun h92 => ?_) (fun h92 => ?_)
    · refine am_iconst (q := 100) (n := 0) (by decide) (am_tab tk_X8_isFull 24 rfl) rfl ?_
      refine am_iret (Or.inr ⟨rfl, by first | exact Or.inl rfl | exact Or.inr rfl | omega⟩) (Nat.le_of_ble_eq_true rfl) (Nat.le_of_ble_eq_true rfl) (am_tab tk_X8_isFull 25 rfl) ?_
      refine hQ _ _ ?_
      refine ⟨congrArg (fun z => some (am_i z)) ?_, rfl⟩
      first | rw [if_pos (by omega)] | rw [if_neg (by omega)]
    · refine am_iconst (q := 96) (n := 1) (by decide) (am_tab tk_X8_isFull 22 rfl) rfl ?_
      refine am_goto (t := 100) (am_tab tk_X8_isFull 23 rfl) (by decide) ?_
      refine am_iret (Or.inr ⟨rfl, by first | exact Or.inl rfl | exact Or.inr rfl | omega⟩) (Nat.le_of_ble_eq_true rfl) (Nat.le_of_ble_eq_true rfl) (am_tab tk_X8_isFull 25 rfl) ?_
      refine hQ _ _ ?_
      refine ⟨congrArg (fun z => some (am_i z)) ?_, rfl⟩
      first | rw [if_pos (by omega)] | rw [if_neg (by omega)]
  · refine am_tableIn (t := 101) (off := 100) (by omega) (by omega) (by rw [e1]; rfl) dsw_X8_isFull_1 (by decide) ?_
    refine am_aload_n (q := 102) rfl (am_tab tk_X8_isFull 26 rfl) rfl ?_
    refine am_getI (q := 105) (a := 15) (k := 8) (n := 17) (j := 5) (x := (σ.2.1 15 5)) (Ls_15 hL) (by decide) rfl rfl (by decide) (Or.inl kf_X8_61) (am_tab tk_X8_isFull 27 rfl) rfl ?_
    refine am_iconst (q := 106) (n := 4) (by decide) (am_tab tk_X8_isFull 28 rfl) rfl ?_
    refine am_icmp_lt (q := 109) (t := 113) (am_tab tk_X8_isFull 29 rfl) (by decide) rfl (fun h106 => ?_) (fun h106 => ?_)
    · refine am_iconst (q := 114) (n := 0) (by decide) (am_tab tk_X8_isFull 32 rfl) rfl ?_
      refine am_iret (Or.inr ⟨rfl, by first | exact Or.inl rfl | exact Or.inr rfl | omega⟩) (Nat.le_of_ble_eq_true rfl) (Nat.le_of_ble_eq_true rfl) (am_tab tk_X8_isFull 33 rfl) ?_
      refine hQ _ _ ?_
      refine ⟨congrArg (fun z => some (am_i z)) ?_, rfl⟩
      first | rw [if_pos (by omega)] | rw [if_neg (by omega)]
    · refine am_iconst (q := 110) (n := 1) (by decide) (am_tab tk_X8_isFull 30 rfl) rfl ?_
      refine am_goto (t := 114) (am_tab tk_X8_isFull 31 rfl) (by decide) ?_
      refine am_iret (Or.inr ⟨rfl, by first | exact Or.inl rfl | exact Or.inr rfl | omega⟩) (Nat.le_of_ble_eq_true rfl) (Nat.le_of_ble_eq_true rfl) (am_tab tk_X8_isFull 33 rfl) ?_
      refine hQ _ _ ?_
      refine ⟨congrArg (fun z => some (am_i z)) ?_, rfl⟩
      first | rw [if_pos (by omega)] | rw [if_neg (by omega)]
  · refine am_tableIn (t := 147) (off := 146) (by omega) (by omega) (by rw [e1]; rfl) dsw_X8_isFull_1 (by decide) ?_
    refine am_iconst (q := 148) (n := 0) (by decide) (am_tab tk_X8_isFull 50 rfl) rfl ?_
    refine am_iret (Or.inr ⟨rfl, by first | exact Or.inl rfl | exact Or.inr rfl | omega⟩) (Nat.le_of_ble_eq_true rfl) (Nat.le_of_ble_eq_true rfl) (am_tab tk_X8_isFull 51 rfl) ?_
    refine hQ _ _ ?_
    refine ⟨congrArg (fun z => some (am_i z)) ?_, rfl⟩
    first | rw [if_pos (by omega)] | rw [if_neg (by omega)]
  · refine am_tableIn (t := 115) (off := 114) (by omega) (by omega) (by rw [e1]; rfl) dsw_X8_isFull_1 (by decide) ?_
    refine am_aload_n (q := 116) rfl (am_tab tk_X8_isFull 34 rfl) rfl ?_
    refine am_getR (q := 119) (a := 15) (k := 8) (n := 17) (j := 15) (r := some (23)) (Ls_15 hL) (by decide) rfl (Lr_15_15 hL) (by decide) (Or.inl kf_X8_38) (am_tab tk_X8_isFull 35 rfl) rfl ?_
    refine am_getI (q := 122) (a := 23) (k := 5) (n := 2) (j := 1) (x := (σ.2.1 23 1)) (Ls_23 hL) (by decide) rfl rfl (by decide) (Or.inr kf_X8_76) (am_tab tk_X8_isFull 36 rfl) rfl ?_
    refine am_if_le (q := 125) (t := 129) (am_tab tk_X8_isFull 37 rfl) (by decide) rfl (fun h122 => ?_) (fun h122 => ?_)
    · refine am_iconst (q := 130) (n := 0) (by decide) (am_tab tk_X8_isFull 40 rfl) rfl ?_
      refine am_iret (Or.inr ⟨rfl, by first | exact Or.inl rfl | exact Or.inr rfl | omega⟩) (Nat.le_of_ble_eq_true rfl) (Nat.le_of_ble_eq_true rfl) (am_tab tk_X8_isFull 41 rfl) ?_
      refine hQ _ _ ?_
      refine ⟨congrArg (fun z => some (am_i z)) ?_, rfl⟩
      first | rw [if_pos (by omega)] | rw [if_neg (by omega)]
    · refine am_iconst (q := 126) (n := 1) (by decide) (am_tab tk_X8_isFull 38 rfl) rfl ?_
      refine am_goto (t := 130) (am_tab tk_X8_isFull 39 rfl) (by decide) ?_
      refine am_iret (Or.inr ⟨rfl, by first | exact Or.inl rfl | exact Or.inr rfl | omega⟩) (Nat.le_of_ble_eq_true rfl) (Nat.le_of_ble_eq_true rfl) (am_tab tk_X8_isFull 41 rfl) ?_
      refine hQ _ _ ?_
      refine ⟨congrArg (fun z => some (am_i z)) ?_, rfl⟩
      first | rw [if_pos (by omega)] | rw [if_neg (by omega)]
  · refine am_tableIn (t := 131) (off := 130) (by omega) (by omega) (by rw [e1]; rfl) dsw_X8_isFull_1 (by decide) ?_
    refine am_aload_n (q := 132) rfl (am_tab tk_X8_isFull 42 rfl) rfl ?_
    refine am_getR (q := 135) (a := 15) (k := 8) (n := 17) (j := 16) (r := some (25)) (Ls_15 hL) (by decide) rfl (Lr_15_16 hL) (by decide) (Or.inl kf_X8_42) (am_tab tk_X8_isFull 43 rfl) rfl ?_
    refine am_getI (q := 138) (a := 25) (k := 5) (n := 2) (j := 1) (x := (σ.2.1 25 1)) (Ls_25 hL) (by decide) rfl rfl (by decide) (Or.inr kf_X8_76) (am_tab tk_X8_isFull 44 rfl) rfl ?_
    refine am_if_le (q := 141) (t := 145) (am_tab tk_X8_isFull 45 rfl) (by decide) rfl (fun h138 => ?_) (fun h138 => ?_)
    · refine am_iconst (q := 146) (n := 0) (by decide) (am_tab tk_X8_isFull 48 rfl) rfl ?_
      refine am_iret (Or.inr ⟨rfl, by first | exact Or.inl rfl | exact Or.inr rfl | omega⟩) (Nat.le_of_ble_eq_true rfl) (Nat.le_of_ble_eq_true rfl) (am_tab tk_X8_isFull 49 rfl) ?_
      refine hQ _ _ ?_
      refine ⟨congrArg (fun z => some (am_i z)) ?_, rfl⟩
      first | rw [if_pos (by omega)] | rw [if_neg (by omega)]
    · refine am_iconst (q := 142) (n := 1) (by decide) (am_tab tk_X8_isFull 46 rfl) rfl ?_
      refine am_goto (t := 146) (am_tab tk_X8_isFull 47 rfl) (by decide) ?_
      refine am_iret (Or.inr ⟨rfl, by first | exact Or.inl rfl | exact Or.inr rfl | omega⟩) (Nat.le_of_ble_eq_true rfl) (Nat.le_of_ble_eq_true rfl) (am_tab tk_X8_isFull 49 rfl) ?_
      refine hQ _ _ ?_
      refine ⟨congrArg (fun z => some (am_i z)) ?_, rfl⟩
      first | rw [if_pos (by omega)] | rw [if_neg (by omega)]
  · refine am_tableOut (t := 147) e1 dsw_X8_isFull_1 (by decide) ?_
    refine am_iconst (q := 148) (n := 0) (by decide) (am_tab tk_X8_isFull 50 rfl) rfl ?_
    refine am_iret (Or.inr ⟨rfl, by first | exact Or.inl rfl | exact Or.inr rfl | omega⟩) (Nat.le_of_ble_eq_true rfl) (Nat.le_of_ble_eq_true rfl) (am_tab tk_X8_isFull 51 rfl) ?_
    refine hQ _ _ ?_
    refine ⟨congrArg (fun z => some (am_i z)) ?_, rfl⟩
    first | rw [if_pos (by omega)] | rw [if_neg (by omega)]
theorem c_addFrost_15 (σ : am_H) (hL : lay σ) (fr : Nat) (ln : Nat) (D : Int) (hD : σ.2.1 15 0 = D) (hr : 1 ≤ fr ∧ (fr : Int) ≤ D ∧ D ≤ 90 ∧ ln ≤ 30) (hc : 0 ≤ σ.2.1 15 5 ∧ σ.2.1 15 5 ≤ 1000) : am_met M_X8_addFrost [am_r 15, am_i ((fr : Int)), am_i ((ln : Int))] σ (fun r σ' => r = none ∧ σ'.2.1 15 5 = σ.2.1 15 5 + 1 ∧ (∀ j : Nat, σ'.2.1 22 j = if fr ≤ j ∧ j < fr + ln ∧ (j : Int) ≤ D then 1 else σ.2.1 22 j) ∧ frw (fun a j => a = 22 ∨ (a = 15 ∧ j = 5)) σ σ') := by
  refine am_qq (fun Q hQ => ?_)
  refine am_enter (show plainFor yX8_addFrost = true by decide +kernel) rfl (Nat.le_of_ble_eq_true rfl) (fun _ _ _ => trivial) ?_
  refine am_iload_n (q := 1) rfl (am_tab tk_X8_addFrost 0 rfl) rfl ?_
  refine am_istore_n (q := 2) (by decide) (ls2 := [(3, am_i ((fr : Int))), (0, am_r 15), (1, am_i ((fr : Int))), (2, am_i ((ln : Int)))]) rfl (am_tab tk_X8_addFrost 1 rfl) rfl ?_
  have L2 : ∀ (n2 : Nat) (k : Nat) (T : am_H), 31 - k < n2 → frw (fun a _ => a = 22) σ T → (k ≤ ln ∧ ((fr : Int) + (k : Int) ≤ D + 1)) → (∀ j : Nat, T.2.1 22 j = if fr ≤ j ∧ j < fr + k ∧ (j : Int) ≤ D then 1 else σ.2.1 22 j) → am_wp M_X8_addFrost Q 0 0 2 [(3, am_i (((fr : Int) + (k : Int)))), (0, am_r 15), (1, am_i ((fr : Int))), (2, am_i ((ln : Int)))] [] T := by
    intro n2
    induction n2 with
    | zero => intro k T hn2; exact absurd hn2 (Nat.not_lt_zero _)
    | succ n2 ih2 =>
      intro k T hn2 hF hk hfz
      refine am_iload_n (q := 3) rfl (am_tab tk_X8_addFrost 2 rfl) rfl ?_
      refine am_iload_n (q := 4) rfl (am_tab tk_X8_addFrost 3 rfl) rfl ?_
      refine am_iload_n (q := 5) rfl (am_tab tk_X8_addFrost 4 rfl) rfl ?_
      refine am_iadd (q := 6) (by omega) (am_tab tk_X8_addFrost 5 rfl) rfl ?_
      refine am_icmp_ge (q := 9) (t := 30) (am_tab tk_X8_addFrost 6 rfl) (by decide) rfl (fun h6 => ?_) (fun h6 => ?_)
      · refine am_aload_n (q := 31) rfl (am_tab tk_X8_addFrost 18 rfl) rfl ?_
        refine am_dup (q := 32) rfl (am_tab tk_X8_addFrost 19 rfl) rfl ?_
        refine am_getI (q := 35) (a := 15) (k := 8) (n := 17) (j := 5) (x := (σ.2.1 15 5)) (Ls_15 (hF.L hL)) (by decide) rfl (hF.2.2 15 5 (by omega)) (by decide) (Or.inl kf_X8_61) (am_tab tk_X8_addFrost 20 rfl) rfl ?_
        refine am_iconst (q := 36) (n := 1) (by decide) (am_tab tk_X8_addFrost 21 rfl) rfl ?_
        refine am_iadd (q := 37) (by omega) (am_tab tk_X8_addFrost 22 rfl) rfl ?_
        refine am_putI (q := 40) (k := 8) (n := 17) (j := 5) (Ls_15 (hF.L hL)) (by decide) rfl (by decide) (Or.inl ⟨kf_X8_61, rfl⟩) (am_tab tk_X8_addFrost 23 rfl) rfl ?_
        refine am_vret rfl (Nat.le_of_ble_eq_true rfl) (Nat.le_of_ble_eq_true rfl) (am_tab tk_X8_addFrost 24 rfl) ?_
        refine hQ _ _ ?_
        refine ⟨rfl, rfl, fun j => ?_, (hF.mono (fun _ _ h => Or.inl h)).setN (Or.inr ⟨rfl, rfl⟩)⟩
        refine (hfz j).trans ?_
        by_cases g2 : fr ≤ j ∧ j < fr + k ∧ (j : Int) ≤ D
        · rw [if_pos g2, if_pos (by omega)]
        · rw [if_neg g2, if_neg (by omega)]
      · refine am_iload_n (q := 10) rfl (am_tab tk_X8_addFrost 7 rfl) rfl ?_
        refine am_aload_n (q := 11) rfl (am_tab tk_X8_addFrost 8 rfl) rfl ?_
        refine am_getI (q := 14) (a := 15) (k := 8) (n := 17) (j := 0) (x := D) (Ls_15 (hF.L hL)) (by decide) rfl ((hF.2.2 15 0 (by omega)).trans hD) (by decide) (Or.inl kf_X8_45) (am_tab tk_X8_addFrost 9 rfl) rfl ?_
        refine am_icmp_gt (q := 17) (t := 30) (am_tab tk_X8_addFrost 10 rfl) (by decide) rfl (fun h14 => ?_) (fun h14 => ?_)
        · refine am_aload_n (q := 31) rfl (am_tab tk_X8_addFrost 18 rfl) rfl ?_
          refine am_dup (q := 32) rfl (am_tab tk_X8_addFrost 19 rfl) rfl ?_
          refine am_getI (q := 35) (a := 15) (k := 8) (n := 17) (j := 5) (x := (σ.2.1 15 5)) (Ls_15 (hF.L hL)) (by decide) rfl (hF.2.2 15 5 (by omega)) (by decide) (Or.inl kf_X8_61) (am_tab tk_X8_addFrost 20 rfl) rfl ?_
          refine am_iconst (q := 36) (n := 1) (by decide) (am_tab tk_X8_addFrost 21 rfl) rfl ?_
          refine am_iadd (q := 37) (by omega) (am_tab tk_X8_addFrost 22 rfl) rfl ?_
          refine am_putI (q := 40) (k := 8) (n := 17) (j := 5) (Ls_15 (hF.L hL)) (by decide) rfl (by decide) (Or.inl ⟨kf_X8_61, rfl⟩) (am_tab tk_X8_addFrost 23 rfl) rfl ?_
          refine am_vret rfl (Nat.le_of_ble_eq_true rfl) (Nat.le_of_ble_eq_true rfl) (am_tab tk_X8_addFrost 24 rfl) ?_
          refine hQ _ _ ?_
          refine ⟨rfl, rfl, fun j => ?_, (hF.mono (fun _ _ h => Or.inl h)).setN (Or.inr ⟨rfl, rfl⟩)⟩
          refine (hfz j).trans ?_
          by_cases g2 : fr ≤ j ∧ j < fr + k ∧ (j : Int) ≤ D
          · rw [if_pos g2, if_pos (by omega)]
          · rw [if_neg g2, if_neg (by omega)]
        · refine am_aload_n (q := 18) rfl (am_tab tk_X8_addFrost 11 rfl) rfl ?_
          refine am_getR (q := 21) (a := 15) (k := 8) (n := 17) (j := 14) (r := some (22)) (Ls_15 (hF.L hL)) (by decide) rfl (Lr_15_14 (hF.L hL)) (by decide) (Or.inl kf_X8_30) (am_tab tk_X8_addFrost 12 rfl) rfl ?_
          refine am_iload_n (q := 22) rfl (am_tab tk_X8_addFrost 13 rfl) rfl ?_
          refine am_iconst (q := 23) (n := 1) (by decide) (am_tab tk_X8_addFrost 14 rfl) rfl ?_
          refine am_iast (q := 24) (a := 22) (n := 91) (Ls_22 (hF.L hL)) (by omega) (by omega) (am_tab tk_X8_addFrost 15 rfl) rfl ?_
          refine am_iinc (q := 27) rfl (by omega) (by decide) (ls2 := [(3, am_i ((((fr : Int) + (k : Int)) + 1))), (0, am_r 15), (1, am_i ((fr : Int))), (2, am_i ((ln : Int)))]) rfl (am_tab tk_X8_addFrost 16 rfl) rfl ?_
          refine am_goto (t := 2) (am_tab tk_X8_addFrost 17 rfl) (by decide) ?_
          exact am_less (by intro q hq; simp only [List.mem_cons, List.not_mem_nil, or_false] at hq; rcases hq with rfl | rfl | rfl | rfl <;> simp [Int.add_assoc]) (ih2 (k + 1) (am_setN T 22 (Int.toNat ((fr : Int) + (k : Int))) 1) (by omega) (hF.setN (by omega)) (by omega) (fun j => by by_cases g : j = fr + k; (rw [g, show Int.toNat ((fr : Int) + (k : Int)) = fr + k by omega, set_eq, if_pos (by omega)]); (rw [set_ne (by omega), hfz j]; by_cases g2 : fr ≤ j ∧ j < fr + k ∧ (j : Int) ≤ D; (rw [if_pos g2, if_pos (by omega)]); (rw [if_neg g2, if_neg (by omega)]))))
  refine am_less (by intro q hq; simp only [List.mem_cons, List.not_mem_nil, or_false] at hq; rcases hq with rfl | rfl | rfl | rfl <;> simp [Int.add_assoc]) (L2 (_ + 1) 0 σ (by exact Nat.lt_succ_self _) (frw.refl _ σ) (by omega) (fun j => by rw [if_neg (by omega)]))
