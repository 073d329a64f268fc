def W_td (t a j : Nat) : Prop := (a = t ∧ j < 2) ∨ W_rz a j
set_option maxRecDepth 100000 in
theorem c_first_days_3 (b : Nat → Int) (E : Nat) (cv : Nat → Int) (M : Nat) (σ : am_H) (hX : RY b E cv M σ (.inl 0)) (hR : σ.2.2 27 2 = some 3) (hCL : CLt 3 0 0 σ) (hK : zK b E 0 = 128) : am_met (M_X4_readStatement 0 0) [am_r 27] σ (fun r σ' => r = none ∧ RY b E cv M σ' (dyF b E (.inl 0)) ∧ ((dyF b E (.inl 0)).isLeft = true → CLt 3 (vZ b E (akF b E 0 (.inl 0))) 1 σ') ∧ frw (W_ts 3) σ σ') := by
  refine am_qq (fun Q hQ => ?_)
  refine am_enter (show plainFor yX4_readStatement = true by decide +kernel) rfl (Nat.le_of_ble_eq_true rfl) (fun _ _ _ => trivial) ?_
  have hu1 := hCL.1.2.1
  have hu2 := hCL.1.2.2 2 (by decide) (by decide)
  have hu3 := hCL.1.2.2 3 (by decide) (by decide)
  have hu4 := hCL.1.2.2 4 (by decide) (by decide)
  have hu5 := hCL.1.2.2 5 (by decide) (by decide)
  have hu8 : σ.2.1 11 1 = 0 := hCL.2.2.2.1
  have hu9 : σ.2.1 13 1 = 0 := hCL.2.2.2.2
  refine st_head_3_0 b E cv M 0 σ hX hR 128 (by exact hK) (by omega) Q (fun pA T1 hX1 hG1 hc0 => ?_)
  have hpA : pA = .inl 1 := by
    rcases hc0 with h | ⟨_, h⟩
    · exact h.1
    · rw [hu1, hu2, hu3, hu4, hu5, hu8, hu9] at h; omega
  rw [hpA] at hX1
  have hs1 : T1.2.1 3 1 = 0 := (hG1.2.2 3 1 (by unfold W_rz; omega)).trans hu1
  have hR1 : T1.2.2 27 2 = some 3 := by rw [hG1.2.1]; exact hR
  refine am_iload_n (q := 44) rfl (am_tab tk_X4_readStatement 22 rfl) rfl ?_
  refine am_sipush (q := 47) (n := 128) (by decide) rfl (am_tab tk_X4_readStatement 23 rfl) rfl ?_
  refine am_icmp_ne (q := 50) (t := 54) (am_tab tk_X4_readStatement 24 rfl) (by decide) rfl (fun h47 => ?_) (fun h47 => ?_)
  · exact absurd rfl h47
  · refine am_iconst (q := 51) (n := 1) (by decide) (am_tab tk_X4_readStatement 25 rfl) rfl ?_
    refine am_goto (t := 55) (am_tab tk_X4_readStatement 26 rfl) (by decide) ?_
    refine am_aload_n (q := 56) rfl (am_tab tk_X4_readStatement 28 rfl) rfl ?_
    refine am_getR (q := 59) (a := 27) (k := 4) (n := 13) (j := 2) (r := some (3)) (Ls_27 hX1.1) (by decide) rfl (show T1.2.2 27 2 = some 3 by rw [hG1.2.1]; exact hR) (by decide) (Or.inl kf_X4_29) (am_tab tk_X4_readStatement 29 rfl) rfl ?_
    refine am_getI (q := 62) (a := 3) (k := 8) (n := 17) (j := 1) (x := (T1.2.1 3 1)) (Ls_3 hX1.1) (by decide) rfl rfl (by decide) (Or.inr kf_X4_52) (am_tab tk_X4_readStatement 30 rfl) rfl ?_
    refine am_if_ne (q := 65) (t := 69) (am_tab tk_X4_readStatement 31 rfl) (by decide) rfl (fun h62 => ?_) (fun h62 => ?_)
    · exact absurd hs1 h62
    · refine am_iconst (q := 66) (n := 1) (by decide) (am_tab tk_X4_readStatement 32 rfl) rfl ?_
      refine am_goto (t := 70) (am_tab tk_X4_readStatement 33 rfl) (by decide) ?_
      refine am_icmp_eq (q := 73) (t := 79) (am_tab tk_X4_readStatement 35 rfl) (by decide) rfl (fun h70 => ?_) (fun h70 => ?_)
      · refine am_iload_n (q := 80) rfl (am_tab tk_X4_readStatement 40 rfl) rfl ?_
        refine am_tableIn (t := 148) (off := 68) (by omega) (by omega) rfl dsw_X4_readStatement_80 (by decide) ?_
        refine am_aload_n (q := 149) rfl (am_tab tk_X4_readStatement 42 rfl) rfl ?_
        refine am_getR (q := 152) (a := 27) (k := 4) (n := 13) (j := 2) (r := some (3)) (Ls_27 hX1.1) (by decide) rfl (show T1.2.2 27 2 = some 3 by rw [hG1.2.1]; exact hR) (by decide) (Or.inl kf_X4_29) (am_tab tk_X4_readStatement 43 rfl) rfl ?_
        refine am_aload_n (q := 153) rfl (am_tab tk_X4_readStatement 44 rfl) rfl ?_
        refine am_iconst (q := 154) (n := 5) (by decide) (am_tab tk_X4_readStatement 45 rfl) rfl ?_
        refine am_bipush (q := 156) (n := 90) (by decide) rfl (am_tab tk_X4_readStatement 46 rfl) rfl ?_
        refine am_callVr (q := 159) (me2 := M_X4_readNumber) (b := 27) (kb := 4) (nb := 13) (As := [am_i 5, am_i 90]) (rest := [am_r 3]) (c_numZ hX1 5 90) ⟨rfl, rfl⟩ (Ls_27 hX1.1) (by decide) ⟨Or.inl km_X4_111, kc_X4_readNumber, kn_X4, kd_X4_readNumber, ⟨(Nat.le_of_ble_eq_true rfl), (Nat.le_of_ble_eq_true rfl)⟩, ⟨(Nat.le_of_ble_eq_true rfl), (Nat.le_of_ble_eq_true rfl)⟩, (Nat.le_of_ble_eq_true rfl)⟩ ki_X4_readNumber ks_X4_readNumber rfl (am_tab tk_X4_readStatement 47 rfl) rfl ?_
        rintro r T2 ⟨v2, rfl, hX2, hG, hv2⟩
        have hG2 := hG1.trans hG
        refine am_putI (q := 162) (k := 8) (n := 17) (j := 0) (Ls_3 hX2.1) (by decide) rfl (by decide) (Or.inr (Or.inl ⟨kf_X4_115, rfl⟩)) (am_tab tk_X4_readStatement 48 rfl) rfl ?_
        refine am_goto (t := 280) (am_tab tk_X4_readStatement 49 rfl) (by decide) ?_
        have hXz : RY b E cv M (am_setN T2 3 0 v2) (nuF b E 5 90 (.inl 1)) := hX2.fr ((frw.refl (fun a _ => a = 3) T2).setN rfl) (fun a j h => by omega)
        have hRz : (am_setN T2 3 0 v2).2.2 27 2 = some 3 := by show T2.2.2 27 2 = _; rw [hG2.2.1]; exact hR
        have hez : (am_setN T2 3 0 v2).2.1 3 1 = 0 := (hG2.2.2 3 1 (by unfold W_rz; omega)).trans hu1
        refine am_less (by intro q hq; simp only [List.mem_cons, List.not_mem_nil, or_false] at hq; rcases hq with rfl | rfl | rfl <;> simp) (st_tail_3_0 b E cv M _ (am_setN T2 3 0 v2) hXz hRz (by omega) 128 (zP b E 0 : Int) Q (fun r τ hτ => hQ r τ ?_))
        obtain ⟨rfl, hXt, hFt⟩ := hτ
        have hak : akF b E 0 (.inl 0) = .inl 1 := if_pos hK
        have he : sgF b E 59 (nuF b E 5 90 (.inl 1)) = dyF b E (.inl 0) := by unfold dyF; rw [hak]
        rw [hez] at hFt
        have hGs : frw (W_ts 3) σ (am_setN T2 3 0 v2) := (hG2.mono (fun a j h => Or.inr h)).setN (Or.inl (by omega))
        refine ⟨rfl, by rw [← he]; exact hXt, fun hl => ?_, hGs.trans (((frw.refl (W_ts 3) (am_setN T2 3 0 v2)).setN (by unfold W_ts; omega)).trans (hFt.mono (fun a j h => Or.inr h)))⟩
        rw [← he] at hl
        have hv := hv2 (sgF_l hl)
        rw [hak, ← hv]
        exact (((hCL.fr hG2 (fun a j h => by unfold W_rz; omega)).day v2).one (0 + 1)).fr hFt (fun a j h => by unfold W_rz; omega)
      · exact absurd rfl h70
set_option maxRecDepth 100000 in
theorem c_first_bad_3 (b : Nat → Int) (E : Nat) (cv : Nat → Int) (M : Nat) (σ : am_H) (hX : RY b E cv M σ (.inl 0)) (hR : σ.2.2 27 2 = some 3) (hCL : CLt 3 0 0 σ) (hb : ¬ zK b E 0 = 6 ∧ ¬ zK b E 0 = 128 ∧ ¬ zK b E 0 = 137 ∧ ¬ zK b E 0 = 138) : am_met (M_X4_readStatement 0 0) [am_r 27] σ (fun r σ' => r = none ∧ RY b E cv M σ' (.inr (1, (zP b E 0 : Int))) ∧ frw (W_ts 3) σ σ') := by
  refine am_qq (fun Q hQ => ?_)
  refine am_enter (show plainFor yX4_readStatement = true by decide +kernel) rfl (Nat.le_of_ble_eq_true rfl) (fun _ _ _ => trivial) ?_
  have hu1 := hCL.1.2.1
  have hu2 := hCL.1.2.2 2 (by decide) (by decide)
  have hu3 := hCL.1.2.2 3 (by decide) (by decide)
  have hu4 := hCL.1.2.2 4 (by decide) (by decide)
  have hu5 := hCL.1.2.2 5 (by decide) (by decide)
  have hu8 : σ.2.1 11 1 = 0 := hCL.2.2.2.1
  have hu9 : σ.2.1 13 1 = 0 := hCL.2.2.2.2
  refine st_head_3_0 b E cv M 0 σ hX hR (zK b E 0) (by rfl) hb.1 Q (fun pA T1 hX1 hG1 hc0 => ?_)
  have hpA : pA = .inl 1 := by
    rcases hc0 with h | ⟨_, h⟩
    · exact h.1
    · rw [hu1, hu2, hu3, hu4, hu5, hu8, hu9] at h; omega
  rw [hpA] at hX1
  have hs1 : T1.2.1 3 1 = 0 := (hG1.2.2 3 1 (by unfold W_rz; omega)).trans hu1
  have hR1 : T1.2.2 27 2 = some 3 := by rw [hG1.2.1]; exact hR
  refine am_iload_n (q := 44) rfl (am_tab tk_X4_readStatement 22 rfl) rfl ?_
  refine am_sipush (q := 47) (n := 128) (by decide) rfl (am_tab tk_X4_readStatement 23 rfl) rfl ?_
  refine am_icmp_ne (q := 50) (t := 54) (am_tab tk_X4_readStatement 24 rfl) (by decide) rfl (fun h47 => ?_) (fun h47 => ?_)
  · refine am_iconst (q := 55) (n := 0) (by decide) (am_tab tk_X4_readStatement 27 rfl) rfl ?_
    refine am_aload_n (q := 56) rfl (am_tab tk_X4_readStatement 28 rfl) rfl ?_
    refine am_getR (q := 59) (a := 27) (k := 4) (n := 13) (j := 2) (r := some (3)) (Ls_27 hX1.1) (by decide) rfl (show T1.2.2 27 2 = some 3 by rw [hG1.2.1]; exact hR) (by decide) (Or.inl kf_X4_29) (am_tab tk_X4_readStatement 29 rfl) rfl ?_
    refine am_getI (q := 62) (a := 3) (k := 8) (n := 17) (j := 1) (x := (T1.2.1 3 1)) (Ls_3 hX1.1) (by decide) rfl rfl (by decide) (Or.inr kf_X4_52) (am_tab tk_X4_readStatement 30 rfl) rfl ?_
    refine am_if_ne (q := 65) (t := 69) (am_tab tk_X4_readStatement 31 rfl) (by decide) rfl (fun h62 => ?_) (fun h62 => ?_)
    · exact absurd hs1 h62
    · refine am_iconst (q := 66) (n := 1) (by decide) (am_tab tk_X4_readStatement 32 rfl) rfl ?_
      refine am_goto (t := 70) (am_tab tk_X4_readStatement 33 rfl) (by decide) ?_
      refine am_icmp_eq (q := 73) (t := 79) (am_tab tk_X4_readStatement 35 rfl) (by decide) rfl (fun h70 => ?_) (fun h70 => ?_)
      · exact absurd h70 (by decide)
      · refine am_aload_n (q := 74) rfl (am_tab tk_X4_readStatement 36 rfl) rfl ?_
        refine am_iconst (q := 75) (n := 1) (by decide) (am_tab tk_X4_readStatement 37 rfl) rfl ?_
        refine am_iload_n (q := 76) rfl (am_tab tk_X4_readStatement 38 rfl) rfl ?_
        refine am_callVr (q := 79) (me2 := M_X4_fail) (b := 27) (kb := 4) (nb := 13) (As := [am_i 1, am_i ((zP b E 0 : Int))]) (rest := []) (c_failY hX1 1 (zP b E 0 : Int) (by decide)) ⟨rfl, rfl⟩ (Ls_27 hX1.1) (by decide) ⟨Or.inl km_X4_58, kc_X4_fail, kn_X4, kd_X4_fail, ⟨(Nat.le_of_ble_eq_true rfl), (Nat.le_of_ble_eq_true rfl)⟩, ⟨(Nat.le_of_ble_eq_true rfl), (Nat.le_of_ble_eq_true rfl)⟩, (Nat.le_of_ble_eq_true rfl)⟩ ki_X4_fail ks_X4_fail rfl (am_tab tk_X4_readStatement 39 rfl) rfl ?_
        rintro r T2 ⟨rfl, hX2a, hG⟩
        have hX2 : RY b E cv M T2 (.inr (1, (zP b E 0 : Int)) : PZ) := hX2a
        have hG2 := hG1.trans hG
        have hR2 : T2.2.2 27 2 = some 3 := by rw [hG2.2.1]; exact hR
        have hn2 : T2.2.1 3 2 = ((0 : Nat) : Int) := (hG2.2.2 3 2 (by unfold W_rz; omega)).trans hu2
        have hD2 : T2.2.1 3 0 = 0 := (hG2.2.2 3 0 (by unfold W_rz; omega)).trans hCL.1.1
        have hs2 : T2.2.1 3 1 = 0 := (hG2.2.2 3 1 (by unfold W_rz; omega)).trans hu1
        refine am_iload_n (q := 80) rfl (am_tab tk_X4_readStatement 40 rfl) rfl ?_
        rcases (show (zK b E 0) = 128 ∨ (zK b E 0) = 129 ∨ (zK b E 0) = 130 ∨ (zK b E 0) = 131 ∨ (zK b E 0) = 132 ∨ (zK b E 0) = 133 ∨ (zK b E 0) = 134 ∨ (zK b E 0) = 135 ∨ (zK b E 0) = 136 ∨ (zK b E 0) = 137 ∨ (zK b E 0) = 138 ∨ (zK b E 0) = 139 ∨ (zK b E 0) = 140 ∨ ((zK b E 0) < 128 ∨ 140 < (zK b E 0)) by omega) with e80 | e80 | e80 | e80 | e80 | e80 | e80 | e80 | e80 | e80 | e80 | e80 | e80 | e80
        · refine am_tableIn (t := 148) (off := 68) (by omega) (by omega) (by rw [e80]; rfl) dsw_X4_readStatement_80 (by decide) ?_
          exact absurd e80 (by omega)
        · refine am_tableIn (t := 165) (off := 85) (by omega) (by omega) (by rw [e80]; rfl) dsw_X4_readStatement_80 (by decide) ?_
          refine am_aload_n (q := 166) rfl (am_tab tk_X4_readStatement 50 rfl) rfl ?_
          refine am_callVr (q := 169) (me2 := M_X4_readPerson) (b := 27) (kb := 4) (nb := 13) (As := []) (rest := []) (c_readPerson_3 b E cv M (.inr (1, (zP b E 0 : Int)) : PZ) T2 σ hX2 hR2 0 hn2 (by decide) 0 hD2 trivial (fun z => absurd z (by simp))) ⟨rfl, rfl⟩ (Ls_27 hX2.1) (by decide) ⟨Or.inl km_X4_118, kc_X4_readPerson, kn_X4, kd_X4_readPerson, ⟨(Nat.le_of_ble_eq_true rfl), (Nat.le_of_ble_eq_true rfl)⟩, ⟨(Nat.le_of_ble_eq_true rfl), (Nat.le_of_ble_eq_true rfl)⟩, (Nat.le_of_ble_eq_true rfl)⟩ ki_X4_readPerson ks_X4_readPerson rfl (am_tab tk_X4_readStatement 51 rfl) rfl ?_
          rintro r T3 ⟨rfl, hX3, _, hF3⟩
          have hXz : RY b E cv M T3 (.inr (1, (zP b E 0 : Int)) : PZ) := hX3
          refine am_goto (t := 280) (am_tab tk_X4_readStatement 52 rfl) (by decide) ?_
          have hFz : frw (W_tn 3) σ T3 := (hG2.mono (fun a j h => Or.inr h)).trans hF3
          have hRz : T3.2.2 27 2 = some 3 := by rw [hFz.2.1]; exact hR
          have hez : T3.2.1 3 1 = 0 := (hFz.2.2 3 1 (by unfold W_tn W_rz; omega)).trans hu1
          refine am_less (by intro q hq; simp only [List.mem_cons, List.not_mem_nil, or_false] at hq; rcases hq with rfl | rfl | rfl <;> simp) (st_tail_3_0 b E cv M _ T3 hXz hRz (by omega) (zK b E 0) (zP b E 0 : Int) Q (fun r τ hτ => hQ r τ ?_))
          obtain ⟨rfl, hXt, hFt⟩ := hτ
          exact ⟨rfl, hXt, (hFz.mono (fun a j h => h.imp (fun z => ⟨z.1, z.2.1⟩) id)).trans (((frw.refl (W_ts 3) T3).setN (by unfold W_ts; omega)).trans (hFt.mono (fun a j h => Or.inr h)))⟩
        · refine am_tableIn (t := 274) (off := 194) (by omega) (by omega) (by rw [e80]; rfl) dsw_X4_readStatement_80 (by decide) ?_
          refine am_aload_n (q := 275) rfl (am_tab tk_X4_readStatement 100 rfl) rfl ?_
          refine am_iconst (q := 276) (n := 1) (by decide) (am_tab tk_X4_readStatement 101 rfl) rfl ?_
          refine am_iload_n (q := 277) rfl (am_tab tk_X4_readStatement 102 rfl) rfl ?_
          refine am_callVr (q := 280) (me2 := M_X4_fail) (b := 27) (kb := 4) (nb := 13) (As := [am_i 1, am_i ((zP b E 0 : Int))]) (rest := []) (c_failY hX2 1 (zP b E 0 : Int) (by decide)) ⟨rfl, rfl⟩ (Ls_27 hX2.1) (by decide) ⟨Or.inl km_X4_58, kc_X4_fail, kn_X4, kd_X4_fail, ⟨(Nat.le_of_ble_eq_true rfl), (Nat.le_of_ble_eq_true rfl)⟩, ⟨(Nat.le_of_ble_eq_true rfl), (Nat.le_of_ble_eq_true rfl)⟩, (Nat.le_of_ble_eq_true rfl)⟩ ki_X4_fail ks_X4_fail rfl (am_tab tk_X4_readStatement 103 rfl) rfl ?_
          rintro r T3 ⟨rfl, hX3, hG⟩
          have hG3 := hG2.trans hG
          have hXz : RY b E cv M T3 (.inr (1, (zP b E 0 : Int)) : PZ) := hX3
          have hFz : frw (W_tn 3) σ T3 := hG3.mono (fun a j h => Or.inr h)
          have hRz : T3.2.2 27 2 = some 3 := by rw [hFz.2.1]; exact hR
          have hez : T3.2.1 3 1 = 0 := (hFz.2.2 3 1 (by unfold W_tn W_rz; omega)).trans hu1
          refine am_less (by intro q hq; simp only [List.mem_cons, List.not_mem_nil, or_false] at hq; rcases hq with rfl | rfl | rfl <;> simp) (st_tail_3_0 b E cv M _ T3 hXz hRz (by omega) (zK b E 0) (zP b E 0 : Int) Q (fun r τ hτ => hQ r τ ?_))
          obtain ⟨rfl, hXt, hFt⟩ := hτ
          exact ⟨rfl, hXt, (hFz.mono (fun a j h => h.imp (fun z => ⟨z.1, z.2.1⟩) id)).trans (((frw.refl (W_ts 3) T3).setN (by unfold W_ts; omega)).trans (hFt.mono (fun a j h => Or.inr h)))⟩
        · refine am_tableIn (t := 274) (off := 194) (by omega) (by omega) (by rw [e80]; rfl) dsw_X4_readStatement_80 (by decide) ?_
          refine am_aload_n (q := 275) rfl (am_tab tk_X4_readStatement 100 rfl) rfl ?_
          refine am_iconst (q := 276) (n := 1) (by decide) (am_tab tk_X4_readStatement 101 rfl) rfl ?_
          refine am_iload_n (q := 277) rfl (am_tab tk_X4_readStatement 102 rfl) rfl ?_
          refine am_callVr (q := 280) (me2 := M_X4_fail) (b := 27) (kb := 4) (nb := 13) (As := [am_i 1, am_i ((zP b E 0 : Int))]) (rest := []) (c_failY hX2 1 (zP b E 0 : Int) (by decide)) ⟨rfl, rfl⟩ (Ls_27 hX2.1) (by decide) ⟨Or.inl km_X4_58, kc_X4_fail, kn_X4, kd_X4_fail, ⟨(Nat.le_of_ble_eq_true rfl), (Nat.le_of_ble_eq_true rfl)⟩, ⟨(Nat.le_of_ble_eq_true rfl), (Nat.le_of_ble_eq_true rfl)⟩, (Nat.le_of_ble_eq_true rfl)⟩ ki_X4_fail ks_X4_fail rfl (am_tab tk_X4_readStatement 103 rfl) rfl ?_
          rintro r T3 ⟨rfl, hX3, hG⟩
          have hG3 := hG2.trans hG
          have hXz : RY b E cv M T3 (.inr (1, (zP b E 0 : Int)) : PZ) := hX3
          have hFz : frw (W_tn 3) σ T3 := hG3.mono (fun a j h => Or.inr h)
          have hRz : T3.2.2 27 2 = some 3 := by rw [hFz.2.1]; exact hR
          have hez : T3.2.1 3 1 = 0 := (hFz.2.2 3 1 (by unfold W_tn W_rz; omega)).trans hu1
          refine am_less (by intro q hq; simp only [List.mem_cons, List.not_mem_nil, or_false] at hq; rcases hq with rfl | rfl | rfl <;> simp) (st_tail_3_0 b E cv M _ T3 hXz hRz (by omega) (zK b E 0) (zP b E 0 : Int) Q (fun r τ hτ => hQ r τ ?_))
          obtain ⟨rfl, hXt, hFt⟩ := hτ
          exact ⟨rfl, hXt, (hFz.mono (fun a j h => h.imp (fun z => ⟨z.1, z.2.1⟩) id)).trans (((frw.refl (W_ts 3) T3).setN (by unfold W_ts; omega)).trans (hFt.mono (fun a j h => Or.inr h)))⟩
        · refine am_tableIn (t := 172) (off := 92) (by omega) (by omega) (by rw [e80]; rfl) dsw_X4_readStatement_80 (by decide) ?_
          refine am_aload_n (q := 173) rfl (am_tab tk_X4_readStatement 53 rfl) rfl ?_
          refine am_callVr (q := 176) (me2 := M_X4_readTold) (b := 27) (kb := 4) (nb := 13) (As := []) (rest := []) (c_readTold_3 b E cv M (.inr (1, (zP b E 0 : Int)) : PZ) T2 σ hX2 hR2 0 hn2 (by decide) 0 hD2 trivial (by decide) (fun z => absurd z (by simp))) ⟨rfl, rfl⟩ (Ls_27 hX2.1) (by decide) ⟨Or.inl km_X4_121, kc_X4_readTold, kn_X4, kd_X4_readTold, ⟨(Nat.le_of_ble_eq_true rfl), (Nat.le_of_ble_eq_true rfl)⟩, ⟨(Nat.le_of_ble_eq_true rfl), (Nat.le_of_ble_eq_true rfl)⟩, (Nat.le_of_ble_eq_true rfl)⟩ ki_X4_readTold ks_X4_readTold rfl (am_tab tk_X4_readStatement 54 rfl) rfl ?_
          rintro r T3 ⟨rfl, hX3, _, hF3⟩
          have hXz : RY b E cv M T3 (.inr (1, (zP b E 0 : Int)) : PZ) := hX3
          refine am_goto (t := 280) (am_tab tk_X4_readStatement 55 rfl) (by decide) ?_
          have hFz : frw (W_tn 3) σ T3 := (hG2.mono (fun a j h => Or.inr h)).trans hF3
          have hRz : T3.2.2 27 2 = some 3 := by rw [hFz.2.1]; exact hR
          have hez : T3.2.1 3 1 = 0 := (hFz.2.2 3 1 (by unfold W_tn W_rz; omega)).trans hu1
          refine am_less (by intro q hq; simp only [List.mem_cons, List.not_mem_nil, or_false] at hq; rcases hq with rfl | rfl | rfl <;> simp) (st_tail_3_0 b E cv M _ T3 hXz hRz (by omega) (zK b E 0) (zP b E 0 : Int) Q (fun r τ hτ => hQ r τ ?_))
          obtain ⟨rfl, hXt, hFt⟩ := hτ
          exact ⟨rfl, hXt, (hFz.mono (fun a j h => h.imp (fun z => ⟨z.1, z.2.1⟩) id)).trans (((frw.refl (W_ts 3) T3).setN (by unfold W_ts; omega)).trans (hFt.mono (fun a j h => Or.inr h)))⟩
        · refine am_tableIn (t := 274) (off := 194) (by omega) (by omega) (by rw [e80]; rfl) dsw_X4_readStatement_80 (by decide) ?_
          refine am_aload_n (q := 275) rfl (am_tab tk_X4_readStatement 100 rfl) rfl ?_
          refine am_iconst (q := 276) (n := 1) (by decide) (am_tab tk_X4_readStatement 101 rfl) rfl ?_
          refine am_iload_n (q := 277) rfl (am_tab tk_X4_readStatement 102 rfl) rfl ?_
          refine am_callVr (q := 280) (me2 := M_X4_fail) (b := 27) (kb := 4) (nb := 13) (As := [am_i 1, am_i ((zP b E 0 : Int))]) (rest := []) (c_failY hX2 1 (zP b E 0 : Int) (by decide)) ⟨rfl, rfl⟩ (Ls_27 hX2.1) (by decide) ⟨Or.inl km_X4_58, kc_X4_fail, kn_X4, kd_X4_fail, ⟨(Nat.le_of_ble_eq_true rfl), (Nat.le_of_ble_eq_true rfl)⟩, ⟨(Nat.le_of_ble_eq_true rfl), (Nat.le_of_ble_eq_true rfl)⟩, (Nat.le_of_ble_eq_true rfl)⟩ ki_X4_fail ks_X4_fail rfl (am_tab tk_X4_readStatement 103 rfl) rfl ?_
          rintro r T3 ⟨rfl, hX3, hG⟩
          have hG3 := hG2.trans hG
          have hXz : RY b E cv M T3 (.inr (1, (zP b E 0 : Int)) : PZ) := hX3
          have hFz : frw (W_tn 3) σ T3 := hG3.mono (fun a j h => Or.inr h)
          have hRz : T3.2.2 27 2 = some 3 := by rw [hFz.2.1]; exact hR
          have hez : T3.2.1 3 1 = 0 := (hFz.2.2 3 1 (by unfold W_tn W_rz; omega)).trans hu1
          refine am_less (by intro q hq; simp only [List.mem_cons, List.not_mem_nil, or_false] at hq; rcases hq with rfl | rfl | rfl <;> simp) (st_tail_3_0 b E cv M _ T3 hXz hRz (by omega) (zK b E 0) (zP b E 0 : Int) Q (fun r τ hτ => hQ r τ ?_))
          obtain ⟨rfl, hXt, hFt⟩ := hτ
          exact ⟨rfl, hXt, (hFz.mono (fun a j h => h.imp (fun z => ⟨z.1, z.2.1⟩) id)).trans (((frw.refl (W_ts 3) T3).setN (by unfold W_ts; omega)).trans (hFt.mono (fun a j h => Or.inr h)))⟩
        · refine am_tableIn (t := 179) (off := 99) (by omega) (by omega) (by rw [e80]; rfl) dsw_X4_readStatement_80 (by decide) ?_
          refine am_aload_n (q := 180) rfl (am_tab tk_X4_readStatement 56 rfl) rfl ?_
          refine am_callVr (q := 183) (me2 := M_X4_readReminds) (b := 27) (kb := 4) (nb := 13) (As := []) (rest := []) (c_readReminds_3 b E cv M (.inr (1, (zP b E 0 : Int)) : PZ) T2 σ hX2 hR2 0 hn2 (by decide) 0 hD2 trivial (fun z => absurd z (by simp))) ⟨rfl, rfl⟩ (Ls_27 hX2.1) (by decide) ⟨Or.inl km_X4_124, kc_X4_readReminds, kn_X4, kd_X4_readReminds, ⟨(Nat.le_of_ble_eq_true rfl), (Nat.le_of_ble_eq_true rfl)⟩, ⟨(Nat.le_of_ble_eq_true rfl), (Nat.le_of_ble_eq_true rfl)⟩, (Nat.le_of_ble_eq_true rfl)⟩ ki_X4_readReminds ks_X4_readReminds rfl (am_tab tk_X4_readStatement 57 rfl) rfl ?_
          rintro r T3 ⟨rfl, hX3, _, hF3⟩
          have hXz : RY b E cv M T3 (.inr (1, (zP b E 0 : Int)) : PZ) := hX3
          refine am_goto (t := 280) (am_tab tk_X4_readStatement 58 rfl) (by decide) ?_
          have hFz : frw (W_tn 3) σ T3 := (hG2.mono (fun a j h => Or.inr h)).trans hF3
          have hRz : T3.2.2 27 2 = some 3 := by rw [hFz.2.1]; exact hR
          have hez : T3.2.1 3 1 = 0 := (hFz.2.2 3 1 (by unfold W_tn W_rz; omega)).trans hu1
          refine am_less (by intro q hq; simp only [List.mem_cons, List.not_mem_nil, or_false] at hq; rcases hq with rfl | rfl | rfl <;> simp) (st_tail_3_0 b E cv M _ T3 hXz hRz (by omega) (zK b E 0) (zP b E 0 : Int) Q (fun r τ hτ => hQ r τ ?_))
          obtain ⟨rfl, hXt, hFt⟩ := hτ
          exact ⟨rfl, hXt, (hFz.mono (fun a j h => h.imp (fun z => ⟨z.1, z.2.1⟩) id)).trans (((frw.refl (W_ts 3) T3).setN (by unfold W_ts; omega)).trans (hFt.mono (fun a j h => Or.inr h)))⟩
        · refine am_tableIn (t := 186) (off := 106) (by omega) (by omega) (by rw [e80]; rfl) dsw_X4_readStatement_80 (by decide) ?_
          refine am_aload_n (q := 187) rfl (am_tab tk_X4_readStatement 59 rfl) rfl ?_
          refine am_callVr (q := 190) (me2 := M_X4_readFrost) (b := 27) (kb := 4) (nb := 13) (As := []) (rest := []) (c_readFrost_3 b E cv M (.inr (1, (zP b E 0 : Int)) : PZ) T2 σ hX2 hR2 0 hn2 (by decide) 0 hD2 trivial (by decide) (fun z => absurd z (by simp))) ⟨rfl, rfl⟩ (Ls_27 hX2.1) (by decide) ⟨Or.inl km_X4_127, kc_X4_readFrost, kn_X4, kd_X4_readFrost, ⟨(Nat.le_of_ble_eq_true rfl), (Nat.le_of_ble_eq_true rfl)⟩, ⟨(Nat.le_of_ble_eq_true rfl), (Nat.le_of_ble_eq_true rfl)⟩, (Nat.le_of_ble_eq_true rfl)⟩ ki_X4_readFrost ks_X4_readFrost rfl (am_tab tk_X4_readStatement 60 rfl) rfl ?_
          rintro r T3 ⟨rfl, hX3, _, hF3⟩
          have hXz : RY b E cv M T3 (.inr (1, (zP b E 0 : Int)) : PZ) := hX3
          refine am_goto (t := 280) (am_tab tk_X4_readStatement 61 rfl) (by decide) ?_
          have hFz : frw (W_tn 3) σ T3 := (hG2.mono (fun a j h => Or.inr h)).trans hF3
          have hRz : T3.2.2 27 2 = some 3 := by rw [hFz.2.1]; exact hR
          have hez : T3.2.1 3 1 = 0 := (hFz.2.2 3 1 (by unfold W_tn W_rz; omega)).trans hu1
          refine am_less (by intro q hq; simp only [List.mem_cons, List.not_mem_nil, or_false] at hq; rcases hq with rfl | rfl | rfl <;> simp) (st_tail_3_0 b E cv M _ T3 hXz hRz (by omega) (zK b E 0) (zP b E 0 : Int) Q (fun r τ hτ => hQ r τ ?_))
          obtain ⟨rfl, hXt, hFt⟩ := hτ
          exact ⟨rfl, hXt, (hFz.mono (fun a j h => h.imp (fun z => ⟨z.1, z.2.1⟩) id)).trans (((frw.refl (W_ts 3) T3).setN (by unfold W_ts; omega)).trans (hFt.mono (fun a j h => Or.inr h)))⟩
        · refine am_tableIn (t := 274) (off := 194) (by omega) (by omega) (by rw [e80]; rfl) dsw_X4_readStatement_80 (by decide) ?_
          refine am_aload_n (q := 275) rfl (am_tab tk_X4_readStatement 100 rfl) rfl ?_
          refine am_iconst (q := 276) (n := 1) (by decide) (am_tab tk_X4_readStatement 101 rfl) rfl ?_
          refine am_iload_n (q := 277) rfl (am_tab tk_X4_readStatement 102 rfl) rfl ?_
          refine am_callVr (q := 280) (me2 := M_X4_fail) (b := 27) (kb := 4) (nb := 13) (As := [am_i 1, am_i ((zP b E 0 : Int))]) (rest := []) (c_failY hX2 1 (zP b E 0 : Int) (by decide)) ⟨rfl, rfl⟩ (Ls_27 hX2.1) (by decide) ⟨Or.inl km_X4_58, kc_X4_fail, kn_X4, kd_X4_fail, ⟨(Nat.le_of_ble_eq_true rfl), (Nat.le_of_ble_eq_true rfl)⟩, ⟨(Nat.le_of_ble_eq_true rfl), (Nat.le_of_ble_eq_true rfl)⟩, (Nat.le_of_ble_eq_true rfl)⟩ ki_X4_fail ks_X4_fail rfl (am_tab tk_X4_readStatement 103 rfl) rfl ?_
          rintro r T3 ⟨rfl, hX3, hG⟩
          have hG3 := hG2.trans hG
          have hXz : RY b E cv M T3 (.inr (1, (zP b E 0 : Int)) : PZ) := hX3
          have hFz : frw (W_tn 3) σ T3 := hG3.mono (fun a j h => Or.inr h)
          have hRz : T3.2.2 27 2 = some 3 := by rw [hFz.2.1]; exact hR
          have hez : T3.2.1 3 1 = 0 := (hFz.2.2 3 1 (by unfold W_tn W_rz; omega)).trans hu1
          refine am_less (by intro q hq; simp only [List.mem_cons, List.not_mem_nil, or_false] at hq; rcases hq with rfl | rfl | rfl <;> simp) (st_tail_3_0 b E cv M _ T3 hXz hRz (by omega) (zK b E 0) (zP b E 0 : Int) Q (fun r τ hτ => hQ r τ ?_))
          obtain ⟨rfl, hXt, hFt⟩ := hτ
          exact ⟨rfl, hXt, (hFz.mono (fun a j h => h.imp (fun z => ⟨z.1, z.2.1⟩) id)).trans (((frw.refl (W_ts 3) T3).setN (by unfold W_ts; omega)).trans (hFt.mono (fun a j h => Or.inr h)))⟩
        · refine am_tableIn (t := 193) (off := 113) (by omega) (by omega) (by rw [e80]; rfl) dsw_X4_readStatement_80 (by decide) ?_
          exact absurd e80 (by omega)
        · refine am_tableIn (t := 193) (off := 113) (by omega) (by omega) (by rw [e80]; rfl) dsw_X4_readStatement_80 (by decide) ?_
          exact absurd e80 (by omega)
        · refine am_tableIn (t := 239) (off := 159) (by omega) (by omega) (by rw [e80]; rfl) dsw_X4_readStatement_80 (by decide) ?_
          refine am_aload_n (q := 240) rfl (am_tab tk_X4_readStatement 84 rfl) rfl ?_
          refine am_getR (q := 243) (a := 27) (k := 4) (n := 13) (j := 2) (r := some (3)) (Ls_27 hX2.1) (by decide) rfl hR2 (by decide) (Or.inl kf_X4_29) (am_tab tk_X4_readStatement 85 rfl) rfl ?_
          refine am_aload_n (q := 244) rfl (am_tab tk_X4_readStatement 86 rfl) rfl ?_
          refine am_iconst (q := 245) (n := 0) (by decide) (am_tab tk_X4_readStatement 87 rfl) rfl ?_
          refine am_bipush (q := 247) (n := 100) (by decide) rfl (am_tab tk_X4_readStatement 88 rfl) rfl ?_
          refine am_callVr (q := 250) (me2 := M_X4_readNumber) (b := 27) (kb := 4) (nb := 13) (As := [am_i 0, am_i 100]) (rest := [am_r 3]) (c_numZ hX2 0 100) ⟨rfl, rfl⟩ (Ls_27 hX2.1) (by decide) ⟨Or.inl km_X4_111, kc_X4_readNumber, kn_X4, kd_X4_readNumber, ⟨(Nat.le_of_ble_eq_true rfl), (Nat.le_of_ble_eq_true rfl)⟩, ⟨(Nat.le_of_ble_eq_true rfl), (Nat.le_of_ble_eq_true rfl)⟩, (Nat.le_of_ble_eq_true rfl)⟩ ki_X4_readNumber ks_X4_readNumber rfl (am_tab tk_X4_readStatement 89 rfl) rfl ?_
          rintro r T3 ⟨v3, rfl, hX3, hG, hv3⟩
          have hG3 := hG2.trans hG
          have hXz : RY b E cv M (am_setN T3 3 6 v3) (.inr (1, (zP b E 0 : Int)) : PZ) := hX3.fr ((frw.refl (fun a _ => a = 3) T3).setN rfl) (fun a j h => by omega)
          refine am_putI (q := 253) (k := 8) (n := 17) (j := 6) (Ls_3 hX3.1) (by decide) rfl (by decide) (Or.inr (Or.inl ⟨kf_X4_141, rfl⟩)) (am_tab tk_X4_readStatement 90 rfl) rfl ?_
          refine am_goto (t := 280) (am_tab tk_X4_readStatement 91 rfl) (by decide) ?_
          have hFz : frw (W_tn 3) σ (am_setN T3 3 6 v3) := ((hG3.mono (fun a j h => Or.inr h)).setN (Or.inl (by omega)))
          have hRz : (am_setN T3 3 6 v3).2.2 27 2 = some 3 := by rw [hFz.2.1]; exact hR
          have hez : (am_setN T3 3 6 v3).2.1 3 1 = 0 := (hFz.2.2 3 1 (by unfold W_tn W_rz; omega)).trans hu1
          refine am_less (by intro q hq; simp only [List.mem_cons, List.not_mem_nil, or_false] at hq; rcases hq with rfl | rfl | rfl <;> simp) (st_tail_3_0 b E cv M _ (am_setN T3 3 6 v3) hXz hRz (by omega) (zK b E 0) (zP b E 0 : Int) Q (fun r τ hτ => hQ r τ ?_))
          obtain ⟨rfl, hXt, hFt⟩ := hτ
          exact ⟨rfl, hXt, (hFz.mono (fun a j h => h.imp (fun z => ⟨z.1, z.2.1⟩) id)).trans (((frw.refl (W_ts 3) (am_setN T3 3 6 v3)).setN (by unfold W_ts; omega)).trans (hFt.mono (fun a j h => Or.inr h)))⟩
        · refine am_tableIn (t := 256) (off := 176) (by omega) (by omega) (by rw [e80]; rfl) dsw_X4_readStatement_80 (by decide) ?_
          refine am_aload_n (q := 257) rfl (am_tab tk_X4_readStatement 92 rfl) rfl ?_
          refine am_getR (q := 260) (a := 27) (k := 4) (n := 13) (j := 2) (r := some (3)) (Ls_27 hX2.1) (by decide) rfl hR2 (by decide) (Or.inl kf_X4_29) (am_tab tk_X4_readStatement 93 rfl) rfl ?_
          refine am_aload_n (q := 261) rfl (am_tab tk_X4_readStatement 94 rfl) rfl ?_
          refine am_iconst (q := 262) (n := 0) (by decide) (am_tab tk_X4_readStatement 95 rfl) rfl ?_
          refine am_sipush (q := 265) (n := 1000) (by decide) rfl (am_tab tk_X4_readStatement 96 rfl) rfl ?_
          refine am_callVr (q := 268) (me2 := M_X4_readNumber) (b := 27) (kb := 4) (nb := 13) (As := [am_i 0, am_i 1000]) (rest := [am_r 3]) (c_numZ hX2 0 1000) ⟨rfl, rfl⟩ (Ls_27 hX2.1) (by decide) ⟨Or.inl km_X4_111, kc_X4_readNumber, kn_X4, kd_X4_readNumber, ⟨(Nat.le_of_ble_eq_true rfl), (Nat.le_of_ble_eq_true rfl)⟩, ⟨(Nat.le_of_ble_eq_true rfl), (Nat.le_of_ble_eq_true rfl)⟩, (Nat.le_of_ble_eq_true rfl)⟩ ki_X4_readNumber ks_X4_readNumber rfl (am_tab tk_X4_readStatement 97 rfl) rfl ?_
          rintro r T3 ⟨v3, rfl, hX3, hG, hv3⟩
          have hG3 := hG2.trans hG
          have hXz : RY b E cv M (am_setN T3 3 7 v3) (.inr (1, (zP b E 0 : Int)) : PZ) := hX3.fr ((frw.refl (fun a _ => a = 3) T3).setN rfl) (fun a j h => by omega)
          refine am_putI (q := 271) (k := 8) (n := 17) (j := 7) (Ls_3 hX3.1) (by decide) rfl (by decide) (Or.inr (Or.inl ⟨kf_X4_144, rfl⟩)) (am_tab tk_X4_readStatement 98 rfl) rfl ?_
          refine am_goto (t := 280) (am_tab tk_X4_readStatement 99 rfl) (by decide) ?_
          have hFz : frw (W_tn 3) σ (am_setN T3 3 7 v3) := ((hG3.mono (fun a j h => Or.inr h)).setN (Or.inl (by omega)))
          have hRz : (am_setN T3 3 7 v3).2.2 27 2 = some 3 := by rw [hFz.2.1]; exact hR
          have hez : (am_setN T3 3 7 v3).2.1 3 1 = 0 := (hFz.2.2 3 1 (by unfold W_tn W_rz; omega)).trans hu1
          refine am_less (by intro q hq; simp only [List.mem_cons, List.not_mem_nil, or_false] at hq; rcases hq with rfl | rfl | rfl <;> simp) (st_tail_3_0 b E cv M _ (am_setN T3 3 7 v3) hXz hRz (by omega) (zK b E 0) (zP b E 0 : Int) Q (fun r τ hτ => hQ r τ ?_))
          obtain ⟨rfl, hXt, hFt⟩ := hτ
          exact ⟨rfl, hXt, (hFz.mono (fun a j h => h.imp (fun z => ⟨z.1, z.2.1⟩) id)).trans (((frw.refl (W_ts 3) (am_setN T3 3 7 v3)).setN (by unfold W_ts; omega)).trans (hFt.mono (fun a j h => Or.inr h)))⟩
        · refine am_tableOut (t := 274) e80 dsw_X4_readStatement_80 (by decide) ?_
          refine am_aload_n (q := 275) rfl (am_tab tk_X4_readStatement 100 rfl) rfl ?_
          refine am_iconst (q := 276) (n := 1) (by decide) (am_tab tk_X4_readStatement 101 rfl) rfl ?_
          refine am_iload_n (q := 277) rfl (am_tab tk_X4_readStatement 102 rfl) rfl ?_
          refine am_callVr (q := 280) (me2 := M_X4_fail) (b := 27) (kb := 4) (nb := 13) (As := [am_i 1, am_i ((zP b E 0 : Int))]) (rest := []) (c_failY hX2 1 (zP b E 0 : Int) (by decide)) ⟨rfl, rfl⟩ (Ls_27 hX2.1) (by decide) ⟨Or.inl km_X4_58, kc_X4_fail, kn_X4, kd_X4_fail, ⟨(Nat.le_of_ble_eq_true rfl), (Nat.le_of_ble_eq_true rfl)⟩, ⟨(Nat.le_of_ble_eq_true rfl), (Nat.le_of_ble_eq_true rfl)⟩, (Nat.le_of_ble_eq_true rfl)⟩ ki_X4_fail ks_X4_fail rfl (am_tab tk_X4_readStatement 103 rfl) rfl ?_
          rintro r T3 ⟨rfl, hX3, hG⟩
          have hG3 := hG2.trans hG
          have hXz : RY b E cv M T3 (.inr (1, (zP b E 0 : Int)) : PZ) := hX3
          have hFz : frw (W_tn 3) σ T3 := hG3.mono (fun a j h => Or.inr h)
          have hRz : T3.2.2 27 2 = some 3 := by rw [hFz.2.1]; exact hR
          have hez : T3.2.1 3 1 = 0 := (hFz.2.2 3 1 (by unfold W_tn W_rz; omega)).trans hu1
          refine am_less (by intro q hq; simp only [List.mem_cons, List.not_mem_nil, or_false] at hq; rcases hq with rfl | rfl | rfl <;> simp) (st_tail_3_0 b E cv M _ T3 hXz hRz (by omega) (zK b E 0) (zP b E 0 : Int) Q (fun r τ hτ => hQ r τ ?_))
          obtain ⟨rfl, hXt, hFt⟩ := hτ
          exact ⟨rfl, hXt, (hFz.mono (fun a j h => h.imp (fun z => ⟨z.1, z.2.1⟩) id)).trans (((frw.refl (W_ts 3) T3).setN (by unfold W_ts; omega)).trans (hFt.mono (fun a j h => Or.inr h)))⟩
  · exact absurd h47 hb.2.1
set_option maxRecDepth 100000 in
theorem c_first_days_15 (b : Nat → Int) (E : Nat) (cv : Nat → Int) (M : Nat) (σ : am_H) (hX : RY b E cv M σ (.inl 0)) (hR : σ.2.2 27 2 = some 15) (hCL : CLt 15 0 0 σ) (hK : zK b E 0 = 128) : am_met (M_X4_readStatement 0 0) [am_r 27] σ (fun r σ' => r = none ∧ RY b E cv M σ' (dyF b E (.inl 0)) ∧ ((dyF b E (.inl 0)).isLeft = true → CLt 15 (vZ b E (akF b E 0 (.inl 0))) 1 σ') ∧ frw (W_ts 15) σ σ') := by
  refine am_qq (fun Q hQ => ?_)
  refine am_enter (show plainFor yX4_readStatement = true by decide +kernel) rfl (Nat.le_of_ble_eq_true rfl) (fun _ _ _ => trivial) ?_
  have hu1 := hCL.1.2.1
  have hu2 := hCL.1.2.2 2 (by decide) (by decide)
  have hu3 := hCL.1.2.2 3 (by decide) (by decide)
  have hu4 := hCL.1.2.2 4 (by decide) (by decide)
  have hu5 := hCL.1.2.2 5 (by decide) (by decide)
  have hu8 : σ.2.1 23 1 = 0 := hCL.2.2.2.1
  have hu9 : σ.2.1 25 1 = 0 := hCL.2.2.2.2
  refine st_head_15_0 b E cv M 0 σ hX hR 128 (by exact hK) (by omega) Q (fun pA T1 hX1 hG1 hc0 => ?_)
  have hpA : pA = .inl 1 := by
    rcases hc0 with h | ⟨_, h⟩
    · exact h.1
    · rw [hu1, hu2, hu3, hu4, hu5, hu8, hu9] at h; omega
  rw [hpA] at hX1
  have hs1 : T1.2.1 15 1 = 0 := (hG1.2.2 15 1 (by unfold W_rz; omega)).trans hu1
  have hR1 : T1.2.2 27 2 = some 15 := by rw [hG1.2.1]; exact hR
  refine am_iload_n (q := 44) rfl (am_tab tk_X4_readStatement 22 rfl) rfl ?_
  refine am_sipush (q := 47) (n := 128) (by decide) rfl (am_tab tk_X4_readStatement 23 rfl) rfl ?_
  refine am_icmp_ne (q := 50) (t := 54) (am_tab tk_X4_readStatement 24 rfl) (by decide) rfl (fun h47 => ?_) (fun h47 => ?_)
  · exact absurd rfl h47
  · refine am_iconst (q := 51) (n := 1) (by decide) (am_tab tk_X4_readStatement 25 rfl) rfl ?_
    refine am_goto (t := 55) (am_tab tk_X4_readStatement 26 rfl) (by decide) ?_
    refine am_aload_n (q := 56) rfl (am_tab tk_X4_readStatement 28 rfl) rfl ?_
    refine am_getR (q := 59) (a := 27) (k := 4) (n := 13) (j := 2) (r := some (15)) (Ls_27 hX1.1) (by decide) rfl (show T1.2.2 27 2 = some 15 by rw [hG1.2.1]; exact hR) (by decide) (Or.inl kf_X4_29) (am_tab tk_X4_readStatement 29 rfl) rfl ?_
    refine am_getI (q := 62) (a := 15) (k := 8) (n := 17) (j := 1) (x := (T1.2.1 15 1)) (Ls_15 hX1.1) (by decide) rfl rfl (by decide) (Or.inr kf_X4_52) (am_tab tk_X4_readStatement 30 rfl) rfl ?_
    refine am_if_ne (q := 65) (t := 69) (am_tab tk_X4_readStatement 31 rfl) (by decide) rfl (fun h62 => ?_) (fun h62 => ?_)
    · exact absurd hs1 h62
    · refine am_iconst (q := 66) (n := 1) (by decide) (am_tab tk_X4_readStatement 32 rfl) rfl ?_
      refine am_goto (t := 70) (am_tab tk_X4_readStatement 33 rfl) (by decide) ?_
      refine am_icmp_eq (q := 73) (t := 79) (am_tab tk_X4_readStatement 35 rfl) (by decide) rfl (fun h70 => ?_) (fun h70 => ?_)
      · refine am_iload_n (q := 80) rfl (am_tab tk_X4_readStatement 40 rfl) rfl ?_
        refine am_tableIn (t := 148) (off := 68) (by omega) (by omega) rfl dsw_X4_readStatement_80 (by decide) ?_
        refine am_aload_n (q := 149) rfl (am_tab tk_X4_readStatement 42 rfl) rfl ?_
        refine am_getR (q := 152) (a := 27) (k := 4) (n := 13) (j := 2) (r := some (15)) (Ls_27 hX1.1) (by decide) rfl (show T1.2.2 27 2 = some 15 by rw [hG1.2.1]; exact hR) (by decide) (Or.inl kf_X4_29) (am_tab tk_X4_readStatement 43 rfl) rfl ?_
        refine am_aload_n (q := 153) rfl (am_tab tk_X4_readStatement 44 rfl) rfl ?_
        refine am_iconst (q := 154) (n := 5) (by decide) (am_tab tk_X4_readStatement 45 rfl) rfl ?_
        refine am_bipush (q := 156) (n := 90) (by decide) rfl (am_tab tk_X4_readStatement 46 rfl) rfl ?_
        refine am_callVr (q := 159) (me2 := M_X4_readNumber) (b := 27) (kb := 4) (nb := 13) (As := [am_i 5, am_i 90]) (rest := [am_r 15]) (c_numZ hX1 5 90) ⟨rfl, rfl⟩ (Ls_27 hX1.1) (by decide) ⟨Or.inl km_X4_111, kc_X4_readNumber, kn_X4, kd_X4_readNumber, ⟨(Nat.le_of_ble_eq_true rfl), (Nat.le_of_ble_eq_true rfl)⟩, ⟨(Nat.le_of_ble_eq_true rfl), (Nat.le_of_ble_eq_true rfl)⟩, (Nat.le_of_ble_eq_true rfl)⟩ ki_X4_readNumber ks_X4_readNumber rfl (am_tab tk_X4_readStatement 47 rfl) rfl ?_
        rintro r T2 ⟨v2, rfl, hX2, hG, hv2⟩
        have hG2 := hG1.trans hG
        refine am_putI (q := 162) (k := 8) (n := 17) (j := 0) (Ls_15 hX2.1) (by decide) rfl (by decide) (Or.inr (Or.inl ⟨kf_X4_115, rfl⟩)) (am_tab tk_X4_readStatement 48 rfl) rfl ?_
        refine am_goto (t := 280) (am_tab tk_X4_readStatement 49 rfl) (by decide) ?_
        have hXz : RY b E cv M (am_setN T2 15 0 v2) (nuF b E 5 90 (.inl 1)) := hX2.fr ((frw.refl (fun a _ => a = 15) T2).setN rfl) (fun a j h => by omega)
        have hRz : (am_setN T2 15 0 v2).2.2 27 2 = some 15 := by show T2.2.2 27 2 = _; rw [hG2.2.1]; exact hR
        have hez : (am_setN T2 15 0 v2).2.1 15 1 = 0 := (hG2.2.2 15 1 (by unfold W_rz; omega)).trans hu1
        refine am_less (by intro q hq; simp only [List.mem_cons, List.not_mem_nil, or_false] at hq; rcases hq with rfl | rfl | rfl <;> simp) (st_tail_15_0 b E cv M _ (am_setN T2 15 0 v2) hXz hRz (by omega) 128 (zP b E 0 : Int) Q (fun r τ hτ => hQ r τ ?_))
        obtain ⟨rfl, hXt, hFt⟩ := hτ
        have hak : akF b E 0 (.inl 0) = .inl 1 := if_pos hK
        have he : sgF b E 59 (nuF b E 5 90 (.inl 1)) = dyF b E (.inl 0) := by unfold dyF; rw [hak]
        rw [hez] at hFt
        have hGs : frw (W_ts 15) σ (am_setN T2 15 0 v2) := (hG2.mono (fun a j h => Or.inr h)).setN (Or.inl (by omega))
        refine ⟨rfl, by rw [← he]; exact hXt, fun hl => ?_, hGs.trans (((frw.refl (W_ts 15) (am_setN T2 15 0 v2)).setN (by unfold W_ts; omega)).trans (hFt.mono (fun a j h => Or.inr h)))⟩
        rw [← he] at hl
        have hv := hv2 (sgF_l hl)
        rw [hak, ← hv]
        exact (((hCL.fr hG2 (fun a j h => by unfold W_rz; omega)).day v2).one (0 + 1)).fr hFt (fun a j h => by unfold W_rz; omega)
      · exact absurd rfl h70
set_option maxRecDepth 100000 in
theorem c_first_bad_15 (b : Nat → Int) (E : Nat) (cv : Nat → Int) (M : Nat) (σ : am_H) (hX : RY b E cv M σ (.inl 0)) (hR : σ.2.2 27 2 = some 15) (hCL : CLt 15 0 0 σ) (hb : ¬ zK b E 0 = 6 ∧ ¬ zK b E 0 = 128 ∧ ¬ zK b E 0 = 137 ∧ ¬ zK b E 0 = 138) : am_met (M_X4_readStatement 0 0) [am_r 27] σ (fun r σ' => r = none ∧ RY b E cv M σ' (.inr (1, (zP b E 0 : Int))) ∧ frw (W_ts 15) σ σ') := by
  refine am_qq (fun Q hQ => ?_)
  refine am_enter (show plainFor yX4_readStatement = true by decide +kernel) rfl (Nat.le_of_ble_eq_true rfl) (fun _ _ _ => trivial) ?_
  have hu1 := hCL.1.2.1
  have hu2 := hCL.1.2.2 2 (by decide) (by decide)
  have hu3 := hCL.1.2.2 3 (by decide) (by decide)
  have hu4 := hCL.1.2.2 4 (by decide) (by decide)
  have hu5 := hCL.1.2.2 5 (by decide) (by decide)
  have hu8 : σ.2.1 23 1 = 0 := hCL.2.2.2.1
  have hu9 : σ.2.1 25 1 = 0 := hCL.2.2.2.2
  refine st_head_15_0 b E cv M 0 σ hX hR (zK b E 0) (by rfl) hb.1 Q (fun pA T1 hX1 hG1 hc0 => ?_)
  have hpA : pA = .inl 1 := by
    rcases hc0 with h | ⟨_, h⟩
    · exact h.1
    · rw [hu1, hu2, hu3, hu4, hu5, hu8, hu9] at h; omega
  rw [hpA] at hX1
  have hs1 : T1.2.1 15 1 = 0 := (hG1.2.2 15 1 (by unfold W_rz; omega)).trans hu1
  have hR1 : T1.2.2 27 2 = some 15 := by rw [hG1.2.1]; exact hR
  refine am_iload_n (q := 44) rfl (am_tab tk_X4_readStatement 22 rfl) rfl ?_
  refine am_sipush (q := 47) (n := 128) (by decide) rfl (am_tab tk_X4_readStatement 23 rfl) rfl ?_
  refine am_icmp_ne (q := 50) (t := 54) (am_tab tk_X4_readStatement 24 rfl) (by decide) rfl (fun h47 => ?_) (fun h47 => ?_)
  · refine am_iconst (q := 55) (n := 0) (by decide) (am_tab tk_X4_readStatement 27 rfl) rfl ?_
    refine am_aload_n (q := 56) rfl (am_tab tk_X4_readStatement 28 rfl) rfl ?_
    refine am_getR (q := 59) (a := 27) (k := 4) (n := 13) (j := 2) (r := some (15)) (Ls_27 hX1.1) (by decide) rfl (show T1.2.2 27 2 = some 15 by rw [hG1.2.1]; exact hR) (by decide) (Or.inl kf_X4_29) (am_tab tk_X4_readStatement 29 rfl) rfl ?_
    refine am_getI (q := 62) (a := 15) (k := 8) (n := 17) (j := 1) (x := (T1.2.1 15 1)) (Ls_15 hX1.1) (by decide) rfl rfl (by decide) (Or.inr kf_X4_52) (am_tab tk_X4_readStatement 30 rfl) rfl ?_
    refine am_if_ne (q := 65) (t := 69) (am_tab tk_X4_readStatement 31 rfl) (by decide) rfl (fun h62 => ?_) (fun h62 => ?_)
    · exact absurd hs1 h62
    · refine am_iconst (q := 66) (n := 1) (by decide) (am_tab tk_X4_readStatement 32 rfl) rfl ?_
      refine am_goto (t := 70) (am_tab tk_X4_readStatement 33 rfl) (by decide) ?_
      refine am_icmp_eq (q := 73) (t := 79) (am_tab tk_X4_readStatement 35 rfl) (by decide) rfl (fun h70 => ?_) (fun h70 => ?_)
      · exact absurd h70 (by decide)
      · refine am_aload_n (q := 74) rfl (am_tab tk_X4_readStatement 36 rfl) rfl ?_
        refine am_iconst (q := 75) (n := 1) (by decide) (am_tab tk_X4_readStatement 37 rfl) rfl ?_
        refine am_iload_n (q := 76) rfl (am_tab tk_X4_readStatement 38 rfl) rfl ?_
        refine am_callVr (q := 79) (me2 := M_X4_fail) (b := 27) (kb := 4) (nb := 13) (As := [am_i 1, am_i ((zP b E 0 : Int))]) (rest := []) (c_failY hX1 1 (zP b E 0 : Int) (by decide)) ⟨rfl, rfl⟩ (Ls_27 hX1.1) (by decide) ⟨Or.inl km_X4_58, kc_X4_fail, kn_X4, kd_X4_fail, ⟨(Nat.le_of_ble_eq_true rfl), (Nat.le_of_ble_eq_true rfl)⟩, ⟨(Nat.le_of_ble_eq_true rfl), (Nat.le_of_ble_eq_true rfl)⟩, (Nat.le_of_ble_eq_true rfl)⟩ ki_X4_fail ks_X4_fail rfl (am_tab tk_X4_readStatement 39 rfl) rfl ?_
        rintro r T2 ⟨rfl, hX2a, hG⟩
        have hX2 : RY b E cv M T2 (.inr (1, (zP b E 0 : Int)) : PZ) := hX2a
        have hG2 := hG1.trans hG
        have hR2 : T2.2.2 27 2 = some 15 := by rw [hG2.2.1]; exact hR
        have hn2 : T2.2.1 15 2 = ((0 : Nat) : Int) := (hG2.2.2 15 2 (by unfold W_rz; omega)).trans hu2
        have hD2 : T2.2.1 15 0 = 0 := (hG2.2.2 15 0 (by unfold W_rz; omega)).trans hCL.1.1
        have hs2 : T2.2.1 15 1 = 0 := (hG2.2.2 15 1 (by unfold W_rz; omega)).trans hu1
        refine am_iload_n (q := 80) rfl (am_tab tk_X4_readStatement 40 rfl) rfl ?_
        rcases (show (zK b E 0) = 128 ∨ (zK b E 0) = 129 ∨ (zK b E 0) = 130 ∨ (zK b E 0) = 131 ∨ (zK b E 0) = 132 ∨ (zK b E 0) = 133 ∨ (zK b E 0) = 134 ∨ (zK b E 0) = 135 ∨ (zK b E 0) = 136 ∨ (zK b E 0) = 137 ∨ (zK b E 0) = 138 ∨ (zK b E 0) = 139 ∨ (zK b E 0) = 140 ∨ ((zK b E 0) < 128 ∨ 140 < (zK b E 0)) by omega) with e80 | e80 | e80 | e80 | e80 | e80 | e80 | e80 | e80 | e80 | e80 | e80 | e80 | e80
        · refine am_tableIn (t := 148) (off := 68) (by omega) (by omega) (by rw [e80]; rfl) dsw_X4_readStatement_80 (by decide) ?_
          exact absurd e80 (by omega)
        · refine am_tableIn (t := 165) (off := 85) (by omega) (by omega) (by rw [e80]; rfl) dsw_X4_readStatement_80 (by decide) ?_
          refine am_aload_n (q := 166) rfl (am_tab tk_X4_readStatement 50 rfl) rfl ?_
          refine am_callVr (q := 169) (me2 := M_X4_readPerson) (b := 27) (kb := 4) (nb := 13) (As := []) (rest := []) (c_readPerson_15 b E cv M (.inr (1, (zP b E 0 : Int)) : PZ) T2 σ hX2 hR2 0 hn2 (by decide) 0 hD2 trivial (fun z => absurd z (by simp))) ⟨rfl, rfl⟩ (Ls_27 hX2.1) (by decide) ⟨Or.inl km_X4_118, kc_X4_readPerson, kn_X4, kd_X4_readPerson, ⟨(Nat.le_of_ble_eq_true rfl), (Nat.le_of_ble_eq_true rfl)⟩, ⟨(Nat.le_of_ble_eq_true rfl), (Nat.le_of_ble_eq_true rfl)⟩, (Nat.le_of_ble_eq_true rfl)⟩ ki_X4_readPerson ks_X4_readPerson rfl (am_tab tk_X4_readStatement 51 rfl) rfl ?_
          rintro r T3 ⟨rfl, hX3, _, hF3⟩
          have hXz : RY b E cv M T3 (.inr (1, (zP b E 0 : Int)) : PZ) := hX3
          refine am_goto (t := 280) (am_tab tk_X4_readStatement 52 rfl) (by decide) ?_
          have hFz : frw (W_tn 15) σ T3 := (hG2.mono (fun a j h => Or.inr h)).trans hF3
          have hRz : T3.2.2 27 2 = some 15 := by rw [hFz.2.1]; exact hR
          have hez : T3.2.1 15 1 = 0 := (hFz.2.2 15 1 (by unfold W_tn W_rz; omega)).trans hu1
          refine am_less (by intro q hq; simp only [List.mem_cons, List.not_mem_nil, or_false] at hq; rcases hq with rfl | rfl | rfl <;> simp) (st_tail_15_0 b E cv M _ T3 hXz hRz (by omega) (zK b E 0) (zP b E 0 : Int) Q (fun r τ hτ => hQ r τ ?_))
          obtain ⟨rfl, hXt, hFt⟩ := hτ
          exact ⟨rfl, hXt, (hFz.mono (fun a j h => h.imp (fun z => ⟨z.1, z.2.1⟩) id)).trans (((frw.refl (W_ts 15) T3).setN (by unfold W_ts; omega)).trans (hFt.mono (fun a j h => Or.inr h)))⟩
        · refine am_tableIn (t := 274) (off := 194) (by omega) (by omega) (by rw [e80]; rfl) dsw_X4_readStatement_80 (by decide) ?_
          refine am_aload_n (q := 275) rfl (am_tab tk_X4_readStatement 100 rfl) rfl ?_
          refine am_iconst (q := 276) (n := 1) (by decide) (am_tab tk_X4_readStatement 101 rfl) rfl ?_
          refine am_iload_n (q := 277) rfl (am_tab tk_X4_readStatement 102 rfl) rfl ?_
          refine am_callVr (q := 280) (me2 := M_X4_fail) (b := 27) (kb := 4) (nb := 13) (As := [am_i 1, am_i ((zP b E 0 : Int))]) (rest := []) (c_failY hX2 1 (zP b E 0 : Int) (by decide)) ⟨rfl, rfl⟩ (Ls_27 hX2.1) (by decide) ⟨Or.inl km_X4_58, kc_X4_fail, kn_X4, kd_X4_fail, ⟨(Nat.le_of_ble_eq_true rfl), (Nat.le_of_ble_eq_true rfl)⟩, ⟨(Nat.le_of_ble_eq_true rfl), (Nat.le_of_ble_eq_true rfl)⟩, (Nat.le_of_ble_eq_true rfl)⟩ ki_X4_fail ks_X4_fail rfl (am_tab tk_X4_readStatement 103 rfl) rfl ?_
          rintro r T3 ⟨rfl, hX3, hG⟩
          have hG3 := hG2.trans hG
          have hXz : RY b E cv M T3 (.inr (1, (zP b E 0 : Int)) : PZ) := hX3
          have hFz : frw (W_tn 15) σ T3 := hG3.mono (fun a j h => Or.inr h)
          have hRz : T3.2.2 27 2 = some 15 := by rw [hFz.2.1]; exact hR
          have hez : T3.2.1 15 1 = 0 := (hFz.2.2 15 1 (by unfold W_tn W_rz; omega)).trans hu1
          refine am_less (by intro q hq; simp only [List.mem_cons, List.not_mem_nil, or_false] at hq; rcases hq with rfl | rfl | rfl <;> simp) (st_tail_15_0 b E cv M _ T3 hXz hRz (by omega) (zK b E 0) (zP b E 0 : Int) Q (fun r τ hτ => hQ r τ ?_))
          obtain ⟨rfl, hXt, hFt⟩ := hτ
          exact ⟨rfl, hXt, (hFz.mono (fun a j h => h.imp (fun z => ⟨z.1, z.2.1⟩) id)).trans (((frw.refl (W_ts 15) T3).setN (by unfold W_ts; omega)).trans (hFt.mono (fun a j h => Or.inr h)))⟩
        · refine am_tableIn (t := 274) (off := 194) (by omega) (by omega) (by rw [e80]; rfl) dsw_X4_readStatement_80 (by decide) ?_
          refine am_aload_n (q := 275) rfl (am_tab tk_X4_readStatement 100 rfl) rfl ?_
          refine am_iconst (q := 276) (n := 1) (by decide) (am_tab tk_X4_readStatement 101 rfl) rfl ?_
          refine am_iload_n (q := 277) rfl (am_tab tk_X4_readStatement 102 rfl) rfl ?_
          refine am_callVr (q := 280) (me2 := M_X4_fail) (b := 27) (kb := 4) (nb := 13) (As := [am_i 1, am_i ((zP b E 0 : Int))]) (rest := []) (c_failY hX2 1 (zP b E 0 : Int) (by decide)) ⟨rfl, rfl⟩ (Ls_27 hX2.1) (by decide) ⟨Or.inl km_X4_58, kc_X4_fail, kn_X4, kd_X4_fail, ⟨(Nat.le_of_ble_eq_true rfl), (Nat.le_of_ble_eq_true rfl)⟩, ⟨(Nat.le_of_ble_eq_true rfl), (Nat.le_of_ble_eq_true rfl)⟩, (Nat.le_of_ble_eq_true rfl)⟩ ki_X4_fail ks_X4_fail rfl (am_tab tk_X4_readStatement 103 rfl) rfl ?_
          rintro r T3 ⟨rfl, hX3, hG⟩
          have hG3 := hG2.trans hG
          have hXz : RY b E cv M T3 (.inr (1, (zP b E 0 : Int)) : PZ) := hX3
          have hFz : frw (W_tn 15) σ T3 := hG3.mono (fun a j h => Or.inr h)
          have hRz : T3.2.2 27 2 = some 15 := by rw [hFz.2.1]; exact hR
          have hez : T3.2.1 15 1 = 0 := (hFz.2.2 15 1 (by unfold W_tn W_rz; omega)).trans hu1
          refine am_less (by intro q hq; simp only [List.mem_cons, List.not_mem_nil, or_false] at hq; rcases hq with rfl | rfl | rfl <;> simp) (st_tail_15_0 b E cv M _ T3 hXz hRz (by omega) (zK b E 0) (zP b E 0 : Int) Q (fun r τ hτ => hQ r τ ?_))
          obtain ⟨rfl, hXt, hFt⟩ := hτ
          exact ⟨rfl, hXt, (hFz.mono (fun a j h => h.imp (fun z => ⟨z.1, z.2.1⟩) id)).trans (((frw.refl (W_ts 15) T3).setN (by unfold W_ts; omega)).trans (hFt.mono (fun a j h => Or.inr h)))⟩
        · refine am_tableIn (t := 172) (off := 92) (by omega) (by omega) (by rw [e80]; rfl) dsw_X4_readStatement_80 (by decide) ?_
          refine am_aload_n (q := 173) rfl (am_tab tk_X4_readStatement 53 rfl) rfl ?_
          refine am_callVr (q := 176) (me2 := M_X4_readTold) (b := 27) (kb := 4) (nb := 13) (As := []) (rest := []) (c_readTold_15 b E cv M (.inr (1, (zP b E 0 : Int)) : PZ) T2 σ hX2 hR2 0 hn2 (by decide) 0 hD2 trivial (by decide) (fun z => absurd z (by simp))) ⟨rfl, rfl⟩ (Ls_27 hX2.1) (by decide) ⟨Or.inl km_X4_121, kc_X4_readTold, kn_X4, kd_X4_readTold, ⟨(Nat.le_of_ble_eq_true rfl), (Nat.le_of_ble_eq_true rfl)⟩, ⟨(Nat.le_of_ble_eq_true rfl), (Nat.le_of_ble_eq_true rfl)⟩, (Nat.le_of_ble_eq_true rfl)⟩ ki_X4_readTold ks_X4_readTold rfl (am_tab tk_X4_readStatement 54 rfl) rfl ?_
          rintro r T3 ⟨rfl, hX3, _, hF3⟩
          have hXz : RY b E cv M T3 (.inr (1, (zP b E 0 : Int)) : PZ) := hX3
          refine am_goto (t := 280) (am_tab tk_X4_readStatement 55 rfl) (by decide) ?_
          have hFz : frw (W_tn 15) σ T3 := (hG2.mono (fun a j h => Or.inr h)).trans hF3
          have hRz : T3.2.2 27 2 = some 15 := by rw [hFz.2.1]; exact hR
          have hez : T3.2.1 15 1 = 0 := (hFz.2.2 15 1 (by unfold W_tn W_rz; omega)).trans hu1
          refine am_less (by intro q hq; simp only [List.mem_cons, List.not_mem_nil, or_false] at hq; rcases hq with rfl | rfl | rfl <;> simp) (st_tail_15_0 b E cv M _ T3 hXz hRz (by omega) (zK b E 0) (zP b E 0 : Int) Q (fun r τ hτ => hQ r τ ?_))
          obtain ⟨rfl, hXt, hFt⟩ := hτ
          exact ⟨rfl, hXt, (hFz.mono (fun a j h => h.imp (fun z => ⟨z.1, z.2.1⟩) id)).trans (((frw.refl (W_ts 15) T3).setN (by unfold W_ts; omega)).trans (hFt.mono (fun a j h => Or.inr h)))⟩
        · refine am_tableIn (t := 274) (off := 194) (by omega) (by omega) (by rw [e80]; rfl) dsw_X4_readStatement_80 (by decide) ?_
          refine am_aload_n (q := 275) rfl (am_tab tk_X4_readStatement 100 rfl) rfl ?_
          refine am_iconst (q := 276) (n := 1) (by decide) (am_tab tk_X4_readStatement 101 rfl) rfl ?_
          refine am_iload_n (q := 277) rfl (am_tab tk_X4_readStatement 102 rfl) rfl ?_
          refine am_callVr (q := 280) (me2 := M_X4_fail) (b := 27) (kb := 4) (nb := 13) (As := [am_i 1, am_i ((zP b E 0 : Int))]) (rest := []) (c_failY hX2 1 (zP b E 0 : Int) (by decide)) ⟨rfl, rfl⟩ (Ls_27 hX2.1) (by decide) ⟨Or.inl km_X4_58, kc_X4_fail, kn_X4, kd_X4_fail, ⟨(Nat.le_of_ble_eq_true rfl), (Nat.le_of_ble_eq_true rfl)⟩, ⟨(Nat.le_of_ble_eq_true rfl), (Nat.le_of_ble_eq_true rfl)⟩, (Nat.le_of_ble_eq_true rfl)⟩ ki_X4_fail ks_X4_fail rfl (am_tab tk_X4_readStatement 103 rfl) rfl ?_
          rintro r T3 ⟨rfl, hX3, hG⟩
          have hG3 := hG2.trans hG
          have hXz : RY b E cv M T3 (.inr (1, (zP b E 0 : Int)) : PZ) := hX3
          have hFz : frw (W_tn 15) σ T3 := hG3.mono (fun a j h => Or.inr h)
          have hRz : T3.2.2 27 2 = some 15 := by rw [hFz.2.1]; exact hR
          have hez : T3.2.1 15 1 = 0 := (hFz.2.2 15 1 (by unfold W_tn W_rz; omega)).trans hu1
          refine am_less (by intro q hq; simp only [List.mem_cons, List.not_mem_nil, or_false] at hq; rcases hq with rfl | rfl | rfl <;> simp) (st_tail_15_0 b E cv M _ T3 hXz hRz (by omega) (zK b E 0) (zP b E 0 : Int) Q (fun r τ hτ => hQ r τ ?_))
          obtain ⟨rfl, hXt, hFt⟩ := hτ
          exact ⟨rfl, hXt, (hFz.mono (fun a j h => h.imp (fun z => ⟨z.1, z.2.1⟩) id)).trans (((frw.refl (W_ts 15) T3).setN (by unfold W_ts; omega)).trans (hFt.mono (fun a j h => Or.inr h)))⟩
        · refine am_tableIn (t := 179) (off := 99) (by omega) (by omega) (by rw [e80]; rfl) dsw_X4_readStatement_80 (by decide) ?_
          refine am_aload_n (q := 180) rfl (am_tab tk_X4_readStatement 56 rfl) rfl ?_
          refine am_callVr (q := 183) (me2 := M_X4_readReminds) (b := 27) (kb := 4) (nb := 13) (As := []) (rest := []) (c_readReminds_15 b E cv M (.inr (1, (zP b E 0 : Int)) : PZ) T2 σ hX2 hR2 0 hn2 (by decide) 0 hD2 trivial (fun z => absurd z (by simp))) ⟨rfl, rfl⟩ (Ls_27 hX2.1) (by decide) ⟨Or.inl km_X4_124, kc_X4_readReminds, kn_X4, kd_X4_readReminds, ⟨(Nat.le_of_ble_eq_true rfl), (Nat.le_of_ble_eq_true rfl)⟩, ⟨(Nat.le_of_ble_eq_true rfl), (Nat.le_of_ble_eq_true rfl)⟩, (Nat.le_of_ble_eq_true rfl)⟩ ki_X4_readReminds ks_X4_readReminds rfl (am_tab tk_X4_readStatement 57 rfl) rfl ?_
          rintro r T3 ⟨rfl, hX3, _, hF3⟩
          have hXz : RY b E cv M T3 (.inr (1, (zP b E 0 : Int)) : PZ) := hX3
          refine am_goto (t := 280) (am_tab tk_X4_readStatement 58 rfl) (by decide) ?_
          have hFz : frw (W_tn 15) σ T3 := (hG2.mono (fun a j h => Or.inr h)).trans hF3
          have hRz : T3.2.2 27 2 = some 15 := by rw [hFz.2.1]; exact hR
          have hez : T3.2.1 15 1 = 0 := (hFz.2.2 15 1 (by unfold W_tn W_rz; omega)).trans hu1
          refine am_less (by intro q hq; simp only [List.mem_cons, List.not_mem_nil, or_false] at hq; rcases hq with rfl | rfl | rfl <;> simp) (st_tail_15_0 b E cv M _ T3 hXz hRz (by omega) (zK b E 0) (zP b E 0 : Int) Q (fun r τ hτ => hQ r τ ?_))
          obtain ⟨rfl, hXt, hFt⟩ := hτ
          exact ⟨rfl, hXt, (hFz.mono (fun a j h => h.imp (fun z => ⟨z.1, z.2.1⟩) id)).trans (((frw.refl (W_ts 15) T3).setN (by unfold W_ts; omega)).trans (hFt.mono (fun a j h => Or.inr h)))⟩
        · refine am_tableIn (t := 186) (off := 106) (by omega) (by omega) (by rw [e80]; rfl) dsw_X4_readStatement_80 (by decide) ?_
          refine am_aload_n (q := 187) rfl (am_tab tk_X4_readStatement 59 rfl) rfl ?_
          refine am_callVr (q := 190) (me2 := M_X4_readFrost) (b := 27) (kb := 4) (nb := 13) (As := []) (rest := []) (c_readFrost_15 b E cv M (.inr (1, (zP b E 0 : Int)) : PZ) T2 σ hX2 hR2 0 hn2 (by decide) 0 hD2 trivial (by decide) (fun z => absurd z (by simp))) ⟨rfl, rfl⟩ (Ls_27 hX2.1) (by decide) ⟨Or.inl km_X4_127, kc_X4_readFrost, kn_X4, kd_X4_readFrost, ⟨(Nat.le_of_ble_eq_true rfl), (Nat.le_of_ble_eq_true rfl)⟩, ⟨(Nat.le_of_ble_eq_true rfl), (Nat.le_of_ble_eq_true rfl)⟩, (Nat.le_of_ble_eq_true rfl)⟩ ki_X4_readFrost ks_X4_readFrost rfl (am_tab tk_X4_readStatement 60 rfl) rfl ?_
          rintro r T3 ⟨rfl, hX3, _, hF3⟩
          have hXz : RY b E cv M T3 (.inr (1, (zP b E 0 : Int)) : PZ) := hX3
          refine am_goto (t := 280) (am_tab tk_X4_readStatement 61 rfl) (by decide) ?_
          have hFz : frw (W_tn 15) σ T3 := (hG2.mono (fun a j h => Or.inr h)).trans hF3
          have hRz : T3.2.2 27 2 = some 15 := by rw [hFz.2.1]; exact hR
          have hez : T3.2.1 15 1 = 0 := (hFz.2.2 15 1 (by unfold W_tn W_rz; omega)).trans hu1
          refine am_less (by intro q hq; simp only [List.mem_cons, List.not_mem_nil, or_false] at hq; rcases hq with rfl | rfl | rfl <;> simp) (st_tail_15_0 b E cv M _ T3 hXz hRz (by omega) (zK b E 0) (zP b E 0 : Int) Q (fun r τ hτ => hQ r τ ?_))
          obtain ⟨rfl, hXt, hFt⟩ := hτ
          exact ⟨rfl, hXt, (hFz.mono (fun a j h => h.imp (fun z => ⟨z.1, z.2.1⟩) id)).trans (((frw.refl (W_ts 15) T3).setN (by unfold W_ts; omega)).trans (hFt.mono (fun a j h => Or.inr h)))⟩
        · refine am_tableIn (t := 274) (off := 194) (by omega) (by omega) (by rw [e80]; rfl) dsw_X4_readStatement_80 (by decide) ?_
          refine am_aload_n (q := 275) rfl (am_tab tk_X4_readStatement 100 rfl) rfl ?_
          refine am_iconst (q := 276) (n := 1) (by decide) (am_tab tk_X4_readStatement 101 rfl) rfl ?_
          refine am_iload_n (q := 277) rfl (am_tab tk_X4_readStatement 102 rfl) rfl ?_
          refine am_callVr (q := 280) (me2 := M_X4_fail) (b := 27) (kb := 4) (nb := 13) (As := [am_i 1, am_i ((zP b E 0 : Int))]) (rest := []) (c_failY hX2 1 (zP b E 0 : Int) (by decide)) ⟨rfl, rfl⟩ (Ls_27 hX2.1) (by decide) ⟨Or.inl km_X4_58, kc_X4_fail, kn_X4, kd_X4_fail, ⟨(Nat.le_of_ble_eq_true rfl), (Nat.le_of_ble_eq_true rfl)⟩, ⟨(Nat.le_of_ble_eq_true rfl), (Nat.le_of_ble_eq_true rfl)⟩, (Nat.le_of_ble_eq_true rfl)⟩ ki_X4_fail ks_X4_fail rfl (am_tab tk_X4_readStatement 103 rfl) rfl ?_
          rintro r T3 ⟨rfl, hX3, hG⟩
          have hG3 := hG2.trans hG
          have hXz : RY b E cv M T3 (.inr (1, (zP b E 0 : Int)) : PZ) := hX3
          have hFz : frw (W_tn 15) σ T3 := hG3.mono (fun a j h => Or.inr h)
          have hRz : T3.2.2 27 2 = some 15 := by rw [hFz.2.1]; exact hR
          have hez : T3.2.1 15 1 = 0 := (hFz.2.2 15 1 (by unfold W_tn W_rz; omega)).trans hu1
          refine am_less (by intro q hq; simp only [List.mem_cons, List.not_mem_nil, or_false] at hq; rcases hq with rfl | rfl | rfl <;> simp) (st_tail_15_0 b E cv M _ T3 hXz hRz (by omega) (zK b E 0) (zP b E 0 : Int) Q (fun r τ hτ => hQ r τ ?_))
          obtain ⟨rfl, hXt, hFt⟩ := hτ
          exact ⟨rfl, hXt, (hFz.mono (fun a j h => h.imp (fun z => ⟨z.1, z.2.1⟩) id)).trans (((frw.refl (W_ts 15) T3).setN (by unfold W_ts; omega)).trans (hFt.mono (fun a j h => Or.inr h)))⟩
        · refine am_tableIn (t := 193) (off := 113) (by omega) (by omega) (by rw [e80]; rfl) dsw_X4_readStatement_80 (by decide) ?_
          exact absurd e80 (by omega)
        · refine am_tableIn (t := 193) (off := 113) (by omega) (by omega) (by rw [e80]; rfl) dsw_X4_readStatement_80 (by decide) ?_
          exact absurd e80 (by omega)
        · refine am_tableIn (t := 239) (off := 159) (by omega) (by omega) (by rw [e80]; rfl) dsw_X4_readStatement_80 (by decide) ?_
          refine am_aload_n (q := 240) rfl (am_tab tk_X4_readStatement 84 rfl) rfl ?_
          refine am_getR (q := 243) (a := 27) (k := 4) (n := 13) (j := 2) (r := some (15)) (Ls_27 hX2.1) (by decide) rfl hR2 (by decide) (Or.inl kf_X4_29) (am_tab tk_X4_readStatement 85 rfl) rfl ?_
          refine am_aload_n (q := 244) rfl (am_tab tk_X4_readStatement 86 rfl) rfl ?_
          refine am_iconst (q := 245) (n := 0) (by decide) (am_tab tk_X4_readStatement 87 rfl) rfl ?_
          refine am_bipush (q := 247) (n := 100) (by decide) rfl (am_tab tk_X4_readStatement 88 rfl) rfl ?_
          refine am_callVr (q := 250) (me2 := M_X4_readNumber) (b := 27) (kb := 4) (nb := 13) (As := [am_i 0, am_i 100]) (rest := [am_r 15]) (c_numZ hX2 0 100) ⟨rfl, rfl⟩ (Ls_27 hX2.1) (by decide) ⟨Or.inl km_X4_111, kc_X4_readNumber, kn_X4, kd_X4_readNumber, ⟨(Nat.le_of_ble_eq_true rfl), (Nat.le_of_ble_eq_true rfl)⟩, ⟨(Nat.le_of_ble_eq_true rfl), (Nat.le_of_ble_eq_true rfl)⟩, (Nat.le_of_ble_eq_true rfl)⟩ ki_X4_readNumber ks_X4_readNumber rfl (am_tab tk_X4_readStatement 89 rfl) rfl ?_
          rintro r T3 ⟨v3, rfl, hX3, hG, hv3⟩
          have hG3 := hG2.trans hG
          have hXz : RY b E cv M (am_setN T3 15 6 v3) (.inr (1, (zP b E 0 : Int)) : PZ) := hX3.fr ((frw.refl (fun a _ => a = 15) T3).setN rfl) (fun a j h => by omega)
          refine am_putI (q := 253) (k := 8) (n := 17) (j := 6) (Ls_15 hX3.1) (by decide) rfl (by decide) (Or.inr (Or.inl ⟨kf_X4_141, rfl⟩)) (am_tab tk_X4_readStatement 90 rfl) rfl ?_
          refine am_goto (t := 280) (am_tab tk_X4_readStatement 91 rfl) (by decide) ?_
          have hFz : frw (W_tn 15) σ (am_setN T3 15 6 v3) := ((hG3.mono (fun a j h => Or.inr h)).setN (Or.inl (by omega)))
          have hRz : (am_setN T3 15 6 v3).2.2 27 2 = some 15 := by rw [hFz.2.1]; exact hR
          have hez : (am_setN T3 15 6 v3).2.1 15 1 = 0 := (hFz.2.2 15 1 (by unfold W_tn W_rz; omega)).trans hu1
          refine am_less (by intro q hq; simp only [List.mem_cons, List.not_mem_nil, or_false] at hq; rcases hq with rfl | rfl | rfl <;> simp) (st_tail_15_0 b E cv M _ (am_setN T3 15 6 v3) hXz hRz (by omega) (zK b E 0) (zP b E 0 : Int) Q (fun r τ hτ => hQ r τ ?_))
          obtain ⟨rfl, hXt, hFt⟩ := hτ
          exact ⟨rfl, hXt, (hFz.mono (fun a j h => h.imp (fun z => ⟨z.1, z.2.1⟩) id)).trans (((frw.refl (W_ts 15) (am_setN T3 15 6 v3)).setN (by unfold W_ts; omega)).trans (hFt.mono (fun a j h => Or.inr h)))⟩
        · refine am_tableIn (t := 256) (off := 176) (by omega) (by omega) (by rw [e80]; rfl) dsw_X4_readStatement_80 (by decide) ?_
          refine am_aload_n (q := 257) rfl (am_tab tk_X4_readStatement 92 rfl) rfl ?_
          refine am_getR (q := 260) (a := 27) (k := 4) (n := 13) (j := 2) (r := some (15)) (Ls_27 hX2.1) (by decide) rfl hR2 (by decide) (Or.inl kf_X4_29) (am_tab tk_X4_readStatement 93 rfl) rfl ?_
          refine am_aload_n (q := 261) rfl (am_tab tk_X4_readStatement 94 rfl) rfl ?_
          refine am_iconst (q := 262) (n := 0) (by decide) (am_tab tk_X4_readStatement 95 rfl) rfl ?_
          refine am_sipush (q := 265) (n := 1000) (by decide) rfl (am_tab tk_X4_readStatement 96 rfl) rfl ?_
          refine am_callVr (q := 268) (me2 := M_X4_readNumber) (b := 27) (kb := 4) (nb := 13) (As := [am_i 0, am_i 1000]) (rest := [am_r 15]) (c_numZ hX2 0 1000) ⟨rfl, rfl⟩ (Ls_27 hX2.1) (by decide) ⟨Or.inl km_X4_111, kc_X4_readNumber, kn_X4, kd_X4_readNumber, ⟨(Nat.le_of_ble_eq_true rfl), (Nat.le_of_ble_eq_true rfl)⟩, ⟨(Nat.le_of_ble_eq_true rfl), (Nat.le_of_ble_eq_true rfl)⟩, (Nat.le_of_ble_eq_true rfl)⟩ ki_X4_readNumber ks_X4_readNumber rfl (am_tab tk_X4_readStatement 97 rfl) rfl ?_
          rintro r T3 ⟨v3, rfl, hX3, hG, hv3⟩
          have hG3 := hG2.trans hG
          have hXz : RY b E cv M (am_setN T3 15 7 v3) (.inr (1, (zP b E 0 : Int)) : PZ) := hX3.fr ((frw.refl (fun a _ => a = 15) T3).setN rfl) (fun a j h => by omega)
          refine am_putI (q := 271) (k := 8) (n := 17) (j := 7) (Ls_15 hX3.1) (by decide) rfl (by decide) (Or.inr (Or.inl ⟨kf_X4_144, rfl⟩)) (am_tab tk_X4_readStatement 98 rfl) rfl ?_
          refine am_goto (t := 280) (am_tab tk_X4_readStatement 99 rfl) (by decide) ?_
          have hFz : frw (W_tn 15) σ (am_setN T3 15 7 v3) := ((hG3.mono (fun a j h => Or.inr h)).setN (Or.inl (by omega)))
          have hRz : (am_setN T3 15 7 v3).2.2 27 2 = some 15 := by rw [hFz.2.1]; exact hR
          have hez : (am_setN T3 15 7 v3).2.1 15 1 = 0 := (hFz.2.2 15 1 (by unfold W_tn W_rz; omega)).trans hu1
          refine am_less (by intro q hq; simp only [List.mem_cons, List.not_mem_nil, or_false] at hq; rcases hq with rfl | rfl | rfl <;> simp) (st_tail_15_0 b E cv M _ (am_setN T3 15 7 v3) hXz hRz (by omega) (zK b E 0) (zP b E 0 : Int) Q (fun r τ hτ => hQ r τ ?_))
          obtain ⟨rfl, hXt, hFt⟩ := hτ
          exact ⟨rfl, hXt, (hFz.mono (fun a j h => h.imp (fun z => ⟨z.1, z.2.1⟩) id)).trans (((frw.refl (W_ts 15) (am_setN T3 15 7 v3)).setN (by unfold W_ts; omega)).trans (hFt.mono (fun a j h => Or.inr h)))⟩
        · refine am_tableOut (t := 274) e80 dsw_X4_readStatement_80 (by decide) ?_
          refine am_aload_n (q := 275) rfl (am_tab tk_X4_readStatement 100 rfl) rfl ?_
          refine am_iconst (q := 276) (n := 1) (by decide) (am_tab tk_X4_readStatement 101 rfl) rfl ?_
          refine am_iload_n (q := 277) rfl (am_tab tk_X4_readStatement 102 rfl) rfl ?_
          refine am_callVr (q := 280) (me2 := M_X4_fail) (b := 27) (kb := 4) (nb := 13) (As := [am_i 1, am_i ((zP b E 0 : Int))]) (rest := []) (c_failY hX2 1 (zP b E 0 : Int) (by decide)) ⟨rfl, rfl⟩ (Ls_27 hX2.1) (by decide) ⟨Or.inl km_X4_58, kc_X4_fail, kn_X4, kd_X4_fail, ⟨(Nat.le_of_ble_eq_true rfl), (Nat.le_of_ble_eq_true rfl)⟩, ⟨(Nat.le_of_ble_eq_true rfl), (Nat.le_of_ble_eq_true rfl)⟩, (Nat.le_of_ble_eq_true rfl)⟩ ki_X4_fail ks_X4_fail rfl (am_tab tk_X4_readStatement 103 rfl) rfl ?_
          rintro r T3 ⟨rfl, hX3, hG⟩
          have hG3 := hG2.trans hG
          have hXz : RY b E cv M T3 (.inr (1, (zP b E 0 : Int)) : PZ) := hX3
          have hFz : frw (W_tn 15) σ T3 := hG3.mono (fun a j h => Or.inr h)
          have hRz : T3.2.2 27 2 = some 15 := by rw [hFz.2.1]; exact hR
          have hez : T3.2.1 15 1 = 0 := (hFz.2.2 15 1 (by unfold W_tn W_rz; omega)).trans hu1
          refine am_less (by intro q hq; simp only [List.mem_cons, List.not_mem_nil, or_false] at hq; rcases hq with rfl | rfl | rfl <;> simp) (st_tail_15_0 b E cv M _ T3 hXz hRz (by omega) (zK b E 0) (zP b E 0 : Int) Q (fun r τ hτ => hQ r τ ?_))
          obtain ⟨rfl, hXt, hFt⟩ := hτ
          exact ⟨rfl, hXt, (hFz.mono (fun a j h => h.imp (fun z => ⟨z.1, z.2.1⟩) id)).trans (((frw.refl (W_ts 15) T3).setN (by unfold W_ts; omega)).trans (hFt.mono (fun a j h => Or.inr h)))⟩
  · exact absurd h47 hb.2.1
