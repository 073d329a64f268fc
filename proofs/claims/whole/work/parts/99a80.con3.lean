theorem RWr_0 {l : Nat} {S : am_H} {g : Nat → Int} (h9 : S.2.1 l 9 = 0) (h10 : S.2.1 l 10 = 0) (hg : g 202 = 0) : RWr l S g := ⟨by omega, by rw [h10, hg], fun k hk => by rw [hg] at hk; omega⟩
def W_onC (a j : Nat) : Prop := (32 ≤ a ∧ a ≤ 41) ∨ (a = 1 ∧ j = 1) ∨ (a = 42 ∧ j = 2)
def W_onD (a j : Nat) : Prop := (37 ≤ a ∧ a ≤ 41) ∨ (a = 1 ∧ j = 1) ∨ (a = 54 ∧ j = 5)
theorem li37_C {S T : am_H} (h : frw (W_li 37) S T) : frw W_onC S T := h.mono (fun a j z => by unfold W_li at z; unfold W_onC; omega)
theorem li37_D {S T : am_H} (h : frw (W_li 37) S T) : frw W_onD S T := h.mono (fun a j z => by unfold W_li at z; unfold W_onD; omega)
theorem li32_C {S T : am_H} (h : frw (W_li 32) S T) : frw W_onC S T := h.mono (fun a j z => by unfold W_li at z; unfold W_onC; omega)
set_option maxRecDepth 100000 in
theorem c_on_3 (σ : am_H) (hC : CI 3 σ)  (hT11 : σ.2.1 1 1 = σ.2.1 55 1) (hTb : ∀ j, σ.2.1 2 j = σ.2.1 56 j) (hTR : TPR σ) (hE : EXT σ) (h59 : ¬ σ.2.1 55 52 = 0 ↔ 0 < σ.2.1 85 9) (hr : 0 ≤ σ.2.1 54 5 ∧ σ.2.1 54 5 ≤ 100000) : am_met M_X9_on [am_r 0] σ (fun r σ' => (iiC σ (σ.2.1 55 1) = true ∧ r = some (am_i 1) ∧ LF0 32 σ' (onN σ) ∧ RWr 32 σ' (onN σ) ∧ σ'.2.1 1 1 = 0 ∧ σ'.2.1 42 2 = 0 ∧ frw W_onC σ σ') ∨ (iiC σ (σ.2.1 55 1) = false ∧ r = some (am_i 0) ∧ σ'.2.1 1 1 = 0 ∧ σ'.2.1 54 5 = σ.2.1 54 5 + 1 ∧ frw W_onD σ σ')) := by
  refine am_qq (fun Q hQ => ?_)
  refine am_enter (show plainFor yX9_on = true by decide +kernel) rfl (Nat.le_of_ble_eq_true rfl) (fun _ _ _ => trivial) ?_
  have hL := hC.G.L
  by_cases ii : iiC σ (σ.2.1 55 1) = true
  · refine am_aload_n (q := 1) rfl (am_tab tk_X9_on 0 rfl) rfl ?_
    refine am_getR (q := 4) (a := 0) (k := 9) (n := 17) (j := 2) (r := some (3)) (Ls_0 hL) (by decide) rfl hC.t (by decide) (Or.inl kf_X9_19) (am_tab tk_X9_on 1 rfl) rfl ?_
    refine am_getI (q := 7) (a := 3) (k := 8) (n := 17) (j := 0) (x := (σ.2.1 85 9)) (Ls_3 hL) (by decide) rfl hC.W.days (by decide) (Or.inr kf_X9_123) (am_tab tk_X9_on 2 rfl) rfl ?_
    refine am_if_le (q := 10) (t := 32) (am_tab tk_X9_on 3 rfl) (by decide) rfl (fun h7 => ?_) (fun h7 => ?_)
    · exact absurd (h59.mp (iiC_iff.mp ii).1.1) (by omega)
    · refine am_aload_n (q := 11) rfl (am_tab tk_X9_on 4 rfl) rfl ?_
      refine am_getR (q := 14) (a := 0) (k := 9) (n := 17) (j := 0) (r := some (1)) (Ls_0 hL) (by decide) rfl (Lr_0_0 hL) (by decide) (Or.inl kf_X9_12) (am_tab tk_X9_on 5 rfl) rfl ?_
      refine am_aload_n (q := 15) rfl (am_tab tk_X9_on 6 rfl) rfl ?_
      refine am_getR (q := 18) (a := 0) (k := 9) (n := 17) (j := 2) (r := some (3)) (Ls_0 hL) (by decide) rfl hC.t (by decide) (Or.inl kf_X9_19) (am_tab tk_X9_on 7 rfl) rfl ?_
      refine am_aload_n (q := 19) rfl (am_tab tk_X9_on 8 rfl) rfl ?_
      refine am_getR (q := 22) (a := 0) (k := 9) (n := 17) (j := 5) (r := some (37)) (Ls_0 hL) (by decide) rfl (Lr_0_5 hL) (by decide) (Or.inl kf_X9_42) (am_tab tk_X9_on 9 rfl) rfl ?_
      refine am_callSr (q := 25) (me2 := M_X3_readInto) (As := [am_r 1, am_r 3, am_r 37]) (rest := []) (c_readInto_3 σ hC hT11 hTb hTR hE (h59.mpr (by omega))) ⟨rfl, rfl⟩ ⟨Or.inr km_X9_329, kc_X3_readInto, kn_X3, kd_X3_readInto, ⟨(Nat.le_of_ble_eq_true rfl), (Nat.le_of_ble_eq_true rfl)⟩, ⟨(Nat.le_of_ble_eq_true rfl), (Nat.le_of_ble_eq_true rfl)⟩, (Nat.le_of_ble_eq_true rfl)⟩ ki_X3_readInto rfl (am_tab tk_X9_on 10 rfl) rfl ?_
      rintro r T1 ⟨hRI, hF1⟩
      have hL1 := hF1.L hL
      have e54 : T1.2.1 54 5 = σ.2.1 54 5 := hF1.2.2 54 5 (by unfold W_li; omega)
      obtain ⟨_, rfl, hLF, h9, h10⟩ := hRI.resolve_right (fun z => by rw [z.1] at ii; exact absurd ii (by decide))
      refine am_if_eq (q := 28) (t := 32) (am_tab tk_X9_on 11 rfl) (by decide) rfl (fun h25 => ?_) (fun h25 => ?_)
      · exact absurd h25 (by decide)
      · refine am_iconst (q := 29) (n := 1) (by decide) (am_tab tk_X9_on 12 rfl) rfl ?_
        refine am_goto (t := 33) (am_tab tk_X9_on 13 rfl) (by decide) ?_
        refine am_istore_n (q := 34) (by decide) (ls2 := [(1, am_i 1), (0, am_r 0)]) rfl (am_tab tk_X9_on 15 rfl) rfl ?_
        refine am_aload_n (q := 35) rfl (am_tab tk_X9_on 16 rfl) rfl ?_
        refine am_getR (q := 38) (a := 0) (k := 9) (n := 17) (j := 0) (r := some (1)) (Ls_0 hL1) (by decide) rfl (Lr_0_0 hL1) (by decide) (Or.inl kf_X9_12) (am_tab tk_X9_on 17 rfl) rfl ?_
        refine am_iconst (q := 39) (n := 0) (by decide) (am_tab tk_X9_on 18 rfl) rfl ?_
        refine am_putI (q := 42) (k := 6) (n := 2) (j := 1) (Ls_1 hL1) (by decide) rfl (by decide) (Or.inr (Or.inl ⟨kf_X9_89, rfl⟩)) (am_tab tk_X9_on 19 rfl) rfl ?_
        refine am_iload_n (q := 43) rfl (am_tab tk_X9_on 20 rfl) rfl ?_
        refine am_if_ne (q := 46) (t := 54) (am_tab tk_X9_on 21 rfl) (by decide) rfl (fun h43 => ?_) (fun h43 => ?_)
        · refine am_aload_n (q := 55) rfl (am_tab tk_X9_on 28 rfl) rfl ?_
          refine am_getR (q := 58) (a := 0) (k := 9) (n := 17) (j := 4) (r := some (32)) (Ls_0 hL1) (by decide) rfl (Lr_0_4 hL1) (by decide) (Or.inl kf_X9_38) (am_tab tk_X9_on 29 rfl) rfl ?_
          refine am_aload_n (q := 59) rfl (am_tab tk_X9_on 30 rfl) rfl ?_
          refine am_getR (q := 62) (a := 0) (k := 9) (n := 17) (j := 5) (r := some (37)) (Ls_0 hL1) (by decide) rfl (Lr_0_5 hL1) (by decide) (Or.inl kf_X9_42) (am_tab tk_X9_on 31 rfl) rfl ?_
          refine am_callVr (q := 65) (me2 := M_X1_copyFrom) (b := 32) (kb := 1) (nb := 11) (As := [am_r 37]) (rest := []) (c_copy_32_37 (am_setN T1 1 1 0) hL1) ⟨rfl, rfl⟩ (Ls_32 hL1) (by decide) ⟨Or.inr km_X9_243, kc_X1_copyFrom, kn_X1, kd_X1_copyFrom, ⟨(Nat.le_of_ble_eq_true rfl), (Nat.le_of_ble_eq_true rfl)⟩, ⟨(Nat.le_of_ble_eq_true rfl), (Nat.le_of_ble_eq_true rfl)⟩, (Nat.le_of_ble_eq_true rfl)⟩ ki_X1_copyFrom ks_X1_copyFrom rfl (am_tab tk_X9_on 32 rfl) rfl ?_
          rintro r T3 ⟨rfl, hCP, hF3⟩
          have hL3 := hF3.L (show lay (am_setN T1 1 1 0) from hL1)
          refine am_aload_n (q := 66) rfl (am_tab tk_X9_on 33 rfl) rfl ?_
          refine am_getR (q := 69) (a := 0) (k := 9) (n := 17) (j := 6) (r := some (42)) (Ls_0 hL3) (by decide) rfl (Lr_0_6 hL3) (by decide) (Or.inl kf_X9_48) (am_tab tk_X9_on 34 rfl) rfl ?_
          refine am_callVr (q := 72) (me2 := M_X2_forget) (b := 42) (kb := 2) (nb := 3) (As := []) (rest := []) (c_forget T3 hL3) ⟨rfl, rfl⟩ (Ls_42 hL3) (by decide) ⟨Or.inr km_X9_111, kc_X2_forget, kn_X2, kd_X2_forget, ⟨(Nat.le_of_ble_eq_true rfl), (Nat.le_of_ble_eq_true rfl)⟩, ⟨(Nat.le_of_ble_eq_true rfl), (Nat.le_of_ble_eq_true rfl)⟩, (Nat.le_of_ble_eq_true rfl)⟩ ki_X2_forget ks_X2_forget rfl (am_tab tk_X9_on 35 rfl) rfl ?_
          rintro r τ9 ⟨rfl, rfl⟩
          refine am_iconst (q := 73) (n := 1) (by decide) (am_tab tk_X9_on 36 rfl) rfl ?_
          refine am_iret (Or.inr ⟨rfl, by first | exact Or.inl rfl | exact Or.inr rfl | omega⟩) (Nat.le_of_ble_eq_true rfl) (Nat.le_of_ble_eq_true rfl) (am_tab tk_X9_on 37 rfl) ?_
          refine hQ _ _ ?_
          have hFS : frw (fun a _ => a = 1) T1 (am_setN T1 1 1 0) := (frw.refl _ T1).setN rfl
          have hLS : LF0 37 (am_setN T1 1 1 0) (onN σ) := hLF.fr hFS (by omega)
          have hRS : RWr 37 (am_setN T1 1 1 0) (onN σ) := RWr_0 h9 h10 rfl
          have hFZ : frw (fun a _ => a = 42) T3 (am_setN T3 42 2 0) := (frw.refl _ T3).setN rfl
          refine Or.inl ⟨ii, rfl, (hCP.lf hLS).fr hFZ (by omega), (hCP.rw hRS).fr hFZ (by omega) (by omega) (by omega), ?_, rfl, ?_⟩
          · show T3.2.1 1 1 = 0
            rw [hF3.2.2 1 1 (by unfold W_li; omega)]
            rfl
          · exact (((li37_C hF1).setN (by unfold W_onC; omega)).trans (li32_C hF3)).setN (by unfold W_onC; omega)
        · exact absurd h43 (by decide)
  · refine am_aload_n (q := 1) rfl (am_tab tk_X9_on 0 rfl) rfl ?_
    refine am_getR (q := 4) (a := 0) (k := 9) (n := 17) (j := 2) (r := some (3)) (Ls_0 hL) (by decide) rfl hC.t (by decide) (Or.inl kf_X9_19) (am_tab tk_X9_on 1 rfl) rfl ?_
    refine am_getI (q := 7) (a := 3) (k := 8) (n := 17) (j := 0) (x := (σ.2.1 85 9)) (Ls_3 hL) (by decide) rfl hC.W.days (by decide) (Or.inr kf_X9_123) (am_tab tk_X9_on 2 rfl) rfl ?_
    refine am_if_le (q := 10) (t := 32) (am_tab tk_X9_on 3 rfl) (by decide) rfl (fun h7 => ?_) (fun h7 => ?_)
    · refine am_iconst (q := 33) (n := 0) (by decide) (am_tab tk_X9_on 14 rfl) rfl ?_
      refine am_istore_n (q := 34) (by decide) (ls2 := [(1, am_i 0), (0, am_r 0)]) rfl (am_tab tk_X9_on 15 rfl) rfl ?_
      refine am_aload_n (q := 35) rfl (am_tab tk_X9_on 16 rfl) rfl ?_
      refine am_getR (q := 38) (a := 0) (k := 9) (n := 17) (j := 0) (r := some (1)) (Ls_0 hL) (by decide) rfl (Lr_0_0 hL) (by decide) (Or.inl kf_X9_12) (am_tab tk_X9_on 17 rfl) rfl ?_
      refine am_iconst (q := 39) (n := 0) (by decide) (am_tab tk_X9_on 18 rfl) rfl ?_
      refine am_putI (q := 42) (k := 6) (n := 2) (j := 1) (Ls_1 hL) (by decide) rfl (by decide) (Or.inr (Or.inl ⟨kf_X9_89, rfl⟩)) (am_tab tk_X9_on 19 rfl) rfl ?_
      refine am_iload_n (q := 43) rfl (am_tab tk_X9_on 20 rfl) rfl ?_
      refine am_if_ne (q := 46) (t := 54) (am_tab tk_X9_on 21 rfl) (by decide) rfl (fun h43 => ?_) (fun h43 => ?_)
      · exact absurd h43 (by decide)
      · refine am_aload_n (q := 47) rfl (am_tab tk_X9_on 22 rfl) rfl ?_
        refine am_iconst (q := 48) (n := 5) (by decide) (am_tab tk_X9_on 23 rfl) rfl ?_
        refine am_callVr (q := 51) (me2 := M_X9_refuse) (b := 0) (kb := 9) (nb := 17) (As := [am_i 5]) (rest := []) (c_refuse (am_setN σ 1 1 0) hL 5 (by decide) hr) ⟨rfl, rfl⟩ (Ls_0 hL) (by decide) ⟨Or.inl km_X9_92, kc_X9_refuse, kn_X9, kd_X9_refuse, ⟨(Nat.le_of_ble_eq_true rfl), (Nat.le_of_ble_eq_true rfl)⟩, ⟨(Nat.le_of_ble_eq_true rfl), (Nat.le_of_ble_eq_true rfl)⟩, (Nat.le_of_ble_eq_true rfl)⟩ ki_X9_refuse ks_X9_refuse rfl (am_tab tk_X9_on 24 rfl) rfl ?_
        rintro r τ9 ⟨rfl, rfl⟩
        refine am_pop (q := 52) rfl (am_tab tk_X9_on 25 rfl) rfl ?_
        refine am_iconst (q := 53) (n := 0) (by decide) (am_tab tk_X9_on 26 rfl) rfl ?_
        refine am_iret (Or.inr ⟨rfl, by first | exact Or.inl rfl | exact Or.inr rfl | omega⟩) (Nat.le_of_ble_eq_true rfl) (Nat.le_of_ble_eq_true rfl) (am_tab tk_X9_on 27 rfl) ?_
        refine hQ _ _ ?_
        exact Or.inr ⟨ii_f ii, rfl, rfl, rfl, ((frw.refl W_onD σ).setN (by unfold W_onD; omega)).setN (by unfold W_onD; omega)⟩
    · refine am_aload_n (q := 11) rfl (am_tab tk_X9_on 4 rfl) rfl ?_
      refine am_getR (q := 14) (a := 0) (k := 9) (n := 17) (j := 0) (r := some (1)) (Ls_0 hL) (by decide) rfl (Lr_0_0 hL) (by decide) (Or.inl kf_X9_12) (am_tab tk_X9_on 5 rfl) rfl ?_
      refine am_aload_n (q := 15) rfl (am_tab tk_X9_on 6 rfl) rfl ?_
      refine am_getR (q := 18) (a := 0) (k := 9) (n := 17) (j := 2) (r := some (3)) (Ls_0 hL) (by decide) rfl hC.t (by decide) (Or.inl kf_X9_19) (am_tab tk_X9_on 7 rfl) rfl ?_
      refine am_aload_n (q := 19) rfl (am_tab tk_X9_on 8 rfl) rfl ?_
      refine am_getR (q := 22) (a := 0) (k := 9) (n := 17) (j := 5) (r := some (37)) (Ls_0 hL) (by decide) rfl (Lr_0_5 hL) (by decide) (Or.inl kf_X9_42) (am_tab tk_X9_on 9 rfl) rfl ?_
      refine am_callSr (q := 25) (me2 := M_X3_readInto) (As := [am_r 1, am_r 3, am_r 37]) (rest := []) (c_readInto_3 σ hC hT11 hTb hTR hE (h59.mpr (by omega))) ⟨rfl, rfl⟩ ⟨Or.inr km_X9_329, kc_X3_readInto, kn_X3, kd_X3_readInto, ⟨(Nat.le_of_ble_eq_true rfl), (Nat.le_of_ble_eq_true rfl)⟩, ⟨(Nat.le_of_ble_eq_true rfl), (Nat.le_of_ble_eq_true rfl)⟩, (Nat.le_of_ble_eq_true rfl)⟩ ki_X3_readInto rfl (am_tab tk_X9_on 10 rfl) rfl ?_
      rintro r T1 ⟨hRI, hF1⟩
      have hL1 := hF1.L hL
      have e54 : T1.2.1 54 5 = σ.2.1 54 5 := hF1.2.2 54 5 (by unfold W_li; omega)
      obtain ⟨_, rfl⟩ := hRI.resolve_left (fun z => ii z.1)
      refine am_if_eq (q := 28) (t := 32) (am_tab tk_X9_on 11 rfl) (by decide) rfl (fun h25 => ?_) (fun h25 => ?_)
      · refine am_iconst (q := 33) (n := 0) (by decide) (am_tab tk_X9_on 14 rfl) rfl ?_
        refine am_istore_n (q := 34) (by decide) (ls2 := [(1, am_i 0), (0, am_r 0)]) rfl (am_tab tk_X9_on 15 rfl) rfl ?_
        refine am_aload_n (q := 35) rfl (am_tab tk_X9_on 16 rfl) rfl ?_
        refine am_getR (q := 38) (a := 0) (k := 9) (n := 17) (j := 0) (r := some (1)) (Ls_0 hL1) (by decide) rfl (Lr_0_0 hL1) (by decide) (Or.inl kf_X9_12) (am_tab tk_X9_on 17 rfl) rfl ?_
        refine am_iconst (q := 39) (n := 0) (by decide) (am_tab tk_X9_on 18 rfl) rfl ?_
        refine am_putI (q := 42) (k := 6) (n := 2) (j := 1) (Ls_1 hL1) (by decide) rfl (by decide) (Or.inr (Or.inl ⟨kf_X9_89, rfl⟩)) (am_tab tk_X9_on 19 rfl) rfl ?_
        refine am_iload_n (q := 43) rfl (am_tab tk_X9_on 20 rfl) rfl ?_
        refine am_if_ne (q := 46) (t := 54) (am_tab tk_X9_on 21 rfl) (by decide) rfl (fun h43 => ?_) (fun h43 => ?_)
        · exact absurd h43 (by decide)
        · refine am_aload_n (q := 47) rfl (am_tab tk_X9_on 22 rfl) rfl ?_
          refine am_iconst (q := 48) (n := 5) (by decide) (am_tab tk_X9_on 23 rfl) rfl ?_
          refine am_callVr (q := 51) (me2 := M_X9_refuse) (b := 0) (kb := 9) (nb := 17) (As := [am_i 5]) (rest := []) (c_refuse (am_setN T1 1 1 0) hL1 5 (by decide) (show 0 ≤ T1.2.1 54 5 ∧ T1.2.1 54 5 ≤ 100000 by rw [e54]; exact hr)) ⟨rfl, rfl⟩ (Ls_0 hL1) (by decide) ⟨Or.inl km_X9_92, kc_X9_refuse, kn_X9, kd_X9_refuse, ⟨(Nat.le_of_ble_eq_true rfl), (Nat.le_of_ble_eq_true rfl)⟩, ⟨(Nat.le_of_ble_eq_true rfl), (Nat.le_of_ble_eq_true rfl)⟩, (Nat.le_of_ble_eq_true rfl)⟩ ki_X9_refuse ks_X9_refuse rfl (am_tab tk_X9_on 24 rfl) rfl ?_
          rintro r τ9 ⟨rfl, rfl⟩
          refine am_pop (q := 52) rfl (am_tab tk_X9_on 25 rfl) rfl ?_
          refine am_iconst (q := 53) (n := 0) (by decide) (am_tab tk_X9_on 26 rfl) rfl ?_
          refine am_iret (Or.inr ⟨rfl, by first | exact Or.inl rfl | exact Or.inr rfl | omega⟩) (Nat.le_of_ble_eq_true rfl) (Nat.le_of_ble_eq_true rfl) (am_tab tk_X9_on 27 rfl) ?_
          refine hQ _ _ ?_
          refine Or.inr ⟨ii_f ii, rfl, rfl, ?_, ?_⟩
          · show T1.2.1 54 5 + 1 = _
            rw [e54]
          · exact ((li37_D hF1).setN (by unfold W_onD; omega)).setN (by unfold W_onD; omega)
      · exact absurd h25 (by decide)
set_option maxRecDepth 100000 in
theorem c_on_15 (σ : am_H) (hC : CI 15 σ)  (hT11 : σ.2.1 1 1 = σ.2.1 55 1) (hTb : ∀ j, σ.2.1 2 j = σ.2.1 56 j) (hTR : TPR σ) (hE : EXT σ) (h59 : ¬ σ.2.1 55 52 = 0 ↔ 0 < σ.2.1 85 9) (hr : 0 ≤ σ.2.1 54 5 ∧ σ.2.1 54 5 ≤ 100000) : am_met M_X9_on [am_r 0] σ (fun r σ' => (iiC σ (σ.2.1 55 1) = true ∧ r = some (am_i 1) ∧ LF0 32 σ' (onN σ) ∧ RWr 32 σ' (onN σ) ∧ σ'.2.1 1 1 = 0 ∧ σ'.2.1 42 2 = 0 ∧ frw W_onC σ σ') ∨ (iiC σ (σ.2.1 55 1) = false ∧ r = some (am_i 0) ∧ σ'.2.1 1 1 = 0 ∧ σ'.2.1 54 5 = σ.2.1 54 5 + 1 ∧ frw W_onD σ σ')) := by
  refine am_qq (fun Q hQ => ?_)
  refine am_enter (show plainFor yX9_on = true by decide +kernel) rfl (Nat.le_of_ble_eq_true rfl) (fun _ _ _ => trivial) ?_
  have hL := hC.G.L
  by_cases ii : iiC σ (σ.2.1 55 1) = true
  · refine am_aload_n (q := 1) rfl (am_tab tk_X9_on 0 rfl) rfl ?_
    refine am_getR (q := 4) (a := 0) (k := 9) (n := 17) (j := 2) (r := some (15)) (Ls_0 hL) (by decide) rfl hC.t (by decide) (Or.inl kf_X9_19) (am_tab tk_X9_on 1 rfl) rfl ?_
    refine am_getI (q := 7) (a := 15) (k := 8) (n := 17) (j := 0) (x := (σ.2.1 85 9)) (Ls_15 hL) (by decide) rfl hC.W.days (by decide) (Or.inr kf_X9_123) (am_tab tk_X9_on 2 rfl) rfl ?_
    refine am_if_le (q := 10) (t := 32) (am_tab tk_X9_on 3 rfl) (by decide) rfl (fun h7 => ?_) (fun h7 => ?_)
    · exact absurd (h59.mp (iiC_iff.mp ii).1.1) (by omega)
    · refine am_aload_n (q := 11) rfl (am_tab tk_X9_on 4 rfl) rfl ?_
      refine am_getR (q := 14) (a := 0) (k := 9) (n := 17) (j := 0) (r := some (1)) (Ls_0 hL) (by decide) rfl (Lr_0_0 hL) (by decide) (Or.inl kf_X9_12) (am_tab tk_X9_on 5 rfl) rfl ?_
      refine am_aload_n (q := 15) rfl (am_tab tk_X9_on 6 rfl) rfl ?_
      refine am_getR (q := 18) (a := 0) (k := 9) (n := 17) (j := 2) (r := some (15)) (Ls_0 hL) (by decide) rfl hC.t (by decide) (Or.inl kf_X9_19) (am_tab tk_X9_on 7 rfl) rfl ?_
      refine am_aload_n (q := 19) rfl (am_tab tk_X9_on 8 rfl) rfl ?_
      refine am_getR (q := 22) (a := 0) (k := 9) (n := 17) (j := 5) (r := some (37)) (Ls_0 hL) (by decide) rfl (Lr_0_5 hL) (by decide) (Or.inl kf_X9_42) (am_tab tk_X9_on 9 rfl) rfl ?_
      refine am_callSr (q := 25) (me2 := M_X3_readInto) (As := [am_r 1, am_r 15, am_r 37]) (rest := []) (c_readInto_15 σ hC hT11 hTb hTR hE (h59.mpr (by omega))) ⟨rfl, rfl⟩ ⟨Or.inr km_X9_329, kc_X3_readInto, kn_X3, kd_X3_readInto, ⟨(Nat.le_of_ble_eq_true rfl), (Nat.le_of_ble_eq_true rfl)⟩, ⟨(Nat.le_of_ble_eq_true rfl), (Nat.le_of_ble_eq_true rfl)⟩, (Nat.le_of_ble_eq_true rfl)⟩ ki_X3_readInto rfl (am_tab tk_X9_on 10 rfl) rfl ?_
      rintro r T1 ⟨hRI, hF1⟩
      have hL1 := hF1.L hL
      have e54 : T1.2.1 54 5 = σ.2.1 54 5 := hF1.2.2 54 5 (by unfold W_li; omega)
      obtain ⟨_, rfl, hLF, h9, h10⟩ := hRI.resolve_right (fun z => by rw [z.1] at ii; exact absurd ii (by decide))
      refine am_if_eq (q := 28) (t := 32) (am_tab tk_X9_on 11 rfl) (by decide) rfl (fun h25 => ?_) (fun h25 => ?_)
      · exact absurd h25 (by decide)
      · refine am_iconst (q := 29) (n := 1) (by decide) (am_tab tk_X9_on 12 rfl) rfl ?_
        refine am_goto (t := 33) (am_tab tk_X9_on 13 rfl) (by decide) ?_
        refine am_istore_n (q := 34) (by decide) (ls2 := [(1, am_i 1), (0, am_r 0)]) rfl (am_tab tk_X9_on 15 rfl) rfl ?_
        refine am_aload_n (q := 35) rfl (am_tab tk_X9_on 16 rfl) rfl ?_
        refine am_getR (q := 38) (a := 0) (k := 9) (n := 17) (j := 0) (r := some (1)) (Ls_0 hL1) (by decide) rfl (Lr_0_0 hL1) (by decide) (Or.inl kf_X9_12) (am_tab tk_X9_on 17 rfl) rfl ?_
        refine am_iconst (q := 39) (n := 0) (by decide) (am_tab tk_X9_on 18 rfl) rfl ?_
        refine am_putI (q := 42) (k := 6) (n := 2) (j := 1) (Ls_1 hL1) (by decide) rfl (by decide) (Or.inr (Or.inl ⟨kf_X9_89, rfl⟩)) (am_tab tk_X9_on 19 rfl) rfl ?_
        refine am_iload_n (q := 43) rfl (am_tab tk_X9_on 20 rfl) rfl ?_
        refine am_if_ne (q := 46) (t := 54) (am_tab tk_X9_on 21 rfl) (by decide) rfl (fun h43 => ?_) (fun h43 => ?_)
        · refine am_aload_n (q := 55) rfl (am_tab tk_X9_on 28 rfl) rfl ?_
          refine am_getR (q := 58) (a := 0) (k := 9) (n := 17) (j := 4) (r := some (32)) (Ls_0 hL1) (by decide) rfl (Lr_0_4 hL1) (by decide) (Or.inl kf_X9_38) (am_tab tk_X9_on 29 rfl) rfl ?_
          refine am_aload_n (q := 59) rfl (am_tab tk_X9_on 30 rfl) rfl ?_
          refine am_getR (q := 62) (a := 0) (k := 9) (n := 17) (j := 5) (r := some (37)) (Ls_0 hL1) (by decide) rfl (Lr_0_5 hL1) (by decide) (Or.inl kf_X9_42) (am_tab tk_X9_on 31 rfl) rfl ?_
          refine am_callVr (q := 65) (me2 := M_X1_copyFrom) (b := 32) (kb := 1) (nb := 11) (As := [am_r 37]) (rest := []) (c_copy_32_37 (am_setN T1 1 1 0) hL1) ⟨rfl, rfl⟩ (Ls_32 hL1) (by decide) ⟨Or.inr km_X9_243, kc_X1_copyFrom, kn_X1, kd_X1_copyFrom, ⟨(Nat.le_of_ble_eq_true rfl), (Nat.le_of_ble_eq_true rfl)⟩, ⟨(Nat.le_of_ble_eq_true rfl), (Nat.le_of_ble_eq_true rfl)⟩, (Nat.le_of_ble_eq_true rfl)⟩ ki_X1_copyFrom ks_X1_copyFrom rfl (am_tab tk_X9_on 32 rfl) rfl ?_
          rintro r T3 ⟨rfl, hCP, hF3⟩
          have hL3 := hF3.L (show lay (am_setN T1 1 1 0) from hL1)
          refine am_aload_n (q := 66) rfl (am_tab tk_X9_on 33 rfl) rfl ?_
          refine am_getR (q := 69) (a := 0) (k := 9) (n := 17) (j := 6) (r := some (42)) (Ls_0 hL3) (by decide) rfl (Lr_0_6 hL3) (by decide) (Or.inl kf_X9_48) (am_tab tk_X9_on 34 rfl) rfl ?_
          refine am_callVr (q := 72) (me2 := M_X2_forget) (b := 42) (kb := 2) (nb := 3) (As := []) (rest := []) (c_forget T3 hL3) ⟨rfl, rfl⟩ (Ls_42 hL3) (by decide) ⟨Or.inr km_X9_111, kc_X2_forget, kn_X2, kd_X2_forget, ⟨(Nat.le_of_ble_eq_true rfl), (Nat.le_of_ble_eq_true rfl)⟩, ⟨(Nat.le_of_ble_eq_true rfl), (Nat.le_of_ble_eq_true rfl)⟩, (Nat.le_of_ble_eq_true rfl)⟩ ki_X2_forget ks_X2_forget rfl (am_tab tk_X9_on 35 rfl) rfl ?_
          rintro r τ9 ⟨rfl, rfl⟩
          refine am_iconst (q := 73) (n := 1) (by decide) (am_tab tk_X9_on 36 rfl) rfl ?_
          refine am_iret (Or.inr ⟨rfl, by first | exact Or.inl rfl | exact Or.inr rfl | omega⟩) (Nat.le_of_ble_eq_true rfl) (Nat.le_of_ble_eq_true rfl) (am_tab tk_X9_on 37 rfl) ?_
          refine hQ _ _ ?_
          have hFS : frw (fun a _ => a = 1) T1 (am_setN T1 1 1 0) := (frw.refl _ T1).setN rfl
          have hLS : LF0 37 (am_setN T1 1 1 0) (onN σ) := hLF.fr hFS (by omega)
          have hRS : RWr 37 (am_setN T1 1 1 0) (onN σ) := RWr_0 h9 h10 rfl
          have hFZ : frw (fun a _ => a = 42) T3 (am_setN T3 42 2 0) := (frw.refl _ T3).setN rfl
          refine Or.inl ⟨ii, rfl, (hCP.lf hLS).fr hFZ (by omega), (hCP.rw hRS).fr hFZ (by omega) (by omega) (by omega), ?_, rfl, ?_⟩
          · show T3.2.1 1 1 = 0
            rw [hF3.2.2 1 1 (by unfold W_li; omega)]
            rfl
          · exact (((li37_C hF1).setN (by unfold W_onC; omega)).trans (li32_C hF3)).setN (by unfold W_onC; omega)
        · exact absurd h43 (by decide)
  · refine am_aload_n (q := 1) rfl (am_tab tk_X9_on 0 rfl) rfl ?_
    refine am_getR (q := 4) (a := 0) (k := 9) (n := 17) (j := 2) (r := some (15)) (Ls_0 hL) (by decide) rfl hC.t (by decide) (Or.inl kf_X9_19) (am_tab tk_X9_on 1 rfl) rfl ?_
    refine am_getI (q := 7) (a := 15) (k := 8) (n := 17) (j := 0) (x := (σ.2.1 85 9)) (Ls_15 hL) (by decide) rfl hC.W.days (by decide) (Or.inr kf_X9_123) (am_tab tk_X9_on 2 rfl) rfl ?_
    refine am_if_le (q := 10) (t := 32) (am_tab tk_X9_on 3 rfl) (by decide) rfl (fun h7 => ?_) (fun h7 => ?_)
    · refine am_iconst (q := 33) (n := 0) (by decide) (am_tab tk_X9_on 14 rfl) rfl ?_
      refine am_istore_n (q := 34) (by decide) (ls2 := [(1, am_i 0), (0, am_r 0)]) rfl (am_tab tk_X9_on 15 rfl) rfl ?_
      refine am_aload_n (q := 35) rfl (am_tab tk_X9_on 16 rfl) rfl ?_
      refine am_getR (q := 38) (a := 0) (k := 9) (n := 17) (j := 0) (r := some (1)) (Ls_0 hL) (by decide) rfl (Lr_0_0 hL) (by decide) (Or.inl kf_X9_12) (am_tab tk_X9_on 17 rfl) rfl ?_
      refine am_iconst (q := 39) (n := 0) (by decide) (am_tab tk_X9_on 18 rfl) rfl ?_
      refine am_putI (q := 42) (k := 6) (n := 2) (j := 1) (Ls_1 hL) (by decide) rfl (by decide) (Or.inr (Or.inl ⟨kf_X9_89, rfl⟩)) (am_tab tk_X9_on 19 rfl) rfl ?_
      refine am_iload_n (q := 43) rfl (am_tab tk_X9_on 20 rfl) rfl ?_
      refine am_if_ne (q := 46) (t := 54) (am_tab tk_X9_on 21 rfl) (by decide) rfl (fun h43 => ?_) (fun h43 => ?_)
      · exact absurd h43 (by decide)
      · refine am_aload_n (q := 47) rfl (am_tab tk_X9_on 22 rfl) rfl ?_
        refine am_iconst (q := 48) (n := 5) (by decide) (am_tab tk_X9_on 23 rfl) rfl ?_
        refine am_callVr (q := 51) (me2 := M_X9_refuse) (b := 0) (kb := 9) (nb := 17) (As := [am_i 5]) (rest := []) (c_refuse (am_setN σ 1 1 0) hL 5 (by decide) hr) ⟨rfl, rfl⟩ (Ls_0 hL) (by decide) ⟨Or.inl km_X9_92, kc_X9_refuse, kn_X9, kd_X9_refuse, ⟨(Nat.le_of_ble_eq_true rfl), (Nat.le_of_ble_eq_true rfl)⟩, ⟨(Nat.le_of_ble_eq_true rfl), (Nat.le_of_ble_eq_true rfl)⟩, (Nat.le_of_ble_eq_true rfl)⟩ ki_X9_refuse ks_X9_refuse rfl (am_tab tk_X9_on 24 rfl) rfl ?_
        rintro r τ9 ⟨rfl, rfl⟩
        refine am_pop (q := 52) rfl (am_tab tk_X9_on 25 rfl) rfl ?_
        refine am_iconst (q := 53) (n := 0) (by decide) (am_tab tk_X9_on 26 rfl) rfl ?_
        refine am_iret (Or.inr ⟨rfl, by first | exact Or.inl rfl | exact Or.inr rfl | omega⟩) (Nat.le_of_ble_eq_true rfl) (Nat.le_of_ble_eq_true rfl) (am_tab tk_X9_on 27 rfl) ?_
        refine hQ _ _ ?_
        exact Or.inr ⟨ii_f ii, rfl, rfl, rfl, ((frw.refl W_onD σ).setN (by unfold W_onD; omega)).setN (by unfold W_onD; omega)⟩
    · refine am_aload_n (q := 11) rfl (am_tab tk_X9_on 4 rfl) rfl ?_
      refine am_getR (q := 14) (a := 0) (k := 9) (n := 17) (j := 0) (r := some (1)) (Ls_0 hL) (by decide) rfl (Lr_0_0 hL) (by decide) (Or.inl kf_X9_12) (am_tab tk_X9_on 5 rfl) rfl ?_
      refine am_aload_n (q := 15) rfl (am_tab tk_X9_on 6 rfl) rfl ?_
      refine am_getR (q := 18) (a := 0) (k := 9) (n := 17) (j := 2) (r := some (15)) (Ls_0 hL) (by decide) rfl hC.t (by decide) (Or.inl kf_X9_19) (am_tab tk_X9_on 7 rfl) rfl ?_
      refine am_aload_n (q := 19) rfl (am_tab tk_X9_on 8 rfl) rfl ?_
      refine am_getR (q := 22) (a := 0) (k := 9) (n := 17) (j := 5) (r := some (37)) (Ls_0 hL) (by decide) rfl (Lr_0_5 hL) (by decide) (Or.inl kf_X9_42) (am_tab tk_X9_on 9 rfl) rfl ?_
      refine am_callSr (q := 25) (me2 := M_X3_readInto) (As := [am_r 1, am_r 15, am_r 37]) (rest := []) (c_readInto_15 σ hC hT11 hTb hTR hE (h59.mpr (by omega))) ⟨rfl, rfl⟩ ⟨Or.inr km_X9_329, kc_X3_readInto, kn_X3, kd_X3_readInto, ⟨(Nat.le_of_ble_eq_true rfl), (Nat.le_of_ble_eq_true rfl)⟩, ⟨(Nat.le_of_ble_eq_true rfl), (Nat.le_of_ble_eq_true rfl)⟩, (Nat.le_of_ble_eq_true rfl)⟩ ki_X3_readInto rfl (am_tab tk_X9_on 10 rfl) rfl ?_
      rintro r T1 ⟨hRI, hF1⟩
      have hL1 := hF1.L hL
      have e54 : T1.2.1 54 5 = σ.2.1 54 5 := hF1.2.2 54 5 (by unfold W_li; omega)
      obtain ⟨_, rfl⟩ := hRI.resolve_left (fun z => ii z.1)
      refine am_if_eq (q := 28) (t := 32) (am_tab tk_X9_on 11 rfl) (by decide) rfl (fun h25 => ?_) (fun h25 => ?_)
      · refine am_iconst (q := 33) (n := 0) (by decide) (am_tab tk_X9_on 14 rfl) rfl ?_
        refine am_istore_n (q := 34) (by decide) (ls2 := [(1, am_i 0), (0, am_r 0)]) rfl (am_tab tk_X9_on 15 rfl) rfl ?_
        refine am_aload_n (q := 35) rfl (am_tab tk_X9_on 16 rfl) rfl ?_
        refine am_getR (q := 38) (a := 0) (k := 9) (n := 17) (j := 0) (r := some (1)) (Ls_0 hL1) (by decide) rfl (Lr_0_0 hL1) (by decide) (Or.inl kf_X9_12) (am_tab tk_X9_on 17 rfl) rfl ?_
        refine am_iconst (q := 39) (n := 0) (by decide) (am_tab tk_X9_on 18 rfl) rfl ?_
        refine am_putI (q := 42) (k := 6) (n := 2) (j := 1) (Ls_1 hL1) (by decide) rfl (by decide) (Or.inr (Or.inl ⟨kf_X9_89, rfl⟩)) (am_tab tk_X9_on 19 rfl) rfl ?_
        refine am_iload_n (q := 43) rfl (am_tab tk_X9_on 20 rfl) rfl ?_
        refine am_if_ne (q := 46) (t := 54) (am_tab tk_X9_on 21 rfl) (by decide) rfl (fun h43 => ?_) (fun h43 => ?_)
        · exact absurd h43 (by decide)
        · refine am_aload_n (q := 47) rfl (am_tab tk_X9_on 22 rfl) rfl ?_
          refine am_iconst (q := 48) (n := 5) (by decide) (am_tab tk_X9_on 23 rfl) rfl ?_
          refine am_callVr (q := 51) (me2 := M_X9_refuse) (b := 0) (kb := 9) (nb := 17) (As := [am_i 5]) (rest := []) (c_refuse (am_setN T1 1 1 0) hL1 5 (by decide) (show 0 ≤ T1.2.1 54 5 ∧ T1.2.1 54 5 ≤ 100000 by rw [e54]; exact hr)) ⟨rfl, rfl⟩ (Ls_0 hL1) (by decide) ⟨Or.inl km_X9_92, kc_X9_refuse, kn_X9, kd_X9_refuse, ⟨(Nat.le_of_ble_eq_true rfl), (Nat.le_of_ble_eq_true rfl)⟩, ⟨(Nat.le_of_ble_eq_true rfl), (Nat.le_of_ble_eq_true rfl)⟩, (Nat.le_of_ble_eq_true rfl)⟩ ki_X9_refuse ks_X9_refuse rfl (am_tab tk_X9_on 24 rfl) rfl ?_
          rintro r τ9 ⟨rfl, rfl⟩
          refine am_pop (q := 52) rfl (am_tab tk_X9_on 25 rfl) rfl ?_
          refine am_iconst (q := 53) (n := 0) (by decide) (am_tab tk_X9_on 26 rfl) rfl ?_
          refine am_iret (Or.inr ⟨rfl, by first | exact Or.inl rfl | exact Or.inr rfl | omega⟩) (Nat.le_of_ble_eq_true rfl) (Nat.le_of_ble_eq_true rfl) (am_tab tk_X9_on 27 rfl) ?_
          refine hQ _ _ ?_
          refine Or.inr ⟨ii_f ii, rfl, rfl, ?_, ?_⟩
          · show T1.2.1 54 5 + 1 = _
            rw [e54]
          · exact ((li37_D hF1).setN (by unfold W_onD; omega)).setN (by unfold W_onD; omega)
      · exact absurd h25 (by decide)
