def unF (σ : am_H) (w i : Nat) : Nat → Int := fun k => if k < i then σ.2.1 102 (443 * w + k) else σ.2.1 96 k
theorem undo_loop {Q : Option am_V → am_H → Prop} (σ : am_H) (hL : lay σ) (w : Nat) (hw : σ.2.1 55 70 = w) (hw2 : w < 20) (K : am_wp M_X10_undo Q 0 0 55 [(1, am_i (443 : Int)), (0, am_r 55)] [] (am_setA σ 96 (unF σ w 443))) : ∀ m i : Nat, i + m = 443 → am_wp M_X10_undo Q 0 0 21 [(1, am_i (i : Int)), (0, am_r 55)] [] (am_setA σ 96 (unF σ w i)) := by
  intro m
  induction m with
  | zero =>
    intro i hi
    refine am_iload_n (q := 22) rfl (am_tab tk_X10_undo 15 rfl) rfl ?_
    refine am_sipush (q := 25) (n := 443) (by decide) rfl (am_tab tk_X10_undo 16 rfl) rfl ?_
    refine am_icmp_ge (q := 28) (t := 55) (am_tab tk_X10_undo 17 rfl) (by decide) rfl (fun h25 => ?_) (fun h25 => ?_)
    · have e0 : i = 443 := by omega
      subst e0
      exact K
    · exact absurd h25 (by omega)
  | succ m ih =>
    intro i hi
    have e1 : (((443 : Int) * (w : Int)) + (i : Int)).toNat = 443 * w + i := by omega
    refine am_iload_n (q := 22) rfl (am_tab tk_X10_undo 15 rfl) rfl ?_
    refine am_sipush (q := 25) (n := 443) (by decide) rfl (am_tab tk_X10_undo 16 rfl) rfl ?_
    refine am_icmp_ge (q := 28) (t := 55) (am_tab tk_X10_undo 17 rfl) (by decide) rfl (fun h25 => ?_) (fun h25 => ?_)
    · exact absurd h25 (by omega)
    · refine am_aload_n (q := 29) rfl (am_tab tk_X10_undo 18 rfl) rfl ?_
      refine am_getR (q := 32) (a := 55) (k := 10) (n := 108) (j := 54) (r := some (96)) (Ls_55 hL) (by decide) rfl (Lr_55_54 hL) (by decide) (Or.inl kf_X10_136) (am_tab tk_X10_undo 19 rfl) rfl ?_
      refine am_iload_n (q := 33) rfl (am_tab tk_X10_undo 20 rfl) rfl ?_
      refine am_aload_n (q := 34) rfl (am_tab tk_X10_undo 21 rfl) rfl ?_
      refine am_getR (q := 37) (a := 55) (k := 10) (n := 108) (j := 68) (r := some (102)) (Ls_55 hL) (by decide) rfl (Lr_55_68 hL) (by decide) (Or.inl kf_X10_154) (am_tab tk_X10_undo 22 rfl) rfl ?_
      refine am_sipush (q := 40) (n := 443) (by decide) rfl (am_tab tk_X10_undo 23 rfl) rfl ?_
      refine am_aload_n (q := 41) rfl (am_tab tk_X10_undo 24 rfl) rfl ?_
      refine am_getI (q := 44) (a := 55) (k := 10) (n := 108) (j := 70) (x := (w : Int)) (Ls_55 hL) (by decide) rfl hw (by decide) (Or.inl kf_X10_562) (am_tab tk_X10_undo 25 rfl) rfl ?_
      refine am_imul (q := 45) (by omega) (am_tab tk_X10_undo 26 rfl) rfl ?_
      refine am_iload_n (q := 46) rfl (am_tab tk_X10_undo 27 rfl) rfl ?_
      refine am_iadd (q := 47) (by omega) (am_tab tk_X10_undo 28 rfl) rfl ?_
      refine am_iald (q := 48) (a := 102) (n := 8860) (x := (σ.2.1 102 (443 * w + i))) (Ls_102 hL) (by omega) (by omega) (by rw [e1]; rfl) (am_tab tk_X10_undo 29 rfl) rfl ?_
      refine am_iast (q := 49) (a := 96) (n := 443) (Ls_96 hL) (by omega) (by omega) (am_tab tk_X10_undo 30 rfl) rfl ?_
      refine am_iinc (q := 52) rfl (by omega) (by decide) (ls2 := [(1, am_i (((i : Int) + 1))), (0, am_r 55)]) rfl (am_tab tk_X10_undo 31 rfl) rfl ?_
      refine am_goto (t := 21) (am_tab tk_X10_undo 32 rfl) (by decide) ?_
      refine am_hp2 (σ1 := am_setA σ 96 (unF σ w (i + 1))) ?_ (ih (i + 1) (by omega))
      rw [show ((i : Int)).toNat = i by omega, am_setA_N]; congr 1; funext k; unfold unF; repeat' split
      all_goals first | rfl | omega | (rename_i h9 _; subst h9; rfl)
def unH (σ : am_H) : am_H := am_setN (am_setN (am_setA σ 96 (unF σ (σ.2.1 55 70).toNat 443)) 55 70 ((σ.2.1 55 70 + 20 - 1).tmod 20)) 55 69 (σ.2.1 55 69 - 1)
theorem undo_end (σ : am_H) (hL : lay σ) (hn : 0 ≤ σ.2.1 55 70 ∧ σ.2.1 55 70 ≤ 19) (hu : 0 ≤ σ.2.1 55 69 ∧ σ.2.1 55 69 ≤ 20) (h0 : ¬ σ.2.1 55 69 = 0) : am_wp M_X10_undo (fun r σ' => (¬ σ.2.1 55 69 = 0 ∧ r = some (am_i 1) ∧ σ' = unH σ) ∨ (σ.2.1 55 69 = 0 ∧ r = some (am_i 0) ∧ σ' = am_setN σ 57 4 (σ.2.1 57 4 + 1))) 0 0 55 [(1, am_i (443 : Int)), (0, am_r 55)] [] (am_setA σ 96 (unF σ (σ.2.1 55 70).toNat 443)) := by
  refine am_aload_n (q := 56) rfl (am_tab tk_X10_undo 33 rfl) rfl ?_
  refine am_aload_n (q := 57) rfl (am_tab tk_X10_undo 34 rfl) rfl ?_
  refine am_getI (q := 60) (a := 55) (k := 10) (n := 108) (j := 70) (x := (σ.2.1 55 70)) (Ls_55 hL) (by decide) rfl rfl (by decide) (Or.inl kf_X10_562) (am_tab tk_X10_undo 35 rfl) rfl ?_
  refine am_bipush (q := 62) (n := 20) (by decide) rfl (am_tab tk_X10_undo 36 rfl) rfl ?_
  refine am_iadd (q := 63) (by omega) (am_tab tk_X10_undo 37 rfl) rfl ?_
  refine am_iconst (q := 64) (n := 1) (by decide) (am_tab tk_X10_undo 38 rfl) rfl ?_
  refine am_isub (q := 65) (by omega) (am_tab tk_X10_undo 39 rfl) rfl ?_
  refine am_bipush (q := 67) (n := 20) (by decide) rfl (am_tab tk_X10_undo 40 rfl) rfl ?_
  refine am_irem (q := 68) (by omega) (by omega) (am_tab tk_X10_undo 41 rfl) rfl ?_
  refine am_putI (q := 71) (k := 10) (n := 108) (j := 70) (Ls_55 hL) (by decide) rfl (by decide) (Or.inl ⟨kf_X10_562, rfl⟩) (am_tab tk_X10_undo 42 rfl) rfl ?_
  refine am_aload_n (q := 72) rfl (am_tab tk_X10_undo 43 rfl) rfl ?_
  refine am_dup (q := 73) rfl (am_tab tk_X10_undo 44 rfl) rfl ?_
  refine am_getI (q := 76) (a := 55) (k := 10) (n := 108) (j := 69) (x := (σ.2.1 55 69)) (Ls_55 hL) (by decide) rfl rfl (by decide) (Or.inl kf_X10_388) (am_tab tk_X10_undo 45 rfl) rfl ?_
  refine am_iconst (q := 77) (n := 1) (by decide) (am_tab tk_X10_undo 46 rfl) rfl ?_
  refine am_isub (q := 78) (by omega) (am_tab tk_X10_undo 47 rfl) rfl ?_
  refine am_putI (q := 81) (k := 10) (n := 108) (j := 69) (Ls_55 hL) (by decide) rfl (by decide) (Or.inl ⟨kf_X10_388, rfl⟩) (am_tab tk_X10_undo 48 rfl) rfl ?_
  refine am_iconst (q := 82) (n := 1) (by decide) (am_tab tk_X10_undo 49 rfl) rfl ?_
  refine am_iret (Or.inr ⟨rfl, by first | exact Or.inl rfl | exact Or.inr rfl | omega⟩) (Nat.le_of_ble_eq_true rfl) (Nat.le_of_ble_eq_true rfl) (am_tab tk_X10_undo 50 rfl) ?_
  exact Or.inl ⟨h0, rfl, rfl⟩
theorem c_X10_undo (σ : am_H) (hL : lay σ)  (hn : 0 ≤ σ.2.1 55 70 ∧ σ.2.1 55 70 ≤ 19) (hu : 0 ≤ σ.2.1 55 69 ∧ σ.2.1 55 69 ≤ 20) (hr : 0 ≤ σ.2.1 57 4 ∧ σ.2.1 57 4 ≤ 100000) : am_met M_X10_undo [am_r 55] σ (fun r σ' => (¬ σ.2.1 55 69 = 0 ∧ r = some (am_i 1) ∧ σ' = unH σ) ∨ (σ.2.1 55 69 = 0 ∧ r = some (am_i 0) ∧ σ' = am_setN σ 57 4 (σ.2.1 57 4 + 1))) := by
  refine am_enter (show plainFor yX10_undo = true by decide +kernel) rfl (Nat.le_of_ble_eq_true rfl) (fun _ _ _ => trivial) ?_
  refine am_aload_n (q := 1) rfl (am_tab tk_X10_undo 0 rfl) rfl ?_
  refine am_getI (q := 4) (a := 55) (k := 10) (n := 108) (j := 69) (x := (σ.2.1 55 69)) (Ls_55 hL) (by decide) rfl rfl (by decide) (Or.inl kf_X10_388) (am_tab tk_X10_undo 1 rfl) rfl ?_
  refine am_if_ne (q := 7) (t := 19) (am_tab tk_X10_undo 2 rfl) (by decide) rfl (fun h4 => ?_) (fun h4 => ?_)
  · refine am_iconst (q := 20) (n := 0) (by decide) (am_tab tk_X10_undo 13 rfl) rfl ?_
    refine am_istore_n (q := 21) (by decide) (ls2 := [(1, am_i 0), (0, am_r 55)]) rfl (am_tab tk_X10_undo 14 rfl) rfl ?_
    have h0 := undo_loop σ hL (σ.2.1 55 70).toNat (by omega) (by omega) (undo_end σ hL hn hu h4) 443 0 (by omega)
    rw [show unF σ (σ.2.1 55 70).toNat 0 = (fun k => σ.2.1 96 k) from funext fun k => if_neg (by omega), am_setA_self] at h0
    exact h0
  · refine am_aload_n (q := 8) rfl (am_tab tk_X10_undo 3 rfl) rfl ?_
    refine am_getR (q := 11) (a := 55) (k := 10) (n := 108) (j := 9) (r := some (57)) (Ls_55 hL) (by decide) rfl (Lr_55_9 hL) (by decide) (Or.inl kf_X10_17) (am_tab tk_X10_undo 4 rfl) rfl ?_
    refine am_iconst (q := 12) (n := 4) (by decide) (am_tab tk_X10_undo 5 rfl) rfl ?_
    refine am_dup2 (q := 13) rfl rfl (am_tab tk_X10_undo 6 rfl) rfl ?_
    refine am_iald (q := 14) (a := 57) (n := 6) (x := (σ.2.1 57 4)) (Ls_57 hL) (by omega) (by omega) rfl (am_tab tk_X10_undo 7 rfl) rfl ?_
    refine am_iconst (q := 15) (n := 1) (by decide) (am_tab tk_X10_undo 8 rfl) rfl ?_
    refine am_iadd (q := 16) (by omega) (am_tab tk_X10_undo 9 rfl) rfl ?_
    refine am_iast (q := 17) (a := 57) (n := 6) (Ls_57 hL) (by omega) (by omega) (am_tab tk_X10_undo 10 rfl) rfl ?_
    refine am_iconst (q := 18) (n := 0) (by decide) (am_tab tk_X10_undo 11 rfl) rfl ?_
    refine am_iret (Or.inr ⟨rfl, by first | exact Or.inl rfl | exact Or.inr rfl | omega⟩) (Nat.le_of_ble_eq_true rfl) (Nat.le_of_ble_eq_true rfl) (am_tab tk_X10_undo 12 rfl) ?_
    exact Or.inr ⟨h4, rfl, rfl⟩
