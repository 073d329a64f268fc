def nxS (x : Int) : Int := (1103515245 * x + 12345).tmod 2147483648
def drw (x m : Int) : Int := (x.tdiv 64).tmod m
theorem nxS_rng {x : Int} (h : 0 ≤ x ∧ x < 2147483648) : 0 ≤ nxS x ∧ nxS x < 2147483648 := by
  unfold nxS
  have h1 := Int.tmod_nonneg (a := 1103515245 * x + 12345) 2147483648 (by omega)
  have h2 := Int.tmod_lt_of_pos (1103515245 * x + 12345) (b := 2147483648) (by omega)
  exact ⟨h1, h2⟩
theorem drw_rng {x m : Int} (h : 0 ≤ x ∧ x < 2147483648) (hm : 1 ≤ m ∧ m ≤ 100000) : 0 ≤ drw x m ∧ drw x m < m := by
  unfold drw
  have h0 : 0 ≤ x.tdiv 64 := Int.tdiv_nonneg h.1 (by omega)
  exact ⟨Int.tmod_nonneg _ h0, Int.tmod_lt_of_pos _ (by omega)⟩
theorem l2i_eq {x : Int} (h : -2147483648 ≤ x ∧ x < 2147483648) : ao_l2i x = x := am_ti h
theorem c_X10_drawOf (σ : am_H) (hL : lay σ) (m : Int) (hm : 1 ≤ m ∧ m ≤ 100000) (hx : 0 ≤ σ.2.1 55 71 ∧ σ.2.1 55 71 < 2147483648) : am_met M_X10_drawOf [am_r 55, am_i m] σ (fun r σ' => r = some (am_i (drw (nxS (σ.2.1 55 71)) m)) ∧ σ' = am_setN σ 55 71 (nxS (σ.2.1 55 71))) := by
  refine am_enter (show plainFor yX10_drawOf = true by decide +kernel) rfl (Nat.le_of_ble_eq_true rfl) (fun _ _ _ => trivial) ?_
  have hn := nxS_rng hx
  have hd := drw_rng hn hm
  have ht0 : 0 ≤ (nxS (σ.2.1 55 71)).tdiv 64 := Int.tdiv_nonneg hn.1 (by omega)
  have hn2 := hn
  unfold nxS at hn2 ht0
  refine am_aload_n (q := 1) rfl (am_tab tk_X10_drawOf 0 rfl) rfl ?_
  refine am_ldc2 (q := 4) (n := 1103515245) (by decide) kk_X10_574 (am_tab tk_X10_drawOf 1 rfl) rfl ?_
  refine am_aload_n (q := 5) rfl (am_tab tk_X10_drawOf 2 rfl) rfl ?_
  refine am_getL (q := 8) (a := 55) (k := 10) (n := 108) (j := 71) (x := (σ.2.1 55 71)) (Ls_55 hL) (by decide) rfl rfl (by decide) (Or.inl kf_X10_157) (am_tab tk_X10_drawOf 3 rfl) rfl ?_
  refine am_lmul (q := 9) (by omega) (am_tab tk_X10_drawOf 4 rfl) rfl ?_
  refine am_ldc2 (q := 12) (n := 12345) (by decide) kk_X10_576 (am_tab tk_X10_drawOf 5 rfl) rfl ?_
  refine am_ladd (q := 13) (by omega) (am_tab tk_X10_drawOf 6 rfl) rfl ?_
  refine am_ldc2 (q := 16) (n := 2147483648) (by decide) kk_X10_578 (am_tab tk_X10_drawOf 7 rfl) rfl ?_
  refine am_lrem (q := 17) (by omega) (by omega) (am_tab tk_X10_drawOf 8 rfl) rfl ?_
  refine am_putL (q := 20) (k := 10) (n := 108) (j := 71) (Ls_55 hL) (by decide) rfl (by decide) (Or.inl ⟨kf_X10_157, rfl⟩) (am_tab tk_X10_drawOf 9 rfl) rfl ?_
  refine am_aload_n (q := 21) rfl (am_tab tk_X10_drawOf 10 rfl) rfl ?_
  refine am_getL (q := 24) (a := 55) (k := 10) (n := 108) (j := 71) (x := (Int.tmod ((((1103515245 * (σ.2.1 55 71))) + 12345)) 2147483648)) (Ls_55 hL) (by decide) rfl rfl (by decide) (Or.inl kf_X10_157) (am_tab tk_X10_drawOf 11 rfl) rfl ?_
  refine am_ldc2 (q := 27) (n := 64) (by decide) kk_X10_580 (am_tab tk_X10_drawOf 12 rfl) rfl ?_
  refine am_ldiv (q := 28) (by omega) (by omega) (am_tab tk_X10_drawOf 13 rfl) rfl ?_
  refine am_iload_n (q := 29) rfl (am_tab tk_X10_drawOf 14 rfl) rfl ?_
  refine am_i2l (q := 30) (am_tab tk_X10_drawOf 15 rfl) rfl ?_
  refine am_lrem (q := 31) (by omega) (by omega) (am_tab tk_X10_drawOf 16 rfl) rfl ?_
  refine am_l2i (q := 32) (y := (ao_l2i ((Int.tmod ((Int.tdiv ((Int.tmod ((((1103515245 * (σ.2.1 55 71))) + 12345)) 2147483648)) 64)) m)))) rfl (am_tab tk_X10_drawOf 17 rfl) rfl ?_
  refine am_iret (Or.inl rfl) (Nat.le_of_ble_eq_true rfl) (Nat.le_of_ble_eq_true rfl) (am_tab tk_X10_drawOf 18 rfl) ?_
  refine ⟨congrArg (fun z => some (am_i z)) ?_, rfl⟩
  exact l2i_eq (x := drw (nxS (σ.2.1 55 71)) m) (by omega)
def kpW (σ : am_H) : Nat := ((σ.2.1 55 70 + 1).tmod 20).toNat
theorem kpW_eq {σ : am_H} (h : 0 ≤ σ.2.1 55 70 ∧ σ.2.1 55 70 ≤ 19) : (σ.2.1 55 70 + 1).tmod 20 = (kpW σ : Int) ∧ kpW σ < 20 := by
  have h1 := Int.tmod_nonneg (a := σ.2.1 55 70 + 1) 20 (by omega)
  have h2 := Int.tmod_lt_of_pos (σ.2.1 55 70 + 1) (b := 20) (by omega)
  unfold kpW
  omega
/-- what is put by of an act: the whole time, in the place that is next -/
def kpF (S : am_H) (w i : Nat) : Nat → Int := fun k => if 443 * w ≤ k ∧ k < 443 * w + i then S.2.1 96 (k - 443 * w) else S.2.1 102 k
theorem keeps_loop {Q : Option am_V → am_H → Prop} (S : am_H) (hL : lay S) (w : Nat) (hw : S.2.1 55 70 = w) (hw2 : w < 20) (K : am_wp M_X10_keeps Q 0 0 49 [(1, am_i (443 : Int)), (0, am_r 55)] [] (am_setA S 102 (kpF S w 443))) : ∀ m i : Nat, i + m = 443 → am_wp M_X10_keeps Q 0 0 15 [(1, am_i (i : Int)), (0, am_r 55)] [] (am_setA S 102 (kpF S w i)) := by
  intro m
  induction m with
  | zero =>
    intro i hi
    refine am_iload_n (q := 16) rfl (am_tab tk_X10_keeps 10 rfl) rfl ?_
    refine am_sipush (q := 19) (n := 443) (by decide) rfl (am_tab tk_X10_keeps 11 rfl) rfl ?_
    refine am_icmp_ge (q := 22) (t := 49) (am_tab tk_X10_keeps 12 rfl) (by decide) rfl (fun h19 => ?_) (fun h19 => ?_)
    · have e0 : i = 443 := by omega
      subst e0
      exact K
    · exact absurd h19 (by omega)
  | succ m ih =>
    intro i hi
    have e1 : (((443 : Int) * (w : Int)) + (i : Int)).toNat = 443 * w + i := by omega
    refine am_iload_n (q := 16) rfl (am_tab tk_X10_keeps 10 rfl) rfl ?_
    refine am_sipush (q := 19) (n := 443) (by decide) rfl (am_tab tk_X10_keeps 11 rfl) rfl ?_
    refine am_icmp_ge (q := 22) (t := 49) (am_tab tk_X10_keeps 12 rfl) (by decide) rfl (fun h19 => ?_) (fun h19 => ?_)
    · exact absurd h19 (by omega)
    · refine am_aload_n (q := 23) rfl (am_tab tk_X10_keeps 13 rfl) rfl ?_
      refine am_getR (q := 26) (a := 55) (k := 10) (n := 108) (j := 68) (r := some (102)) (Ls_55 hL) (by decide) rfl (Lr_55_68 hL) (by decide) (Or.inl kf_X10_154) (am_tab tk_X10_keeps 14 rfl) rfl ?_
      refine am_sipush (q := 29) (n := 443) (by decide) rfl (am_tab tk_X10_keeps 15 rfl) rfl ?_
      refine am_aload_n (q := 30) rfl (am_tab tk_X10_keeps 16 rfl) rfl ?_
      refine am_getI (q := 33) (a := 55) (k := 10) (n := 108) (j := 70) (x := (w : Int)) (Ls_55 hL) (by decide) rfl hw (by decide) (Or.inl kf_X10_562) (am_tab tk_X10_keeps 17 rfl) rfl ?_
      refine am_imul (q := 34) (by omega) (am_tab tk_X10_keeps 18 rfl) rfl ?_
      refine am_iload_n (q := 35) rfl (am_tab tk_X10_keeps 19 rfl) rfl ?_
      refine am_iadd (q := 36) (by omega) (am_tab tk_X10_keeps 20 rfl) rfl ?_
      refine am_aload_n (q := 37) rfl (am_tab tk_X10_keeps 21 rfl) rfl ?_
      refine am_getR (q := 40) (a := 55) (k := 10) (n := 108) (j := 54) (r := some (96)) (Ls_55 hL) (by decide) rfl (Lr_55_54 hL) (by decide) (Or.inl kf_X10_136) (am_tab tk_X10_keeps 22 rfl) rfl ?_
      refine am_iload_n (q := 41) rfl (am_tab tk_X10_keeps 23 rfl) rfl ?_
      refine am_iald (q := 42) (a := 96) (n := 443) (x := (S.2.1 96 i)) (Ls_96 hL) (by omega) (by omega) rfl (am_tab tk_X10_keeps 24 rfl) rfl ?_
      refine am_iast (q := 43) (a := 102) (n := 8860) (Ls_102 hL) (by omega) (by omega) (am_tab tk_X10_keeps 25 rfl) rfl ?_
      refine am_iinc (q := 46) rfl (by omega) (by decide) (ls2 := [(1, am_i (((i : Int) + 1))), (0, am_r 55)]) rfl (am_tab tk_X10_keeps 26 rfl) rfl ?_
      refine am_goto (t := 15) (am_tab tk_X10_keeps 27 rfl) (by decide) ?_
      refine am_hp2 (σ1 := am_setA S 102 (kpF S w (i + 1))) ?_ (ih (i + 1) (by omega))
      rw [e1, am_setA_N]; congr 1; funext k; unfold kpF; repeat' split
      all_goals first | rfl | omega | (rename_i h9 _; subst h9; rw [Nat.add_sub_cancel_left])
def keS (σ : am_H) : am_H := am_setN σ 55 70 (kpW σ : Int)
def keT (σ : am_H) : am_H := am_setA (keS σ) 102 (kpF (keS σ) (kpW σ) 443)
/-- an act begins: the time is put by -/
def keH (σ : am_H) : am_H := am_setN (keT σ) 55 69 (if σ.2.1 55 69 < 20 then σ.2.1 55 69 + 1 else σ.2.1 55 69)
theorem keeps_end (σ : am_H) (hL : lay σ) (hu : 0 ≤ σ.2.1 55 69 ∧ σ.2.1 55 69 ≤ 20) : am_wp M_X10_keeps (fun r σ' => r = none ∧ σ' = keH σ) 0 0 49 [(1, am_i (443 : Int)), (0, am_r 55)] [] (keT σ) := by
  refine am_aload_n (q := 50) rfl (am_tab tk_X10_keeps 28 rfl) rfl ?_
  refine am_getI (q := 53) (a := 55) (k := 10) (n := 108) (j := 69) (x := (σ.2.1 55 69)) (Ls_55 hL) (by decide) rfl rfl (by decide) (Or.inl kf_X10_388) (am_tab tk_X10_keeps 29 rfl) rfl ?_
  refine am_bipush (q := 55) (n := 20) (by decide) rfl (am_tab tk_X10_keeps 30 rfl) rfl ?_
  refine am_icmp_ge (q := 58) (t := 68) (am_tab tk_X10_keeps 31 rfl) (by decide) rfl (fun h55 => ?_) (fun h55 => ?_)
  · refine am_vret rfl (Nat.le_of_ble_eq_true rfl) (Nat.le_of_ble_eq_true rfl) (am_tab tk_X10_keeps 38 rfl) ?_
    refine ⟨rfl, ?_⟩
    unfold keH
    first
      | (rw [if_pos (by omega)])
      | (rw [if_neg (by omega)]; exact (am_setN_self (keT σ) 55 69).symm)
  · refine am_aload_n (q := 59) rfl (am_tab tk_X10_keeps 32 rfl) rfl ?_
    refine am_dup (q := 60) rfl (am_tab tk_X10_keeps 33 rfl) rfl ?_
    refine am_getI (q := 63) (a := 55) (k := 10) (n := 108) (j := 69) (x := (σ.2.1 55 69)) (Ls_55 hL) (by decide) rfl rfl (by decide) (Or.inl kf_X10_388) (am_tab tk_X10_keeps 34 rfl) rfl ?_
    refine am_iconst (q := 64) (n := 1) (by decide) (am_tab tk_X10_keeps 35 rfl) rfl ?_
    refine am_iadd (q := 65) (by omega) (am_tab tk_X10_keeps 36 rfl) rfl ?_
    refine am_putI (q := 68) (k := 10) (n := 108) (j := 69) (Ls_55 hL) (by decide) rfl (by decide) (Or.inl ⟨kf_X10_388, rfl⟩) (am_tab tk_X10_keeps 37 rfl) rfl ?_
    refine am_vret rfl (Nat.le_of_ble_eq_true rfl) (Nat.le_of_ble_eq_true rfl) (am_tab tk_X10_keeps 38 rfl) ?_
    refine ⟨rfl, ?_⟩
    unfold keH
    first
      | (rw [if_pos (by omega)])
      | (rw [if_neg (by omega)]; exact (am_setN_self (keT σ) 55 69).symm)
theorem c_X10_keeps (σ : am_H) (hL : lay σ)  (hn : 0 ≤ σ.2.1 55 70 ∧ σ.2.1 55 70 ≤ 19) (hu : 0 ≤ σ.2.1 55 69 ∧ σ.2.1 55 69 ≤ 20) : am_met M_X10_keeps [am_r 55] σ (fun r σ' => r = none ∧ σ' = keH σ) := by
  refine am_enter (show plainFor yX10_keeps = true by decide +kernel) rfl (Nat.le_of_ble_eq_true rfl) (fun _ _ _ => trivial) ?_
  have hk := kpW_eq hn
  refine am_aload_n (q := 1) rfl (am_tab tk_X10_keeps 0 rfl) rfl ?_
  refine am_aload_n (q := 2) rfl (am_tab tk_X10_keeps 1 rfl) rfl ?_
  refine am_getI (q := 5) (a := 55) (k := 10) (n := 108) (j := 70) (x := (σ.2.1 55 70)) (Ls_55 hL) (by decide) rfl rfl (by decide) (Or.inl kf_X10_562) (am_tab tk_X10_keeps 2 rfl) rfl ?_
  refine am_iconst (q := 6) (n := 1) (by decide) (am_tab tk_X10_keeps 3 rfl) rfl ?_
  refine am_iadd (q := 7) (by omega) (am_tab tk_X10_keeps 4 rfl) rfl ?_
  refine am_bipush (q := 9) (n := 20) (by decide) rfl (am_tab tk_X10_keeps 5 rfl) rfl ?_
  refine am_irem (q := 10) (by omega) (by omega) (am_tab tk_X10_keeps 6 rfl) rfl ?_
  refine am_putI (q := 13) (k := 10) (n := 108) (j := 70) (Ls_55 hL) (by decide) rfl (by decide) (Or.inl ⟨kf_X10_562, rfl⟩) (am_tab tk_X10_keeps 7 rfl) rfl ?_
  refine am_iconst (q := 14) (n := 0) (by decide) (am_tab tk_X10_keeps 8 rfl) rfl ?_
  refine am_istore_n (q := 15) (by decide) (ls2 := [(1, am_i 0), (0, am_r 55)]) rfl (am_tab tk_X10_keeps 9 rfl) rfl ?_
  rw [hk.1]
  have h0 := keeps_loop (keS σ) hL (kpW σ) rfl hk.2 (keeps_end σ hL hu) 443 0 (by omega)
  rw [show kpF (keS σ) (kpW σ) 0 = (fun k => (keS σ).2.1 102 k) from funext fun k => if_neg (by omega), am_setA_self] at h0
  exact h0
