theorem c_isFullN (S : am_H) (hL : lay S) (c : Nat) (room : Int) (pl : Int) (hc : c < 10) (h5 : S.2.1 55 5 = 0) (hf : ¬ S.2.1 85 c = room) : am_met M_X10_isFull [am_r 55, am_i ((c : Int)), am_i room, am_i pl] S (fun r σ' => r = some (am_i 0) ∧ σ' = S) := by
  refine am_qq (fun Q hQ => ?_)
  refine am_enter (show plainFor yX10_isFull = true by decide +kernel) rfl (Nat.le_of_ble_eq_true rfl) (fun _ _ _ => trivial) ?_
  refine am_aload_n (q := 1) rfl (am_tab tk_X10_isFull 0 rfl) rfl ?_
  refine am_getI (q := 4) (a := 55) (k := 10) (n := 108) (j := 5) (x := 0) (Ls_55 hL) (by decide) rfl h5 (by decide) (Or.inl kf_X10_248) (am_tab tk_X10_isFull 1 rfl) rfl ?_
  refine am_if_ne (q := 7) (t := 23) (am_tab tk_X10_isFull 2 rfl) (by decide) rfl (fun h4 => ?_) (fun h4 => ?_)
  · exact absurd rfl h4
  · refine am_aload_n (q := 8) rfl (am_tab tk_X10_isFull 3 rfl) rfl ?_
    refine am_getR (q := 11) (a := 55) (k := 10) (n := 108) (j := 39) (r := some (85)) (Ls_55 hL) (by decide) rfl (Lr_55_39 hL) (by decide) (Or.inl kf_X10_102) (am_tab tk_X10_isFull 4 rfl) rfl ?_
    refine am_iload_n (q := 12) rfl (am_tab tk_X10_isFull 5 rfl) rfl ?_
    refine am_iald (q := 13) (a := 85) (n := 10) (x := (S.2.1 85 c)) (Ls_85 hL) (by omega) (by omega) (by rw [show Int.toNat (c : Int) = c by omega]) (am_tab tk_X10_isFull 6 rfl) rfl ?_
    refine am_iload_n (q := 14) rfl (am_tab tk_X10_isFull 7 rfl) rfl ?_
    refine am_icmp_ne (q := 17) (t := 23) (am_tab tk_X10_isFull 8 rfl) (by decide) rfl (fun h14 => ?_) (fun h14 => ?_)
    · refine am_aload_n (q := 24) rfl (am_tab tk_X10_isFull 13 rfl) rfl ?_
      refine am_getI (q := 27) (a := 55) (k := 10) (n := 108) (j := 5) (x := 0) (Ls_55 hL) (by decide) rfl h5 (by decide) (Or.inl kf_X10_248) (am_tab tk_X10_isFull 14 rfl) rfl ?_
      refine am_if_eq (q := 30) (t := 34) (am_tab tk_X10_isFull 15 rfl) (by decide) rfl (fun h27 => ?_) (fun h27 => ?_)
      · refine am_iconst (q := 35) (n := 0) (by decide) (am_tab tk_X10_isFull 18 rfl) rfl ?_
        refine am_iret (Or.inr ⟨rfl, by first | exact Or.inl rfl | exact Or.inr rfl | omega⟩) (Nat.le_of_ble_eq_true rfl) (Nat.le_of_ble_eq_true rfl) (am_tab tk_X10_isFull 19 rfl) ?_
        refine hQ _ _ ?_
        exact ⟨rfl, rfl⟩
      · exact absurd h27 (by decide)
    · exact absurd h14 hf
theorem c_isFullY (S : am_H) (hL : lay S) (c : Nat) (room : Int) (pl : Int) (hc : c < 10) (h5 : S.2.1 55 5 = 0) (hf : S.2.1 85 c = room) : am_met M_X10_isFull [am_r 55, am_i ((c : Int)), am_i room, am_i pl] S (fun r σ' => r = some (am_i 1) ∧ σ' = am_setN (am_setN S 55 5 5) 55 6 pl) := by
  refine am_qq (fun Q hQ => ?_)
  refine am_enter (show plainFor yX10_isFull = true by decide +kernel) rfl (Nat.le_of_ble_eq_true rfl) (fun _ _ _ => trivial) ?_
  refine am_aload_n (q := 1) rfl (am_tab tk_X10_isFull 0 rfl) rfl ?_
  refine am_getI (q := 4) (a := 55) (k := 10) (n := 108) (j := 5) (x := 0) (Ls_55 hL) (by decide) rfl h5 (by decide) (Or.inl kf_X10_248) (am_tab tk_X10_isFull 1 rfl) rfl ?_
  refine am_if_ne (q := 7) (t := 23) (am_tab tk_X10_isFull 2 rfl) (by decide) rfl (fun h4 => ?_) (fun h4 => ?_)
  · exact absurd rfl h4
  · refine am_aload_n (q := 8) rfl (am_tab tk_X10_isFull 3 rfl) rfl ?_
    refine am_getR (q := 11) (a := 55) (k := 10) (n := 108) (j := 39) (r := some (85)) (Ls_55 hL) (by decide) rfl (Lr_55_39 hL) (by decide) (Or.inl kf_X10_102) (am_tab tk_X10_isFull 4 rfl) rfl ?_
    refine am_iload_n (q := 12) rfl (am_tab tk_X10_isFull 5 rfl) rfl ?_
    refine am_iald (q := 13) (a := 85) (n := 10) (x := (S.2.1 85 c)) (Ls_85 hL) (by omega) (by omega) (by rw [show Int.toNat (c : Int) = c by omega]) (am_tab tk_X10_isFull 6 rfl) rfl ?_
    refine am_iload_n (q := 14) rfl (am_tab tk_X10_isFull 7 rfl) rfl ?_
    refine am_icmp_ne (q := 17) (t := 23) (am_tab tk_X10_isFull 8 rfl) (by decide) rfl (fun h14 => ?_) (fun h14 => ?_)
    · exact absurd hf h14
    · refine am_aload_n (q := 18) rfl (am_tab tk_X10_isFull 9 rfl) rfl ?_
      refine am_iconst (q := 19) (n := 5) (by decide) (am_tab tk_X10_isFull 10 rfl) rfl ?_
      refine am_iload_n (q := 20) rfl (am_tab tk_X10_isFull 11 rfl) rfl ?_
      refine am_callV0 (q := 23) (me2 := M_X10_fail) (b := 55) (kb := 10) (nb := 108) (As := [am_i 5, am_i pl]) (rest := []) (out := []) (c_fail0 S hL 5 pl h5) ⟨rfl, rfl⟩ (Ls_55 hL) (by decide) ⟨Or.inl km_X10_278, kc_X10_fail, kn_X10, kd_X10_fail, ⟨(Nat.le_of_ble_eq_true rfl), (Nat.le_of_ble_eq_true rfl)⟩, ⟨(Nat.le_of_ble_eq_true rfl), (Nat.le_of_ble_eq_true rfl)⟩, (Nat.le_of_ble_eq_true rfl)⟩ ki_X10_fail ks_X10_fail rfl rfl (am_tab tk_X10_isFull 12 rfl) rfl ?_
      refine am_aload_n (q := 24) rfl (am_tab tk_X10_isFull 13 rfl) rfl ?_
      refine am_getI (q := 27) (a := 55) (k := 10) (n := 108) (j := 5) (x := 5) (Ls_55 hL) (by decide) rfl rfl (by decide) (Or.inl kf_X10_248) (am_tab tk_X10_isFull 14 rfl) rfl ?_
      refine am_if_eq (q := 30) (t := 34) (am_tab tk_X10_isFull 15 rfl) (by decide) rfl (fun h27 => ?_) (fun h27 => ?_)
      · exact absurd h27 (by decide)
      · refine am_iconst (q := 31) (n := 1) (by decide) (am_tab tk_X10_isFull 16 rfl) rfl ?_
        refine am_goto (t := 35) (am_tab tk_X10_isFull 17 rfl) (by decide) ?_
        refine am_iret (Or.inr ⟨rfl, by first | exact Or.inl rfl | exact Or.inr rfl | omega⟩) (Nat.le_of_ble_eq_true rfl) (Nat.le_of_ble_eq_true rfl) (am_tab tk_X10_isFull 19 rfl) ?_
        refine hQ _ _ ?_
        exact ⟨rfl, rfl⟩
/-- who has this name -/
def pOf (S : am_H) (v : Int) : Int := firstQ (fun k => decide (S.2.1 86 k = v)) (S.2.1 85 0).toNat
theorem c_X10_personOf (S : am_H) (hL : lay S) (v : Int) (hN : 0 ≤ S.2.1 85 0 ∧ S.2.1 85 0 ≤ 8) : am_met M_X10_personOf [am_r 55, am_l v] S (fun r σ' => r = some (am_i (pOf S v)) ∧ σ' = S) := by
  refine am_qq (fun Q hQ => ?_)
  refine am_enter (show plainFor yX10_personOf = true by decide +kernel) rfl (Nat.le_of_ble_eq_true rfl) (fun _ _ _ => trivial) ?_
  refine am_iconst (q := 1) (n := 0) (by decide) (am_tab tk_X10_personOf 0 rfl) rfl ?_
  refine am_istore_n (q := 2) (by decide) (ls2 := [(3, am_i 0), (0, am_r 55), (1, am_l v)]) rfl (am_tab tk_X10_personOf 1 rfl) rfl ?_
  have L2 : ∀ (n2 : Nat) (k : Nat), 8 - k < n2 → (k : Int) ≤ S.2.1 85 0 → anyB (fun k => decide (S.2.1 86 k = v)) k = false → am_wp M_X10_personOf Q 0 0 2 [(3, am_i ((k : Int))), (0, am_r 55), (1, am_l v)] [] S := by
    intro n2
    induction n2 with
    | zero => intro k hn2; exact absurd hn2 (Nat.not_lt_zero _)
    | succ n2 ih2 =>
      intro k hn2 hk hq
      refine am_iload_n (q := 3) rfl (am_tab tk_X10_personOf 2 rfl) rfl ?_
      refine am_aload_n (q := 4) rfl (am_tab tk_X10_personOf 3 rfl) rfl ?_
      refine am_getR (q := 7) (a := 55) (k := 10) (n := 108) (j := 39) (r := some (85)) (Ls_55 hL) (by decide) rfl (Lr_55_39 hL) (by decide) (Or.inl kf_X10_102) (am_tab tk_X10_personOf 4 rfl) rfl ?_
      refine am_iconst (q := 8) (n := 0) (by decide) (am_tab tk_X10_personOf 5 rfl) rfl ?_
      refine am_iald (q := 9) (a := 85) (n := 10) (x := (S.2.1 85 0)) (Ls_85 hL) (by omega) (by omega) rfl (am_tab tk_X10_personOf 6 rfl) rfl ?_
      refine am_icmp_ge (q := 12) (t := 31) (am_tab tk_X10_personOf 7 rfl) (by decide) rfl (fun h9 => ?_) (fun h9 => ?_)
      · refine am_iconst (q := 32) (n := (-1)) (by decide) (am_tab tk_X10_personOf 19 rfl) rfl ?_
        refine am_iret (Or.inl rfl) (Nat.le_of_ble_eq_true rfl) (Nat.le_of_ble_eq_true rfl) (am_tab tk_X10_personOf 20 rfl) ?_
        refine hQ _ _ ?_
        refine ⟨congrArg (fun z => some (am_i z)) ?_, rfl⟩
        unfold pOf
        rw [← show k = (S.2.1 85 0).toNat by omega, firstQ_none hq]
      · refine am_aload_n (q := 13) rfl (am_tab tk_X10_personOf 8 rfl) rfl ?_
        refine am_getR (q := 16) (a := 55) (k := 10) (n := 108) (j := 40) (r := some (86)) (Ls_55 hL) (by decide) rfl (Lr_55_40 hL) (by decide) (Or.inl kf_X10_105) (am_tab tk_X10_personOf 9 rfl) rfl ?_
        refine am_iload_n (q := 17) rfl (am_tab tk_X10_personOf 10 rfl) rfl ?_
        refine am_lald (q := 18) (a := 86) (n := 16) (x := (S.2.1 86 k)) (Ls_86 hL) (by omega) (by omega) (by rw [show Int.toNat (k : Int) = k by omega]) (am_tab tk_X10_personOf 11 rfl) rfl ?_
        refine am_lload_n (q := 19) rfl (am_tab tk_X10_personOf 12 rfl) rfl ?_
        refine am_lcmp (q := 20) (am_tab tk_X10_personOf 13 rfl) rfl ?_
        refine am_if_ne (q := 23) (t := 25) (am_tab tk_X10_personOf 14 rfl) (by decide) rfl (fun h20 => ?_) (fun h20 => ?_)
        · rw [ao_cmp_eq] at h20
          refine am_iinc (q := 28) rfl (by omega) (by decide) (ls2 := [(3, am_i (((k : Int) + 1))), (0, am_r 55), (1, am_l v)]) rfl (am_tab tk_X10_personOf 17 rfl) rfl ?_
          refine am_goto (t := 2) (am_tab tk_X10_personOf 18 rfl) (by decide) ?_
          exact am_less (by intro q hq; simp only [List.mem_cons, List.not_mem_nil, or_false] at hq; rcases hq with rfl | rfl | rfl <;> simp) (ih2 (k + 1) (by omega) (by omega) (anyB_f hq (by simp [h20])))
        · rw [ao_cmp_eq] at h20
          refine am_iload_n (q := 24) rfl (am_tab tk_X10_personOf 15 rfl) rfl ?_
          refine am_iret (Or.inl rfl) (Nat.le_of_ble_eq_true rfl) (Nat.le_of_ble_eq_true rfl) (am_tab tk_X10_personOf 16 rfl) ?_
          refine hQ _ _ ?_
          refine ⟨congrArg (fun z => some (am_i z)) ?_, rfl⟩
          unfold pOf
          rw [firstQ_at (g := fun k => decide (S.2.1 86 k = v)) (i := k) (by simp [h20]) hq (by omega)]
  refine am_less (by intro q hq; simp only [List.mem_cons, List.not_mem_nil, or_false] at hq; rcases hq with rfl | rfl | rfl <;> simp) (L2 (_ + 1) 0 (by exact Nat.lt_succ_self _) (by omega) rfl)
theorem c_nameY {b : Nat → Int} {E i : Nat} {S : am_H} (hZ : ZS b E i S) (hk : okN b E i) : am_met M_X10_name [am_r 55] S (fun r τ => r = some (am_l (zN b E i)) ∧ ZS b E (i + 1) τ ∧ frw W_sc S τ ∧ τ.2.1 55 38 = (zP b E i : Int)) := by
  refine am_mono (c_X10_name b E i S hZ) (fun r τ h => ?_)
  rcases h with h | h
  · exact h.2
  · exact absurd hk h.1
theorem c_nameN {b : Nat → Int} {E i : Nat} {S : am_H} (hZ : ZS b E i S) (hk : ¬ okN b E i) : am_met M_X10_name [am_r 55] S (fun r τ => r = some (am_l 0) ∧ ZB b E 1 (mfP b E i) τ ∧ frw W_sc S τ) := by
  refine am_mono (c_X10_name b E i S hZ) (fun r τ h => ?_)
  rcases h with h | h
  · exact absurd h.1 hk
  · exact h.2
theorem pOf_fr {S T : am_H} (hF : frw W_sc S T) (v : Int) : pOf T v = pOf S v := by
  have e : ∀ k, T.2.1 86 k = S.2.1 86 k := fun k => hF.2.2 86 k (by unfold W_sc; omega)
  unfold pOf
  rw [hF.2.2 85 0 (by unfold W_sc; omega)]
  simp only [e]
theorem okN_n6 {b : Nat → Int} {E i : Nat} (h : okN b E i) : ¬ zK b E i = 6 := by unfold okN at h; omega
theorem c_X10_personHere (b : Nat → Int) (E i : Nat) (S : am_H) (hZ : ZS b E i S)  (hN : 0 ≤ S.2.1 85 0 ∧ S.2.1 85 0 ≤ 8) : am_met M_X10_personHere [am_r 55] S (fun r σ' => ((okN b E i ∧ ¬ pOf S (zN b E i) = -1) ∧ r = some (am_i (pOf S (zN b E i))) ∧ ZS b E (i + 1) σ' ∧ frw W_sc S σ' ∧ σ'.2.1 55 38 = (zP b E i : Int)) ∨ (¬ (okN b E i ∧ ¬ pOf S (zN b E i) = -1) ∧ r = some (am_i 0) ∧ ((okN b E i ∧ ZB b E 3 (zP b E i : Int) σ') ∨ (¬ okN b E i ∧ ZB b E 1 (mfP b E i) σ')) ∧ frw W_sc S σ')) := by
  refine am_qq (fun Q hQ => ?_)
  refine am_enter (show plainFor yX10_personHere = true by decide +kernel) rfl (Nat.le_of_ble_eq_true rfl) (fun _ _ _ => trivial) ?_
  have hL := hZ.1
  by_cases n1 : okN b E i
  · refine am_aload_n (q := 1) rfl (am_tab tk_X10_personHere 0 rfl) rfl ?_
    refine am_callVr (q := 4) (me2 := M_X10_name) (b := 55) (kb := 10) (nb := 108) (As := []) (rest := []) (c_nameY hZ n1) ⟨rfl, rfl⟩ (Ls_55 hL) (by decide) ⟨Or.inl km_X10_309, kc_X10_name, kn_X10, kd_X10_name, ⟨(Nat.le_of_ble_eq_true rfl), (Nat.le_of_ble_eq_true rfl)⟩, ⟨(Nat.le_of_ble_eq_true rfl), (Nat.le_of_ble_eq_true rfl)⟩, (Nat.le_of_ble_eq_true rfl)⟩ ki_X10_name ks_X10_name rfl (am_tab tk_X10_personHere 1 rfl) rfl ?_
    rintro r T1 ⟨rfl, hZ1, hF1, e38⟩
    refine am_st (st2 := [am_l (zN b E i)]) rfl ?_
    refine am_lstore_n (q := 5) (by decide) (ls2 := [(1, am_l (zN b E i)), (0, am_r 55)]) rfl (am_tab tk_X10_personHere 2 rfl) rfl ?_
    by_cases n2 : pOf S (zN b E i) = -1
    · refine am_aload_n (q := 6) rfl (am_tab tk_X10_personHere 3 rfl) rfl ?_
      refine am_lload_n (q := 7) rfl (am_tab tk_X10_personHere 4 rfl) rfl ?_
      refine am_callVr (q := 10) (me2 := M_X10_personOf) (b := 55) (kb := 10) (nb := 108) (As := [am_l (zN b E i)]) (rest := []) (c_X10_personOf T1 hZ1.1 (zN b E i) (by rw [hF1.2.2 85 0 (by unfold W_sc; omega)]; exact hN)) ⟨rfl, rfl⟩ (Ls_55 hZ1.1) (by decide) ⟨Or.inl km_X10_313, kc_X10_personOf, kn_X10, kd_X10_personOf, ⟨(Nat.le_of_ble_eq_true rfl), (Nat.le_of_ble_eq_true rfl)⟩, ⟨(Nat.le_of_ble_eq_true rfl), (Nat.le_of_ble_eq_true rfl)⟩, (Nat.le_of_ble_eq_true rfl)⟩ ki_X10_personOf ks_X10_personOf rfl (am_tab tk_X10_personHere 5 rfl) rfl ?_
      rintro r τ ⟨rfl, hτ⟩
      rw [hτ, pOf_fr hF1]
      refine am_st (st2 := [am_i (pOf S (zN b E i))]) rfl ?_
      refine am_istore_n (q := 11) (by decide) (ls2 := [(3, am_i (pOf S (zN b E i))), (1, am_l (zN b E i)), (0, am_r 55)]) rfl (am_tab tk_X10_personHere 6 rfl) rfl ?_
      refine am_aload_n (q := 12) rfl (am_tab tk_X10_personHere 7 rfl) rfl ?_
      refine am_getI (q := 15) (a := 55) (k := 10) (n := 108) (j := 5) (x := 0) (Ls_55 hZ1.1) (by decide) rfl hZ1.2.2.2.1 (by decide) (Or.inl kf_X10_248) (am_tab tk_X10_personHere 8 rfl) rfl ?_
      refine am_if_ne (q := 18) (t := 32) (am_tab tk_X10_personHere 9 rfl) (by decide) rfl (fun h15 => ?_) (fun h15 => ?_)
      · exact absurd h15 (by decide)
      · refine am_iload_n (q := 19) rfl (am_tab tk_X10_personHere 10 rfl) rfl ?_
        refine am_iconst (q := 20) (n := (-1)) (by decide) (am_tab tk_X10_personHere 11 rfl) rfl ?_
        refine am_icmp_ne (q := 23) (t := 32) (am_tab tk_X10_personHere 12 rfl) (by decide) rfl (fun h20 => ?_) (fun h20 => ?_)
        · exact absurd n2 h20
        · refine am_aload_n (q := 24) rfl (am_tab tk_X10_personHere 13 rfl) rfl ?_
          refine am_iconst (q := 25) (n := 3) (by decide) (am_tab tk_X10_personHere 14 rfl) rfl ?_
          refine am_aload_n (q := 26) rfl (am_tab tk_X10_personHere 15 rfl) rfl ?_
          refine am_getI (q := 29) (a := 55) (k := 10) (n := 108) (j := 38) (x := (zP b E i : Int)) (Ls_55 hZ1.1) (by decide) rfl e38 (by decide) (Or.inl kf_X10_299) (am_tab tk_X10_personHere 16 rfl) rfl ?_
          refine am_callV0 (q := 32) (me2 := M_X10_fail) (b := 55) (kb := 10) (nb := 108) (As := [am_i 3, am_i ((zP b E i : Int))]) (rest := []) (out := []) (c_fail0 T1 hZ1.1 3 (zP b E i : Int) hZ1.2.2.2.1) ⟨rfl, rfl⟩ (Ls_55 hZ1.1) (by decide) ⟨Or.inl km_X10_278, kc_X10_fail, kn_X10, kd_X10_fail, ⟨(Nat.le_of_ble_eq_true rfl), (Nat.le_of_ble_eq_true rfl)⟩, ⟨(Nat.le_of_ble_eq_true rfl), (Nat.le_of_ble_eq_true rfl)⟩, (Nat.le_of_ble_eq_true rfl)⟩ ki_X10_fail ks_X10_fail rfl rfl (am_tab tk_X10_personHere 17 rfl) rfl ?_
          refine am_aload_n (q := 33) rfl (am_tab tk_X10_personHere 18 rfl) rfl ?_
          refine am_getI (q := 36) (a := 55) (k := 10) (n := 108) (j := 5) (x := 3) (Ls_55 hZ1.1) (by decide) rfl rfl (by decide) (Or.inl kf_X10_248) (am_tab tk_X10_personHere 19 rfl) rfl ?_
          refine am_if_ne (q := 39) (t := 43) (am_tab tk_X10_personHere 20 rfl) (by decide) rfl (fun h36 => ?_) (fun h36 => ?_)
          · refine am_iconst (q := 44) (n := 0) (by decide) (am_tab tk_X10_personHere 23 rfl) rfl ?_
            refine am_iret (Or.inl rfl) (Nat.le_of_ble_eq_true rfl) (Nat.le_of_ble_eq_true rfl) (am_tab tk_X10_personHere 24 rfl) ?_
            refine hQ _ _ ?_
            have hF : frw W_sc S (am_setN (am_setN T1 55 5 3) 55 6 (zP b E i : Int)) := (hF1.setN (by unfold W_sc; omega)).setN (by unfold W_sc; omega)
            have hB : ZB b E 3 (zP b E i : Int) (am_setN (am_setN T1 55 5 3) 55 6 (zP b E i : Int)) := ZB_of hZ.1 hZ.2.1 hF hZ.2.2.1 rfl (by decide) rfl (by have := hZ1.2.2.2.2.2.1; show 0 ≤ T1.2.1 55 2 ∧ T1.2.1 55 2 ≤ _; omega)
            exact Or.inr ⟨fun hx => hx.2 n2, rfl, Or.inl ⟨n1, hB⟩, hF⟩
          · exact absurd h36 (by decide)
    · refine am_aload_n (q := 6) rfl (am_tab tk_X10_personHere 3 rfl) rfl ?_
      refine am_lload_n (q := 7) rfl (am_tab tk_X10_personHere 4 rfl) rfl ?_
      refine am_callVr (q := 10) (me2 := M_X10_personOf) (b := 55) (kb := 10) (nb := 108) (As := [am_l (zN b E i)]) (rest := []) (c_X10_personOf T1 hZ1.1 (zN b E i) (by rw [hF1.2.2 85 0 (by unfold W_sc; omega)]; exact hN)) ⟨rfl, rfl⟩ (Ls_55 hZ1.1) (by decide) ⟨Or.inl km_X10_313, kc_X10_personOf, kn_X10, kd_X10_personOf, ⟨(Nat.le_of_ble_eq_true rfl), (Nat.le_of_ble_eq_true rfl)⟩, ⟨(Nat.le_of_ble_eq_true rfl), (Nat.le_of_ble_eq_true rfl)⟩, (Nat.le_of_ble_eq_true rfl)⟩ ki_X10_personOf ks_X10_personOf rfl (am_tab tk_X10_personHere 5 rfl) rfl ?_
      rintro r τ ⟨rfl, hτ⟩
      rw [hτ, pOf_fr hF1]
      refine am_st (st2 := [am_i (pOf S (zN b E i))]) rfl ?_
      refine am_istore_n (q := 11) (by decide) (ls2 := [(3, am_i (pOf S (zN b E i))), (1, am_l (zN b E i)), (0, am_r 55)]) rfl (am_tab tk_X10_personHere 6 rfl) rfl ?_
      refine am_aload_n (q := 12) rfl (am_tab tk_X10_personHere 7 rfl) rfl ?_
      refine am_getI (q := 15) (a := 55) (k := 10) (n := 108) (j := 5) (x := 0) (Ls_55 hZ1.1) (by decide) rfl hZ1.2.2.2.1 (by decide) (Or.inl kf_X10_248) (am_tab tk_X10_personHere 8 rfl) rfl ?_
      refine am_if_ne (q := 18) (t := 32) (am_tab tk_X10_personHere 9 rfl) (by decide) rfl (fun h15 => ?_) (fun h15 => ?_)
      · exact absurd h15 (by decide)
      · refine am_iload_n (q := 19) rfl (am_tab tk_X10_personHere 10 rfl) rfl ?_
        refine am_iconst (q := 20) (n := (-1)) (by decide) (am_tab tk_X10_personHere 11 rfl) rfl ?_
        refine am_icmp_ne (q := 23) (t := 32) (am_tab tk_X10_personHere 12 rfl) (by decide) rfl (fun h20 => ?_) (fun h20 => ?_)
        · refine am_aload_n (q := 33) rfl (am_tab tk_X10_personHere 18 rfl) rfl ?_
          refine am_getI (q := 36) (a := 55) (k := 10) (n := 108) (j := 5) (x := 0) (Ls_55 hZ1.1) (by decide) rfl hZ1.2.2.2.1 (by decide) (Or.inl kf_X10_248) (am_tab tk_X10_personHere 19 rfl) rfl ?_
          refine am_if_ne (q := 39) (t := 43) (am_tab tk_X10_personHere 20 rfl) (by decide) rfl (fun h36 => ?_) (fun h36 => ?_)
          · exact absurd h36 (by decide)
          · refine am_iload_n (q := 40) rfl (am_tab tk_X10_personHere 21 rfl) rfl ?_
            refine am_goto (t := 44) (am_tab tk_X10_personHere 22 rfl) (by decide) ?_
            refine am_iret (Or.inl rfl) (Nat.le_of_ble_eq_true rfl) (Nat.le_of_ble_eq_true rfl) (am_tab tk_X10_personHere 24 rfl) ?_
            refine hQ _ _ ?_
            exact Or.inl ⟨⟨n1, n2⟩, rfl, hZ1, hF1, e38⟩
        · exact absurd h20 n2
  · refine am_aload_n (q := 1) rfl (am_tab tk_X10_personHere 0 rfl) rfl ?_
    refine am_callVr (q := 4) (me2 := M_X10_name) (b := 55) (kb := 10) (nb := 108) (As := []) (rest := []) (c_nameN hZ n1) ⟨rfl, rfl⟩ (Ls_55 hL) (by decide) ⟨Or.inl km_X10_309, kc_X10_name, kn_X10, kd_X10_name, ⟨(Nat.le_of_ble_eq_true rfl), (Nat.le_of_ble_eq_true rfl)⟩, ⟨(Nat.le_of_ble_eq_true rfl), (Nat.le_of_ble_eq_true rfl)⟩, (Nat.le_of_ble_eq_true rfl)⟩ ki_X10_name ks_X10_name rfl (am_tab tk_X10_personHere 1 rfl) rfl ?_
    rintro r T1 ⟨rfl, hZ1, hF1⟩
    refine am_st (st2 := [am_l 0]) rfl ?_
    refine am_lstore_n (q := 5) (by decide) (ls2 := [(1, am_l 0), (0, am_r 55)]) rfl (am_tab tk_X10_personHere 2 rfl) rfl ?_
    refine am_aload_n (q := 6) rfl (am_tab tk_X10_personHere 3 rfl) rfl ?_
    refine am_lload_n (q := 7) rfl (am_tab tk_X10_personHere 4 rfl) rfl ?_
    refine am_callVr (q := 10) (me2 := M_X10_personOf) (b := 55) (kb := 10) (nb := 108) (As := [am_l 0]) (rest := []) (c_X10_personOf T1 hZ1.1 0 (by rw [hF1.2.2 85 0 (by unfold W_sc; omega)]; exact hN)) ⟨rfl, rfl⟩ (Ls_55 hZ1.1) (by decide) ⟨Or.inl km_X10_313, kc_X10_personOf, kn_X10, kd_X10_personOf, ⟨(Nat.le_of_ble_eq_true rfl), (Nat.le_of_ble_eq_true rfl)⟩, ⟨(Nat.le_of_ble_eq_true rfl), (Nat.le_of_ble_eq_true rfl)⟩, (Nat.le_of_ble_eq_true rfl)⟩ ki_X10_personOf ks_X10_personOf rfl (am_tab tk_X10_personHere 5 rfl) rfl ?_
    rintro r τ ⟨rfl, hτ⟩
    rw [hτ, pOf_fr hF1]
    refine am_st (st2 := [am_i (pOf S 0)]) rfl ?_
    refine am_istore_n (q := 11) (by decide) (ls2 := [(3, am_i (pOf S 0)), (1, am_l 0), (0, am_r 55)]) rfl (am_tab tk_X10_personHere 6 rfl) rfl ?_
    refine am_aload_n (q := 12) rfl (am_tab tk_X10_personHere 7 rfl) rfl ?_
    refine am_getI (q := 15) (a := 55) (k := 10) (n := 108) (j := 5) (x := 1) (Ls_55 hZ1.1) (by decide) rfl hZ1.2.2.2.1 (by decide) (Or.inl kf_X10_248) (am_tab tk_X10_personHere 8 rfl) rfl ?_
    refine am_if_ne (q := 18) (t := 32) (am_tab tk_X10_personHere 9 rfl) (by decide) rfl (fun h15 => ?_) (fun h15 => ?_)
    · refine am_aload_n (q := 33) rfl (am_tab tk_X10_personHere 18 rfl) rfl ?_
      refine am_getI (q := 36) (a := 55) (k := 10) (n := 108) (j := 5) (x := 1) (Ls_55 hZ1.1) (by decide) rfl hZ1.2.2.2.1 (by decide) (Or.inl kf_X10_248) (am_tab tk_X10_personHere 19 rfl) rfl ?_
      refine am_if_ne (q := 39) (t := 43) (am_tab tk_X10_personHere 20 rfl) (by decide) rfl (fun h36 => ?_) (fun h36 => ?_)
      · refine am_iconst (q := 44) (n := 0) (by decide) (am_tab tk_X10_personHere 23 rfl) rfl ?_
        refine am_iret (Or.inl rfl) (Nat.le_of_ble_eq_true rfl) (Nat.le_of_ble_eq_true rfl) (am_tab tk_X10_personHere 24 rfl) ?_
        refine hQ _ _ ?_
        exact Or.inr ⟨fun hx => n1 hx.1, rfl, Or.inr ⟨n1, hZ1⟩, hF1⟩
      · exact absurd h36 (by decide)
    · exact absurd h15 (by decide)
