theorem bvs (x : BitVec 32) (s : Nat) (hs : s ≤ 24) : (x >>> s) &&& 255#32 = (x.sshiftRight s) &&& 255#32 := by
  apply BitVec.eq_of_getLsbD_eq
  intro i hi
  have h255 : (255#32).getLsbD i = decide (i < 8) := by
    have h : (List.range 32).all (fun i => (255#32).getLsbD i == decide (i < 8)) = true := by decide
    have := List.all_eq_true.mp h i (List.mem_range.mpr hi)
    simpa using this
  rw [BitVec.getLsbD_and, BitVec.getLsbD_and, h255, BitVec.getLsbD_ushiftRight, BitVec.getLsbD_sshiftRight]
  by_cases h8 : i < 8
  · have h1 : ¬ (32 ≤ i) := by omega
    have h2 : s + i < 32 := by omega
    simp [h8, h1, h2]
  · simp [h8]
theorem ush (x : Int) (s : Nat) (hs : s = 0 ∨ s = 8 ∨ s = 16 ∨ s = 24) : ao_and (ao_ushr x (s : Int)) 255 = ao_and (ao_shr x (s : Int)) 255 := by
  unfold ao_and ao_ushr ao_shr
  rw [Int32.ofInt_toInt, Int32.ofInt_toInt]
  congr 1
  apply Int32.toBitVec_inj.mp
  have key := fun s hs => bvs (Int32.ofInt x).toBitVec s hs
  rcases hs with rfl | rfl | rfl | rfl
  · exact key 0 (by omega)
  · exact key 8 (by omega)
  · exact key 16 (by omega)
  · exact key 24 (by omega)
def bq (x : Int) (k : Nat) : Int := ao_and (ao_shr x (8 * (3 - (k : Int)))) 255
def W_tp (a j : Nat) : Prop := a = 2 ∨ (a = 1 ∧ j = 1)
/-- four bytes more -/
def AD (x L : Int) (σ τ : am_H) : Prop := τ.2.1 1 1 = L + 4 ∧ (∀ j : Nat, ¬ (L.toNat ≤ j ∧ j < L.toNat + 4) → τ.2.1 2 j = σ.2.1 2 j) ∧ (∀ k : Nat, k < 4 → τ.2.1 2 (L.toNat + k) = bq x k) ∧ frw W_tp σ τ
theorem c_addNumber (σ : am_H) (hL : lay σ) (x : Int) (L : Int) (hLn : σ.2.1 1 1 = L) (hL0 : 0 ≤ L ∧ L + 4 ≤ 1600) : am_met M_X6_addNumber [am_r 1, am_i x] σ (fun r σ' => r = none ∧ AD x L σ σ') := by
  refine am_qq (fun Q hQ => ?_)
  refine am_enter (show plainFor yX6_addNumber = true by decide +kernel) rfl (Nat.le_of_ble_eq_true rfl) (fun _ _ _ => trivial) ?_
  refine am_bipush (q := 2) (n := 24) (by decide) rfl (am_tab tk_X6_addNumber 0 rfl) rfl ?_
  refine am_istore_n (q := 3) (by decide) (ls2 := [(2, am_i 24), (0, am_r 1), (1, am_i x)]) rfl (am_tab tk_X6_addNumber 1 rfl) rfl ?_
  have L3 : ∀ (n3 : Nat) (i : Nat) (T : am_H), 4 - i < n3 → i ≤ 4 → frw W_tp σ T → T.2.1 1 1 = L + (i : Int) → (∀ j : Nat, ¬ (L.toNat ≤ j ∧ j < L.toNat + i) → T.2.1 2 j = σ.2.1 2 j) → (∀ k : Nat, k < i → T.2.1 2 (L.toNat + k) = bq x k) → am_wp M_X6_addNumber Q 0 0 3 [(2, am_i ((24 - 8 * (i : Int)))), (0, am_r 1), (1, am_i x)] [] T := by
    intro n3
    induction n3 with
    | zero => intro i T hn3; exact absurd hn3 (Nat.not_lt_zero _)
    | succ n3 ih3 =>
      intro i T hn3 hi hF h1 h2 h3
      refine am_iload_n (q := 4) rfl (am_tab tk_X6_addNumber 2 rfl) rfl ?_
      refine am_if_lt (q := 7) (t := 49) (am_tab tk_X6_addNumber 3 rfl) (by decide) rfl (fun h4 => ?_) (fun h4 => ?_)
      · refine am_vret rfl (Nat.le_of_ble_eq_true rfl) (Nat.le_of_ble_eq_true rfl) (am_tab tk_X6_addNumber 26 rfl) ?_
        refine hQ _ _ ?_
        have ei : i = 4 := by omega
        subst ei
        exact ⟨rfl, h1, h2, h3, hF⟩
      · refine am_aload_n (q := 8) rfl (am_tab tk_X6_addNumber 4 rfl) rfl ?_
        refine am_getI (q := 11) (a := 1) (k := 6) (n := 2) (j := 1) (x := (L + (i : Int))) (Ls_1 (hF.L hL)) (by decide) rfl h1 (by decide) (Or.inl kf_X6_15) (am_tab tk_X6_addNumber 5 rfl) rfl ?_
        refine am_sipush (q := 14) (n := 1600) (by decide) rfl (am_tab tk_X6_addNumber 6 rfl) rfl ?_
        refine am_icmp_ge (q := 17) (t := 43) (am_tab tk_X6_addNumber 7 rfl) (by decide) rfl (fun h14 => ?_) (fun h14 => ?_)
        · exact absurd h14 (by omega)
        · refine am_aload_n (q := 18) rfl (am_tab tk_X6_addNumber 8 rfl) rfl ?_
          refine am_getR (q := 21) (a := 1) (k := 6) (n := 2) (j := 0) (r := some (2)) (Ls_1 (hF.L hL)) (by decide) rfl (Lr_1_0 (hF.L hL)) (by decide) (Or.inl kf_X6_9) (am_tab tk_X6_addNumber 9 rfl) rfl ?_
          refine am_aload_n (q := 22) rfl (am_tab tk_X6_addNumber 10 rfl) rfl ?_
          refine am_getI (q := 25) (a := 1) (k := 6) (n := 2) (j := 1) (x := (L + (i : Int))) (Ls_1 (hF.L hL)) (by decide) rfl h1 (by decide) (Or.inl kf_X6_15) (am_tab tk_X6_addNumber 11 rfl) rfl ?_
          refine am_iload_n (q := 26) rfl (am_tab tk_X6_addNumber 12 rfl) rfl ?_
          refine am_iload_n (q := 27) rfl (am_tab tk_X6_addNumber 13 rfl) rfl ?_
          refine am_iushr (q := 28) (am_tab tk_X6_addNumber 14 rfl) rfl ?_
          refine am_sipush (q := 31) (n := 255) (by decide) rfl (am_tab tk_X6_addNumber 15 rfl) rfl ?_
          refine am_iand (q := 32) (am_tab tk_X6_addNumber 16 rfl) rfl ?_
          refine am_iast (q := 33) (a := 2) (n := 1600) (Ls_2 (hF.L hL)) (by omega) (by omega) (am_tab tk_X6_addNumber 17 rfl) rfl ?_
          refine am_aload_n (q := 34) rfl (am_tab tk_X6_addNumber 18 rfl) rfl ?_
          refine am_dup (q := 35) rfl (am_tab tk_X6_addNumber 19 rfl) rfl ?_
          refine am_getI (q := 38) (a := 1) (k := 6) (n := 2) (j := 1) (x := (L + (i : Int))) (Ls_1 (hF.L hL)) (by decide) rfl h1 (by decide) (Or.inl kf_X6_15) (am_tab tk_X6_addNumber 20 rfl) rfl ?_
          refine am_iconst (q := 39) (n := 1) (by decide) (am_tab tk_X6_addNumber 21 rfl) rfl ?_
          refine am_iadd (q := 40) (by omega) (am_tab tk_X6_addNumber 22 rfl) rfl ?_
          refine am_putI (q := 43) (k := 6) (n := 2) (j := 1) (Ls_1 (hF.L hL)) (by decide) rfl (by decide) (Or.inl ⟨kf_X6_15, rfl⟩) (am_tab tk_X6_addNumber 23 rfl) rfl ?_
          refine am_iinc (q := 46) rfl (by omega) (by decide) (ls2 := [(2, am_i (((24 - 8 * (i : Int)) + (-8)))), (0, am_r 1), (1, am_i x)]) rfl (am_tab tk_X6_addNumber 24 rfl) rfl ?_
          refine am_goto (t := 3) (am_tab tk_X6_addNumber 25 rfl) (by decide) ?_
          have hbq : ao_and (ao_ushr x (24 - 8 * (i : Int))) 255 = bq x i := by
            have h9 := ush x (24 - 8 * i) (by omega)
            rw [show (((24 - 8 * i : Nat)) : Int) = 24 - 8 * (i : Int) by omega] at h9
            rw [h9]
            unfold bq
            rw [show 8 * (3 - (i : Int)) = 24 - 8 * (i : Int) by omega]
          exact am_less (by intro q hq; simp only [List.mem_cons, List.not_mem_nil, or_false] at hq; rcases hq with rfl | rfl | rfl <;> simp <;> omega) (ih3 (i + 1) (am_setN (am_setN T 2 (Int.toNat (L + (i : Int))) (ao_and (ao_ushr x (24 - 8 * (i : Int))) 255)) 1 1 ((L + (i : Int)) + 1)) (by omega) (by omega) ((hF.setN (by unfold W_tp; omega)).setN (by unfold W_tp; omega)) (by show L + (i : Int) + 1 = _; push_cast; omega) (fun j hj => by show (if 2 = 2 ∧ j = Int.toNat (L + (i : Int)) then _ else T.2.1 2 j) = _; rw [if_neg (by omega)]; exact h2 j (by omega)) (fun k hk => by show (if 2 = 2 ∧ L.toNat + k = Int.toNat (L + (i : Int)) then _ else T.2.1 2 (L.toNat + k)) = _; by_cases g : k = i; (rw [if_pos ⟨rfl, by omega⟩, g]; exact hbq); (rw [if_neg (by omega)]; exact h3 k (by omega))))
  refine am_less (by intro q hq; simp only [List.mem_cons, List.not_mem_nil, or_false] at hq; rcases hq with rfl | rfl | rfl <;> simp <;> omega) (L3 (_ + 1) 0 σ (by exact Nat.lt_succ_self _) (by omega) (frw.refl _ σ) (by omega) (fun _ _ => rfl) (fun k hk => absurd hk (Nat.not_lt_zero k)))
set_option maxRecDepth 100000 in
theorem c_feed (σ : am_H) (hL : lay σ) (a : Int) (b : Int) (c : Int) (d : Int) (e : Int) (hT : σ.2.1 1 1 = σ.2.1 55 1) (hTr : 0 ≤ σ.2.1 55 1 ∧ σ.2.1 55 1 ≤ 1600) (hTb : ∀ j, σ.2.1 2 j = σ.2.1 56 j) (hr : 0 ≤ σ.2.1 54 0 ∧ σ.2.1 54 0 ≤ 100000) : am_met M_X9_feed [am_r 0, am_i a, am_i b, am_i c, am_i d, am_i e] σ (fun r σ' => (1600 < σ.2.1 55 1 + 20 ∧ r = some (am_i (-1)) ∧ σ' = am_setN σ 54 0 (σ.2.1 54 0 + 1)) ∨ (¬ 1600 < σ.2.1 55 1 + 20 ∧ r = some (am_i (σ.2.1 55 1 + 20)) ∧ σ'.2.1 1 1 = σ.2.1 55 1 + 20 ∧ (∀ j, σ'.2.1 2 j = fdF σ a b c d e (σ.2.1 55 1).toNat 20 j) ∧ frw W_tp σ σ')) := by
  refine am_qq (fun Q hQ => ?_)
  refine am_enter (show plainFor yX9_feed = true by decide +kernel) rfl (Nat.le_of_ble_eq_true rfl) (fun _ _ _ => trivial) ?_
  refine am_aload_n (q := 1) rfl (am_tab tk_X9_feed 0 rfl) rfl ?_
  refine am_getR (q := 4) (a := 0) (k := 9) (n := 17) (j := 0) (r := some (1)) (Ls_0 hL) (by decide) rfl (Lr_0_0 hL) (by decide) (Or.inl kf_X9_12) (am_tab tk_X9_feed 1 rfl) rfl ?_
  refine am_getI (q := 7) (a := 1) (k := 6) (n := 2) (j := 1) (x := (σ.2.1 55 1)) (Ls_1 hL) (by decide) rfl hT (by decide) (Or.inr kf_X9_89) (am_tab tk_X9_feed 2 rfl) rfl ?_
  refine am_bipush (q := 9) (n := 20) (by decide) rfl (am_tab tk_X9_feed 3 rfl) rfl ?_
  refine am_iadd (q := 10) (by omega) (am_tab tk_X9_feed 4 rfl) rfl ?_
  refine am_sipush (q := 13) (n := 1600) (by decide) rfl (am_tab tk_X9_feed 5 rfl) rfl ?_
  refine am_icmp_le (q := 16) (t := 22) (am_tab tk_X9_feed 6 rfl) (by decide) rfl (fun h13 => ?_) (fun h13 => ?_)
  · refine am_aload_n (q := 23) rfl (am_tab tk_X9_feed 11 rfl) rfl ?_
    refine am_getR (q := 26) (a := 0) (k := 9) (n := 17) (j := 0) (r := some (1)) (Ls_0 hL) (by decide) rfl (Lr_0_0 hL) (by decide) (Or.inl kf_X9_12) (am_tab tk_X9_feed 12 rfl) rfl ?_
    refine am_iload_n (q := 27) rfl (am_tab tk_X9_feed 13 rfl) rfl ?_
    refine am_callVr (q := 30) (me2 := M_X6_addNumber) (b := 1) (kb := 6) (nb := 2) (As := [am_i a]) (rest := []) (c_addNumber σ hL a (σ.2.1 55 1 + 0) (by rw [hT]; omega) (by omega)) ⟨rfl, rfl⟩ (Ls_1 hL) (by decide) ⟨Or.inr km_X9_96, kc_X6_addNumber, kn_X6, kd_X6_addNumber, ⟨(Nat.le_of_ble_eq_true rfl), (Nat.le_of_ble_eq_true rfl)⟩, ⟨(Nat.le_of_ble_eq_true rfl), (Nat.le_of_ble_eq_true rfl)⟩, (Nat.le_of_ble_eq_true rfl)⟩ ki_X6_addNumber ks_X6_addNumber rfl (am_tab tk_X9_feed 14 rfl) rfl ?_
    rintro r T1 ⟨rfl, hA1⟩
    have hL1 : lay T1 := hA1.2.2.2.L hL
    refine am_st (st2 := []) rfl ?_
    refine am_aload_n (q := 31) rfl (am_tab tk_X9_feed 15 rfl) rfl ?_
    refine am_getR (q := 34) (a := 0) (k := 9) (n := 17) (j := 0) (r := some (1)) (Ls_0 (hA1.2.2.2.L hL)) (by decide) rfl (Lr_0_0 (hA1.2.2.2.L hL)) (by decide) (Or.inl kf_X9_12) (am_tab tk_X9_feed 16 rfl) rfl ?_
    refine am_iload_n (q := 35) rfl (am_tab tk_X9_feed 17 rfl) rfl ?_
    refine am_callVr (q := 38) (me2 := M_X6_addNumber) (b := 1) (kb := 6) (nb := 2) (As := [am_i b]) (rest := []) (c_addNumber T1 hL1 b (σ.2.1 55 1 + 4) (by rw [hA1.1]; omega) (by omega)) ⟨rfl, rfl⟩ (Ls_1 (hA1.2.2.2.L hL)) (by decide) ⟨Or.inr km_X9_96, kc_X6_addNumber, kn_X6, kd_X6_addNumber, ⟨(Nat.le_of_ble_eq_true rfl), (Nat.le_of_ble_eq_true rfl)⟩, ⟨(Nat.le_of_ble_eq_true rfl), (Nat.le_of_ble_eq_true rfl)⟩, (Nat.le_of_ble_eq_true rfl)⟩ ki_X6_addNumber ks_X6_addNumber rfl (am_tab tk_X9_feed 18 rfl) rfl ?_
    rintro r T2 ⟨rfl, hA2⟩
    have hL2 : lay T2 := hA2.2.2.2.L hL1
    refine am_st (st2 := []) rfl ?_
    refine am_aload_n (q := 39) rfl (am_tab tk_X9_feed 19 rfl) rfl ?_
    refine am_getR (q := 42) (a := 0) (k := 9) (n := 17) (j := 0) (r := some (1)) (Ls_0 (hA2.2.2.2.L hL1)) (by decide) rfl (Lr_0_0 (hA2.2.2.2.L hL1)) (by decide) (Or.inl kf_X9_12) (am_tab tk_X9_feed 20 rfl) rfl ?_
    refine am_iload_n (q := 43) rfl (am_tab tk_X9_feed 21 rfl) rfl ?_
    refine am_callVr (q := 46) (me2 := M_X6_addNumber) (b := 1) (kb := 6) (nb := 2) (As := [am_i c]) (rest := []) (c_addNumber T2 hL2 c (σ.2.1 55 1 + 8) (by rw [hA2.1]; omega) (by omega)) ⟨rfl, rfl⟩ (Ls_1 (hA2.2.2.2.L hL1)) (by decide) ⟨Or.inr km_X9_96, kc_X6_addNumber, kn_X6, kd_X6_addNumber, ⟨(Nat.le_of_ble_eq_true rfl), (Nat.le_of_ble_eq_true rfl)⟩, ⟨(Nat.le_of_ble_eq_true rfl), (Nat.le_of_ble_eq_true rfl)⟩, (Nat.le_of_ble_eq_true rfl)⟩ ki_X6_addNumber ks_X6_addNumber rfl (am_tab tk_X9_feed 22 rfl) rfl ?_
    rintro r T3 ⟨rfl, hA3⟩
    have hL3 : lay T3 := hA3.2.2.2.L hL2
    refine am_st (st2 := []) rfl ?_
    refine am_aload_n (q := 47) rfl (am_tab tk_X9_feed 23 rfl) rfl ?_
    refine am_getR (q := 50) (a := 0) (k := 9) (n := 17) (j := 0) (r := some (1)) (Ls_0 (hA3.2.2.2.L hL2)) (by decide) rfl (Lr_0_0 (hA3.2.2.2.L hL2)) (by decide) (Or.inl kf_X9_12) (am_tab tk_X9_feed 24 rfl) rfl ?_
    refine am_iload (q := 52) rfl (am_tab tk_X9_feed 25 rfl) rfl ?_
    refine am_callVr (q := 55) (me2 := M_X6_addNumber) (b := 1) (kb := 6) (nb := 2) (As := [am_i d]) (rest := []) (c_addNumber T3 hL3 d (σ.2.1 55 1 + 12) (by rw [hA3.1]; omega) (by omega)) ⟨rfl, rfl⟩ (Ls_1 (hA3.2.2.2.L hL2)) (by decide) ⟨Or.inr km_X9_96, kc_X6_addNumber, kn_X6, kd_X6_addNumber, ⟨(Nat.le_of_ble_eq_true rfl), (Nat.le_of_ble_eq_true rfl)⟩, ⟨(Nat.le_of_ble_eq_true rfl), (Nat.le_of_ble_eq_true rfl)⟩, (Nat.le_of_ble_eq_true rfl)⟩ ki_X6_addNumber ks_X6_addNumber rfl (am_tab tk_X9_feed 26 rfl) rfl ?_
    rintro r T4 ⟨rfl, hA4⟩
    have hL4 : lay T4 := hA4.2.2.2.L hL3
    refine am_st (st2 := []) rfl ?_
    refine am_aload_n (q := 56) rfl (am_tab tk_X9_feed 27 rfl) rfl ?_
    refine am_getR (q := 59) (a := 0) (k := 9) (n := 17) (j := 0) (r := some (1)) (Ls_0 (hA4.2.2.2.L hL3)) (by decide) rfl (Lr_0_0 (hA4.2.2.2.L hL3)) (by decide) (Or.inl kf_X9_12) (am_tab tk_X9_feed 28 rfl) rfl ?_
    refine am_iload (q := 61) rfl (am_tab tk_X9_feed 29 rfl) rfl ?_
    refine am_callVr (q := 64) (me2 := M_X6_addNumber) (b := 1) (kb := 6) (nb := 2) (As := [am_i e]) (rest := []) (c_addNumber T4 hL4 e (σ.2.1 55 1 + 16) (by rw [hA4.1]; omega) (by omega)) ⟨rfl, rfl⟩ (Ls_1 (hA4.2.2.2.L hL3)) (by decide) ⟨Or.inr km_X9_96, kc_X6_addNumber, kn_X6, kd_X6_addNumber, ⟨(Nat.le_of_ble_eq_true rfl), (Nat.le_of_ble_eq_true rfl)⟩, ⟨(Nat.le_of_ble_eq_true rfl), (Nat.le_of_ble_eq_true rfl)⟩, (Nat.le_of_ble_eq_true rfl)⟩ ki_X6_addNumber ks_X6_addNumber rfl (am_tab tk_X9_feed 30 rfl) rfl ?_
    rintro r T5 ⟨rfl, hA5⟩
    have hL5 : lay T5 := hA5.2.2.2.L hL4
    refine am_st (st2 := []) rfl ?_
    refine am_aload_n (q := 65) rfl (am_tab tk_X9_feed 31 rfl) rfl ?_
    refine am_getR (q := 68) (a := 0) (k := 9) (n := 17) (j := 0) (r := some (1)) (Ls_0 (hA5.2.2.2.L hL4)) (by decide) rfl (Lr_0_0 (hA5.2.2.2.L hL4)) (by decide) (Or.inl kf_X9_12) (am_tab tk_X9_feed 32 rfl) rfl ?_
    refine am_getI (q := 71) (a := 1) (k := 6) (n := 2) (j := 1) (x := (σ.2.1 55 1 + 16 + 4)) (Ls_1 (hA5.2.2.2.L hL4)) (by decide) rfl hA5.1 (by decide) (Or.inr kf_X9_89) (am_tab tk_X9_feed 33 rfl) rfl ?_
    refine am_iret (Or.inl rfl) (Nat.le_of_ble_eq_true rfl) (Nat.le_of_ble_eq_true rfl) (am_tab tk_X9_feed 34 rfl) ?_
    refine hQ _ _ ?_
    refine Or.inr ⟨by omega, ?_, ?_, fun j => ?_, ((((hA1.2.2.2).trans hA2.2.2.2).trans hA3.2.2.2).trans hA4.2.2.2).trans hA5.2.2.2⟩
    · exact congrArg (fun z => some (am_i z)) (by omega)
    · rw [hA5.1]; omega
    unfold fdF
    obtain ⟨B, hB⟩ : ∃ B : Nat, B = (σ.2.1 55 1).toNat := ⟨_, rfl⟩
    rw [← hB]
    by_cases hj : B ≤ j ∧ j < B + 20
    · rw [if_pos hj]
      obtain ⟨k, rfl⟩ : ∃ k, j = B + k := ⟨j - B, by omega⟩
      rw [show B + k - B = k by omega]
      unfold fdB
      by_cases k0 : k < 4
      · rw [if_pos k0]
        rw [hA5.2.1 (B + k) (by omega), hA4.2.1 (B + k) (by omega), hA3.2.1 (B + k) (by omega), hA2.2.1 (B + k) (by omega)]
        have h9 := hA1.2.2.1 (k - 0) (by omega)
        rw [show (σ.2.1 55 1 + 0).toNat + (k - 0) = B + k by omega] at h9
        rw [h9]
        unfold bq
        rw [Int.tmod_eq_emod_of_nonneg (by omega), show (k : Int) % 4 = ((k - 0 : Nat) : Int) by omega]
      · skip
        by_cases k1 : k < 8
        · rw [if_neg (show ¬ k < 4 by omega), if_pos k1]
          rw [hA5.2.1 (B + k) (by omega), hA4.2.1 (B + k) (by omega), hA3.2.1 (B + k) (by omega)]
          have h9 := hA2.2.2.1 (k - 4) (by omega)
          rw [show (σ.2.1 55 1 + 4).toNat + (k - 4) = B + k by omega] at h9
          rw [h9]
          unfold bq
          rw [Int.tmod_eq_emod_of_nonneg (by omega), show (k : Int) % 4 = ((k - 4 : Nat) : Int) by omega]
        · skip
          by_cases k2 : k < 12
          · rw [if_neg (show ¬ k < 4 by omega), if_neg (show ¬ k < 8 by omega), if_pos k2]
            rw [hA5.2.1 (B + k) (by omega), hA4.2.1 (B + k) (by omega)]
            have h9 := hA3.2.2.1 (k - 8) (by omega)
            rw [show (σ.2.1 55 1 + 8).toNat + (k - 8) = B + k by omega] at h9
            rw [h9]
            unfold bq
            rw [Int.tmod_eq_emod_of_nonneg (by omega), show (k : Int) % 4 = ((k - 8 : Nat) : Int) by omega]
          · skip
            by_cases k3 : k < 16
            · rw [if_neg (show ¬ k < 4 by omega), if_neg (show ¬ k < 8 by omega), if_neg (show ¬ k < 12 by omega), if_pos k3]
              rw [hA5.2.1 (B + k) (by omega)]
              have h9 := hA4.2.2.1 (k - 12) (by omega)
              rw [show (σ.2.1 55 1 + 12).toNat + (k - 12) = B + k by omega] at h9
              rw [h9]
              unfold bq
              rw [Int.tmod_eq_emod_of_nonneg (by omega), show (k : Int) % 4 = ((k - 12 : Nat) : Int) by omega]
            · skip
              rw [if_neg (show ¬ k < 4 by omega), if_neg (show ¬ k < 8 by omega), if_neg (show ¬ k < 12 by omega), if_neg (show ¬ k < 16 by omega)]
              have h9 := hA5.2.2.1 (k - 16) (by omega)
              rw [show (σ.2.1 55 1 + 16).toNat + (k - 16) = B + k by omega] at h9
              rw [h9]
              unfold bq
              rw [Int.tmod_eq_emod_of_nonneg (by omega), show (k : Int) % 4 = ((k - 16 : Nat) : Int) by omega]
    · rw [if_neg hj, hA5.2.1 j (by omega), hA4.2.1 j (by omega), hA3.2.1 j (by omega), hA2.2.1 j (by omega), hA1.2.1 j (by omega)]
      exact hTb j
  · refine am_aload_n (q := 17) rfl (am_tab tk_X9_feed 7 rfl) rfl ?_
    refine am_iconst (q := 18) (n := 0) (by decide) (am_tab tk_X9_feed 8 rfl) rfl ?_
    refine am_callV0 (q := 21) (me2 := M_X9_refuse) (b := 0) (kb := 9) (nb := 17) (As := [am_i 0]) (rest := []) (out := [am_i ((-1))]) (c_refuse σ hL 0 (by decide) hr) ⟨rfl, rfl⟩ (Ls_0 hL) (by decide) ⟨Or.inl km_X9_92, kc_X9_refuse, kn_X9, kd_X9_refuse, ⟨(Nat.le_of_ble_eq_true rfl), (Nat.le_of_ble_eq_true rfl)⟩, ⟨(Nat.le_of_ble_eq_true rfl), (Nat.le_of_ble_eq_true rfl)⟩, (Nat.le_of_ble_eq_true rfl)⟩ ki_X9_refuse ks_X9_refuse rfl rfl (am_tab tk_X9_feed 9 rfl) rfl ?_
    refine am_iret (Or.inl rfl) (Nat.le_of_ble_eq_true rfl) (Nat.le_of_ble_eq_true rfl) (am_tab tk_X9_feed 10 rfl) ?_
    refine hQ _ _ ?_
    exact Or.inl ⟨by omega, rfl, rfl⟩
