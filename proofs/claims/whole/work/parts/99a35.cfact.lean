def tsL (b : Nat → Int) (E : Nat) (F : SX → SX) : Nat → Int → SX → SX
  | 0, w, s => if w = 0 then s else adS 11 s
  | f + 1, w, s => if kdS b E s = 150 then tsL b E F f w (adS 10 (F (npS s)))
    else if kdS b E s = 149 then tsL b E F f 1 (F (if w = 0 then npS s else adS 11 (npS s)))
    else if w = 0 then s else adS 11 s
def testB (b : Nat → Int) (E : Nat) (F : SX → SX) (s : SX) : SX := tsL b E F 1600 0 (F s)
def factB (b : Nat → Int) (E : Nat) (Q : Option ((SX → SX) × (SX → SX))) (S : SX → SX) (s : SX) : SX :=
  if kdS b E s = 151 then (match Q with
    | none => ftS b E 4 s
    | some FT => ocS (-1) (adS 12 (FT.1 (ocS 1 (npS s)))))
  else if kdS b E s = 91 then (match Q with
    | none => ftS b E 4 s
    | some FT => ocS (-1) (psK b E 93 (FT.2 (ocS 1 (npS s)))))
  else if kdS b E s = 152 then adS 13 (npS s)
  else adS (opc (kdS b E (S s))) (S (if kdS b E (S s) = 60 ∨ kdS b E (S s) = 62 ∨ kdS b E (S s) = 61 then npS (S s) else ftS b E 1 (S s)))
/-- a fact, n more may be opened -/
def factX (b : Nat → Int) (E : Nat) (tk : Int) : Nat → SX → SX
  | 0 => factB b E none (sumB b E (partX b E tk 0))
  | n + 1 => factB b E (some (factX b E tk n, testB b E (factX b E tk n))) (sumB b E (partX b E tk (n + 1)))
theorem oS_tsL {b : Nat → Int} {E : Nat} {F : SX → SX} (hF : ∀ t, oS (F t) = oS t) : ∀ f w s, oS (tsL b E F f w s) = oS s
  | 0, w, s => by unfold tsL; split; rfl; exact oS_ad _ _
  | f + 1, w, s => by
    unfold tsL
    split
    · rw [oS_tsL hF f, oS_ad, hF, oS_np]
    · split
      · rw [oS_tsL hF f, hF]
        split
        · exact oS_np s
        · rw [oS_ad, oS_np]
      · split
        · rfl
        · exact oS_ad _ _
theorem oS_testB {b : Nat → Int} {E : Nat} {F : SX → SX} (hF : ∀ t, oS (F t) = oS t) (s : SX) : oS (testB b E F s) = oS s := (oS_tsL hF _ _ _).trans (hF s)
theorem oS_fsum {b : Nat → Int} {E : Nat} {S : SX → SX} (hS : ∀ t, oS (S t) = oS t) (s : SX) : oS (adS (opc (kdS b E (S s))) (S (if kdS b E (S s) = 60 ∨ kdS b E (S s) = 62 ∨ kdS b E (S s) = 61 then npS (S s) else ftS b E 1 (S s)))) = oS s := by
  rw [oS_ad, hS]
  split
  · rw [oS_np, hS]
  · rw [oS_ft, hS]
theorem oS_fact0 {b : Nat → Int} {E : Nat} {S : SX → SX} (hS : ∀ t, oS (S t) = oS t) (s : SX) : oS (factB b E none S s) = oS s := by
  unfold factB
  split
  · exact oS_ft _ _ _ _
  · split
    · exact oS_ft _ _ _ _
    · split
      · rw [oS_ad, oS_np]
      · exact oS_fsum hS s
theorem oS_factS {b : Nat → Int} {E : Nat} {S F T : SX → SX} (hS : ∀ t, oS (S t) = oS t) (hF : ∀ t, oS (F t) = oS t) (hT : ∀ t, oS (T t) = oS t) (s : SX) : oS (factB b E (some (F, T)) S s) = oS s := by
  unfold factB
  split
  · show oS (ocS (-1) (adS 12 (F (ocS 1 (npS s))))) = oS s
    rw [oS_oc, oS_ad, hF, oS_oc, oS_np]; omega
  · split
    · show oS (ocS (-1) (psK b E 93 (T (ocS 1 (npS s))))) = oS s
      rw [oS_oc, oS_psK, hT, oS_oc, oS_np]; omega
    · split
      · rw [oS_ad, oS_np]
      · exact oS_fsum hS s
theorem oS_factX (b : Nat → Int) (E : Nat) (tk : Int) : ∀ n s, oS (factX b E tk n s) = oS s
  | 0, s => oS_fact0 (oS_sumB (oS_partX b E tk 0)) s
  | n + 1, s => oS_factS (oS_sumB (oS_partX b E tk (n + 1))) (oS_factX b E tk n) (oS_testB (oS_factX b E tk n)) s
theorem tsL_m {b : Nat → Int} {E : Nat} {F : SX → SX} {k : Nat} {w : Int} {s : SX} (hk : k < 1600) (h : kdS b E s = 150) : tsL b E F (1600 - k) w s = tsL b E F (1600 - (k + 1)) w (adS 10 (F (npS s))) := by
  rw [show 1600 - k = (1600 - (k + 1)) + 1 by omega]
  conv => lhs; unfold tsL
  rw [if_pos h]
theorem tsL_a {b : Nat → Int} {E : Nat} {F : SX → SX} {k : Nat} {w : Int} {s : SX} (hk : k < 1600) (h : kdS b E s = 149) : tsL b E F (1600 - k) w s = tsL b E F (1600 - (k + 1)) 1 (F (if w = 0 then npS s else adS 11 (npS s))) := by
  rw [show 1600 - k = (1600 - (k + 1)) + 1 by omega]
  conv => lhs; unfold tsL
  rw [if_neg (by omega), if_pos h]
theorem tsL_e {b : Nat → Int} {E : Nat} {F : SX → SX} {f : Nat} {w : Int} {s : SX} (h : f = 0 ∨ ¬ (kdS b E s = 149 ∨ kdS b E s = 150)) : tsL b E F f w s = if w = 0 then s else adS 11 s := by
  cases f with
  | zero => rfl
  | succ f =>
    have h2 : ¬ (kdS b E s = 149 ∨ kdS b E s = 150) := by
      rcases h with h | h
      · exact absurd h (by omega)
      · exact h
    conv => lhs; unfold tsL
    rw [if_neg (by omega), if_neg (by omega)]
theorem c_readTest (b : Nat → Int) (E : Nat) (cv : Nat → Int) (M : Nat) (tk : Int) (n : Nat) (F : SX → SX) (hP : RC b E cv M tk n (M_X4_readFact n) [] F) (hO : ∀ t, oS (F t) = oS t) (σ : am_H) (s : SX) (hX : RX b E cv M tk σ s) (hn : oS s + ((n : Nat) : Int) = 6)   : am_met (M_X4_readTest n) [am_r 27] σ (fun r σ' => r = none ∧ RX b E cv M tk σ' (testB b E F s) ∧ frw W_ps σ σ') := by
  refine am_qq (fun Q hQ => ?_)
  refine am_enter (show plainFor yX4_readTest = true by decide +kernel) rfl (Nat.le_of_ble_eq_true rfl) (fun _ _ _ => trivial) ?_
  have hn9 := hn
  refine am_aload_n (q := 1) rfl (am_tab tk_X4_readTest 0 rfl) rfl ?_
  refine am_callVr (q := 4) (me2 := (M_X4_readFact n)) (b := 27) (kb := 4) (nb := 13) (As := []) (rest := []) (hP σ s hX hn) ⟨rfl, rfl⟩ (Ls_27 hX.1.1) (by decide) ⟨Or.inl km_X4_169, kc_X4_readFact, kn_X4, kd_X4_readFact, ⟨by show 6 * n + 5 + 1 ≤ 6 * n + 6; omega, by show 8 + (2 + 11) + 60 * (6 * n + 6) ≤ 60 * (6 * n + 7); omega⟩, ⟨(Nat.le_of_ble_eq_true rfl), (Nat.le_of_ble_eq_true rfl)⟩, (Nat.le_of_ble_eq_true rfl)⟩ ki_X4_readFact ks_X4_readFact rfl (am_tab tk_X4_readTest 1 rfl) rfl ?_
  rintro r T1 ⟨rfl, hX1, hG1⟩
  have hF1 : frw W_ps σ T1 := (frw.refl W_ps σ).trans hG1
  refine am_iconst (q := 5) (n := 0) (by decide) (am_tab tk_X4_readTest 2 rfl) rfl ?_
  refine am_istore_n (q := 6) (Nat.le_of_ble_eq_true rfl) (ls2 := [(1, am_i 0), (0, am_r 27)]) rfl (am_tab tk_X4_readTest 3 rfl) rfl ?_
  refine am_iconst (q := 7) (n := 0) (by decide) (am_tab tk_X4_readTest 4 rfl) rfl ?_
  refine am_istore_n (q := 8) (Nat.le_of_ble_eq_true rfl) (ls2 := [(2, am_i 0), (1, am_i 0), (0, am_r 27)]) rfl (am_tab tk_X4_readTest 5 rfl) rfl ?_
  have L8 : ∀ (n8 : Nat) (k : Nat) (w : Int) (T : am_H) (t : SX), 1600 - k < n8 → k ≤ 1600 → (w = 0 ∨ w = 1) → RX b E cv M tk T t → frw W_ps σ T → oS t + (n : Int) = 6 → tsL b E F (1600 - k) w t = testB b E F s → am_wp (M_X4_readTest n) Q 0 0 8 [(2, am_i ((k : Int))), (1, am_i w), (0, am_r 27)] [] T := by
    intro n8
    induction n8 with
    | zero => intro k w T t hn8; exact absurd hn8 (Nat.not_lt_zero _)
    | succ n8 ih8 =>
      intro k w T t hn8 hk hw hXl hFl hol hE
      refine am_iload_n (q := 9) rfl (am_tab tk_X4_readTest 6 rfl) rfl ?_
      refine am_sipush (q := 12) (n := 1600) (by decide) rfl (am_tab tk_X4_readTest 7 rfl) rfl ?_
      refine am_icmp_ge (q := 15) (t := 104) (am_tab tk_X4_readTest 8 rfl) (by decide) rfl (fun h12 => ?_) (fun h12 => ?_)
      · refine am_iload_n (q := 105) rfl (am_tab tk_X4_readTest 50 rfl) rfl ?_
        refine am_if_eq (q := 108) (t := 118) (am_tab tk_X4_readTest 51 rfl) (by decide) rfl (fun h105 => ?_) (fun h105 => ?_)
        · refine am_vret rfl (Nat.le_of_ble_eq_true rfl) (Nat.le_of_ble_eq_true rfl) (am_tab tk_X4_readTest 56 rfl) ?_
          refine hQ _ _ ?_
          rw [tsL_e (by omega), if_pos h105] at hE
          rw [← hE]
          exact ⟨rfl, hXl, hFl⟩
        · refine am_aload_n (q := 109) rfl (am_tab tk_X4_readTest 52 rfl) rfl ?_
          refine am_getR (q := 112) (a := 27) (k := 4) (n := 13) (j := 1) (r := some (28)) (Ls_27 hXl.1.1) (by decide) rfl (Lr_27_1 hXl.1.1) (by decide) (Or.inl kf_X4_14) (am_tab tk_X4_readTest 53 rfl) rfl ?_
          refine am_sipush (q := 115) (n := 20149) (by decide) rfl (am_tab tk_X4_readTest 54 rfl) rfl ?_
          refine am_callVr (q := 118) (me2 := M_X5_add) (b := 28) (kb := 5) (nb := 2) (As := [am_i 20149]) (rest := []) (c_addX hXl 20149 11 (fun _ => by decide)) ⟨rfl, rfl⟩ (Ls_28 hXl.1.1) (by decide) ⟨Or.inr km_X4_172, kc_X5_add, kn_X5, kd_X5_add, ⟨by show 0 + 1 ≤ 6 * n + 6; omega, by show 8 + (2 + 11) + 60 ≤ 60 * (6 * n + 7); omega⟩, ⟨(Nat.le_of_ble_eq_true rfl), (Nat.le_of_ble_eq_true rfl)⟩, (Nat.le_of_ble_eq_true rfl)⟩ ki_X5_add ks_X5_add rfl (am_tab tk_X4_readTest 55 rfl) rfl ?_
          rintro r T2 ⟨rfl, hX2, hG2⟩
          have hF2 : frw W_ps σ T2 := hFl.trans hG2
          refine am_vret rfl (Nat.le_of_ble_eq_true rfl) (Nat.le_of_ble_eq_true rfl) (am_tab tk_X4_readTest 56 rfl) ?_
          refine hQ _ _ ?_
          rw [tsL_e (by omega), if_neg h105] at hE
          rw [← hE]
          exact ⟨rfl, hX2, hF2⟩
      · refine am_aload_n (q := 16) rfl (am_tab tk_X4_readTest 9 rfl) rfl ?_
        refine am_getI (q := 19) (a := 27) (k := 4) (n := 13) (j := 4) (x := (kdS b E t)) (Ls_27 hXl.1.1) (by decide) rfl hXl.kd (by decide) (Or.inl kf_X4_45) (am_tab tk_X4_readTest 10 rfl) rfl ?_
        refine am_sipush (q := 22) (n := 149) (by decide) rfl (am_tab tk_X4_readTest 11 rfl) rfl ?_
        refine am_icmp_eq (q := 25) (t := 35) (am_tab tk_X4_readTest 12 rfl) (by decide) rfl (fun h22 => ?_) (fun h22 => ?_)
        · refine am_aload_n (q := 36) rfl (am_tab tk_X4_readTest 17 rfl) rfl ?_
          refine am_getI (q := 39) (a := 27) (k := 4) (n := 13) (j := 4) (x := (kdS b E t)) (Ls_27 hXl.1.1) (by decide) rfl hXl.kd (by decide) (Or.inl kf_X4_45) (am_tab tk_X4_readTest 18 rfl) rfl ?_
          refine am_sipush (q := 42) (n := 150) (by decide) rfl (am_tab tk_X4_readTest 19 rfl) rfl ?_
          refine am_icmp_ne (q := 45) (t := 49) (am_tab tk_X4_readTest 20 rfl) (by decide) rfl (fun h42 => ?_) (fun h42 => ?_)
          · refine am_iconst (q := 50) (n := 0) (by decide) (am_tab tk_X4_readTest 23 rfl) rfl ?_
            refine am_istore_n (q := 51) (Nat.le_of_ble_eq_true rfl) (ls2 := [(3, am_i 0), (2, am_i ((k : Int))), (1, am_i w), (0, am_r 27)]) rfl (am_tab tk_X4_readTest 24 rfl) rfl ?_
            refine am_aload_n (q := 52) rfl (am_tab tk_X4_readTest 25 rfl) rfl ?_
            refine am_iconst (q := 53) (n := 1) (by decide) (am_tab tk_X4_readTest 26 rfl) rfl ?_
            refine am_iconst (q := 54) (n := 0) (by decide) (am_tab tk_X4_readTest 27 rfl) rfl ?_
            refine am_callVr (q := 57) (me2 := M_X4_pass) (b := 27) (kb := 4) (nb := 13) (As := [am_i 1, am_i 0]) (rest := []) (c_passT hXl (by omega) 0) ⟨rfl, rfl⟩ (Ls_27 hXl.1.1) (by decide) ⟨Or.inl km_X4_71, kc_X4_pass, kn_X4, kd_X4_pass, ⟨by show 0 + 1 ≤ 6 * n + 6; omega, by show 8 + (5 + 11) + 60 ≤ 60 * (6 * n + 7); omega⟩, ⟨(Nat.le_of_ble_eq_true rfl), (Nat.le_of_ble_eq_true rfl)⟩, (Nat.le_of_ble_eq_true rfl)⟩ ki_X4_pass ks_X4_pass rfl (am_tab tk_X4_readTest 28 rfl) rfl ?_
            rintro r T3 ⟨rfl, hX3, hG3⟩
            have hF3 : frw W_ps σ T3 := hFl.trans hG3
            refine am_iload_n (q := 58) rfl (am_tab tk_X4_readTest 29 rfl) rfl ?_
            refine am_if_ne (q := 61) (t := 75) (am_tab tk_X4_readTest 30 rfl) (by decide) rfl (fun h58 => ?_) (fun h58 => ?_)
            · exact absurd h58 (by decide)
            · refine am_iload_n (q := 62) rfl (am_tab tk_X4_readTest 31 rfl) rfl ?_
              refine am_if_eq (q := 65) (t := 75) (am_tab tk_X4_readTest 32 rfl) (by decide) rfl (fun h62 => ?_) (fun h62 => ?_)
              · refine am_aload_n (q := 76) rfl (am_tab tk_X4_readTest 37 rfl) rfl ?_
                refine am_callVr (q := 79) (me2 := (M_X4_readFact n)) (b := 27) (kb := 4) (nb := 13) (As := []) (rest := []) (hP T3 (npS t) hX3 (by rw [oS_np]; exact hol)) ⟨rfl, rfl⟩ (Ls_27 hX3.1.1) (by decide) ⟨Or.inl km_X4_169, kc_X4_readFact, kn_X4, kd_X4_readFact, ⟨by show 6 * n + 5 + 1 ≤ 6 * n + 6; omega, by show 8 + (2 + 11) + 60 * (6 * n + 6) ≤ 60 * (6 * n + 7); omega⟩, ⟨(Nat.le_of_ble_eq_true rfl), (Nat.le_of_ble_eq_true rfl)⟩, (Nat.le_of_ble_eq_true rfl)⟩ ki_X4_readFact ks_X4_readFact rfl (am_tab tk_X4_readTest 38 rfl) rfl ?_
                rintro r T4 ⟨rfl, hX4, hG4⟩
                have hF4 : frw W_ps σ T4 := hF3.trans hG4
                refine am_iload_n (q := 80) rfl (am_tab tk_X4_readTest 39 rfl) rfl ?_
                refine am_if_eq (q := 83) (t := 96) (am_tab tk_X4_readTest 40 rfl) (by decide) rfl (fun h80 => ?_) (fun h80 => ?_)
                · refine am_iconst (q := 97) (n := 1) (by decide) (am_tab tk_X4_readTest 46 rfl) rfl ?_
                  refine am_istore_n (q := 98) (Nat.le_of_ble_eq_true rfl) (ls2 := [(1, am_i 1), (3, am_i 0), (2, am_i ((k : Int))), (0, am_r 27)]) rfl (am_tab tk_X4_readTest 47 rfl) rfl ?_
                  refine am_iinc (q := 101) rfl (by omega) (Nat.le_of_ble_eq_true rfl) (ls2 := [(2, am_i (((k : Int) + 1))), (1, am_i 1), (3, am_i 0), (0, am_r 27)]) rfl (am_tab tk_X4_readTest 48 rfl) rfl ?_
                  refine am_goto (t := 8) (am_tab tk_X4_readTest 49 rfl) (by decide) ?_
                  exact am_less (by intro q hq; simp only [List.mem_cons, List.not_mem_nil, or_false] at hq; rcases hq with rfl | rfl | rfl <;> simp) (ih8 (k + 1) 1 T4 (F (npS t)) (by omega) (by omega) (Or.inr rfl) hX4 hF4 (by rw [hO, oS_np]; exact hol) (by rw [tsL_a (by omega) (by omega), if_pos h62] at hE; exact hE))
                · exact absurd h80 (by decide)
              · refine am_aload_n (q := 66) rfl (am_tab tk_X4_readTest 33 rfl) rfl ?_
                refine am_getR (q := 69) (a := 27) (k := 4) (n := 13) (j := 1) (r := some (28)) (Ls_27 hX3.1.1) (by decide) rfl (Lr_27_1 hX3.1.1) (by decide) (Or.inl kf_X4_14) (am_tab tk_X4_readTest 34 rfl) rfl ?_
                refine am_sipush (q := 72) (n := 20149) (by decide) rfl (am_tab tk_X4_readTest 35 rfl) rfl ?_
                refine am_callVr (q := 75) (me2 := M_X5_add) (b := 28) (kb := 5) (nb := 2) (As := [am_i 20149]) (rest := []) (c_addX hX3 20149 11 (fun _ => by decide)) ⟨rfl, rfl⟩ (Ls_28 hX3.1.1) (by decide) ⟨Or.inr km_X4_172, kc_X5_add, kn_X5, kd_X5_add, ⟨by show 0 + 1 ≤ 6 * n + 6; omega, by show 8 + (2 + 11) + 60 ≤ 60 * (6 * n + 7); omega⟩, ⟨(Nat.le_of_ble_eq_true rfl), (Nat.le_of_ble_eq_true rfl)⟩, (Nat.le_of_ble_eq_true rfl)⟩ ki_X5_add ks_X5_add rfl (am_tab tk_X4_readTest 36 rfl) rfl ?_
                rintro r T5 ⟨rfl, hX5, hG5⟩
                have hF5 : frw W_ps σ T5 := hF3.trans hG5
                refine am_aload_n (q := 76) rfl (am_tab tk_X4_readTest 37 rfl) rfl ?_
                refine am_callVr (q := 79) (me2 := (M_X4_readFact n)) (b := 27) (kb := 4) (nb := 13) (As := []) (rest := []) (hP T5 (adS 11 (npS t)) hX5 (by rw [oS_ad, oS_np]; exact hol)) ⟨rfl, rfl⟩ (Ls_27 hX5.1.1) (by decide) ⟨Or.inl km_X4_169, kc_X4_readFact, kn_X4, kd_X4_readFact, ⟨by show 6 * n + 5 + 1 ≤ 6 * n + 6; omega, by show 8 + (2 + 11) + 60 * (6 * n + 6) ≤ 60 * (6 * n + 7); omega⟩, ⟨(Nat.le_of_ble_eq_true rfl), (Nat.le_of_ble_eq_true rfl)⟩, (Nat.le_of_ble_eq_true rfl)⟩ ki_X4_readFact ks_X4_readFact rfl (am_tab tk_X4_readTest 38 rfl) rfl ?_
                rintro r T6 ⟨rfl, hX6, hG6⟩
                have hF6 : frw W_ps σ T6 := hF5.trans hG6
                refine am_iload_n (q := 80) rfl (am_tab tk_X4_readTest 39 rfl) rfl ?_
                refine am_if_eq (q := 83) (t := 96) (am_tab tk_X4_readTest 40 rfl) (by decide) rfl (fun h80 => ?_) (fun h80 => ?_)
                · refine am_iconst (q := 97) (n := 1) (by decide) (am_tab tk_X4_readTest 46 rfl) rfl ?_
                  refine am_istore_n (q := 98) (Nat.le_of_ble_eq_true rfl) (ls2 := [(1, am_i 1), (3, am_i 0), (2, am_i ((k : Int))), (0, am_r 27)]) rfl (am_tab tk_X4_readTest 47 rfl) rfl ?_
                  refine am_iinc (q := 101) rfl (by omega) (Nat.le_of_ble_eq_true rfl) (ls2 := [(2, am_i (((k : Int) + 1))), (1, am_i 1), (3, am_i 0), (0, am_r 27)]) rfl (am_tab tk_X4_readTest 48 rfl) rfl ?_
                  refine am_goto (t := 8) (am_tab tk_X4_readTest 49 rfl) (by decide) ?_
                  exact am_less (by intro q hq; simp only [List.mem_cons, List.not_mem_nil, or_false] at hq; rcases hq with rfl | rfl | rfl <;> simp) (ih8 (k + 1) 1 T6 (F (adS 11 (npS t))) (by omega) (by omega) (Or.inr rfl) hX6 hF6 (by rw [hO, oS_ad, oS_np]; exact hol) (by rw [tsL_a (by omega) (by omega), if_neg h62] at hE; exact hE))
                · exact absurd h80 (by decide)
          · exact absurd h42 (by omega)
        · refine am_aload_n (q := 26) rfl (am_tab tk_X4_readTest 13 rfl) rfl ?_
          refine am_getI (q := 29) (a := 27) (k := 4) (n := 13) (j := 4) (x := (kdS b E t)) (Ls_27 hXl.1.1) (by decide) rfl hXl.kd (by decide) (Or.inl kf_X4_45) (am_tab tk_X4_readTest 14 rfl) rfl ?_
          refine am_sipush (q := 32) (n := 150) (by decide) rfl (am_tab tk_X4_readTest 15 rfl) rfl ?_
          refine am_icmp_ne (q := 35) (t := 104) (am_tab tk_X4_readTest 16 rfl) (by decide) rfl (fun h32 => ?_) (fun h32 => ?_)
          · refine am_iload_n (q := 105) rfl (am_tab tk_X4_readTest 50 rfl) rfl ?_
            refine am_if_eq (q := 108) (t := 118) (am_tab tk_X4_readTest 51 rfl) (by decide) rfl (fun h105 => ?_) (fun h105 => ?_)
            · refine am_vret rfl (Nat.le_of_ble_eq_true rfl) (Nat.le_of_ble_eq_true rfl) (am_tab tk_X4_readTest 56 rfl) ?_
              refine hQ _ _ ?_
              rw [tsL_e (by omega), if_pos h105] at hE
              rw [← hE]
              exact ⟨rfl, hXl, hFl⟩
            · refine am_aload_n (q := 109) rfl (am_tab tk_X4_readTest 52 rfl) rfl ?_
              refine am_getR (q := 112) (a := 27) (k := 4) (n := 13) (j := 1) (r := some (28)) (Ls_27 hXl.1.1) (by decide) rfl (Lr_27_1 hXl.1.1) (by decide) (Or.inl kf_X4_14) (am_tab tk_X4_readTest 53 rfl) rfl ?_
              refine am_sipush (q := 115) (n := 20149) (by decide) rfl (am_tab tk_X4_readTest 54 rfl) rfl ?_
              refine am_callVr (q := 118) (me2 := M_X5_add) (b := 28) (kb := 5) (nb := 2) (As := [am_i 20149]) (rest := []) (c_addX hXl 20149 11 (fun _ => by decide)) ⟨rfl, rfl⟩ (Ls_28 hXl.1.1) (by decide) ⟨Or.inr km_X4_172, kc_X5_add, kn_X5, kd_X5_add, ⟨by show 0 + 1 ≤ 6 * n + 6; omega, by show 8 + (2 + 11) + 60 ≤ 60 * (6 * n + 7); omega⟩, ⟨(Nat.le_of_ble_eq_true rfl), (Nat.le_of_ble_eq_true rfl)⟩, (Nat.le_of_ble_eq_true rfl)⟩ ki_X5_add ks_X5_add rfl (am_tab tk_X4_readTest 55 rfl) rfl ?_
              rintro r T7 ⟨rfl, hX7, hG7⟩
              have hF7 : frw W_ps σ T7 := hFl.trans hG7
              refine am_vret rfl (Nat.le_of_ble_eq_true rfl) (Nat.le_of_ble_eq_true rfl) (am_tab tk_X4_readTest 56 rfl) ?_
              refine hQ _ _ ?_
              rw [tsL_e (by omega), if_neg h105] at hE
              rw [← hE]
              exact ⟨rfl, hX7, hF7⟩
          · refine am_aload_n (q := 36) rfl (am_tab tk_X4_readTest 17 rfl) rfl ?_
            refine am_getI (q := 39) (a := 27) (k := 4) (n := 13) (j := 4) (x := (kdS b E t)) (Ls_27 hXl.1.1) (by decide) rfl hXl.kd (by decide) (Or.inl kf_X4_45) (am_tab tk_X4_readTest 18 rfl) rfl ?_
            refine am_sipush (q := 42) (n := 150) (by decide) rfl (am_tab tk_X4_readTest 19 rfl) rfl ?_
            refine am_icmp_ne (q := 45) (t := 49) (am_tab tk_X4_readTest 20 rfl) (by decide) rfl (fun h42 => ?_) (fun h42 => ?_)
            · exact absurd h32 h42
            · refine am_iconst (q := 46) (n := 1) (by decide) (am_tab tk_X4_readTest 21 rfl) rfl ?_
              refine am_goto (t := 50) (am_tab tk_X4_readTest 22 rfl) (by decide) ?_
              refine am_istore_n (q := 51) (Nat.le_of_ble_eq_true rfl) (ls2 := [(3, am_i 1), (2, am_i ((k : Int))), (1, am_i w), (0, am_r 27)]) rfl (am_tab tk_X4_readTest 24 rfl) rfl ?_
              refine am_aload_n (q := 52) rfl (am_tab tk_X4_readTest 25 rfl) rfl ?_
              refine am_iconst (q := 53) (n := 1) (by decide) (am_tab tk_X4_readTest 26 rfl) rfl ?_
              refine am_iconst (q := 54) (n := 0) (by decide) (am_tab tk_X4_readTest 27 rfl) rfl ?_
              refine am_callVr (q := 57) (me2 := M_X4_pass) (b := 27) (kb := 4) (nb := 13) (As := [am_i 1, am_i 0]) (rest := []) (c_passT hXl (by omega) 0) ⟨rfl, rfl⟩ (Ls_27 hXl.1.1) (by decide) ⟨Or.inl km_X4_71, kc_X4_pass, kn_X4, kd_X4_pass, ⟨by show 0 + 1 ≤ 6 * n + 6; omega, by show 8 + (5 + 11) + 60 ≤ 60 * (6 * n + 7); omega⟩, ⟨(Nat.le_of_ble_eq_true rfl), (Nat.le_of_ble_eq_true rfl)⟩, (Nat.le_of_ble_eq_true rfl)⟩ ki_X4_pass ks_X4_pass rfl (am_tab tk_X4_readTest 28 rfl) rfl ?_
              rintro r T8 ⟨rfl, hX8, hG8⟩
              have hF8 : frw W_ps σ T8 := hFl.trans hG8
              refine am_iload_n (q := 58) rfl (am_tab tk_X4_readTest 29 rfl) rfl ?_
              refine am_if_ne (q := 61) (t := 75) (am_tab tk_X4_readTest 30 rfl) (by decide) rfl (fun h58 => ?_) (fun h58 => ?_)
              · refine am_aload_n (q := 76) rfl (am_tab tk_X4_readTest 37 rfl) rfl ?_
                refine am_callVr (q := 79) (me2 := (M_X4_readFact n)) (b := 27) (kb := 4) (nb := 13) (As := []) (rest := []) (hP T8 (npS t) hX8 (by rw [oS_np]; exact hol)) ⟨rfl, rfl⟩ (Ls_27 hX8.1.1) (by decide) ⟨Or.inl km_X4_169, kc_X4_readFact, kn_X4, kd_X4_readFact, ⟨by show 6 * n + 5 + 1 ≤ 6 * n + 6; omega, by show 8 + (2 + 11) + 60 * (6 * n + 6) ≤ 60 * (6 * n + 7); omega⟩, ⟨(Nat.le_of_ble_eq_true rfl), (Nat.le_of_ble_eq_true rfl)⟩, (Nat.le_of_ble_eq_true rfl)⟩ ki_X4_readFact ks_X4_readFact rfl (am_tab tk_X4_readTest 38 rfl) rfl ?_
                rintro r T9 ⟨rfl, hX9, hG9⟩
                have hF9 : frw W_ps σ T9 := hF8.trans hG9
                refine am_iload_n (q := 80) rfl (am_tab tk_X4_readTest 39 rfl) rfl ?_
                refine am_if_eq (q := 83) (t := 96) (am_tab tk_X4_readTest 40 rfl) (by decide) rfl (fun h80 => ?_) (fun h80 => ?_)
                · exact absurd h80 (by decide)
                · refine am_aload_n (q := 84) rfl (am_tab tk_X4_readTest 41 rfl) rfl ?_
                  refine am_getR (q := 87) (a := 27) (k := 4) (n := 13) (j := 1) (r := some (28)) (Ls_27 hX9.1.1) (by decide) rfl (Lr_27_1 hX9.1.1) (by decide) (Or.inl kf_X4_14) (am_tab tk_X4_readTest 42 rfl) rfl ?_
                  refine am_sipush (q := 90) (n := 20150) (by decide) rfl (am_tab tk_X4_readTest 43 rfl) rfl ?_
                  refine am_callVr (q := 93) (me2 := M_X5_add) (b := 28) (kb := 5) (nb := 2) (As := [am_i 20150]) (rest := []) (c_addX hX9 20150 10 (fun _ => by decide)) ⟨rfl, rfl⟩ (Ls_28 hX9.1.1) (by decide) ⟨Or.inr km_X4_172, kc_X5_add, kn_X5, kd_X5_add, ⟨by show 0 + 1 ≤ 6 * n + 6; omega, by show 8 + (2 + 11) + 60 ≤ 60 * (6 * n + 7); omega⟩, ⟨(Nat.le_of_ble_eq_true rfl), (Nat.le_of_ble_eq_true rfl)⟩, (Nat.le_of_ble_eq_true rfl)⟩ ki_X5_add ks_X5_add rfl (am_tab tk_X4_readTest 44 rfl) rfl ?_
                  rintro r T10 ⟨rfl, hX10, hG10⟩
                  have hF10 : frw W_ps σ T10 := hF9.trans hG10
                  refine am_goto (t := 98) (am_tab tk_X4_readTest 45 rfl) (by decide) ?_
                  refine am_iinc (q := 101) rfl (by omega) (Nat.le_of_ble_eq_true rfl) (ls2 := [(2, am_i (((k : Int) + 1))), (3, am_i 1), (1, am_i w), (0, am_r 27)]) rfl (am_tab tk_X4_readTest 48 rfl) rfl ?_
                  refine am_goto (t := 8) (am_tab tk_X4_readTest 49 rfl) (by decide) ?_
                  exact am_less (by intro q hq; simp only [List.mem_cons, List.not_mem_nil, or_false] at hq; rcases hq with rfl | rfl | rfl <;> simp) (ih8 (k + 1) w T10 (adS 10 (F (npS t))) (by omega) (by omega) hw hX10 hF10 (by rw [oS_ad, hO, oS_np]; exact hol) ((tsL_m (by omega) (by omega)).symm.trans hE))
              · exact absurd h58 (by decide)
  refine am_less (by intro q hq; simp only [List.mem_cons, List.not_mem_nil, or_false] at hq; rcases hq with rfl | rfl | rfl <;> simp) (L8 (_ + 1) 0 0 T1 (F s) (by exact Nat.lt_succ_self _) (by omega) (Or.inl rfl) hX1 hF1 (by rw [hO]; exact hn) rfl)
theorem c_fact0 (b : Nat → Int) (E : Nat) (cv : Nat → Int) (M : Nat) (tk : Int) (S : SX → SX) (hS : RC b E cv M tk 0 (M_X4_readSum 0) [] S) (hSO : ∀ t, oS (S t) = oS t) (hSt : StF S) (σ : am_H) (s : SX) (hX : RX b E cv M tk σ s) (hn : oS s + (0 : Int) = 6)   : am_met (M_X4_readFact 0) [am_r 27] σ (fun r σ' => r = none ∧ RX b E cv M tk σ' (factB b E none S s) ∧ frw W_ps σ σ') := by
  refine am_qq (fun Q hQ => ?_)
  refine am_enter (show plainFor yX4_readFact = true by decide +kernel) rfl (Nat.le_of_ble_eq_true rfl) (fun _ _ _ => trivial) ?_
  have hn9 := hn
  refine am_aload_n (q := 1) rfl (am_tab tk_X4_readFact 0 rfl) rfl ?_
  refine am_getI (q := 4) (a := 27) (k := 4) (n := 13) (j := 4) (x := (kdS b E s)) (Ls_27 hX.1.1) (by decide) rfl hX.kd (by decide) (Or.inl kf_X4_45) (am_tab tk_X4_readFact 1 rfl) rfl ?_
  refine am_sipush (q := 7) (n := 151) (by decide) rfl (am_tab tk_X4_readFact 2 rfl) rfl ?_
  refine am_icmp_ne (q := 10) (t := 44) (am_tab tk_X4_readFact 3 rfl) (by decide) rfl (fun h7 => ?_) (fun h7 => ?_)
  · refine am_aload_n (q := 45) rfl (am_tab tk_X4_readFact 20 rfl) rfl ?_
    refine am_getI (q := 48) (a := 27) (k := 4) (n := 13) (j := 4) (x := (kdS b E s)) (Ls_27 hX.1.1) (by decide) rfl hX.kd (by decide) (Or.inl kf_X4_45) (am_tab tk_X4_readFact 21 rfl) rfl ?_
    refine am_bipush (q := 50) (n := 91) (by decide) rfl (am_tab tk_X4_readFact 22 rfl) rfl ?_
    refine am_icmp_ne (q := 53) (t := 96) (am_tab tk_X4_readFact 23 rfl) (by decide) rfl (fun h50 => ?_) (fun h50 => ?_)
    · refine am_aload_n (q := 97) rfl (am_tab tk_X4_readFact 46 rfl) rfl ?_
      refine am_getI (q := 100) (a := 27) (k := 4) (n := 13) (j := 4) (x := (kdS b E s)) (Ls_27 hX.1.1) (by decide) rfl hX.kd (by decide) (Or.inl kf_X4_45) (am_tab tk_X4_readFact 47 rfl) rfl ?_
      refine am_sipush (q := 103) (n := 152) (by decide) rfl (am_tab tk_X4_readFact 48 rfl) rfl ?_
      refine am_icmp_ne (q := 106) (t := 123) (am_tab tk_X4_readFact 49 rfl) (by decide) rfl (fun h103 => ?_) (fun h103 => ?_)
      · refine am_aload_n (q := 124) rfl (am_tab tk_X4_readFact 59 rfl) rfl ?_
        refine am_callVr (q := 127) (me2 := (M_X4_readSum 0)) (b := 27) (kb := 4) (nb := 13) (As := []) (rest := []) (hS σ s hX hn) ⟨rfl, rfl⟩ (Ls_27 hX.1.1) (by decide) ⟨Or.inl km_X4_78, kc_X4_readSum, kn_X4, kd_X4_readSum, ⟨by show 6 * 0 + 4 + 1 ≤ 6 * 0 + 5; omega, by show 8 + (5 + 11) + 60 * (6 * 0 + 5) ≤ 60 * (6 * 0 + 6); omega⟩, ⟨(Nat.le_of_ble_eq_true rfl), (Nat.le_of_ble_eq_true rfl)⟩, (Nat.le_of_ble_eq_true rfl)⟩ ki_X4_readSum ks_X4_readSum rfl (am_tab tk_X4_readFact 60 rfl) rfl ?_
        rintro r T1 ⟨rfl, hX1, hG1⟩
        have hF1 : frw W_ps σ T1 := (frw.refl W_ps σ).trans hG1
        refine am_aload_n (q := 128) rfl (am_tab tk_X4_readFact 61 rfl) rfl ?_
        refine am_getI (q := 131) (a := 27) (k := 4) (n := 13) (j := 4) (x := (kdS b E (S s))) (Ls_27 hX1.1.1) (by decide) rfl hX1.kd (by decide) (Or.inl kf_X4_45) (am_tab tk_X4_readFact 62 rfl) rfl ?_
        have hkr := hX1.kr
        refine am_istore_n (q := 132) (Nat.le_of_ble_eq_true rfl) (ls2 := [(1, am_i ((kdS b E (S s)))), (0, am_r 27)]) rfl (am_tab tk_X4_readFact 63 rfl) rfl ?_
        refine am_aload_n (q := 133) rfl (am_tab tk_X4_readFact 64 rfl) rfl ?_
        refine am_iload_n (q := 134) rfl (am_tab tk_X4_readFact 65 rfl) rfl ?_
        refine am_bipush (q := 136) (n := 60) (by decide) rfl (am_tab tk_X4_readFact 66 rfl) rfl ?_
        refine am_icmp_eq (q := 139) (t := 151) (am_tab tk_X4_readFact 67 rfl) (by decide) rfl (fun h136 => ?_) (fun h136 => ?_)
        · refine am_iconst (q := 152) (n := 1) (by decide) (am_tab tk_X4_readFact 74 rfl) rfl ?_
          refine am_goto (t := 156) (am_tab tk_X4_readFact 75 rfl) (by decide) ?_
          refine am_iconst (q := 157) (n := 1) (by decide) (am_tab tk_X4_readFact 77 rfl) rfl ?_
          refine am_callVr (q := 160) (me2 := M_X4_pass) (b := 27) (kb := 4) (nb := 13) (As := [am_i 1, am_i 1]) (rest := []) (c_passT hX1 (by omega) 1) ⟨rfl, rfl⟩ (Ls_27 hX1.1.1) (by decide) ⟨Or.inl km_X4_71, kc_X4_pass, kn_X4, kd_X4_pass, ⟨by show 0 + 1 ≤ 6 * 0 + 5; omega, by show 8 + (5 + 11) + 60 ≤ 60 * (6 * 0 + 6); omega⟩, ⟨(Nat.le_of_ble_eq_true rfl), (Nat.le_of_ble_eq_true rfl)⟩, (Nat.le_of_ble_eq_true rfl)⟩ ki_X4_pass ks_X4_pass rfl (am_tab tk_X4_readFact 78 rfl) rfl ?_
          rintro r T2 ⟨rfl, hX2, hG2⟩
          have hF2 : frw W_ps σ T2 := hF1.trans hG2
          refine am_aload_n (q := 161) rfl (am_tab tk_X4_readFact 79 rfl) rfl ?_
          refine am_callVr (q := 164) (me2 := (M_X4_readSum 0)) (b := 27) (kb := 4) (nb := 13) (As := []) (rest := []) (hS T2 (npS (S s)) hX2 (by rw [oS_np, hSO]; exact hn)) ⟨rfl, rfl⟩ (Ls_27 hX2.1.1) (by decide) ⟨Or.inl km_X4_78, kc_X4_readSum, kn_X4, kd_X4_readSum, ⟨by show 6 * 0 + 4 + 1 ≤ 6 * 0 + 5; omega, by show 8 + (5 + 11) + 60 * (6 * 0 + 5) ≤ 60 * (6 * 0 + 6); omega⟩, ⟨(Nat.le_of_ble_eq_true rfl), (Nat.le_of_ble_eq_true rfl)⟩, (Nat.le_of_ble_eq_true rfl)⟩ ki_X4_readSum ks_X4_readSum rfl (am_tab tk_X4_readFact 80 rfl) rfl ?_
          rintro r T3 ⟨rfl, hX3, hG3⟩
          have hF3 : frw W_ps σ T3 := hF2.trans hG3
          refine am_aload_n (q := 165) rfl (am_tab tk_X4_readFact 81 rfl) rfl ?_
          refine am_getR (q := 168) (a := 27) (k := 4) (n := 13) (j := 1) (r := some (28)) (Ls_27 hX3.1.1) (by decide) rfl (Lr_27_1 hX3.1.1) (by decide) (Or.inl kf_X4_14) (am_tab tk_X4_readFact 82 rfl) rfl ?_
          refine am_sipush (q := 171) (n := 20000) (by decide) rfl (am_tab tk_X4_readFact 83 rfl) rfl ?_
          refine am_iload_n (q := 172) rfl (am_tab tk_X4_readFact 84 rfl) rfl ?_
          refine am_iadd (q := 173) (by omega) (am_tab tk_X4_readFact 85 rfl) rfl ?_
          refine am_callVr (q := 176) (me2 := M_X5_add) (b := 28) (kb := 5) (nb := 2) (As := [am_i ((20000 + (kdS b E (S s))))]) (rest := []) (c_addX hX3 (20000 + (kdS b E (S s))) (opc (kdS b E (S s))) (fun _ => kap_opc (by omega))) ⟨rfl, rfl⟩ (Ls_28 hX3.1.1) (by decide) ⟨Or.inr km_X4_172, kc_X5_add, kn_X5, kd_X5_add, ⟨by show 0 + 1 ≤ 6 * 0 + 5; omega, by show 8 + (2 + 11) + 60 ≤ 60 * (6 * 0 + 6); omega⟩, ⟨(Nat.le_of_ble_eq_true rfl), (Nat.le_of_ble_eq_true rfl)⟩, (Nat.le_of_ble_eq_true rfl)⟩ ki_X5_add ks_X5_add rfl (am_tab tk_X4_readFact 86 rfl) rfl ?_
          rintro r T4 ⟨rfl, hX4, hG4⟩
          have hF4 : frw W_ps σ T4 := hF3.trans hG4
          refine am_vret rfl (Nat.le_of_ble_eq_true rfl) (Nat.le_of_ble_eq_true rfl) (am_tab tk_X4_readFact 87 rfl) ?_
          refine hQ _ _ ?_
          have e9 : factB b E none S s = adS (opc (kdS b E (S s))) (S (npS (S s))) := by unfold factB; rw [if_neg h7, if_neg h50, if_neg h103, if_pos (show kdS b E (S s) = 60 ∨ kdS b E (S s) = 62 ∨ kdS b E (S s) = 61 by omega)]
          rw [e9]
          exact ⟨rfl, hX4, hF4⟩
        · refine am_iload_n (q := 140) rfl (am_tab tk_X4_readFact 68 rfl) rfl ?_
          refine am_bipush (q := 142) (n := 62) (by decide) rfl (am_tab tk_X4_readFact 69 rfl) rfl ?_
          refine am_icmp_eq (q := 145) (t := 151) (am_tab tk_X4_readFact 70 rfl) (by decide) rfl (fun h142 => ?_) (fun h142 => ?_)
          · refine am_iconst (q := 152) (n := 1) (by decide) (am_tab tk_X4_readFact 74 rfl) rfl ?_
            refine am_goto (t := 156) (am_tab tk_X4_readFact 75 rfl) (by decide) ?_
            refine am_iconst (q := 157) (n := 1) (by decide) (am_tab tk_X4_readFact 77 rfl) rfl ?_
            refine am_callVr (q := 160) (me2 := M_X4_pass) (b := 27) (kb := 4) (nb := 13) (As := [am_i 1, am_i 1]) (rest := []) (c_passT hX1 (by omega) 1) ⟨rfl, rfl⟩ (Ls_27 hX1.1.1) (by decide) ⟨Or.inl km_X4_71, kc_X4_pass, kn_X4, kd_X4_pass, ⟨by show 0 + 1 ≤ 6 * 0 + 5; omega, by show 8 + (5 + 11) + 60 ≤ 60 * (6 * 0 + 6); omega⟩, ⟨(Nat.le_of_ble_eq_true rfl), (Nat.le_of_ble_eq_true rfl)⟩, (Nat.le_of_ble_eq_true rfl)⟩ ki_X4_pass ks_X4_pass rfl (am_tab tk_X4_readFact 78 rfl) rfl ?_
            rintro r T5 ⟨rfl, hX5, hG5⟩
            have hF5 : frw W_ps σ T5 := hF1.trans hG5
            refine am_aload_n (q := 161) rfl (am_tab tk_X4_readFact 79 rfl) rfl ?_
            refine am_callVr (q := 164) (me2 := (M_X4_readSum 0)) (b := 27) (kb := 4) (nb := 13) (As := []) (rest := []) (hS T5 (npS (S s)) hX5 (by rw [oS_np, hSO]; exact hn)) ⟨rfl, rfl⟩ (Ls_27 hX5.1.1) (by decide) ⟨Or.inl km_X4_78, kc_X4_readSum, kn_X4, kd_X4_readSum, ⟨by show 6 * 0 + 4 + 1 ≤ 6 * 0 + 5; omega, by show 8 + (5 + 11) + 60 * (6 * 0 + 5) ≤ 60 * (6 * 0 + 6); omega⟩, ⟨(Nat.le_of_ble_eq_true rfl), (Nat.le_of_ble_eq_true rfl)⟩, (Nat.le_of_ble_eq_true rfl)⟩ ki_X4_readSum ks_X4_readSum rfl (am_tab tk_X4_readFact 80 rfl) rfl ?_
            rintro r T6 ⟨rfl, hX6, hG6⟩
            have hF6 : frw W_ps σ T6 := hF5.trans hG6
            refine am_aload_n (q := 165) rfl (am_tab tk_X4_readFact 81 rfl) rfl ?_
            refine am_getR (q := 168) (a := 27) (k := 4) (n := 13) (j := 1) (r := some (28)) (Ls_27 hX6.1.1) (by decide) rfl (Lr_27_1 hX6.1.1) (by decide) (Or.inl kf_X4_14) (am_tab tk_X4_readFact 82 rfl) rfl ?_
            refine am_sipush (q := 171) (n := 20000) (by decide) rfl (am_tab tk_X4_readFact 83 rfl) rfl ?_
            refine am_iload_n (q := 172) rfl (am_tab tk_X4_readFact 84 rfl) rfl ?_
            refine am_iadd (q := 173) (by omega) (am_tab tk_X4_readFact 85 rfl) rfl ?_
            refine am_callVr (q := 176) (me2 := M_X5_add) (b := 28) (kb := 5) (nb := 2) (As := [am_i ((20000 + (kdS b E (S s))))]) (rest := []) (c_addX hX6 (20000 + (kdS b E (S s))) (opc (kdS b E (S s))) (fun _ => kap_opc (by omega))) ⟨rfl, rfl⟩ (Ls_28 hX6.1.1) (by decide) ⟨Or.inr km_X4_172, kc_X5_add, kn_X5, kd_X5_add, ⟨by show 0 + 1 ≤ 6 * 0 + 5; omega, by show 8 + (2 + 11) + 60 ≤ 60 * (6 * 0 + 6); omega⟩, ⟨(Nat.le_of_ble_eq_true rfl), (Nat.le_of_ble_eq_true rfl)⟩, (Nat.le_of_ble_eq_true rfl)⟩ ki_X5_add ks_X5_add rfl (am_tab tk_X4_readFact 86 rfl) rfl ?_
            rintro r T7 ⟨rfl, hX7, hG7⟩
            have hF7 : frw W_ps σ T7 := hF6.trans hG7
            refine am_vret rfl (Nat.le_of_ble_eq_true rfl) (Nat.le_of_ble_eq_true rfl) (am_tab tk_X4_readFact 87 rfl) ?_
            refine hQ _ _ ?_
            have e9 : factB b E none S s = adS (opc (kdS b E (S s))) (S (npS (S s))) := by unfold factB; rw [if_neg h7, if_neg h50, if_neg h103, if_pos (show kdS b E (S s) = 60 ∨ kdS b E (S s) = 62 ∨ kdS b E (S s) = 61 by omega)]
            rw [e9]
            exact ⟨rfl, hX7, hF7⟩
          · refine am_iload_n (q := 146) rfl (am_tab tk_X4_readFact 71 rfl) rfl ?_
            refine am_bipush (q := 148) (n := 61) (by decide) rfl (am_tab tk_X4_readFact 72 rfl) rfl ?_
            refine am_icmp_ne (q := 151) (t := 155) (am_tab tk_X4_readFact 73 rfl) (by decide) rfl (fun h148 => ?_) (fun h148 => ?_)
            · refine am_iconst (q := 156) (n := 0) (by decide) (am_tab tk_X4_readFact 76 rfl) rfl ?_
              refine am_iconst (q := 157) (n := 1) (by decide) (am_tab tk_X4_readFact 77 rfl) rfl ?_
              refine am_callVr (q := 160) (me2 := M_X4_pass) (b := 27) (kb := 4) (nb := 13) (As := [am_i 0, am_i 1]) (rest := []) (c_passF hX1 1 (by decide)) ⟨rfl, rfl⟩ (Ls_27 hX1.1.1) (by decide) ⟨Or.inl km_X4_71, kc_X4_pass, kn_X4, kd_X4_pass, ⟨by show 0 + 1 ≤ 6 * 0 + 5; omega, by show 8 + (5 + 11) + 60 ≤ 60 * (6 * 0 + 6); omega⟩, ⟨(Nat.le_of_ble_eq_true rfl), (Nat.le_of_ble_eq_true rfl)⟩, (Nat.le_of_ble_eq_true rfl)⟩ ki_X4_pass ks_X4_pass rfl (am_tab tk_X4_readFact 78 rfl) rfl ?_
              rintro r T8 ⟨rfl, hX8, hG8⟩
              have hF8 : frw W_ps σ T8 := hF1.trans hG8
              refine am_aload_n (q := 161) rfl (am_tab tk_X4_readFact 79 rfl) rfl ?_
              refine am_callVr (q := 164) (me2 := (M_X4_readSum 0)) (b := 27) (kb := 4) (nb := 13) (As := []) (rest := []) (hS T8 (ftS b E 1 (S s)) hX8 (by rw [oS_ft, hSO]; exact hn)) ⟨rfl, rfl⟩ (Ls_27 hX8.1.1) (by decide) ⟨Or.inl km_X4_78, kc_X4_readSum, kn_X4, kd_X4_readSum, ⟨by show 6 * 0 + 4 + 1 ≤ 6 * 0 + 5; omega, by show 8 + (5 + 11) + 60 * (6 * 0 + 5) ≤ 60 * (6 * 0 + 6); omega⟩, ⟨(Nat.le_of_ble_eq_true rfl), (Nat.le_of_ble_eq_true rfl)⟩, (Nat.le_of_ble_eq_true rfl)⟩ ki_X4_readSum ks_X4_readSum rfl (am_tab tk_X4_readFact 80 rfl) rfl ?_
              rintro r T9 ⟨rfl, hX9, hG9⟩
              have hF9 : frw W_ps σ T9 := hF8.trans hG9
              refine am_aload_n (q := 165) rfl (am_tab tk_X4_readFact 81 rfl) rfl ?_
              refine am_getR (q := 168) (a := 27) (k := 4) (n := 13) (j := 1) (r := some (28)) (Ls_27 hX9.1.1) (by decide) rfl (Lr_27_1 hX9.1.1) (by decide) (Or.inl kf_X4_14) (am_tab tk_X4_readFact 82 rfl) rfl ?_
              refine am_sipush (q := 171) (n := 20000) (by decide) rfl (am_tab tk_X4_readFact 83 rfl) rfl ?_
              refine am_iload_n (q := 172) rfl (am_tab tk_X4_readFact 84 rfl) rfl ?_
              refine am_iadd (q := 173) (by omega) (am_tab tk_X4_readFact 85 rfl) rfl ?_
              refine am_callVr (q := 176) (me2 := M_X5_add) (b := 28) (kb := 5) (nb := 2) (As := [am_i ((20000 + (kdS b E (S s))))]) (rest := []) (c_addX hX9 (20000 + (kdS b E (S s))) (opc (kdS b E (S s))) (fun h => absurd ((sl_ft _ _ _ _).symm.trans (hSt.l h)) (by decide))) ⟨rfl, rfl⟩ (Ls_28 hX9.1.1) (by decide) ⟨Or.inr km_X4_172, kc_X5_add, kn_X5, kd_X5_add, ⟨by show 0 + 1 ≤ 6 * 0 + 5; omega, by show 8 + (2 + 11) + 60 ≤ 60 * (6 * 0 + 6); omega⟩, ⟨(Nat.le_of_ble_eq_true rfl), (Nat.le_of_ble_eq_true rfl)⟩, (Nat.le_of_ble_eq_true rfl)⟩ ki_X5_add ks_X5_add rfl (am_tab tk_X4_readFact 86 rfl) rfl ?_
              rintro r T10 ⟨rfl, hX10, hG10⟩
              have hF10 : frw W_ps σ T10 := hF9.trans hG10
              refine am_vret rfl (Nat.le_of_ble_eq_true rfl) (Nat.le_of_ble_eq_true rfl) (am_tab tk_X4_readFact 87 rfl) ?_
              refine hQ _ _ ?_
              have e9 : factB b E none S s = adS (opc (kdS b E (S s))) (S (ftS b E 1 (S s))) := by unfold factB; rw [if_neg h7, if_neg h50, if_neg h103, if_neg (by omega)]
              rw [e9]
              exact ⟨rfl, hX10, hF10⟩
            · refine am_iconst (q := 152) (n := 1) (by decide) (am_tab tk_X4_readFact 74 rfl) rfl ?_
              refine am_goto (t := 156) (am_tab tk_X4_readFact 75 rfl) (by decide) ?_
              refine am_iconst (q := 157) (n := 1) (by decide) (am_tab tk_X4_readFact 77 rfl) rfl ?_
              refine am_callVr (q := 160) (me2 := M_X4_pass) (b := 27) (kb := 4) (nb := 13) (As := [am_i 1, am_i 1]) (rest := []) (c_passT hX1 (by omega) 1) ⟨rfl, rfl⟩ (Ls_27 hX1.1.1) (by decide) ⟨Or.inl km_X4_71, kc_X4_pass, kn_X4, kd_X4_pass, ⟨by show 0 + 1 ≤ 6 * 0 + 5; omega, by show 8 + (5 + 11) + 60 ≤ 60 * (6 * 0 + 6); omega⟩, ⟨(Nat.le_of_ble_eq_true rfl), (Nat.le_of_ble_eq_true rfl)⟩, (Nat.le_of_ble_eq_true rfl)⟩ ki_X4_pass ks_X4_pass rfl (am_tab tk_X4_readFact 78 rfl) rfl ?_
              rintro r T11 ⟨rfl, hX11, hG11⟩
              have hF11 : frw W_ps σ T11 := hF1.trans hG11
              refine am_aload_n (q := 161) rfl (am_tab tk_X4_readFact 79 rfl) rfl ?_
              refine am_callVr (q := 164) (me2 := (M_X4_readSum 0)) (b := 27) (kb := 4) (nb := 13) (As := []) (rest := []) (hS T11 (npS (S s)) hX11 (by rw [oS_np, hSO]; exact hn)) ⟨rfl, rfl⟩ (Ls_27 hX11.1.1) (by decide) ⟨Or.inl km_X4_78, kc_X4_readSum, kn_X4, kd_X4_readSum, ⟨by show 6 * 0 + 4 + 1 ≤ 6 * 0 + 5; omega, by show 8 + (5 + 11) + 60 * (6 * 0 + 5) ≤ 60 * (6 * 0 + 6); omega⟩, ⟨(Nat.le_of_ble_eq_true rfl), (Nat.le_of_ble_eq_true rfl)⟩, (Nat.le_of_ble_eq_true rfl)⟩ ki_X4_readSum ks_X4_readSum rfl (am_tab tk_X4_readFact 80 rfl) rfl ?_
              rintro r T12 ⟨rfl, hX12, hG12⟩
              have hF12 : frw W_ps σ T12 := hF11.trans hG12
              refine am_aload_n (q := 165) rfl (am_tab tk_X4_readFact 81 rfl) rfl ?_
              refine am_getR (q := 168) (a := 27) (k := 4) (n := 13) (j := 1) (r := some (28)) (Ls_27 hX12.1.1) (by decide) rfl (Lr_27_1 hX12.1.1) (by decide) (Or.inl kf_X4_14) (am_tab tk_X4_readFact 82 rfl) rfl ?_
              refine am_sipush (q := 171) (n := 20000) (by decide) rfl (am_tab tk_X4_readFact 83 rfl) rfl ?_
              refine am_iload_n (q := 172) rfl (am_tab tk_X4_readFact 84 rfl) rfl ?_
              refine am_iadd (q := 173) (by omega) (am_tab tk_X4_readFact 85 rfl) rfl ?_
              refine am_callVr (q := 176) (me2 := M_X5_add) (b := 28) (kb := 5) (nb := 2) (As := [am_i ((20000 + (kdS b E (S s))))]) (rest := []) (c_addX hX12 (20000 + (kdS b E (S s))) (opc (kdS b E (S s))) (fun _ => kap_opc (by omega))) ⟨rfl, rfl⟩ (Ls_28 hX12.1.1) (by decide) ⟨Or.inr km_X4_172, kc_X5_add, kn_X5, kd_X5_add, ⟨by show 0 + 1 ≤ 6 * 0 + 5; omega, by show 8 + (2 + 11) + 60 ≤ 60 * (6 * 0 + 6); omega⟩, ⟨(Nat.le_of_ble_eq_true rfl), (Nat.le_of_ble_eq_true rfl)⟩, (Nat.le_of_ble_eq_true rfl)⟩ ki_X5_add ks_X5_add rfl (am_tab tk_X4_readFact 86 rfl) rfl ?_
              rintro r T13 ⟨rfl, hX13, hG13⟩
              have hF13 : frw W_ps σ T13 := hF12.trans hG13
              refine am_vret rfl (Nat.le_of_ble_eq_true rfl) (Nat.le_of_ble_eq_true rfl) (am_tab tk_X4_readFact 87 rfl) ?_
              refine hQ _ _ ?_
              have e9 : factB b E none S s = adS (opc (kdS b E (S s))) (S (npS (S s))) := by unfold factB; rw [if_neg h7, if_neg h50, if_neg h103, if_pos (show kdS b E (S s) = 60 ∨ kdS b E (S s) = 62 ∨ kdS b E (S s) = 61 by omega)]
              rw [e9]
              exact ⟨rfl, hX13, hF13⟩
      · refine am_aload_n (q := 107) rfl (am_tab tk_X4_readFact 50 rfl) rfl ?_
        refine am_iconst (q := 108) (n := 1) (by decide) (am_tab tk_X4_readFact 51 rfl) rfl ?_
        refine am_iconst (q := 109) (n := 0) (by decide) (am_tab tk_X4_readFact 52 rfl) rfl ?_
        refine am_callVr (q := 112) (me2 := M_X4_pass) (b := 27) (kb := 4) (nb := 13) (As := [am_i 1, am_i 0]) (rest := []) (c_passT hX (by omega) 0) ⟨rfl, rfl⟩ (Ls_27 hX.1.1) (by decide) ⟨Or.inl km_X4_71, kc_X4_pass, kn_X4, kd_X4_pass, ⟨by show 0 + 1 ≤ 6 * 0 + 5; omega, by show 8 + (5 + 11) + 60 ≤ 60 * (6 * 0 + 6); omega⟩, ⟨(Nat.le_of_ble_eq_true rfl), (Nat.le_of_ble_eq_true rfl)⟩, (Nat.le_of_ble_eq_true rfl)⟩ ki_X4_pass ks_X4_pass rfl (am_tab tk_X4_readFact 53 rfl) rfl ?_
        rintro r T14 ⟨rfl, hX14, hG14⟩
        have hF14 : frw W_ps σ T14 := (frw.refl W_ps σ).trans hG14
        refine am_aload_n (q := 113) rfl (am_tab tk_X4_readFact 54 rfl) rfl ?_
        refine am_getR (q := 116) (a := 27) (k := 4) (n := 13) (j := 1) (r := some (28)) (Ls_27 hX14.1.1) (by decide) rfl (Lr_27_1 hX14.1.1) (by decide) (Or.inl kf_X4_14) (am_tab tk_X4_readFact 55 rfl) rfl ?_
        refine am_iconst (q := 117) (n := 1) (by decide) (am_tab tk_X4_readFact 56 rfl) rfl ?_
        refine am_callVr (q := 120) (me2 := M_X5_add) (b := 28) (kb := 5) (nb := 2) (As := [am_i 1]) (rest := []) (c_addX hX14 1 13 (fun _ => by decide)) ⟨rfl, rfl⟩ (Ls_28 hX14.1.1) (by decide) ⟨Or.inr km_X4_172, kc_X5_add, kn_X5, kd_X5_add, ⟨by show 0 + 1 ≤ 6 * 0 + 5; omega, by show 8 + (2 + 11) + 60 ≤ 60 * (6 * 0 + 6); omega⟩, ⟨(Nat.le_of_ble_eq_true rfl), (Nat.le_of_ble_eq_true rfl)⟩, (Nat.le_of_ble_eq_true rfl)⟩ ki_X5_add ks_X5_add rfl (am_tab tk_X4_readFact 57 rfl) rfl ?_
        rintro r T15 ⟨rfl, hX15, hG15⟩
        have hF15 : frw W_ps σ T15 := hF14.trans hG15
        refine am_goto (t := 176) (am_tab tk_X4_readFact 58 rfl) (by decide) ?_
        refine am_vret rfl (Nat.le_of_ble_eq_true rfl) (Nat.le_of_ble_eq_true rfl) (am_tab tk_X4_readFact 87 rfl) ?_
        refine hQ _ _ ?_
        have e9 : factB b E none S s = adS 13 (npS s) := by unfold factB; rw [if_neg h7, if_neg h50, if_pos h103]
        rw [e9]
        exact ⟨rfl, hX15, hF15⟩
    · refine am_aload_n (q := 54) rfl (am_tab tk_X4_readFact 24 rfl) rfl ?_
      refine am_callVr (q := 57) (me2 := M_X4_open) (b := 27) (kb := 4) (nb := 13) (As := []) (rest := []) (c_open0 hX (by omega) (by omega)) ⟨rfl, rfl⟩ (Ls_27 hX.1.1) (by decide) ⟨Or.inl km_X4_175, kc_X4_open, kn_X4, kd_X4_open, ⟨by show 1 + 1 ≤ 6 * 0 + 5; omega, by show 8 + (1 + 11) + 120 ≤ 60 * (6 * 0 + 6); omega⟩, ⟨(Nat.le_of_ble_eq_true rfl), (Nat.le_of_ble_eq_true rfl)⟩, (Nat.le_of_ble_eq_true rfl)⟩ ki_X4_open ks_X4_open rfl (am_tab tk_X4_readFact 25 rfl) rfl ?_
      rintro r T16 ⟨rfl, hX16, hG16⟩
      have hF16 : frw W_ps σ T16 := (frw.refl W_ps σ).trans hG16
      refine am_if_eq (q := 60) (t := 176) (am_tab tk_X4_readFact 26 rfl) (by decide) rfl (fun h57 => ?_) (fun h57 => ?_)
      · refine am_vret rfl (Nat.le_of_ble_eq_true rfl) (Nat.le_of_ble_eq_true rfl) (am_tab tk_X4_readFact 87 rfl) ?_
        refine hQ _ _ ?_
        have e9 : factB b E none S s = ftS b E 4 s := by unfold factB; rw [if_neg h7, if_pos h50]
        rw [e9]
        exact ⟨rfl, hX16, hF16⟩
      · exact absurd h57 (by decide)
  · refine am_aload_n (q := 11) rfl (am_tab tk_X4_readFact 4 rfl) rfl ?_
    refine am_callVr (q := 14) (me2 := M_X4_open) (b := 27) (kb := 4) (nb := 13) (As := []) (rest := []) (c_open0 hX (by omega) (by omega)) ⟨rfl, rfl⟩ (Ls_27 hX.1.1) (by decide) ⟨Or.inl km_X4_175, kc_X4_open, kn_X4, kd_X4_open, ⟨by show 1 + 1 ≤ 6 * 0 + 5; omega, by show 8 + (1 + 11) + 120 ≤ 60 * (6 * 0 + 6); omega⟩, ⟨(Nat.le_of_ble_eq_true rfl), (Nat.le_of_ble_eq_true rfl)⟩, (Nat.le_of_ble_eq_true rfl)⟩ ki_X4_open ks_X4_open rfl (am_tab tk_X4_readFact 5 rfl) rfl ?_
    rintro r T17 ⟨rfl, hX17, hG17⟩
    have hF17 : frw W_ps σ T17 := (frw.refl W_ps σ).trans hG17
    refine am_if_eq (q := 17) (t := 176) (am_tab tk_X4_readFact 6 rfl) (by decide) rfl (fun h14 => ?_) (fun h14 => ?_)
    · refine am_vret rfl (Nat.le_of_ble_eq_true rfl) (Nat.le_of_ble_eq_true rfl) (am_tab tk_X4_readFact 87 rfl) ?_
      refine hQ _ _ ?_
      have e9 : factB b E none S s = ftS b E 4 s := by unfold factB; rw [if_pos h7]
      rw [e9]
      exact ⟨rfl, hX17, hF17⟩
    · exact absurd h14 (by decide)
theorem c_factS (b : Nat → Int) (E : Nat) (cv : Nat → Int) (M : Nat) (tk : Int) (n : Nat) (S : SX → SX) (hS : RC b E cv M tk (n + 1) (M_X4_readSum (n + 1)) [] S) (hSO : ∀ t, oS (S t) = oS t) (hSt : StF S) (F T0 : SX → SX) (hF : RC b E cv M tk n (M_X4_readFact n) [] F) (hFO : ∀ t, oS (F t) = oS t) (hT : RC b E cv M tk n (M_X4_readTest n) [] T0) (hTO : ∀ t, oS (T0 t) = oS t) (σ : am_H) (s : SX) (hX : RX b E cv M tk σ s) (hn : oS s + (((n + 1) : Nat) : Int) = 6)   : am_met (M_X4_readFact (n + 1)) [am_r 27] σ (fun r σ' => r = none ∧ RX b E cv M tk σ' (factB b E (some (F, T0)) S s) ∧ frw W_ps σ σ') := by
  refine am_qq (fun Q hQ => ?_)
  refine am_enter (show plainFor yX4_readFact = true by decide +kernel) rfl (Nat.le_of_ble_eq_true rfl) (fun _ _ _ => trivial) ?_
  have hn9 := hn
  refine am_aload_n (q := 1) rfl (am_tab tk_X4_readFact 0 rfl) rfl ?_
  refine am_getI (q := 4) (a := 27) (k := 4) (n := 13) (j := 4) (x := (kdS b E s)) (Ls_27 hX.1.1) (by decide) rfl hX.kd (by decide) (Or.inl kf_X4_45) (am_tab tk_X4_readFact 1 rfl) rfl ?_
  refine am_sipush (q := 7) (n := 151) (by decide) rfl (am_tab tk_X4_readFact 2 rfl) rfl ?_
  refine am_icmp_ne (q := 10) (t := 44) (am_tab tk_X4_readFact 3 rfl) (by decide) rfl (fun h7 => ?_) (fun h7 => ?_)
  · refine am_aload_n (q := 45) rfl (am_tab tk_X4_readFact 20 rfl) rfl ?_
    refine am_getI (q := 48) (a := 27) (k := 4) (n := 13) (j := 4) (x := (kdS b E s)) (Ls_27 hX.1.1) (by decide) rfl hX.kd (by decide) (Or.inl kf_X4_45) (am_tab tk_X4_readFact 21 rfl) rfl ?_
    refine am_bipush (q := 50) (n := 91) (by decide) rfl (am_tab tk_X4_readFact 22 rfl) rfl ?_
    refine am_icmp_ne (q := 53) (t := 96) (am_tab tk_X4_readFact 23 rfl) (by decide) rfl (fun h50 => ?_) (fun h50 => ?_)
    · refine am_aload_n (q := 97) rfl (am_tab tk_X4_readFact 46 rfl) rfl ?_
      refine am_getI (q := 100) (a := 27) (k := 4) (n := 13) (j := 4) (x := (kdS b E s)) (Ls_27 hX.1.1) (by decide) rfl hX.kd (by decide) (Or.inl kf_X4_45) (am_tab tk_X4_readFact 47 rfl) rfl ?_
      refine am_sipush (q := 103) (n := 152) (by decide) rfl (am_tab tk_X4_readFact 48 rfl) rfl ?_
      refine am_icmp_ne (q := 106) (t := 123) (am_tab tk_X4_readFact 49 rfl) (by decide) rfl (fun h103 => ?_) (fun h103 => ?_)
      · refine am_aload_n (q := 124) rfl (am_tab tk_X4_readFact 59 rfl) rfl ?_
        refine am_callVr (q := 127) (me2 := (M_X4_readSum (n + 1))) (b := 27) (kb := 4) (nb := 13) (As := []) (rest := []) (hS σ s hX hn) ⟨rfl, rfl⟩ (Ls_27 hX.1.1) (by decide) ⟨Or.inl km_X4_78, kc_X4_readSum, kn_X4, kd_X4_readSum, ⟨by show 6 * (n + 1) + 4 + 1 ≤ 6 * (n + 1) + 5; omega, by show 8 + (5 + 11) + 60 * (6 * (n + 1) + 5) ≤ 60 * (6 * (n + 1) + 6); omega⟩, ⟨(Nat.le_of_ble_eq_true rfl), (Nat.le_of_ble_eq_true rfl)⟩, (Nat.le_of_ble_eq_true rfl)⟩ ki_X4_readSum ks_X4_readSum rfl (am_tab tk_X4_readFact 60 rfl) rfl ?_
        rintro r T1 ⟨rfl, hX1, hG1⟩
        have hF1 : frw W_ps σ T1 := (frw.refl W_ps σ).trans hG1
        refine am_aload_n (q := 128) rfl (am_tab tk_X4_readFact 61 rfl) rfl ?_
        refine am_getI (q := 131) (a := 27) (k := 4) (n := 13) (j := 4) (x := (kdS b E (S s))) (Ls_27 hX1.1.1) (by decide) rfl hX1.kd (by decide) (Or.inl kf_X4_45) (am_tab tk_X4_readFact 62 rfl) rfl ?_
        have hkr := hX1.kr
        refine am_istore_n (q := 132) (Nat.le_of_ble_eq_true rfl) (ls2 := [(1, am_i ((kdS b E (S s)))), (0, am_r 27)]) rfl (am_tab tk_X4_readFact 63 rfl) rfl ?_
        refine am_aload_n (q := 133) rfl (am_tab tk_X4_readFact 64 rfl) rfl ?_
        refine am_iload_n (q := 134) rfl (am_tab tk_X4_readFact 65 rfl) rfl ?_
        refine am_bipush (q := 136) (n := 60) (by decide) rfl (am_tab tk_X4_readFact 66 rfl) rfl ?_
        refine am_icmp_eq (q := 139) (t := 151) (am_tab tk_X4_readFact 67 rfl) (by decide) rfl (fun h136 => ?_) (fun h136 => ?_)
        · refine am_iconst (q := 152) (n := 1) (by decide) (am_tab tk_X4_readFact 74 rfl) rfl ?_
          refine am_goto (t := 156) (am_tab tk_X4_readFact 75 rfl) (by decide) ?_
          refine am_iconst (q := 157) (n := 1) (by decide) (am_tab tk_X4_readFact 77 rfl) rfl ?_
          refine am_callVr (q := 160) (me2 := M_X4_pass) (b := 27) (kb := 4) (nb := 13) (As := [am_i 1, am_i 1]) (rest := []) (c_passT hX1 (by omega) 1) ⟨rfl, rfl⟩ (Ls_27 hX1.1.1) (by decide) ⟨Or.inl km_X4_71, kc_X4_pass, kn_X4, kd_X4_pass, ⟨by show 0 + 1 ≤ 6 * (n + 1) + 5; omega, by show 8 + (5 + 11) + 60 ≤ 60 * (6 * (n + 1) + 6); omega⟩, ⟨(Nat.le_of_ble_eq_true rfl), (Nat.le_of_ble_eq_true rfl)⟩, (Nat.le_of_ble_eq_true rfl)⟩ ki_X4_pass ks_X4_pass rfl (am_tab tk_X4_readFact 78 rfl) rfl ?_
          rintro r T2 ⟨rfl, hX2, hG2⟩
          have hF2 : frw W_ps σ T2 := hF1.trans hG2
          refine am_aload_n (q := 161) rfl (am_tab tk_X4_readFact 79 rfl) rfl ?_
          refine am_callVr (q := 164) (me2 := (M_X4_readSum (n + 1))) (b := 27) (kb := 4) (nb := 13) (As := []) (rest := []) (hS T2 (npS (S s)) hX2 (by rw [oS_np, hSO]; exact hn)) ⟨rfl, rfl⟩ (Ls_27 hX2.1.1) (by decide) ⟨Or.inl km_X4_78, kc_X4_readSum, kn_X4, kd_X4_readSum, ⟨by show 6 * (n + 1) + 4 + 1 ≤ 6 * (n + 1) + 5; omega, by show 8 + (5 + 11) + 60 * (6 * (n + 1) + 5) ≤ 60 * (6 * (n + 1) + 6); omega⟩, ⟨(Nat.le_of_ble_eq_true rfl), (Nat.le_of_ble_eq_true rfl)⟩, (Nat.le_of_ble_eq_true rfl)⟩ ki_X4_readSum ks_X4_readSum rfl (am_tab tk_X4_readFact 80 rfl) rfl ?_
          rintro r T3 ⟨rfl, hX3, hG3⟩
          have hF3 : frw W_ps σ T3 := hF2.trans hG3
          refine am_aload_n (q := 165) rfl (am_tab tk_X4_readFact 81 rfl) rfl ?_
          refine am_getR (q := 168) (a := 27) (k := 4) (n := 13) (j := 1) (r := some (28)) (Ls_27 hX3.1.1) (by decide) rfl (Lr_27_1 hX3.1.1) (by decide) (Or.inl kf_X4_14) (am_tab tk_X4_readFact 82 rfl) rfl ?_
          refine am_sipush (q := 171) (n := 20000) (by decide) rfl (am_tab tk_X4_readFact 83 rfl) rfl ?_
          refine am_iload_n (q := 172) rfl (am_tab tk_X4_readFact 84 rfl) rfl ?_
          refine am_iadd (q := 173) (by omega) (am_tab tk_X4_readFact 85 rfl) rfl ?_
          refine am_callVr (q := 176) (me2 := M_X5_add) (b := 28) (kb := 5) (nb := 2) (As := [am_i ((20000 + (kdS b E (S s))))]) (rest := []) (c_addX hX3 (20000 + (kdS b E (S s))) (opc (kdS b E (S s))) (fun _ => kap_opc (by omega))) ⟨rfl, rfl⟩ (Ls_28 hX3.1.1) (by decide) ⟨Or.inr km_X4_172, kc_X5_add, kn_X5, kd_X5_add, ⟨by show 0 + 1 ≤ 6 * (n + 1) + 5; omega, by show 8 + (2 + 11) + 60 ≤ 60 * (6 * (n + 1) + 6); omega⟩, ⟨(Nat.le_of_ble_eq_true rfl), (Nat.le_of_ble_eq_true rfl)⟩, (Nat.le_of_ble_eq_true rfl)⟩ ki_X5_add ks_X5_add rfl (am_tab tk_X4_readFact 86 rfl) rfl ?_
          rintro r T4 ⟨rfl, hX4, hG4⟩
          have hF4 : frw W_ps σ T4 := hF3.trans hG4
          refine am_vret rfl (Nat.le_of_ble_eq_true rfl) (Nat.le_of_ble_eq_true rfl) (am_tab tk_X4_readFact 87 rfl) ?_
          refine hQ _ _ ?_
          have e9 : factB b E (some (F, T0)) S s = adS (opc (kdS b E (S s))) (S (npS (S s))) := by unfold factB; rw [if_neg h7, if_neg h50, if_neg h103, if_pos (show kdS b E (S s) = 60 ∨ kdS b E (S s) = 62 ∨ kdS b E (S s) = 61 by omega)]
          rw [e9]
          exact ⟨rfl, hX4, hF4⟩
        · refine am_iload_n (q := 140) rfl (am_tab tk_X4_readFact 68 rfl) rfl ?_
          refine am_bipush (q := 142) (n := 62) (by decide) rfl (am_tab tk_X4_readFact 69 rfl) rfl ?_
          refine am_icmp_eq (q := 145) (t := 151) (am_tab tk_X4_readFact 70 rfl) (by decide) rfl (fun h142 => ?_) (fun h142 => ?_)
          · refine am_iconst (q := 152) (n := 1) (by decide) (am_tab tk_X4_readFact 74 rfl) rfl ?_
            refine am_goto (t := 156) (am_tab tk_X4_readFact 75 rfl) (by decide) ?_
            refine am_iconst (q := 157) (n := 1) (by decide) (am_tab tk_X4_readFact 77 rfl) rfl ?_
            refine am_callVr (q := 160) (me2 := M_X4_pass) (b := 27) (kb := 4) (nb := 13) (As := [am_i 1, am_i 1]) (rest := []) (c_passT hX1 (by omega) 1) ⟨rfl, rfl⟩ (Ls_27 hX1.1.1) (by decide) ⟨Or.inl km_X4_71, kc_X4_pass, kn_X4, kd_X4_pass, ⟨by show 0 + 1 ≤ 6 * (n + 1) + 5; omega, by show 8 + (5 + 11) + 60 ≤ 60 * (6 * (n + 1) + 6); omega⟩, ⟨(Nat.le_of_ble_eq_true rfl), (Nat.le_of_ble_eq_true rfl)⟩, (Nat.le_of_ble_eq_true rfl)⟩ ki_X4_pass ks_X4_pass rfl (am_tab tk_X4_readFact 78 rfl) rfl ?_
            rintro r T5 ⟨rfl, hX5, hG5⟩
            have hF5 : frw W_ps σ T5 := hF1.trans hG5
            refine am_aload_n (q := 161) rfl (am_tab tk_X4_readFact 79 rfl) rfl ?_
            refine am_callVr (q := 164) (me2 := (M_X4_readSum (n + 1))) (b := 27) (kb := 4) (nb := 13) (As := []) (rest := []) (hS T5 (npS (S s)) hX5 (by rw [oS_np, hSO]; exact hn)) ⟨rfl, rfl⟩ (Ls_27 hX5.1.1) (by decide) ⟨Or.inl km_X4_78, kc_X4_readSum, kn_X4, kd_X4_readSum, ⟨by show 6 * (n + 1) + 4 + 1 ≤ 6 * (n + 1) + 5; omega, by show 8 + (5 + 11) + 60 * (6 * (n + 1) + 5) ≤ 60 * (6 * (n + 1) + 6); omega⟩, ⟨(Nat.le_of_ble_eq_true rfl), (Nat.le_of_ble_eq_true rfl)⟩, (Nat.le_of_ble_eq_true rfl)⟩ ki_X4_readSum ks_X4_readSum rfl (am_tab tk_X4_readFact 80 rfl) rfl ?_
            rintro r T6 ⟨rfl, hX6, hG6⟩
            have hF6 : frw W_ps σ T6 := hF5.trans hG6
            refine am_aload_n (q := 165) rfl (am_tab tk_X4_readFact 81 rfl) rfl ?_
            refine am_getR (q := 168) (a := 27) (k := 4) (n := 13) (j := 1) (r := some (28)) (Ls_27 hX6.1.1) (by decide) rfl (Lr_27_1 hX6.1.1) (by decide) (Or.inl kf_X4_14) (am_tab tk_X4_readFact 82 rfl) rfl ?_
            refine am_sipush (q := 171) (n := 20000) (by decide) rfl (am_tab tk_X4_readFact 83 rfl) rfl ?_
            refine am_iload_n (q := 172) rfl (am_tab tk_X4_readFact 84 rfl) rfl ?_
            refine am_iadd (q := 173) (by omega) (am_tab tk_X4_readFact 85 rfl) rfl ?_
            refine am_callVr (q := 176) (me2 := M_X5_add) (b := 28) (kb := 5) (nb := 2) (As := [am_i ((20000 + (kdS b E (S s))))]) (rest := []) (c_addX hX6 (20000 + (kdS b E (S s))) (opc (kdS b E (S s))) (fun _ => kap_opc (by omega))) ⟨rfl, rfl⟩ (Ls_28 hX6.1.1) (by decide) ⟨Or.inr km_X4_172, kc_X5_add, kn_X5, kd_X5_add, ⟨by show 0 + 1 ≤ 6 * (n + 1) + 5; omega, by show 8 + (2 + 11) + 60 ≤ 60 * (6 * (n + 1) + 6); omega⟩, ⟨(Nat.le_of_ble_eq_true rfl), (Nat.le_of_ble_eq_true rfl)⟩, (Nat.le_of_ble_eq_true rfl)⟩ ki_X5_add ks_X5_add rfl (am_tab tk_X4_readFact 86 rfl) rfl ?_
            rintro r T7 ⟨rfl, hX7, hG7⟩
            have hF7 : frw W_ps σ T7 := hF6.trans hG7
            refine am_vret rfl (Nat.le_of_ble_eq_true rfl) (Nat.le_of_ble_eq_true rfl) (am_tab tk_X4_readFact 87 rfl) ?_
            refine hQ _ _ ?_
            have e9 : factB b E (some (F, T0)) S s = adS (opc (kdS b E (S s))) (S (npS (S s))) := by unfold factB; rw [if_neg h7, if_neg h50, if_neg h103, if_pos (show kdS b E (S s) = 60 ∨ kdS b E (S s) = 62 ∨ kdS b E (S s) = 61 by omega)]
            rw [e9]
            exact ⟨rfl, hX7, hF7⟩
          · refine am_iload_n (q := 146) rfl (am_tab tk_X4_readFact 71 rfl) rfl ?_
            refine am_bipush (q := 148) (n := 61) (by decide) rfl (am_tab tk_X4_readFact 72 rfl) rfl ?_
            refine am_icmp_ne (q := 151) (t := 155) (am_tab tk_X4_readFact 73 rfl) (by decide) rfl (fun h148 => ?_) (fun h148 => ?_)
            · refine am_iconst (q := 156) (n := 0) (by decide) (am_tab tk_X4_readFact 76 rfl) rfl ?_
              refine am_iconst (q := 157) (n := 1) (by decide) (am_tab tk_X4_readFact 77 rfl) rfl ?_
              refine am_callVr (q := 160) (me2 := M_X4_pass) (b := 27) (kb := 4) (nb := 13) (As := [am_i 0, am_i 1]) (rest := []) (c_passF hX1 1 (by decide)) ⟨rfl, rfl⟩ (Ls_27 hX1.1.1) (by decide) ⟨Or.inl km_X4_71, kc_X4_pass, kn_X4, kd_X4_pass, ⟨by show 0 + 1 ≤ 6 * (n + 1) + 5; omega, by show 8 + (5 + 11) + 60 ≤ 60 * (6 * (n + 1) + 6); omega⟩, ⟨(Nat.le_of_ble_eq_true rfl), (Nat.le_of_ble_eq_true rfl)⟩, (Nat.le_of_ble_eq_true rfl)⟩ ki_X4_pass ks_X4_pass rfl (am_tab tk_X4_readFact 78 rfl) rfl ?_
              rintro r T8 ⟨rfl, hX8, hG8⟩
              have hF8 : frw W_ps σ T8 := hF1.trans hG8
              refine am_aload_n (q := 161) rfl (am_tab tk_X4_readFact 79 rfl) rfl ?_
              refine am_callVr (q := 164) (me2 := (M_X4_readSum (n + 1))) (b := 27) (kb := 4) (nb := 13) (As := []) (rest := []) (hS T8 (ftS b E 1 (S s)) hX8 (by rw [oS_ft, hSO]; exact hn)) ⟨rfl, rfl⟩ (Ls_27 hX8.1.1) (by decide) ⟨Or.inl km_X4_78, kc_X4_readSum, kn_X4, kd_X4_readSum, ⟨by show 6 * (n + 1) + 4 + 1 ≤ 6 * (n + 1) + 5; omega, by show 8 + (5 + 11) + 60 * (6 * (n + 1) + 5) ≤ 60 * (6 * (n + 1) + 6); omega⟩, ⟨(Nat.le_of_ble_eq_true rfl), (Nat.le_of_ble_eq_true rfl)⟩, (Nat.le_of_ble_eq_true rfl)⟩ ki_X4_readSum ks_X4_readSum rfl (am_tab tk_X4_readFact 80 rfl) rfl ?_
              rintro r T9 ⟨rfl, hX9, hG9⟩
              have hF9 : frw W_ps σ T9 := hF8.trans hG9
              refine am_aload_n (q := 165) rfl (am_tab tk_X4_readFact 81 rfl) rfl ?_
              refine am_getR (q := 168) (a := 27) (k := 4) (n := 13) (j := 1) (r := some (28)) (Ls_27 hX9.1.1) (by decide) rfl (Lr_27_1 hX9.1.1) (by decide) (Or.inl kf_X4_14) (am_tab tk_X4_readFact 82 rfl) rfl ?_
              refine am_sipush (q := 171) (n := 20000) (by decide) rfl (am_tab tk_X4_readFact 83 rfl) rfl ?_
              refine am_iload_n (q := 172) rfl (am_tab tk_X4_readFact 84 rfl) rfl ?_
              refine am_iadd (q := 173) (by omega) (am_tab tk_X4_readFact 85 rfl) rfl ?_
              refine am_callVr (q := 176) (me2 := M_X5_add) (b := 28) (kb := 5) (nb := 2) (As := [am_i ((20000 + (kdS b E (S s))))]) (rest := []) (c_addX hX9 (20000 + (kdS b E (S s))) (opc (kdS b E (S s))) (fun h => absurd ((sl_ft _ _ _ _).symm.trans (hSt.l h)) (by decide))) ⟨rfl, rfl⟩ (Ls_28 hX9.1.1) (by decide) ⟨Or.inr km_X4_172, kc_X5_add, kn_X5, kd_X5_add, ⟨by show 0 + 1 ≤ 6 * (n + 1) + 5; omega, by show 8 + (2 + 11) + 60 ≤ 60 * (6 * (n + 1) + 6); omega⟩, ⟨(Nat.le_of_ble_eq_true rfl), (Nat.le_of_ble_eq_true rfl)⟩, (Nat.le_of_ble_eq_true rfl)⟩ ki_X5_add ks_X5_add rfl (am_tab tk_X4_readFact 86 rfl) rfl ?_
              rintro r T10 ⟨rfl, hX10, hG10⟩
              have hF10 : frw W_ps σ T10 := hF9.trans hG10
              refine am_vret rfl (Nat.le_of_ble_eq_true rfl) (Nat.le_of_ble_eq_true rfl) (am_tab tk_X4_readFact 87 rfl) ?_
              refine hQ _ _ ?_
              have e9 : factB b E (some (F, T0)) S s = adS (opc (kdS b E (S s))) (S (ftS b E 1 (S s))) := by unfold factB; rw [if_neg h7, if_neg h50, if_neg h103, if_neg (by omega)]
              rw [e9]
              exact ⟨rfl, hX10, hF10⟩
            · refine am_iconst (q := 152) (n := 1) (by decide) (am_tab tk_X4_readFact 74 rfl) rfl ?_
              refine am_goto (t := 156) (am_tab tk_X4_readFact 75 rfl) (by decide) ?_
              refine am_iconst (q := 157) (n := 1) (by decide) (am_tab tk_X4_readFact 77 rfl) rfl ?_
              refine am_callVr (q := 160) (me2 := M_X4_pass) (b := 27) (kb := 4) (nb := 13) (As := [am_i 1, am_i 1]) (rest := []) (c_passT hX1 (by omega) 1) ⟨rfl, rfl⟩ (Ls_27 hX1.1.1) (by decide) ⟨Or.inl km_X4_71, kc_X4_pass, kn_X4, kd_X4_pass, ⟨by show 0 + 1 ≤ 6 * (n + 1) + 5; omega, by show 8 + (5 + 11) + 60 ≤ 60 * (6 * (n + 1) + 6); omega⟩, ⟨(Nat.le_of_ble_eq_true rfl), (Nat.le_of_ble_eq_true rfl)⟩, (Nat.le_of_ble_eq_true rfl)⟩ ki_X4_pass ks_X4_pass rfl (am_tab tk_X4_readFact 78 rfl) rfl ?_
              rintro r T11 ⟨rfl, hX11, hG11⟩
              have hF11 : frw W_ps σ T11 := hF1.trans hG11
              refine am_aload_n (q := 161) rfl (am_tab tk_X4_readFact 79 rfl) rfl ?_
              refine am_callVr (q := 164) (me2 := (M_X4_readSum (n + 1))) (b := 27) (kb := 4) (nb := 13) (As := []) (rest := []) (hS T11 (npS (S s)) hX11 (by rw [oS_np, hSO]; exact hn)) ⟨rfl, rfl⟩ (Ls_27 hX11.1.1) (by decide) ⟨Or.inl km_X4_78, kc_X4_readSum, kn_X4, kd_X4_readSum, ⟨by show 6 * (n + 1) + 4 + 1 ≤ 6 * (n + 1) + 5; omega, by show 8 + (5 + 11) + 60 * (6 * (n + 1) + 5) ≤ 60 * (6 * (n + 1) + 6); omega⟩, ⟨(Nat.le_of_ble_eq_true rfl), (Nat.le_of_ble_eq_true rfl)⟩, (Nat.le_of_ble_eq_true rfl)⟩ ki_X4_readSum ks_X4_readSum rfl (am_tab tk_X4_readFact 80 rfl) rfl ?_
              rintro r T12 ⟨rfl, hX12, hG12⟩
              have hF12 : frw W_ps σ T12 := hF11.trans hG12
              refine am_aload_n (q := 165) rfl (am_tab tk_X4_readFact 81 rfl) rfl ?_
              refine am_getR (q := 168) (a := 27) (k := 4) (n := 13) (j := 1) (r := some (28)) (Ls_27 hX12.1.1) (by decide) rfl (Lr_27_1 hX12.1.1) (by decide) (Or.inl kf_X4_14) (am_tab tk_X4_readFact 82 rfl) rfl ?_
              refine am_sipush (q := 171) (n := 20000) (by decide) rfl (am_tab tk_X4_readFact 83 rfl) rfl ?_
              refine am_iload_n (q := 172) rfl (am_tab tk_X4_readFact 84 rfl) rfl ?_
              refine am_iadd (q := 173) (by omega) (am_tab tk_X4_readFact 85 rfl) rfl ?_
              refine am_callVr (q := 176) (me2 := M_X5_add) (b := 28) (kb := 5) (nb := 2) (As := [am_i ((20000 + (kdS b E (S s))))]) (rest := []) (c_addX hX12 (20000 + (kdS b E (S s))) (opc (kdS b E (S s))) (fun _ => kap_opc (by omega))) ⟨rfl, rfl⟩ (Ls_28 hX12.1.1) (by decide) ⟨Or.inr km_X4_172, kc_X5_add, kn_X5, kd_X5_add, ⟨by show 0 + 1 ≤ 6 * (n + 1) + 5; omega, by show 8 + (2 + 11) + 60 ≤ 60 * (6 * (n + 1) + 6); omega⟩, ⟨(Nat.le_of_ble_eq_true rfl), (Nat.le_of_ble_eq_true rfl)⟩, (Nat.le_of_ble_eq_true rfl)⟩ ki_X5_add ks_X5_add rfl (am_tab tk_X4_readFact 86 rfl) rfl ?_
              rintro r T13 ⟨rfl, hX13, hG13⟩
              have hF13 : frw W_ps σ T13 := hF12.trans hG13
              refine am_vret rfl (Nat.le_of_ble_eq_true rfl) (Nat.le_of_ble_eq_true rfl) (am_tab tk_X4_readFact 87 rfl) ?_
              refine hQ _ _ ?_
              have e9 : factB b E (some (F, T0)) S s = adS (opc (kdS b E (S s))) (S (npS (S s))) := by unfold factB; rw [if_neg h7, if_neg h50, if_neg h103, if_pos (show kdS b E (S s) = 60 ∨ kdS b E (S s) = 62 ∨ kdS b E (S s) = 61 by omega)]
              rw [e9]
              exact ⟨rfl, hX13, hF13⟩
      · refine am_aload_n (q := 107) rfl (am_tab tk_X4_readFact 50 rfl) rfl ?_
        refine am_iconst (q := 108) (n := 1) (by decide) (am_tab tk_X4_readFact 51 rfl) rfl ?_
        refine am_iconst (q := 109) (n := 0) (by decide) (am_tab tk_X4_readFact 52 rfl) rfl ?_
        refine am_callVr (q := 112) (me2 := M_X4_pass) (b := 27) (kb := 4) (nb := 13) (As := [am_i 1, am_i 0]) (rest := []) (c_passT hX (by omega) 0) ⟨rfl, rfl⟩ (Ls_27 hX.1.1) (by decide) ⟨Or.inl km_X4_71, kc_X4_pass, kn_X4, kd_X4_pass, ⟨by show 0 + 1 ≤ 6 * (n + 1) + 5; omega, by show 8 + (5 + 11) + 60 ≤ 60 * (6 * (n + 1) + 6); omega⟩, ⟨(Nat.le_of_ble_eq_true rfl), (Nat.le_of_ble_eq_true rfl)⟩, (Nat.le_of_ble_eq_true rfl)⟩ ki_X4_pass ks_X4_pass rfl (am_tab tk_X4_readFact 53 rfl) rfl ?_
        rintro r T14 ⟨rfl, hX14, hG14⟩
        have hF14 : frw W_ps σ T14 := (frw.refl W_ps σ).trans hG14
        refine am_aload_n (q := 113) rfl (am_tab tk_X4_readFact 54 rfl) rfl ?_
        refine am_getR (q := 116) (a := 27) (k := 4) (n := 13) (j := 1) (r := some (28)) (Ls_27 hX14.1.1) (by decide) rfl (Lr_27_1 hX14.1.1) (by decide) (Or.inl kf_X4_14) (am_tab tk_X4_readFact 55 rfl) rfl ?_
        refine am_iconst (q := 117) (n := 1) (by decide) (am_tab tk_X4_readFact 56 rfl) rfl ?_
        refine am_callVr (q := 120) (me2 := M_X5_add) (b := 28) (kb := 5) (nb := 2) (As := [am_i 1]) (rest := []) (c_addX hX14 1 13 (fun _ => by decide)) ⟨rfl, rfl⟩ (Ls_28 hX14.1.1) (by decide) ⟨Or.inr km_X4_172, kc_X5_add, kn_X5, kd_X5_add, ⟨by show 0 + 1 ≤ 6 * (n + 1) + 5; omega, by show 8 + (2 + 11) + 60 ≤ 60 * (6 * (n + 1) + 6); omega⟩, ⟨(Nat.le_of_ble_eq_true rfl), (Nat.le_of_ble_eq_true rfl)⟩, (Nat.le_of_ble_eq_true rfl)⟩ ki_X5_add ks_X5_add rfl (am_tab tk_X4_readFact 57 rfl) rfl ?_
        rintro r T15 ⟨rfl, hX15, hG15⟩
        have hF15 : frw W_ps σ T15 := hF14.trans hG15
        refine am_goto (t := 176) (am_tab tk_X4_readFact 58 rfl) (by decide) ?_
        refine am_vret rfl (Nat.le_of_ble_eq_true rfl) (Nat.le_of_ble_eq_true rfl) (am_tab tk_X4_readFact 87 rfl) ?_
        refine hQ _ _ ?_
        have e9 : factB b E (some (F, T0)) S s = adS 13 (npS s) := by unfold factB; rw [if_neg h7, if_neg h50, if_pos h103]
        rw [e9]
        exact ⟨rfl, hX15, hF15⟩
    · refine am_aload_n (q := 54) rfl (am_tab tk_X4_readFact 24 rfl) rfl ?_
      refine am_callVr (q := 57) (me2 := M_X4_open) (b := 27) (kb := 4) (nb := 13) (As := []) (rest := []) (c_open1 hX (by omega) (by omega)) ⟨rfl, rfl⟩ (Ls_27 hX.1.1) (by decide) ⟨Or.inl km_X4_175, kc_X4_open, kn_X4, kd_X4_open, ⟨by show 1 + 1 ≤ 6 * (n + 1) + 5; omega, by show 8 + (1 + 11) + 120 ≤ 60 * (6 * (n + 1) + 6); omega⟩, ⟨(Nat.le_of_ble_eq_true rfl), (Nat.le_of_ble_eq_true rfl)⟩, (Nat.le_of_ble_eq_true rfl)⟩ ki_X4_open ks_X4_open rfl (am_tab tk_X4_readFact 25 rfl) rfl ?_
      rintro r T16 ⟨rfl, hX16, hG16⟩
      have hF16 : frw W_ps σ T16 := (frw.refl W_ps σ).trans hG16
      refine am_if_eq (q := 60) (t := 176) (am_tab tk_X4_readFact 26 rfl) (by decide) rfl (fun h57 => ?_) (fun h57 => ?_)
      · exact absurd h57 (by decide)
      · refine am_aload_n (q := 61) rfl (am_tab tk_X4_readFact 27 rfl) rfl ?_
        refine am_callVr (q := 64) (me2 := (M_X4_readTest n)) (b := 27) (kb := 4) (nb := 13) (As := []) (rest := []) (hT T16 (ocS 1 (npS s)) hX16 (by rw [oS_oc, oS_np]; omega)) ⟨rfl, rfl⟩ (Ls_27 hX16.1.1) (by decide) ⟨Or.inl km_X4_75, kc_X4_readTest, kn_X4, kd_X4_readTest, ⟨by show 6 * n + 6 + 1 ≤ 6 * (n + 1) + 5; omega, by show 8 + (4 + 11) + 60 * (6 * n + 7) ≤ 60 * (6 * (n + 1) + 6); omega⟩, ⟨(Nat.le_of_ble_eq_true rfl), (Nat.le_of_ble_eq_true rfl)⟩, (Nat.le_of_ble_eq_true rfl)⟩ ki_X4_readTest ks_X4_readTest rfl (am_tab tk_X4_readFact 28 rfl) rfl ?_
        rintro r T17 ⟨rfl, hX17, hG17⟩
        have hF17 : frw W_ps σ T17 := hF16.trans hG17
        refine am_aload_n (q := 65) rfl (am_tab tk_X4_readFact 29 rfl) rfl ?_
        refine am_aload_n (q := 66) rfl (am_tab tk_X4_readFact 30 rfl) rfl ?_
        refine am_getI (q := 69) (a := 27) (k := 4) (n := 13) (j := 4) (x := (kdS b E (T0 (ocS 1 (npS s))))) (Ls_27 hX17.1.1) (by decide) rfl hX17.kd (by decide) (Or.inl kf_X4_45) (am_tab tk_X4_readFact 31 rfl) rfl ?_
        refine am_bipush (q := 71) (n := 93) (by decide) rfl (am_tab tk_X4_readFact 32 rfl) rfl ?_
        refine am_icmp_ne (q := 74) (t := 78) (am_tab tk_X4_readFact 33 rfl) (by decide) rfl (fun h71 => ?_) (fun h71 => ?_)
        · refine am_iconst (q := 79) (n := 0) (by decide) (am_tab tk_X4_readFact 36 rfl) rfl ?_
          refine am_iconst (q := 80) (n := 1) (by decide) (am_tab tk_X4_readFact 37 rfl) rfl ?_
          refine am_callVr (q := 83) (me2 := M_X4_pass) (b := 27) (kb := 4) (nb := 13) (As := [am_i 0, am_i 1]) (rest := []) (c_passF hX17 1 (by decide)) ⟨rfl, rfl⟩ (Ls_27 hX17.1.1) (by decide) ⟨Or.inl km_X4_71, kc_X4_pass, kn_X4, kd_X4_pass, ⟨by show 0 + 1 ≤ 6 * (n + 1) + 5; omega, by show 8 + (5 + 11) + 60 ≤ 60 * (6 * (n + 1) + 6); omega⟩, ⟨(Nat.le_of_ble_eq_true rfl), (Nat.le_of_ble_eq_true rfl)⟩, (Nat.le_of_ble_eq_true rfl)⟩ ki_X4_pass ks_X4_pass rfl (am_tab tk_X4_readFact 38 rfl) rfl ?_
          rintro r T18 ⟨rfl, hX18, hG18⟩
          have hF18 : frw W_ps σ T18 := hF17.trans hG18
          have ho9 := hX18.op
          refine am_aload_n (q := 84) rfl (am_tab tk_X4_readFact 39 rfl) rfl ?_
          refine am_dup (q := 85) rfl (am_tab tk_X4_readFact 40 rfl) rfl ?_
          refine am_getI (q := 88) (a := 27) (k := 4) (n := 13) (j := 7) (x := (T18.2.1 27 7)) (Ls_27 hX18.1.1) (by decide) rfl rfl (by decide) (Or.inl kf_X4_84) (am_tab tk_X4_readFact 41 rfl) rfl ?_
          refine am_iconst (q := 89) (n := 1) (by decide) (am_tab tk_X4_readFact 42 rfl) rfl ?_
          refine am_isub (q := 90) (by omega) (am_tab tk_X4_readFact 43 rfl) rfl ?_
          refine am_putI (q := 93) (k := 4) (n := 13) (j := 7) (Ls_27 hX18.1.1) (by decide) rfl (by decide) (Or.inl ⟨kf_X4_84, rfl⟩) (am_tab tk_X4_readFact 44 rfl) rfl ?_
          refine am_goto (t := 176) (am_tab tk_X4_readFact 45 rfl) (by decide) ?_
          refine am_vret rfl (Nat.le_of_ble_eq_true rfl) (Nat.le_of_ble_eq_true rfl) (am_tab tk_X4_readFact 87 rfl) ?_
          refine hQ _ _ ?_
          have e9 : factB b E (some (F, T0)) S s = ocS (-1) (ftS b E 1 (T0 (ocS 1 (npS s)))) := by unfold factB; rw [if_neg h7, if_pos h50]; show ocS (-1) (psK b E 93 (T0 (ocS 1 (npS s)))) = _; unfold psK; rw [if_neg h71]
          rw [e9]
          exact ⟨rfl, hX18.cl (by rw [oS_ft, hTO, oS_oc, oS_np]; have := hX.op; omega), hF18.setN (by unfold W_ps; omega)⟩
        · refine am_iconst (q := 75) (n := 1) (by decide) (am_tab tk_X4_readFact 34 rfl) rfl ?_
          refine am_goto (t := 79) (am_tab tk_X4_readFact 35 rfl) (by decide) ?_
          refine am_iconst (q := 80) (n := 1) (by decide) (am_tab tk_X4_readFact 37 rfl) rfl ?_
          refine am_callVr (q := 83) (me2 := M_X4_pass) (b := 27) (kb := 4) (nb := 13) (As := [am_i 1, am_i 1]) (rest := []) (c_passT hX17 (by omega) 1) ⟨rfl, rfl⟩ (Ls_27 hX17.1.1) (by decide) ⟨Or.inl km_X4_71, kc_X4_pass, kn_X4, kd_X4_pass, ⟨by show 0 + 1 ≤ 6 * (n + 1) + 5; omega, by show 8 + (5 + 11) + 60 ≤ 60 * (6 * (n + 1) + 6); omega⟩, ⟨(Nat.le_of_ble_eq_true rfl), (Nat.le_of_ble_eq_true rfl)⟩, (Nat.le_of_ble_eq_true rfl)⟩ ki_X4_pass ks_X4_pass rfl (am_tab tk_X4_readFact 38 rfl) rfl ?_
          rintro r T19 ⟨rfl, hX19, hG19⟩
          have hF19 : frw W_ps σ T19 := hF17.trans hG19
          have ho9 := hX19.op
          refine am_aload_n (q := 84) rfl (am_tab tk_X4_readFact 39 rfl) rfl ?_
          refine am_dup (q := 85) rfl (am_tab tk_X4_readFact 40 rfl) rfl ?_
          refine am_getI (q := 88) (a := 27) (k := 4) (n := 13) (j := 7) (x := (T19.2.1 27 7)) (Ls_27 hX19.1.1) (by decide) rfl rfl (by decide) (Or.inl kf_X4_84) (am_tab tk_X4_readFact 41 rfl) rfl ?_
          refine am_iconst (q := 89) (n := 1) (by decide) (am_tab tk_X4_readFact 42 rfl) rfl ?_
          refine am_isub (q := 90) (by omega) (am_tab tk_X4_readFact 43 rfl) rfl ?_
          refine am_putI (q := 93) (k := 4) (n := 13) (j := 7) (Ls_27 hX19.1.1) (by decide) rfl (by decide) (Or.inl ⟨kf_X4_84, rfl⟩) (am_tab tk_X4_readFact 44 rfl) rfl ?_
          refine am_goto (t := 176) (am_tab tk_X4_readFact 45 rfl) (by decide) ?_
          refine am_vret rfl (Nat.le_of_ble_eq_true rfl) (Nat.le_of_ble_eq_true rfl) (am_tab tk_X4_readFact 87 rfl) ?_
          refine hQ _ _ ?_
          have e9 : factB b E (some (F, T0)) S s = ocS (-1) (npS (T0 (ocS 1 (npS s)))) := by unfold factB; rw [if_neg h7, if_pos h50]; show ocS (-1) (psK b E 93 (T0 (ocS 1 (npS s)))) = _; unfold psK; rw [if_pos h71]
          rw [e9]
          exact ⟨rfl, hX19.cl (by rw [oS_np, hTO, oS_oc, oS_np]; have := hX.op; omega), hF19.setN (by unfold W_ps; omega)⟩
  · refine am_aload_n (q := 11) rfl (am_tab tk_X4_readFact 4 rfl) rfl ?_
    refine am_callVr (q := 14) (me2 := M_X4_open) (b := 27) (kb := 4) (nb := 13) (As := []) (rest := []) (c_open1 hX (by omega) (by omega)) ⟨rfl, rfl⟩ (Ls_27 hX.1.1) (by decide) ⟨Or.inl km_X4_175, kc_X4_open, kn_X4, kd_X4_open, ⟨by show 1 + 1 ≤ 6 * (n + 1) + 5; omega, by show 8 + (1 + 11) + 120 ≤ 60 * (6 * (n + 1) + 6); omega⟩, ⟨(Nat.le_of_ble_eq_true rfl), (Nat.le_of_ble_eq_true rfl)⟩, (Nat.le_of_ble_eq_true rfl)⟩ ki_X4_open ks_X4_open rfl (am_tab tk_X4_readFact 5 rfl) rfl ?_
    rintro r T20 ⟨rfl, hX20, hG20⟩
    have hF20 : frw W_ps σ T20 := (frw.refl W_ps σ).trans hG20
    refine am_if_eq (q := 17) (t := 176) (am_tab tk_X4_readFact 6 rfl) (by decide) rfl (fun h14 => ?_) (fun h14 => ?_)
    · exact absurd h14 (by decide)
    · refine am_aload_n (q := 18) rfl (am_tab tk_X4_readFact 7 rfl) rfl ?_
      refine am_callVr (q := 21) (me2 := (M_X4_readFact n)) (b := 27) (kb := 4) (nb := 13) (As := []) (rest := []) (hF T20 (ocS 1 (npS s)) hX20 (by rw [oS_oc, oS_np]; omega)) ⟨rfl, rfl⟩ (Ls_27 hX20.1.1) (by decide) ⟨Or.inl km_X4_169, kc_X4_readFact, kn_X4, kd_X4_readFact, ⟨by show 6 * n + 5 + 1 ≤ 6 * (n + 1) + 5; omega, by show 8 + (2 + 11) + 60 * (6 * n + 6) ≤ 60 * (6 * (n + 1) + 6); omega⟩, ⟨(Nat.le_of_ble_eq_true rfl), (Nat.le_of_ble_eq_true rfl)⟩, (Nat.le_of_ble_eq_true rfl)⟩ ki_X4_readFact ks_X4_readFact rfl (am_tab tk_X4_readFact 8 rfl) rfl ?_
      rintro r T21 ⟨rfl, hX21, hG21⟩
      have hF21 : frw W_ps σ T21 := hF20.trans hG21
      refine am_aload_n (q := 22) rfl (am_tab tk_X4_readFact 9 rfl) rfl ?_
      refine am_getR (q := 25) (a := 27) (k := 4) (n := 13) (j := 1) (r := some (28)) (Ls_27 hX21.1.1) (by decide) rfl (Lr_27_1 hX21.1.1) (by decide) (Or.inl kf_X4_14) (am_tab tk_X4_readFact 10 rfl) rfl ?_
      refine am_sipush (q := 28) (n := 20151) (by decide) rfl (am_tab tk_X4_readFact 11 rfl) rfl ?_
      refine am_callVr (q := 31) (me2 := M_X5_add) (b := 28) (kb := 5) (nb := 2) (As := [am_i 20151]) (rest := []) (c_addX hX21 20151 12 (fun _ => by decide)) ⟨rfl, rfl⟩ (Ls_28 hX21.1.1) (by decide) ⟨Or.inr km_X4_172, kc_X5_add, kn_X5, kd_X5_add, ⟨by show 0 + 1 ≤ 6 * (n + 1) + 5; omega, by show 8 + (2 + 11) + 60 ≤ 60 * (6 * (n + 1) + 6); omega⟩, ⟨(Nat.le_of_ble_eq_true rfl), (Nat.le_of_ble_eq_true rfl)⟩, (Nat.le_of_ble_eq_true rfl)⟩ ki_X5_add ks_X5_add rfl (am_tab tk_X4_readFact 12 rfl) rfl ?_
      rintro r T22 ⟨rfl, hX22, hG22⟩
      have hF22 : frw W_ps σ T22 := hF21.trans hG22
      have ho9 := hX22.op
      refine am_aload_n (q := 32) rfl (am_tab tk_X4_readFact 13 rfl) rfl ?_
      refine am_dup (q := 33) rfl (am_tab tk_X4_readFact 14 rfl) rfl ?_
      refine am_getI (q := 36) (a := 27) (k := 4) (n := 13) (j := 7) (x := (T22.2.1 27 7)) (Ls_27 hX22.1.1) (by decide) rfl rfl (by decide) (Or.inl kf_X4_84) (am_tab tk_X4_readFact 15 rfl) rfl ?_
      refine am_iconst (q := 37) (n := 1) (by decide) (am_tab tk_X4_readFact 16 rfl) rfl ?_
      refine am_isub (q := 38) (by omega) (am_tab tk_X4_readFact 17 rfl) rfl ?_
      refine am_putI (q := 41) (k := 4) (n := 13) (j := 7) (Ls_27 hX22.1.1) (by decide) rfl (by decide) (Or.inl ⟨kf_X4_84, rfl⟩) (am_tab tk_X4_readFact 18 rfl) rfl ?_
      refine am_goto (t := 176) (am_tab tk_X4_readFact 19 rfl) (by decide) ?_
      refine am_vret rfl (Nat.le_of_ble_eq_true rfl) (Nat.le_of_ble_eq_true rfl) (am_tab tk_X4_readFact 87 rfl) ?_
      refine hQ _ _ ?_
      have e9 : factB b E (some (F, T0)) S s = ocS (-1) (adS 12 (F (ocS 1 (npS s)))) := by unfold factB; rw [if_pos h7]
      rw [e9]
      exact ⟨rfl, hX22.cl (by rw [oS_ad, hFO, oS_oc, oS_np]; have := hX.op; omega), hF22.setN (by unfold W_ps; omega)⟩
theorem RC_fact (b : Nat → Int) (E : Nat) (cv : Nat → Int) (M : Nat) (tk : Int) : ∀ n, RC b E cv M tk n (M_X4_readFact n) [] (factX b E tk n)
  | 0 => c_fact0 b E cv M tk _ (RC_sum b E cv M tk 0) (oS_sumB (oS_partX b E tk 0)) (st_sumB (st_partX b E tk 0))
  | n + 1 => c_factS b E cv M tk n _ (RC_sum b E cv M tk (n + 1)) (oS_sumB (oS_partX b E tk (n + 1))) (st_sumB (st_partX b E tk (n + 1))) (factX b E tk n) _ (RC_fact b E cv M tk n) (oS_factX b E tk n) (c_readTest b E cv M tk n _ (RC_fact b E cv M tk n) (oS_factX b E tk n)) (oS_testB (oS_factX b E tk n))
theorem RC_test (b : Nat → Int) (E : Nat) (cv : Nat → Int) (M : Nat) (tk : Int) (n : Nat) : RC b E cv M tk n (M_X4_readTest n) [] (testB b E (factX b E tk n)) := c_readTest b E cv M tk n _ (RC_fact b E cv M tk n) (oS_factX b E tk n)
