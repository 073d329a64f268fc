/-- the code of a sign -/
def opc (k : Int) : Int := if k = 43 then 1 else if k = 45 then 2 else if k = 42 then 3 else if k = 47 then 4 else if k = 60 then 7 else if k = 62 then 8 else 9
theorem kap_opc {k : Int} (h : k = 43 ∨ k = 45 ∨ k = 42 ∨ k = 47 ∨ k = 60 ∨ k = 62 ∨ k = 61) : 20000 + k = kap (opc k) := by
  rcases h with rfl | rfl | rfl | rfl | rfl | rfl | rfl <;> decide
theorem kap_wof {tk k : Int} (h : ¬ wof tk k 0 11 = -1) : 10000 + k - 128 = kap (40 + wof tk k 0 11) := by
  unfold wof at h ⊢
  by_cases hc : 0 ≤ pwI k ∧ pwI k < 11 ∧ alw tk (pwI k) = true
  · rw [if_pos hc]
    have h1 := hc.1
    have h2 := hc.2.1
    clear h hc
    by_cases e0 : k = 141
    · subst e0; decide
    by_cases e1 : k = 132
    · subst e1; decide
    by_cases e2 : k = 143
    · subst e2; decide
    by_cases e3 : k = 130
    · subst e3; decide
    by_cases e4 : k = 144
    · subst e4; decide
    by_cases e5 : k = 142
    · subst e5; decide
    by_cases e6 : k = 135
    · subst e6; decide
    by_cases e7 : k = 145
    · subst e7; decide
    by_cases e8 : k = 146
    · subst e8; decide
    by_cases e9 : k = 147
    · subst e9; decide
    by_cases e10 : k = 137
    · subst e10; decide
    by_cases e11 : k = 148
    · subst e11; exact absurd h2 (by decide)
    · exfalso
      unfold pwI at h1
      rw [if_neg e0, if_neg e1, if_neg e2, if_neg e3, if_neg e4, if_neg e5, if_neg e6, if_neg e7, if_neg e8, if_neg e9, if_neg e10, if_neg e11] at h1
      omega
  · rw [if_neg hc] at h
    exact absurd rfl h
def psK (b : Nat → Int) (E : Nat) (c : Int) (s : SX) : SX := if kdS b E s = c then npS s else ftS b E 1 s
/-- a sum behind its first part; w waits -/
def smL (b : Nat → Int) (E : Nat) (F : SX → SX) : Nat → Int → SX → SX
  | 0, w, s => if w = 0 then s else adS (opc w) s
  | f + 1, w, s => if kdS b E s = 42 ∨ kdS b E s = 47 then smL b E F f w (adS (opc (kdS b E s)) (F (npS s)))
    else if kdS b E s = 43 ∨ kdS b E s = 45 then smL b E F f (kdS b E s) (F (if w = 0 then npS s else adS (opc w) (npS s)))
    else if w = 0 then s else adS (opc w) s
def sumB (b : Nat → Int) (E : Nat) (F : SX → SX) (s : SX) : SX := smL b E F 1600 0 (F s)
def insB (b : Nat → Int) (E : Nat) (Q : Option (SX → SX)) (two : Bool) (s : SX) : SX :=
  if kdS b E s = 40 then (match Q with
    | none => ftS b E 4 s
    | some F => ocS (-1) (psK b E 41 (if two = true then sumB b E F (psK b E 44 (sumB b E F (ocS 1 (npS s)))) else sumB b E F (ocS 1 (npS s)))))
  else ftS b E 1 s
def partB (b : Nat → Int) (E : Nat) (tk : Int) (Q : Option (SX → SX)) (s : SX) : SX :=
  if kdS b E s = 40 then insB b E Q false s
  else if kdS b E s = 153 ∨ kdS b E s = 154 then adS (if kdS b E s = 153 then 5 else 6) (insB b E Q true (npS s))
  else if kdS b E s = 148 ∧ tk = 2 then (match Q with
    | none => ftS b E 4 s
    | some F => ocS (-1) (adS 60 (F (ocS 1 (npS s)))))
  else if ¬ wof tk (kdS b E s) 0 11 = -1 then adS (40 + wof tk (kdS b E s) 0 11) (npS s)
  else adS (1000 + vS b E s) (nuS b E 0 9999 s)
/-- a part, n more may be opened -/
def partX (b : Nat → Int) (E : Nat) (tk : Int) : Nat → SX → SX
  | 0 => partB b E tk none
  | n + 1 => partB b E tk (some (partX b E tk n))
theorem oS_np (s : SX) : oS (npS s) = oS s := by cases s <;> rfl
theorem oS_ft (b : Nat → Int) (E : Nat) (k : Int) (s : SX) : oS (ftS b E k s) = oS s := by cases s <;> rfl
theorem oS_ad (m : Int) (s : SX) : oS (adS m s) = oS s := by cases s <;> rfl
theorem oS_oc (d : Int) (s : SX) : oS (ocS d s) = oS s + d := by cases s <;> rfl
theorem oS_nu (b : Nat → Int) (E : Nat) (lo hi : Int) (s : SX) : oS (nuS b E lo hi s) = oS s := by
  cases s with
  | inl q => show oS (if _ then _ else _) = _; split <;> rfl
  | inr q => rfl
theorem oS_psK (b : Nat → Int) (E : Nat) (c : Int) (s : SX) : oS (psK b E c s) = oS s := by
  unfold psK; split
  · exact oS_np s
  · exact oS_ft b E 1 s
theorem oS_smL {b : Nat → Int} {E : Nat} {F : SX → SX} (hF : ∀ t, oS (F t) = oS t) : ∀ f w s, oS (smL b E F f w s) = oS s
  | 0, w, s => by unfold smL; split; rfl; exact oS_ad _ _
  | f + 1, w, s => by
    unfold smL
    split
    · rw [oS_smL hF f, oS_ad, hF, oS_np]
    · split
      · rw [oS_smL hF f, hF]
        split
        · exact oS_np s
        · rw [oS_ad, oS_np]
      · split
        · rfl
        · exact oS_ad _ _
theorem oS_sumB {b : Nat → Int} {E : Nat} {F : SX → SX} (hF : ∀ t, oS (F t) = oS t) (s : SX) : oS (sumB b E F s) = oS s := (oS_smL hF _ _ _).trans (hF s)
theorem oS_ins0 (b : Nat → Int) (E : Nat) (two : Bool) (s : SX) : oS (insB b E none two s) = oS s := by
  unfold insB
  split <;> exact oS_ft _ _ _ _
theorem oS_insS {b : Nat → Int} {E : Nat} {F : SX → SX} (hF : ∀ t, oS (F t) = oS t) (two : Bool) (s : SX) : oS (insB b E (some F) two s) = oS s := by
  unfold insB
  split
  · show oS (ocS (-1) (psK b E 41 _)) = oS s
    rw [oS_oc, oS_psK]
    split
    · rw [oS_sumB hF, oS_psK, oS_sumB hF, oS_oc, oS_np]; omega
    · rw [oS_sumB hF, oS_oc, oS_np]; omega
  · exact oS_ft _ _ _ _
theorem oS_part0 (b : Nat → Int) (E : Nat) (tk : Int) (s : SX) : oS (partB b E tk none s) = oS s := by
  unfold partB
  split
  · exact oS_ins0 _ _ _ _
  · split
    · rw [oS_ad, oS_ins0, oS_np]
    · split
      · exact oS_ft _ _ _ _
      · split
        · rw [oS_ad, oS_np]
        · rw [oS_ad, oS_nu]
theorem oS_partS {b : Nat → Int} {E : Nat} {tk : Int} {F : SX → SX} (hF : ∀ t, oS (F t) = oS t) (s : SX) : oS (partB b E tk (some F) s) = oS s := by
  unfold partB
  split
  · exact oS_insS hF _ _
  · split
    · rw [oS_ad, oS_insS hF, oS_np]
    · split
      · show oS (ocS (-1) (adS 60 (F (ocS 1 (npS s))))) = oS s
        rw [oS_oc, oS_ad, hF, oS_oc, oS_np]; omega
      · split
        · rw [oS_ad, oS_np]
        · rw [oS_ad, oS_nu]
theorem oS_partX (b : Nat → Int) (E : Nat) (tk : Int) : ∀ n s, oS (partX b E tk n s) = oS s
  | 0, s => oS_part0 b E tk s
  | n + 1, s => oS_partS (oS_partX b E tk n) s
theorem smL_m {b : Nat → Int} {E : Nat} {F : SX → SX} {k : Nat} {w : Int} {s : SX} (hk : k < 1600) (h : kdS b E s = 42 ∨ kdS b E s = 47) : smL b E F (1600 - k) w s = smL b E F (1600 - (k + 1)) w (adS (opc (kdS b E s)) (F (npS s))) := by
  rw [show 1600 - k = (1600 - (k + 1)) + 1 by omega]
  conv => lhs; unfold smL
  rw [if_pos h]
theorem smL_a {b : Nat → Int} {E : Nat} {F : SX → SX} {k : Nat} {w : Int} {s : SX} (hk : k < 1600) (h1 : ¬ (kdS b E s = 42 ∨ kdS b E s = 47)) (h : kdS b E s = 43 ∨ kdS b E s = 45) : smL b E F (1600 - k) w s = smL b E F (1600 - (k + 1)) (kdS b E s) (F (if w = 0 then npS s else adS (opc w) (npS s))) := by
  rw [show 1600 - k = (1600 - (k + 1)) + 1 by omega]
  conv => lhs; unfold smL
  rw [if_neg h1, if_pos h]
theorem smL_e {b : Nat → Int} {E : Nat} {F : SX → SX} {f : Nat} {w : Int} {s : SX} (h : f = 0 ∨ ¬ (kdS b E s = 43 ∨ kdS b E s = 45 ∨ kdS b E s = 42 ∨ kdS b E s = 47)) : smL b E F f w s = if w = 0 then s else adS (opc w) s := by
  cases f with
  | zero => rfl
  | succ f =>
    have h2 : ¬ (kdS b E s = 43 ∨ kdS b E s = 45 ∨ kdS b E s = 42 ∨ kdS b E s = 47) := by
      rcases h with h | h
      · exact absurd h (by omega)
      · exact h
    conv => lhs; unfold smL
    rw [if_neg (by omega), if_neg (by omega)]
theorem RX.sp {b : Nat → Int} {E : Nat} {cv : Nat → Int} {M : Nat} {tk : Int} {σ : am_H} {s : SX} (h : RX b E cv M tk σ s) (k : Int) : flS k (σ.2.1 27 5) s = ftS b E k s := by
  cases s with
  | inl q =>
    show Sum.inr ((k, σ.2.1 27 5), q.2.2) = Sum.inr ((k, (zP b E q.1 : Int)), q.2.2)
    rw [h.2.1.2.2.1]
  | inr q => rfl
/-- a method of the reader does what F says -/
def RC (b : Nat → Int) (E : Nat) (cv : Nat → Int) (M : Nat) (tk : Int) (n : Nat) (me : am_M) (As : List am_V) (F : SX → SX) : Prop := ∀ (σ : am_H) (s : SX), RX b E cv M tk σ s → oS s + (n : Int) = 6 → am_met me (am_r 27 :: As) σ (fun r σ' => r = none ∧ RX b E cv M tk σ' (F s) ∧ frw W_ps σ σ')
theorem c_readSum (b : Nat → Int) (E : Nat) (cv : Nat → Int) (M : Nat) (tk : Int) (n : Nat) (P : SX → SX) (hP : RC b E cv M tk n (M_X4_readPart n) [] P) (hO : ∀ t, oS (P t) = oS t) (σ : am_H) (s : SX) (hX : RX b E cv M tk σ s) (hn : oS s + ((n : Nat) : Int) = 6)   : am_met (M_X4_readSum n) [am_r 27] σ (fun r σ' => r = none ∧ RX b E cv M tk σ' (sumB b E P s) ∧ frw W_ps σ σ') := by
  refine am_qq (fun Q hQ => ?_)
  refine am_enter (show plainFor yX4_readSum = true by decide +kernel) rfl (Nat.le_of_ble_eq_true rfl) (fun _ _ _ => trivial) ?_
  have hn9 := hn
  refine am_aload_n (q := 1) rfl (am_tab tk_X4_readSum 0 rfl) rfl ?_
  refine am_callVr (q := 4) (me2 := (M_X4_readPart n)) (b := 27) (kb := 4) (nb := 13) (As := []) (rest := []) (hP σ s hX hn) ⟨rfl, rfl⟩ (Ls_27 hX.1.1) (by decide) ⟨Or.inl km_X4_179, kc_X4_readPart, kn_X4, kd_X4_readPart, ⟨by show 6 * n + 3 + 1 ≤ 6 * n + 4; omega, by show 8 + (2 + 11) + 60 * (6 * n + 4) ≤ 60 * (6 * n + 5); omega⟩, ⟨(Nat.le_of_ble_eq_true rfl), (Nat.le_of_ble_eq_true rfl)⟩, (Nat.le_of_ble_eq_true rfl)⟩ ki_X4_readPart ks_X4_readPart rfl (am_tab tk_X4_readSum 1 rfl) rfl ?_
  rintro r T1 ⟨rfl, hX1, hG1⟩
  have hF1 : frw W_ps σ T1 := (frw.refl W_ps σ).trans hG1
  refine am_iconst (q := 5) (n := 0) (by decide) (am_tab tk_X4_readSum 2 rfl) rfl ?_
  refine am_istore_n (q := 6) (Nat.le_of_ble_eq_true rfl) (ls2 := [(1, am_i 0), (0, am_r 27)]) rfl (am_tab tk_X4_readSum 3 rfl) rfl ?_
  refine am_iconst (q := 7) (n := 0) (by decide) (am_tab tk_X4_readSum 4 rfl) rfl ?_
  refine am_istore_n (q := 8) (Nat.le_of_ble_eq_true rfl) (ls2 := [(2, am_i 0), (1, am_i 0), (0, am_r 27)]) rfl (am_tab tk_X4_readSum 5 rfl) rfl ?_
  have L8 : ∀ (n8 : Nat) (k : Nat) (w : Int) (T : am_H) (t : SX), 1600 - k < n8 → k ≤ 1600 → (w = 0 ∨ w = 43 ∨ w = 45) → RX b E cv M tk T t → frw W_ps σ T → oS t + (n : Int) = 6 → smL b E P (1600 - k) w t = sumB b E P s → am_wp (M_X4_readSum n) Q 0 0 8 [(2, am_i ((k : Int))), (1, am_i w), (0, am_r 27)] [] T := by
    intro n8
    induction n8 with
    | zero => intro k w T t hn8; exact absurd hn8 (Nat.not_lt_zero _)
    | succ n8 ih8 =>
      intro k w T t hn8 hk hw hXl hFl hol hE
      refine am_iload_n (q := 9) rfl (am_tab tk_X4_readSum 6 rfl) rfl ?_
      refine am_sipush (q := 12) (n := 1600) (by decide) rfl (am_tab tk_X4_readSum 7 rfl) rfl ?_
      refine am_icmp_ge (q := 15) (t := 108) (am_tab tk_X4_readSum 8 rfl) (by decide) rfl (fun h12 => ?_) (fun h12 => ?_)
      · refine am_iload_n (q := 109) rfl (am_tab tk_X4_readSum 55 rfl) rfl ?_
        refine am_if_eq (q := 112) (t := 124) (am_tab tk_X4_readSum 56 rfl) (by decide) rfl (fun h109 => ?_) (fun h109 => ?_)
        · refine am_vret rfl (Nat.le_of_ble_eq_true rfl) (Nat.le_of_ble_eq_true rfl) (am_tab tk_X4_readSum 63 rfl) ?_
          refine hQ _ _ ?_
          rw [smL_e (by omega), if_pos h109] at hE
          rw [← hE]
          exact ⟨rfl, hXl, hFl⟩
        · refine am_aload_n (q := 113) rfl (am_tab tk_X4_readSum 57 rfl) rfl ?_
          refine am_getR (q := 116) (a := 27) (k := 4) (n := 13) (j := 1) (r := some (28)) (Ls_27 hXl.1.1) (by decide) rfl (Lr_27_1 hXl.1.1) (by decide) (Or.inl kf_X4_14) (am_tab tk_X4_readSum 58 rfl) rfl ?_
          refine am_sipush (q := 119) (n := 20000) (by decide) rfl (am_tab tk_X4_readSum 59 rfl) rfl ?_
          refine am_iload_n (q := 120) rfl (am_tab tk_X4_readSum 60 rfl) rfl ?_
          refine am_iadd (q := 121) (by omega) (am_tab tk_X4_readSum 61 rfl) rfl ?_
          refine am_callVr (q := 124) (me2 := M_X5_add) (b := 28) (kb := 5) (nb := 2) (As := [am_i ((20000 + w))]) (rest := []) (c_addX hXl (20000 + w) (opc w) (fun _ => kap_opc (by omega))) ⟨rfl, rfl⟩ (Ls_28 hXl.1.1) (by decide) ⟨Or.inr km_X4_172, kc_X5_add, kn_X5, kd_X5_add, ⟨by show 0 + 1 ≤ 6 * n + 4; omega, by show 8 + (2 + 11) + 60 ≤ 60 * (6 * n + 5); omega⟩, ⟨(Nat.le_of_ble_eq_true rfl), (Nat.le_of_ble_eq_true rfl)⟩, (Nat.le_of_ble_eq_true rfl)⟩ ki_X5_add ks_X5_add rfl (am_tab tk_X4_readSum 62 rfl) rfl ?_
          rintro r T2 ⟨rfl, hX2, hG2⟩
          have hF2 : frw W_ps σ T2 := hFl.trans hG2
          refine am_vret rfl (Nat.le_of_ble_eq_true rfl) (Nat.le_of_ble_eq_true rfl) (am_tab tk_X4_readSum 63 rfl) ?_
          refine hQ _ _ ?_
          rw [smL_e (by omega), if_neg h109] at hE
          rw [← hE]
          exact ⟨rfl, hX2, hF2⟩
      · refine am_aload_n (q := 16) rfl (am_tab tk_X4_readSum 9 rfl) rfl ?_
        refine am_getI (q := 19) (a := 27) (k := 4) (n := 13) (j := 4) (x := (kdS b E t)) (Ls_27 hXl.1.1) (by decide) rfl hXl.kd (by decide) (Or.inl kf_X4_45) (am_tab tk_X4_readSum 10 rfl) rfl ?_
        refine am_callS0 (q := 22) (me2 := M_X4_isSumSign) (As := [am_i ((kdS b E t))]) (rest := []) (out := [am_i ((if (kdS b E t) = 43 ∨ (kdS b E t) = 45 ∨ (kdS b E t) = 42 ∨ (kdS b E t) = 47 then 1 else 0))]) (c_isSumSign T hXl.1.1 (kdS b E t)) ⟨rfl, rfl⟩ ⟨Or.inl km_X4_182, kc_X4_isSumSign, kn_X4, kd_X4_isSumSign, ⟨by show 0 + 1 ≤ 6 * n + 4; omega, by show 8 + (1 + 11) + 60 ≤ 60 * (6 * n + 5); omega⟩, ⟨(Nat.le_of_ble_eq_true rfl), (Nat.le_of_ble_eq_true rfl)⟩, (Nat.le_of_ble_eq_true rfl)⟩ ki_X4_isSumSign rfl rfl (am_tab tk_X4_readSum 11 rfl) rfl ?_
        refine am_if_eq (q := 25) (t := 108) (am_tab tk_X4_readSum 12 rfl) (by decide) rfl (fun h22 => ?_) (fun h22 => ?_)
        · replace h22 := b01z h22
          refine am_iload_n (q := 109) rfl (am_tab tk_X4_readSum 55 rfl) rfl ?_
          refine am_if_eq (q := 112) (t := 124) (am_tab tk_X4_readSum 56 rfl) (by decide) rfl (fun h109 => ?_) (fun h109 => ?_)
          · refine am_vret rfl (Nat.le_of_ble_eq_true rfl) (Nat.le_of_ble_eq_true rfl) (am_tab tk_X4_readSum 63 rfl) ?_
            refine hQ _ _ ?_
            rw [smL_e (by omega), if_pos h109] at hE
            rw [← hE]
            exact ⟨rfl, hXl, hFl⟩
          · refine am_aload_n (q := 113) rfl (am_tab tk_X4_readSum 57 rfl) rfl ?_
            refine am_getR (q := 116) (a := 27) (k := 4) (n := 13) (j := 1) (r := some (28)) (Ls_27 hXl.1.1) (by decide) rfl (Lr_27_1 hXl.1.1) (by decide) (Or.inl kf_X4_14) (am_tab tk_X4_readSum 58 rfl) rfl ?_
            refine am_sipush (q := 119) (n := 20000) (by decide) rfl (am_tab tk_X4_readSum 59 rfl) rfl ?_
            refine am_iload_n (q := 120) rfl (am_tab tk_X4_readSum 60 rfl) rfl ?_
            refine am_iadd (q := 121) (by omega) (am_tab tk_X4_readSum 61 rfl) rfl ?_
            refine am_callVr (q := 124) (me2 := M_X5_add) (b := 28) (kb := 5) (nb := 2) (As := [am_i ((20000 + w))]) (rest := []) (c_addX hXl (20000 + w) (opc w) (fun _ => kap_opc (by omega))) ⟨rfl, rfl⟩ (Ls_28 hXl.1.1) (by decide) ⟨Or.inr km_X4_172, kc_X5_add, kn_X5, kd_X5_add, ⟨by show 0 + 1 ≤ 6 * n + 4; omega, by show 8 + (2 + 11) + 60 ≤ 60 * (6 * n + 5); omega⟩, ⟨(Nat.le_of_ble_eq_true rfl), (Nat.le_of_ble_eq_true rfl)⟩, (Nat.le_of_ble_eq_true rfl)⟩ ki_X5_add ks_X5_add rfl (am_tab tk_X4_readSum 62 rfl) rfl ?_
            rintro r T3 ⟨rfl, hX3, hG3⟩
            have hF3 : frw W_ps σ T3 := hFl.trans hG3
            refine am_vret rfl (Nat.le_of_ble_eq_true rfl) (Nat.le_of_ble_eq_true rfl) (am_tab tk_X4_readSum 63 rfl) ?_
            refine hQ _ _ ?_
            rw [smL_e (by omega), if_neg h109] at hE
            rw [← hE]
            exact ⟨rfl, hX3, hF3⟩
        · replace h22 := b01n h22
          refine am_aload_n (q := 26) rfl (am_tab tk_X4_readSum 13 rfl) rfl ?_
          refine am_getI (q := 29) (a := 27) (k := 4) (n := 13) (j := 4) (x := (kdS b E t)) (Ls_27 hXl.1.1) (by decide) rfl hXl.kd (by decide) (Or.inl kf_X4_45) (am_tab tk_X4_readSum 14 rfl) rfl ?_
          refine am_istore_n (q := 30) (Nat.le_of_ble_eq_true rfl) (ls2 := [(3, am_i ((kdS b E t))), (2, am_i ((k : Int))), (1, am_i w), (0, am_r 27)]) rfl (am_tab tk_X4_readSum 15 rfl) rfl ?_
          refine am_iload_n (q := 31) rfl (am_tab tk_X4_readSum 16 rfl) rfl ?_
          refine am_bipush (q := 33) (n := 42) (by decide) rfl (am_tab tk_X4_readSum 17 rfl) rfl ?_
          refine am_icmp_eq (q := 36) (t := 42) (am_tab tk_X4_readSum 18 rfl) (by decide) rfl (fun h33 => ?_) (fun h33 => ?_)
          · refine am_iconst (q := 43) (n := 1) (by decide) (am_tab tk_X4_readSum 22 rfl) rfl ?_
            refine am_goto (t := 47) (am_tab tk_X4_readSum 23 rfl) (by decide) ?_
            refine am_istore (q := 49) (Nat.le_of_ble_eq_true rfl) (ls2 := [(4, am_i 1), (3, am_i ((kdS b E t))), (2, am_i ((k : Int))), (1, am_i w), (0, am_r 27)]) rfl (am_tab tk_X4_readSum 25 rfl) rfl ?_
            refine am_aload_n (q := 50) rfl (am_tab tk_X4_readSum 26 rfl) rfl ?_
            refine am_iconst (q := 51) (n := 1) (by decide) (am_tab tk_X4_readSum 27 rfl) rfl ?_
            refine am_iconst (q := 52) (n := 0) (by decide) (am_tab tk_X4_readSum 28 rfl) rfl ?_
            refine am_callVr (q := 55) (me2 := M_X4_pass) (b := 27) (kb := 4) (nb := 13) (As := [am_i 1, am_i 0]) (rest := []) (c_passT hXl (by omega) 0) ⟨rfl, rfl⟩ (Ls_27 hXl.1.1) (by decide) ⟨Or.inl km_X4_71, kc_X4_pass, kn_X4, kd_X4_pass, ⟨by show 0 + 1 ≤ 6 * n + 4; omega, by show 8 + (5 + 11) + 60 ≤ 60 * (6 * n + 5); omega⟩, ⟨(Nat.le_of_ble_eq_true rfl), (Nat.le_of_ble_eq_true rfl)⟩, (Nat.le_of_ble_eq_true rfl)⟩ ki_X4_pass ks_X4_pass rfl (am_tab tk_X4_readSum 29 rfl) rfl ?_
            rintro r T4 ⟨rfl, hX4, hG4⟩
            have hF4 : frw W_ps σ T4 := hFl.trans hG4
            refine am_iload (q := 57) rfl (am_tab tk_X4_readSum 30 rfl) rfl ?_
            refine am_if_ne (q := 60) (t := 76) (am_tab tk_X4_readSum 31 rfl) (by decide) rfl (fun h57 => ?_) (fun h57 => ?_)
            · refine am_aload_n (q := 77) rfl (am_tab tk_X4_readSum 40 rfl) rfl ?_
              refine am_callVr (q := 80) (me2 := (M_X4_readPart n)) (b := 27) (kb := 4) (nb := 13) (As := []) (rest := []) (hP T4 (npS t) hX4 (by rw [oS_np]; exact hol)) ⟨rfl, rfl⟩ (Ls_27 hX4.1.1) (by decide) ⟨Or.inl km_X4_179, kc_X4_readPart, kn_X4, kd_X4_readPart, ⟨by show 6 * n + 3 + 1 ≤ 6 * n + 4; omega, by show 8 + (2 + 11) + 60 * (6 * n + 4) ≤ 60 * (6 * n + 5); omega⟩, ⟨(Nat.le_of_ble_eq_true rfl), (Nat.le_of_ble_eq_true rfl)⟩, (Nat.le_of_ble_eq_true rfl)⟩ ki_X4_readPart ks_X4_readPart rfl (am_tab tk_X4_readSum 41 rfl) rfl ?_
              rintro r T5 ⟨rfl, hX5, hG5⟩
              have hF5 : frw W_ps σ T5 := hF4.trans hG5
              refine am_iload (q := 82) rfl (am_tab tk_X4_readSum 42 rfl) rfl ?_
              refine am_if_eq (q := 85) (t := 100) (am_tab tk_X4_readSum 43 rfl) (by decide) rfl (fun h82 => ?_) (fun h82 => ?_)
              · exact absurd h82 (by decide)
              · refine am_aload_n (q := 86) rfl (am_tab tk_X4_readSum 44 rfl) rfl ?_
                refine am_getR (q := 89) (a := 27) (k := 4) (n := 13) (j := 1) (r := some (28)) (Ls_27 hX5.1.1) (by decide) rfl (Lr_27_1 hX5.1.1) (by decide) (Or.inl kf_X4_14) (am_tab tk_X4_readSum 45 rfl) rfl ?_
                refine am_sipush (q := 92) (n := 20000) (by decide) rfl (am_tab tk_X4_readSum 46 rfl) rfl ?_
                refine am_iload_n (q := 93) rfl (am_tab tk_X4_readSum 47 rfl) rfl ?_
                refine am_iadd (q := 94) (by omega) (am_tab tk_X4_readSum 48 rfl) rfl ?_
                refine am_callVr (q := 97) (me2 := M_X5_add) (b := 28) (kb := 5) (nb := 2) (As := [am_i ((20000 + (kdS b E t)))]) (rest := []) (c_addX hX5 (20000 + (kdS b E t)) (opc (kdS b E t)) (fun _ => kap_opc (by omega))) ⟨rfl, rfl⟩ (Ls_28 hX5.1.1) (by decide) ⟨Or.inr km_X4_172, kc_X5_add, kn_X5, kd_X5_add, ⟨by show 0 + 1 ≤ 6 * n + 4; omega, by show 8 + (2 + 11) + 60 ≤ 60 * (6 * n + 5); omega⟩, ⟨(Nat.le_of_ble_eq_true rfl), (Nat.le_of_ble_eq_true rfl)⟩, (Nat.le_of_ble_eq_true rfl)⟩ ki_X5_add ks_X5_add rfl (am_tab tk_X4_readSum 49 rfl) rfl ?_
                rintro r T6 ⟨rfl, hX6, hG6⟩
                have hF6 : frw W_ps σ T6 := hF5.trans hG6
                refine am_goto (t := 102) (am_tab tk_X4_readSum 50 rfl) (by decide) ?_
                refine am_iinc (q := 105) rfl (by omega) (Nat.le_of_ble_eq_true rfl) (ls2 := [(2, am_i (((k : Int) + 1))), (4, am_i 1), (3, am_i ((kdS b E t))), (1, am_i w), (0, am_r 27)]) rfl (am_tab tk_X4_readSum 53 rfl) rfl ?_
                refine am_goto (t := 8) (am_tab tk_X4_readSum 54 rfl) (by decide) ?_
                exact am_less (by intro q hq; simp only [List.mem_cons, List.not_mem_nil, or_false] at hq; rcases hq with rfl | rfl | rfl <;> simp) (ih8 (k + 1) w T6 (adS (opc (kdS b E t)) (P (npS t))) (by omega) (by omega) hw hX6 hF6 (by rw [oS_ad, hO, oS_np]; exact hol) ((smL_m (by omega) (by omega)).symm.trans hE))
            · exact absurd h57 (by decide)
          · refine am_iload_n (q := 37) rfl (am_tab tk_X4_readSum 19 rfl) rfl ?_
            refine am_bipush (q := 39) (n := 47) (by decide) rfl (am_tab tk_X4_readSum 20 rfl) rfl ?_
            refine am_icmp_ne (q := 42) (t := 46) (am_tab tk_X4_readSum 21 rfl) (by decide) rfl (fun h39 => ?_) (fun h39 => ?_)
            · refine am_iconst (q := 47) (n := 0) (by decide) (am_tab tk_X4_readSum 24 rfl) rfl ?_
              refine am_istore (q := 49) (Nat.le_of_ble_eq_true rfl) (ls2 := [(4, am_i 0), (3, am_i ((kdS b E t))), (2, am_i ((k : Int))), (1, am_i w), (0, am_r 27)]) rfl (am_tab tk_X4_readSum 25 rfl) rfl ?_
              refine am_aload_n (q := 50) rfl (am_tab tk_X4_readSum 26 rfl) rfl ?_
              refine am_iconst (q := 51) (n := 1) (by decide) (am_tab tk_X4_readSum 27 rfl) rfl ?_
              refine am_iconst (q := 52) (n := 0) (by decide) (am_tab tk_X4_readSum 28 rfl) rfl ?_
              refine am_callVr (q := 55) (me2 := M_X4_pass) (b := 27) (kb := 4) (nb := 13) (As := [am_i 1, am_i 0]) (rest := []) (c_passT hXl (by omega) 0) ⟨rfl, rfl⟩ (Ls_27 hXl.1.1) (by decide) ⟨Or.inl km_X4_71, kc_X4_pass, kn_X4, kd_X4_pass, ⟨by show 0 + 1 ≤ 6 * n + 4; omega, by show 8 + (5 + 11) + 60 ≤ 60 * (6 * n + 5); omega⟩, ⟨(Nat.le_of_ble_eq_true rfl), (Nat.le_of_ble_eq_true rfl)⟩, (Nat.le_of_ble_eq_true rfl)⟩ ki_X4_pass ks_X4_pass rfl (am_tab tk_X4_readSum 29 rfl) rfl ?_
              rintro r T7 ⟨rfl, hX7, hG7⟩
              have hF7 : frw W_ps σ T7 := hFl.trans hG7
              refine am_iload (q := 57) rfl (am_tab tk_X4_readSum 30 rfl) rfl ?_
              refine am_if_ne (q := 60) (t := 76) (am_tab tk_X4_readSum 31 rfl) (by decide) rfl (fun h57 => ?_) (fun h57 => ?_)
              · exact absurd h57 (by decide)
              · refine am_iload_n (q := 61) rfl (am_tab tk_X4_readSum 32 rfl) rfl ?_
                refine am_if_eq (q := 64) (t := 76) (am_tab tk_X4_readSum 33 rfl) (by decide) rfl (fun h61 => ?_) (fun h61 => ?_)
                · refine am_aload_n (q := 77) rfl (am_tab tk_X4_readSum 40 rfl) rfl ?_
                  refine am_callVr (q := 80) (me2 := (M_X4_readPart n)) (b := 27) (kb := 4) (nb := 13) (As := []) (rest := []) (hP T7 (npS t) hX7 (by rw [oS_np]; exact hol)) ⟨rfl, rfl⟩ (Ls_27 hX7.1.1) (by decide) ⟨Or.inl km_X4_179, kc_X4_readPart, kn_X4, kd_X4_readPart, ⟨by show 6 * n + 3 + 1 ≤ 6 * n + 4; omega, by show 8 + (2 + 11) + 60 * (6 * n + 4) ≤ 60 * (6 * n + 5); omega⟩, ⟨(Nat.le_of_ble_eq_true rfl), (Nat.le_of_ble_eq_true rfl)⟩, (Nat.le_of_ble_eq_true rfl)⟩ ki_X4_readPart ks_X4_readPart rfl (am_tab tk_X4_readSum 41 rfl) rfl ?_
                  rintro r T8 ⟨rfl, hX8, hG8⟩
                  have hF8 : frw W_ps σ T8 := hF7.trans hG8
                  refine am_iload (q := 82) rfl (am_tab tk_X4_readSum 42 rfl) rfl ?_
                  refine am_if_eq (q := 85) (t := 100) (am_tab tk_X4_readSum 43 rfl) (by decide) rfl (fun h82 => ?_) (fun h82 => ?_)
                  · refine am_iload_n (q := 101) rfl (am_tab tk_X4_readSum 51 rfl) rfl ?_
                    refine am_istore_n (q := 102) (Nat.le_of_ble_eq_true rfl) (ls2 := [(1, am_i ((kdS b E t))), (4, am_i 0), (3, am_i ((kdS b E t))), (2, am_i ((k : Int))), (0, am_r 27)]) rfl (am_tab tk_X4_readSum 52 rfl) rfl ?_
                    refine am_iinc (q := 105) rfl (by omega) (Nat.le_of_ble_eq_true rfl) (ls2 := [(2, am_i (((k : Int) + 1))), (1, am_i ((kdS b E t))), (4, am_i 0), (3, am_i ((kdS b E t))), (0, am_r 27)]) rfl (am_tab tk_X4_readSum 53 rfl) rfl ?_
                    refine am_goto (t := 8) (am_tab tk_X4_readSum 54 rfl) (by decide) ?_
                    exact am_less (by intro q hq; simp only [List.mem_cons, List.not_mem_nil, or_false] at hq; rcases hq with rfl | rfl | rfl <;> simp) (ih8 (k + 1) (kdS b E t) T8 (P (npS t)) (by omega) (by omega) (by omega) hX8 hF8 (by rw [hO, oS_np]; exact hol) (by rw [smL_a (by omega) (by omega) (by omega), if_pos h61] at hE; exact hE))
                  · exact absurd h82 (by decide)
                · refine am_aload_n (q := 65) rfl (am_tab tk_X4_readSum 34 rfl) rfl ?_
                  refine am_getR (q := 68) (a := 27) (k := 4) (n := 13) (j := 1) (r := some (28)) (Ls_27 hX7.1.1) (by decide) rfl (Lr_27_1 hX7.1.1) (by decide) (Or.inl kf_X4_14) (am_tab tk_X4_readSum 35 rfl) rfl ?_
                  refine am_sipush (q := 71) (n := 20000) (by decide) rfl (am_tab tk_X4_readSum 36 rfl) rfl ?_
                  refine am_iload_n (q := 72) rfl (am_tab tk_X4_readSum 37 rfl) rfl ?_
                  refine am_iadd (q := 73) (by omega) (am_tab tk_X4_readSum 38 rfl) rfl ?_
                  refine am_callVr (q := 76) (me2 := M_X5_add) (b := 28) (kb := 5) (nb := 2) (As := [am_i ((20000 + w))]) (rest := []) (c_addX hX7 (20000 + w) (opc w) (fun _ => kap_opc (by omega))) ⟨rfl, rfl⟩ (Ls_28 hX7.1.1) (by decide) ⟨Or.inr km_X4_172, kc_X5_add, kn_X5, kd_X5_add, ⟨by show 0 + 1 ≤ 6 * n + 4; omega, by show 8 + (2 + 11) + 60 ≤ 60 * (6 * n + 5); omega⟩, ⟨(Nat.le_of_ble_eq_true rfl), (Nat.le_of_ble_eq_true rfl)⟩, (Nat.le_of_ble_eq_true rfl)⟩ ki_X5_add ks_X5_add rfl (am_tab tk_X4_readSum 39 rfl) rfl ?_
                  rintro r T9 ⟨rfl, hX9, hG9⟩
                  have hF9 : frw W_ps σ T9 := hF7.trans hG9
                  refine am_aload_n (q := 77) rfl (am_tab tk_X4_readSum 40 rfl) rfl ?_
                  refine am_callVr (q := 80) (me2 := (M_X4_readPart n)) (b := 27) (kb := 4) (nb := 13) (As := []) (rest := []) (hP T9 (adS (opc w) (npS t)) hX9 (by rw [oS_ad, oS_np]; exact hol)) ⟨rfl, rfl⟩ (Ls_27 hX9.1.1) (by decide) ⟨Or.inl km_X4_179, kc_X4_readPart, kn_X4, kd_X4_readPart, ⟨by show 6 * n + 3 + 1 ≤ 6 * n + 4; omega, by show 8 + (2 + 11) + 60 * (6 * n + 4) ≤ 60 * (6 * n + 5); omega⟩, ⟨(Nat.le_of_ble_eq_true rfl), (Nat.le_of_ble_eq_true rfl)⟩, (Nat.le_of_ble_eq_true rfl)⟩ ki_X4_readPart ks_X4_readPart rfl (am_tab tk_X4_readSum 41 rfl) rfl ?_
                  rintro r T10 ⟨rfl, hX10, hG10⟩
                  have hF10 : frw W_ps σ T10 := hF9.trans hG10
                  refine am_iload (q := 82) rfl (am_tab tk_X4_readSum 42 rfl) rfl ?_
                  refine am_if_eq (q := 85) (t := 100) (am_tab tk_X4_readSum 43 rfl) (by decide) rfl (fun h82 => ?_) (fun h82 => ?_)
                  · refine am_iload_n (q := 101) rfl (am_tab tk_X4_readSum 51 rfl) rfl ?_
                    refine am_istore_n (q := 102) (Nat.le_of_ble_eq_true rfl) (ls2 := [(1, am_i ((kdS b E t))), (4, am_i 0), (3, am_i ((kdS b E t))), (2, am_i ((k : Int))), (0, am_r 27)]) rfl (am_tab tk_X4_readSum 52 rfl) rfl ?_
                    refine am_iinc (q := 105) rfl (by omega) (Nat.le_of_ble_eq_true rfl) (ls2 := [(2, am_i (((k : Int) + 1))), (1, am_i ((kdS b E t))), (4, am_i 0), (3, am_i ((kdS b E t))), (0, am_r 27)]) rfl (am_tab tk_X4_readSum 53 rfl) rfl ?_
                    refine am_goto (t := 8) (am_tab tk_X4_readSum 54 rfl) (by decide) ?_
                    exact am_less (by intro q hq; simp only [List.mem_cons, List.not_mem_nil, or_false] at hq; rcases hq with rfl | rfl | rfl <;> simp) (ih8 (k + 1) (kdS b E t) T10 (P (adS (opc w) (npS t))) (by omega) (by omega) (by omega) hX10 hF10 (by rw [hO, oS_ad, oS_np]; exact hol) (by rw [smL_a (by omega) (by omega) (by omega), if_neg h61] at hE; exact hE))
                  · exact absurd h82 (by decide)
            · refine am_iconst (q := 43) (n := 1) (by decide) (am_tab tk_X4_readSum 22 rfl) rfl ?_
              refine am_goto (t := 47) (am_tab tk_X4_readSum 23 rfl) (by decide) ?_
              refine am_istore (q := 49) (Nat.le_of_ble_eq_true rfl) (ls2 := [(4, am_i 1), (3, am_i ((kdS b E t))), (2, am_i ((k : Int))), (1, am_i w), (0, am_r 27)]) rfl (am_tab tk_X4_readSum 25 rfl) rfl ?_
              refine am_aload_n (q := 50) rfl (am_tab tk_X4_readSum 26 rfl) rfl ?_
              refine am_iconst (q := 51) (n := 1) (by decide) (am_tab tk_X4_readSum 27 rfl) rfl ?_
              refine am_iconst (q := 52) (n := 0) (by decide) (am_tab tk_X4_readSum 28 rfl) rfl ?_
              refine am_callVr (q := 55) (me2 := M_X4_pass) (b := 27) (kb := 4) (nb := 13) (As := [am_i 1, am_i 0]) (rest := []) (c_passT hXl (by omega) 0) ⟨rfl, rfl⟩ (Ls_27 hXl.1.1) (by decide) ⟨Or.inl km_X4_71, kc_X4_pass, kn_X4, kd_X4_pass, ⟨by show 0 + 1 ≤ 6 * n + 4; omega, by show 8 + (5 + 11) + 60 ≤ 60 * (6 * n + 5); omega⟩, ⟨(Nat.le_of_ble_eq_true rfl), (Nat.le_of_ble_eq_true rfl)⟩, (Nat.le_of_ble_eq_true rfl)⟩ ki_X4_pass ks_X4_pass rfl (am_tab tk_X4_readSum 29 rfl) rfl ?_
              rintro r T11 ⟨rfl, hX11, hG11⟩
              have hF11 : frw W_ps σ T11 := hFl.trans hG11
              refine am_iload (q := 57) rfl (am_tab tk_X4_readSum 30 rfl) rfl ?_
              refine am_if_ne (q := 60) (t := 76) (am_tab tk_X4_readSum 31 rfl) (by decide) rfl (fun h57 => ?_) (fun h57 => ?_)
              · refine am_aload_n (q := 77) rfl (am_tab tk_X4_readSum 40 rfl) rfl ?_
                refine am_callVr (q := 80) (me2 := (M_X4_readPart n)) (b := 27) (kb := 4) (nb := 13) (As := []) (rest := []) (hP T11 (npS t) hX11 (by rw [oS_np]; exact hol)) ⟨rfl, rfl⟩ (Ls_27 hX11.1.1) (by decide) ⟨Or.inl km_X4_179, kc_X4_readPart, kn_X4, kd_X4_readPart, ⟨by show 6 * n + 3 + 1 ≤ 6 * n + 4; omega, by show 8 + (2 + 11) + 60 * (6 * n + 4) ≤ 60 * (6 * n + 5); omega⟩, ⟨(Nat.le_of_ble_eq_true rfl), (Nat.le_of_ble_eq_true rfl)⟩, (Nat.le_of_ble_eq_true rfl)⟩ ki_X4_readPart ks_X4_readPart rfl (am_tab tk_X4_readSum 41 rfl) rfl ?_
                rintro r T12 ⟨rfl, hX12, hG12⟩
                have hF12 : frw W_ps σ T12 := hF11.trans hG12
                refine am_iload (q := 82) rfl (am_tab tk_X4_readSum 42 rfl) rfl ?_
                refine am_if_eq (q := 85) (t := 100) (am_tab tk_X4_readSum 43 rfl) (by decide) rfl (fun h82 => ?_) (fun h82 => ?_)
                · exact absurd h82 (by decide)
                · refine am_aload_n (q := 86) rfl (am_tab tk_X4_readSum 44 rfl) rfl ?_
                  refine am_getR (q := 89) (a := 27) (k := 4) (n := 13) (j := 1) (r := some (28)) (Ls_27 hX12.1.1) (by decide) rfl (Lr_27_1 hX12.1.1) (by decide) (Or.inl kf_X4_14) (am_tab tk_X4_readSum 45 rfl) rfl ?_
                  refine am_sipush (q := 92) (n := 20000) (by decide) rfl (am_tab tk_X4_readSum 46 rfl) rfl ?_
                  refine am_iload_n (q := 93) rfl (am_tab tk_X4_readSum 47 rfl) rfl ?_
                  refine am_iadd (q := 94) (by omega) (am_tab tk_X4_readSum 48 rfl) rfl ?_
                  refine am_callVr (q := 97) (me2 := M_X5_add) (b := 28) (kb := 5) (nb := 2) (As := [am_i ((20000 + (kdS b E t)))]) (rest := []) (c_addX hX12 (20000 + (kdS b E t)) (opc (kdS b E t)) (fun _ => kap_opc (by omega))) ⟨rfl, rfl⟩ (Ls_28 hX12.1.1) (by decide) ⟨Or.inr km_X4_172, kc_X5_add, kn_X5, kd_X5_add, ⟨by show 0 + 1 ≤ 6 * n + 4; omega, by show 8 + (2 + 11) + 60 ≤ 60 * (6 * n + 5); omega⟩, ⟨(Nat.le_of_ble_eq_true rfl), (Nat.le_of_ble_eq_true rfl)⟩, (Nat.le_of_ble_eq_true rfl)⟩ ki_X5_add ks_X5_add rfl (am_tab tk_X4_readSum 49 rfl) rfl ?_
                  rintro r T13 ⟨rfl, hX13, hG13⟩
                  have hF13 : frw W_ps σ T13 := hF12.trans hG13
                  refine am_goto (t := 102) (am_tab tk_X4_readSum 50 rfl) (by decide) ?_
                  refine am_iinc (q := 105) rfl (by omega) (Nat.le_of_ble_eq_true rfl) (ls2 := [(2, am_i (((k : Int) + 1))), (4, am_i 1), (3, am_i ((kdS b E t))), (1, am_i w), (0, am_r 27)]) rfl (am_tab tk_X4_readSum 53 rfl) rfl ?_
                  refine am_goto (t := 8) (am_tab tk_X4_readSum 54 rfl) (by decide) ?_
                  exact am_less (by intro q hq; simp only [List.mem_cons, List.not_mem_nil, or_false] at hq; rcases hq with rfl | rfl | rfl <;> simp) (ih8 (k + 1) w T13 (adS (opc (kdS b E t)) (P (npS t))) (by omega) (by omega) hw hX13 hF13 (by rw [oS_ad, hO, oS_np]; exact hol) ((smL_m (by omega) (by omega)).symm.trans hE))
              · exact absurd h57 (by decide)
  refine am_less (by intro q hq; simp only [List.mem_cons, List.not_mem_nil, or_false] at hq; rcases hq with rfl | rfl | rfl <;> simp) (L8 (_ + 1) 0 0 T1 (P s) (by exact Nat.lt_succ_self _) (by omega) (Or.inl rfl) hX1 hF1 (by rw [hO]; exact hn) rfl)
theorem c_ins0_0 (b : Nat → Int) (E : Nat) (cv : Nat → Int) (M : Nat) (tk : Int)  (σ : am_H) (s : SX) (hX : RX b E cv M tk σ s) (hn : oS s + (0 : Int) = 6)   : am_met (M_X4_readSumsInside 0) [am_r 27, am_i 0] σ (fun r σ' => r = none ∧ RX b E cv M tk σ' (insB b E none false s) ∧ frw W_ps σ σ') := by
  refine am_qq (fun Q hQ => ?_)
  refine am_enter (show plainFor yX4_readSumsInside = true by decide +kernel) rfl (Nat.le_of_ble_eq_true rfl) (fun _ _ _ => trivial) ?_
  have hn9 := hn
  refine am_aload_n (q := 1) rfl (am_tab tk_X4_readSumsInside 0 rfl) rfl ?_
  refine am_getI (q := 4) (a := 27) (k := 4) (n := 13) (j := 4) (x := (kdS b E s)) (Ls_27 hX.1.1) (by decide) rfl hX.kd (by decide) (Or.inl kf_X4_45) (am_tab tk_X4_readSumsInside 1 rfl) rfl ?_
  refine am_bipush (q := 6) (n := 40) (by decide) rfl (am_tab tk_X4_readSumsInside 2 rfl) rfl ?_
  refine am_icmp_eq (q := 9) (t := 21) (am_tab tk_X4_readSumsInside 3 rfl) (by decide) rfl (fun h6 => ?_) (fun h6 => ?_)
  · refine am_aload_n (q := 22) rfl (am_tab tk_X4_readSumsInside 10 rfl) rfl ?_
    refine am_callVr (q := 25) (me2 := M_X4_open) (b := 27) (kb := 4) (nb := 13) (As := []) (rest := []) (c_open0 hX (by omega) (by omega)) ⟨rfl, rfl⟩ (Ls_27 hX.1.1) (by decide) ⟨Or.inl km_X4_175, kc_X4_open, kn_X4, kd_X4_open, ⟨by show 1 + 1 ≤ 6 * 0 + 2; omega, by show 8 + (1 + 11) + 120 ≤ 60 * (6 * 0 + 3); omega⟩, ⟨(Nat.le_of_ble_eq_true rfl), (Nat.le_of_ble_eq_true rfl)⟩, (Nat.le_of_ble_eq_true rfl)⟩ ki_X4_open ks_X4_open rfl (am_tab tk_X4_readSumsInside 11 rfl) rfl ?_
    rintro r T1 ⟨rfl, hX1, hG1⟩
    have hF1 : frw W_ps σ T1 := (frw.refl W_ps σ).trans hG1
    refine am_if_eq (q := 28) (t := 88) (am_tab tk_X4_readSumsInside 12 rfl) (by decide) rfl (fun h25 => ?_) (fun h25 => ?_)
    · refine am_vret rfl (Nat.le_of_ble_eq_true rfl) (Nat.le_of_ble_eq_true rfl) (am_tab tk_X4_readSumsInside 45 rfl) ?_
      refine hQ _ _ ?_
      have e9 : insB b E none false s = ftS b E 4 s := by unfold insB; rw [if_pos h6]
      rw [e9]
      exact ⟨rfl, hX1, hF1⟩
    · exact absurd rfl h25
  · refine am_aload_n (q := 10) rfl (am_tab tk_X4_readSumsInside 4 rfl) rfl ?_
    refine am_iconst (q := 11) (n := 1) (by decide) (am_tab tk_X4_readSumsInside 5 rfl) rfl ?_
    refine am_aload_n (q := 12) rfl (am_tab tk_X4_readSumsInside 6 rfl) rfl ?_
    refine am_getI (q := 15) (a := 27) (k := 4) (n := 13) (j := 5) (x := (σ.2.1 27 5)) (Ls_27 hX.1.1) (by decide) rfl rfl (by decide) (Or.inl kf_X4_55) (am_tab tk_X4_readSumsInside 7 rfl) rfl ?_
    refine am_callVr (q := 18) (me2 := M_X4_fail) (b := 27) (kb := 4) (nb := 13) (As := [am_i 1, am_i ((σ.2.1 27 5))]) (rest := []) (c_failX hX 1 (σ.2.1 27 5) (by decide)) ⟨rfl, rfl⟩ (Ls_27 hX.1.1) (by decide) ⟨Or.inl km_X4_58, kc_X4_fail, kn_X4, kd_X4_fail, ⟨by show 0 + 1 ≤ 6 * 0 + 2; omega, by show 8 + (3 + 11) + 60 ≤ 60 * (6 * 0 + 3); omega⟩, ⟨(Nat.le_of_ble_eq_true rfl), (Nat.le_of_ble_eq_true rfl)⟩, (Nat.le_of_ble_eq_true rfl)⟩ ki_X4_fail ks_X4_fail rfl (am_tab tk_X4_readSumsInside 8 rfl) rfl ?_
    rintro r T2 ⟨rfl, hX2, hG2⟩
    have hF2 : frw W_ps σ T2 := (frw.refl W_ps σ).trans hG2
    rw [hX.sp 1] at hX2
    refine am_goto (t := 88) (am_tab tk_X4_readSumsInside 9 rfl) (by decide) ?_
    refine am_vret rfl (Nat.le_of_ble_eq_true rfl) (Nat.le_of_ble_eq_true rfl) (am_tab tk_X4_readSumsInside 45 rfl) ?_
    refine hQ _ _ ?_
    have e9 : insB b E none false s = ftS b E 1 s := by unfold insB; rw [if_neg h6]
    rw [e9]
    exact ⟨rfl, hX2, hF2⟩
theorem c_insS_0 (b : Nat → Int) (E : Nat) (cv : Nat → Int) (M : Nat) (tk : Int) (n : Nat) (P : SX → SX) (hP : RC b E cv M tk n (M_X4_readSum n) [] (sumB b E P)) (hO : ∀ t, oS (P t) = oS t) (σ : am_H) (s : SX) (hX : RX b E cv M tk σ s) (hn : oS s + (((n + 1) : Nat) : Int) = 6)   : am_met (M_X4_readSumsInside (n + 1)) [am_r 27, am_i 0] σ (fun r σ' => r = none ∧ RX b E cv M tk σ' (insB b E (some P) false s) ∧ frw W_ps σ σ') := by
  refine am_qq (fun Q hQ => ?_)
  refine am_enter (show plainFor yX4_readSumsInside = true by decide +kernel) rfl (Nat.le_of_ble_eq_true rfl) (fun _ _ _ => trivial) ?_
  have hn9 := hn
  refine am_aload_n (q := 1) rfl (am_tab tk_X4_readSumsInside 0 rfl) rfl ?_
  refine am_getI (q := 4) (a := 27) (k := 4) (n := 13) (j := 4) (x := (kdS b E s)) (Ls_27 hX.1.1) (by decide) rfl hX.kd (by decide) (Or.inl kf_X4_45) (am_tab tk_X4_readSumsInside 1 rfl) rfl ?_
  refine am_bipush (q := 6) (n := 40) (by decide) rfl (am_tab tk_X4_readSumsInside 2 rfl) rfl ?_
  refine am_icmp_eq (q := 9) (t := 21) (am_tab tk_X4_readSumsInside 3 rfl) (by decide) rfl (fun h6 => ?_) (fun h6 => ?_)
  · refine am_aload_n (q := 22) rfl (am_tab tk_X4_readSumsInside 10 rfl) rfl ?_
    refine am_callVr (q := 25) (me2 := M_X4_open) (b := 27) (kb := 4) (nb := 13) (As := []) (rest := []) (c_open1 hX (by omega) (by omega)) ⟨rfl, rfl⟩ (Ls_27 hX.1.1) (by decide) ⟨Or.inl km_X4_175, kc_X4_open, kn_X4, kd_X4_open, ⟨by show 1 + 1 ≤ 6 * (n + 1) + 2; omega, by show 8 + (1 + 11) + 120 ≤ 60 * (6 * (n + 1) + 3); omega⟩, ⟨(Nat.le_of_ble_eq_true rfl), (Nat.le_of_ble_eq_true rfl)⟩, (Nat.le_of_ble_eq_true rfl)⟩ ki_X4_open ks_X4_open rfl (am_tab tk_X4_readSumsInside 11 rfl) rfl ?_
    rintro r T1 ⟨rfl, hX1, hG1⟩
    have hF1 : frw W_ps σ T1 := (frw.refl W_ps σ).trans hG1
    refine am_if_eq (q := 28) (t := 88) (am_tab tk_X4_readSumsInside 12 rfl) (by decide) rfl (fun h25 => ?_) (fun h25 => ?_)
    · exact absurd h25 (by decide)
    · refine am_aload_n (q := 29) rfl (am_tab tk_X4_readSumsInside 13 rfl) rfl ?_
      refine am_callVr (q := 32) (me2 := (M_X4_readSum n)) (b := 27) (kb := 4) (nb := 13) (As := []) (rest := []) (hP T1 (ocS 1 (npS s)) hX1 (by rw [oS_oc, oS_np]; omega)) ⟨rfl, rfl⟩ (Ls_27 hX1.1.1) (by decide) ⟨Or.inl km_X4_78, kc_X4_readSum, kn_X4, kd_X4_readSum, ⟨by show 6 * n + 4 + 1 ≤ 6 * (n + 1) + 2; omega, by show 8 + (5 + 11) + 60 * (6 * n + 5) ≤ 60 * (6 * (n + 1) + 3); omega⟩, ⟨(Nat.le_of_ble_eq_true rfl), (Nat.le_of_ble_eq_true rfl)⟩, (Nat.le_of_ble_eq_true rfl)⟩ ki_X4_readSum ks_X4_readSum rfl (am_tab tk_X4_readSumsInside 14 rfl) rfl ?_
      rintro r T2 ⟨rfl, hX2, hG2⟩
      have hF2 : frw W_ps σ T2 := hF1.trans hG2
      refine am_iload_n (q := 33) rfl (am_tab tk_X4_readSumsInside 15 rfl) rfl ?_
      refine am_if_eq (q := 36) (t := 59) (am_tab tk_X4_readSumsInside 16 rfl) (by decide) rfl (fun h33 => ?_) (fun h33 => ?_)
      · refine am_aload_n (q := 60) rfl (am_tab tk_X4_readSumsInside 29 rfl) rfl ?_
        refine am_aload_n (q := 61) rfl (am_tab tk_X4_readSumsInside 30 rfl) rfl ?_
        refine am_getI (q := 64) (a := 27) (k := 4) (n := 13) (j := 4) (x := (kdS b E (sumB b E P (ocS 1 (npS s))))) (Ls_27 hX2.1.1) (by decide) rfl hX2.kd (by decide) (Or.inl kf_X4_45) (am_tab tk_X4_readSumsInside 31 rfl) rfl ?_
        refine am_bipush (q := 66) (n := 41) (by decide) rfl (am_tab tk_X4_readSumsInside 32 rfl) rfl ?_
        refine am_icmp_ne (q := 69) (t := 73) (am_tab tk_X4_readSumsInside 33 rfl) (by decide) rfl (fun h66 => ?_) (fun h66 => ?_)
        · refine am_iconst (q := 74) (n := 0) (by decide) (am_tab tk_X4_readSumsInside 36 rfl) rfl ?_
          refine am_iconst (q := 75) (n := 1) (by decide) (am_tab tk_X4_readSumsInside 37 rfl) rfl ?_
          refine am_callVr (q := 78) (me2 := M_X4_pass) (b := 27) (kb := 4) (nb := 13) (As := [am_i 0, am_i 1]) (rest := []) (c_passF hX2 1 (by decide)) ⟨rfl, rfl⟩ (Ls_27 hX2.1.1) (by decide) ⟨Or.inl km_X4_71, kc_X4_pass, kn_X4, kd_X4_pass, ⟨by show 0 + 1 ≤ 6 * (n + 1) + 2; omega, by show 8 + (5 + 11) + 60 ≤ 60 * (6 * (n + 1) + 3); omega⟩, ⟨(Nat.le_of_ble_eq_true rfl), (Nat.le_of_ble_eq_true rfl)⟩, (Nat.le_of_ble_eq_true rfl)⟩ ki_X4_pass ks_X4_pass rfl (am_tab tk_X4_readSumsInside 38 rfl) rfl ?_
          rintro r T3 ⟨rfl, hX3, hG3⟩
          have hF3 : frw W_ps σ T3 := hF2.trans hG3
          refine am_aload_n (q := 79) rfl (am_tab tk_X4_readSumsInside 39 rfl) rfl ?_
          have ho9 := hX3.op
          refine am_dup (q := 80) rfl (am_tab tk_X4_readSumsInside 40 rfl) rfl ?_
          refine am_getI (q := 83) (a := 27) (k := 4) (n := 13) (j := 7) (x := (T3.2.1 27 7)) (Ls_27 hX3.1.1) (by decide) rfl rfl (by decide) (Or.inl kf_X4_84) (am_tab tk_X4_readSumsInside 41 rfl) rfl ?_
          refine am_iconst (q := 84) (n := 1) (by decide) (am_tab tk_X4_readSumsInside 42 rfl) rfl ?_
          refine am_isub (q := 85) (by omega) (am_tab tk_X4_readSumsInside 43 rfl) rfl ?_
          refine am_putI (q := 88) (k := 4) (n := 13) (j := 7) (Ls_27 hX3.1.1) (by decide) rfl (by decide) (Or.inl ⟨kf_X4_84, rfl⟩) (am_tab tk_X4_readSumsInside 44 rfl) rfl ?_
          refine am_vret rfl (Nat.le_of_ble_eq_true rfl) (Nat.le_of_ble_eq_true rfl) (am_tab tk_X4_readSumsInside 45 rfl) ?_
          refine hQ _ _ ?_
          have e41 : psK b E 41 (sumB b E P (ocS 1 (npS s))) = ftS b E 1 (sumB b E P (ocS 1 (npS s))) := by unfold psK; rw [if_neg h66]
          have e9 : insB b E (some P) false s = ocS (-1) (ftS b E 1 (sumB b E P (ocS 1 (npS s)))) := by unfold insB; rw [if_pos h6]; show ocS (-1) (psK b E 41 (sumB b E P (ocS 1 (npS s)))) = _; rw [e41]
          rw [e9]
          exact ⟨rfl, hX3.cl (by rw [oS_ft, oS_sumB hO, oS_oc, oS_np]; have := hX.op; omega), hF3.setN (by unfold W_ps; omega)⟩
        · refine am_iconst (q := 70) (n := 1) (by decide) (am_tab tk_X4_readSumsInside 34 rfl) rfl ?_
          refine am_goto (t := 74) (am_tab tk_X4_readSumsInside 35 rfl) (by decide) ?_
          refine am_iconst (q := 75) (n := 1) (by decide) (am_tab tk_X4_readSumsInside 37 rfl) rfl ?_
          refine am_callVr (q := 78) (me2 := M_X4_pass) (b := 27) (kb := 4) (nb := 13) (As := [am_i 1, am_i 1]) (rest := []) (c_passT hX2 (by omega) 1) ⟨rfl, rfl⟩ (Ls_27 hX2.1.1) (by decide) ⟨Or.inl km_X4_71, kc_X4_pass, kn_X4, kd_X4_pass, ⟨by show 0 + 1 ≤ 6 * (n + 1) + 2; omega, by show 8 + (5 + 11) + 60 ≤ 60 * (6 * (n + 1) + 3); omega⟩, ⟨(Nat.le_of_ble_eq_true rfl), (Nat.le_of_ble_eq_true rfl)⟩, (Nat.le_of_ble_eq_true rfl)⟩ ki_X4_pass ks_X4_pass rfl (am_tab tk_X4_readSumsInside 38 rfl) rfl ?_
          rintro r T4 ⟨rfl, hX4, hG4⟩
          have hF4 : frw W_ps σ T4 := hF2.trans hG4
          refine am_aload_n (q := 79) rfl (am_tab tk_X4_readSumsInside 39 rfl) rfl ?_
          have ho9 := hX4.op
          refine am_dup (q := 80) rfl (am_tab tk_X4_readSumsInside 40 rfl) rfl ?_
          refine am_getI (q := 83) (a := 27) (k := 4) (n := 13) (j := 7) (x := (T4.2.1 27 7)) (Ls_27 hX4.1.1) (by decide) rfl rfl (by decide) (Or.inl kf_X4_84) (am_tab tk_X4_readSumsInside 41 rfl) rfl ?_
          refine am_iconst (q := 84) (n := 1) (by decide) (am_tab tk_X4_readSumsInside 42 rfl) rfl ?_
          refine am_isub (q := 85) (by omega) (am_tab tk_X4_readSumsInside 43 rfl) rfl ?_
          refine am_putI (q := 88) (k := 4) (n := 13) (j := 7) (Ls_27 hX4.1.1) (by decide) rfl (by decide) (Or.inl ⟨kf_X4_84, rfl⟩) (am_tab tk_X4_readSumsInside 44 rfl) rfl ?_
          refine am_vret rfl (Nat.le_of_ble_eq_true rfl) (Nat.le_of_ble_eq_true rfl) (am_tab tk_X4_readSumsInside 45 rfl) ?_
          refine hQ _ _ ?_
          have e41 : psK b E 41 (sumB b E P (ocS 1 (npS s))) = npS (sumB b E P (ocS 1 (npS s))) := by unfold psK; rw [if_pos h66]
          have e9 : insB b E (some P) false s = ocS (-1) (npS (sumB b E P (ocS 1 (npS s)))) := by unfold insB; rw [if_pos h6]; show ocS (-1) (psK b E 41 (sumB b E P (ocS 1 (npS s)))) = _; rw [e41]
          rw [e9]
          exact ⟨rfl, hX4.cl (by rw [oS_np, oS_sumB hO, oS_oc, oS_np]; have := hX.op; omega), hF4.setN (by unfold W_ps; omega)⟩
      · exact absurd h33 (by decide)
  · refine am_aload_n (q := 10) rfl (am_tab tk_X4_readSumsInside 4 rfl) rfl ?_
    refine am_iconst (q := 11) (n := 1) (by decide) (am_tab tk_X4_readSumsInside 5 rfl) rfl ?_
    refine am_aload_n (q := 12) rfl (am_tab tk_X4_readSumsInside 6 rfl) rfl ?_
    refine am_getI (q := 15) (a := 27) (k := 4) (n := 13) (j := 5) (x := (σ.2.1 27 5)) (Ls_27 hX.1.1) (by decide) rfl rfl (by decide) (Or.inl kf_X4_55) (am_tab tk_X4_readSumsInside 7 rfl) rfl ?_
    refine am_callVr (q := 18) (me2 := M_X4_fail) (b := 27) (kb := 4) (nb := 13) (As := [am_i 1, am_i ((σ.2.1 27 5))]) (rest := []) (c_failX hX 1 (σ.2.1 27 5) (by decide)) ⟨rfl, rfl⟩ (Ls_27 hX.1.1) (by decide) ⟨Or.inl km_X4_58, kc_X4_fail, kn_X4, kd_X4_fail, ⟨by show 0 + 1 ≤ 6 * (n + 1) + 2; omega, by show 8 + (3 + 11) + 60 ≤ 60 * (6 * (n + 1) + 3); omega⟩, ⟨(Nat.le_of_ble_eq_true rfl), (Nat.le_of_ble_eq_true rfl)⟩, (Nat.le_of_ble_eq_true rfl)⟩ ki_X4_fail ks_X4_fail rfl (am_tab tk_X4_readSumsInside 8 rfl) rfl ?_
    rintro r T5 ⟨rfl, hX5, hG5⟩
    have hF5 : frw W_ps σ T5 := (frw.refl W_ps σ).trans hG5
    rw [hX.sp 1] at hX5
    refine am_goto (t := 88) (am_tab tk_X4_readSumsInside 9 rfl) (by decide) ?_
    refine am_vret rfl (Nat.le_of_ble_eq_true rfl) (Nat.le_of_ble_eq_true rfl) (am_tab tk_X4_readSumsInside 45 rfl) ?_
    refine hQ _ _ ?_
    have e9 : insB b E (some P) false s = ftS b E 1 s := by unfold insB; rw [if_neg h6]
    rw [e9]
    exact ⟨rfl, hX5, hF5⟩
theorem c_ins0_1 (b : Nat → Int) (E : Nat) (cv : Nat → Int) (M : Nat) (tk : Int)  (σ : am_H) (s : SX) (hX : RX b E cv M tk σ s) (hn : oS s + (0 : Int) = 6)   : am_met (M_X4_readSumsInside 0) [am_r 27, am_i 1] σ (fun r σ' => r = none ∧ RX b E cv M tk σ' (insB b E none true s) ∧ frw W_ps σ σ') := by
  refine am_qq (fun Q hQ => ?_)
  refine am_enter (show plainFor yX4_readSumsInside = true by decide +kernel) rfl (Nat.le_of_ble_eq_true rfl) (fun _ _ _ => trivial) ?_
  have hn9 := hn
  refine am_aload_n (q := 1) rfl (am_tab tk_X4_readSumsInside 0 rfl) rfl ?_
  refine am_getI (q := 4) (a := 27) (k := 4) (n := 13) (j := 4) (x := (kdS b E s)) (Ls_27 hX.1.1) (by decide) rfl hX.kd (by decide) (Or.inl kf_X4_45) (am_tab tk_X4_readSumsInside 1 rfl) rfl ?_
  refine am_bipush (q := 6) (n := 40) (by decide) rfl (am_tab tk_X4_readSumsInside 2 rfl) rfl ?_
  refine am_icmp_eq (q := 9) (t := 21) (am_tab tk_X4_readSumsInside 3 rfl) (by decide) rfl (fun h6 => ?_) (fun h6 => ?_)
  · refine am_aload_n (q := 22) rfl (am_tab tk_X4_readSumsInside 10 rfl) rfl ?_
    refine am_callVr (q := 25) (me2 := M_X4_open) (b := 27) (kb := 4) (nb := 13) (As := []) (rest := []) (c_open0 hX (by omega) (by omega)) ⟨rfl, rfl⟩ (Ls_27 hX.1.1) (by decide) ⟨Or.inl km_X4_175, kc_X4_open, kn_X4, kd_X4_open, ⟨by show 1 + 1 ≤ 6 * 0 + 2; omega, by show 8 + (1 + 11) + 120 ≤ 60 * (6 * 0 + 3); omega⟩, ⟨(Nat.le_of_ble_eq_true rfl), (Nat.le_of_ble_eq_true rfl)⟩, (Nat.le_of_ble_eq_true rfl)⟩ ki_X4_open ks_X4_open rfl (am_tab tk_X4_readSumsInside 11 rfl) rfl ?_
    rintro r T1 ⟨rfl, hX1, hG1⟩
    have hF1 : frw W_ps σ T1 := (frw.refl W_ps σ).trans hG1
    refine am_if_eq (q := 28) (t := 88) (am_tab tk_X4_readSumsInside 12 rfl) (by decide) rfl (fun h25 => ?_) (fun h25 => ?_)
    · refine am_vret rfl (Nat.le_of_ble_eq_true rfl) (Nat.le_of_ble_eq_true rfl) (am_tab tk_X4_readSumsInside 45 rfl) ?_
      refine hQ _ _ ?_
      have e9 : insB b E none true s = ftS b E 4 s := by unfold insB; rw [if_pos h6]
      rw [e9]
      exact ⟨rfl, hX1, hF1⟩
    · exact absurd rfl h25
  · refine am_aload_n (q := 10) rfl (am_tab tk_X4_readSumsInside 4 rfl) rfl ?_
    refine am_iconst (q := 11) (n := 1) (by decide) (am_tab tk_X4_readSumsInside 5 rfl) rfl ?_
    refine am_aload_n (q := 12) rfl (am_tab tk_X4_readSumsInside 6 rfl) rfl ?_
    refine am_getI (q := 15) (a := 27) (k := 4) (n := 13) (j := 5) (x := (σ.2.1 27 5)) (Ls_27 hX.1.1) (by decide) rfl rfl (by decide) (Or.inl kf_X4_55) (am_tab tk_X4_readSumsInside 7 rfl) rfl ?_
    refine am_callVr (q := 18) (me2 := M_X4_fail) (b := 27) (kb := 4) (nb := 13) (As := [am_i 1, am_i ((σ.2.1 27 5))]) (rest := []) (c_failX hX 1 (σ.2.1 27 5) (by decide)) ⟨rfl, rfl⟩ (Ls_27 hX.1.1) (by decide) ⟨Or.inl km_X4_58, kc_X4_fail, kn_X4, kd_X4_fail, ⟨by show 0 + 1 ≤ 6 * 0 + 2; omega, by show 8 + (3 + 11) + 60 ≤ 60 * (6 * 0 + 3); omega⟩, ⟨(Nat.le_of_ble_eq_true rfl), (Nat.le_of_ble_eq_true rfl)⟩, (Nat.le_of_ble_eq_true rfl)⟩ ki_X4_fail ks_X4_fail rfl (am_tab tk_X4_readSumsInside 8 rfl) rfl ?_
    rintro r T2 ⟨rfl, hX2, hG2⟩
    have hF2 : frw W_ps σ T2 := (frw.refl W_ps σ).trans hG2
    rw [hX.sp 1] at hX2
    refine am_goto (t := 88) (am_tab tk_X4_readSumsInside 9 rfl) (by decide) ?_
    refine am_vret rfl (Nat.le_of_ble_eq_true rfl) (Nat.le_of_ble_eq_true rfl) (am_tab tk_X4_readSumsInside 45 rfl) ?_
    refine hQ _ _ ?_
    have e9 : insB b E none true s = ftS b E 1 s := by unfold insB; rw [if_neg h6]
    rw [e9]
    exact ⟨rfl, hX2, hF2⟩
theorem c_insS_1 (b : Nat → Int) (E : Nat) (cv : Nat → Int) (M : Nat) (tk : Int) (n : Nat) (P : SX → SX) (hP : RC b E cv M tk n (M_X4_readSum n) [] (sumB b E P)) (hO : ∀ t, oS (P t) = oS t) (σ : am_H) (s : SX) (hX : RX b E cv M tk σ s) (hn : oS s + (((n + 1) : Nat) : Int) = 6)   : am_met (M_X4_readSumsInside (n + 1)) [am_r 27, am_i 1] σ (fun r σ' => r = none ∧ RX b E cv M tk σ' (insB b E (some P) true s) ∧ frw W_ps σ σ') := by
  refine am_qq (fun Q hQ => ?_)
  refine am_enter (show plainFor yX4_readSumsInside = true by decide +kernel) rfl (Nat.le_of_ble_eq_true rfl) (fun _ _ _ => trivial) ?_
  have hn9 := hn
  refine am_aload_n (q := 1) rfl (am_tab tk_X4_readSumsInside 0 rfl) rfl ?_
  refine am_getI (q := 4) (a := 27) (k := 4) (n := 13) (j := 4) (x := (kdS b E s)) (Ls_27 hX.1.1) (by decide) rfl hX.kd (by decide) (Or.inl kf_X4_45) (am_tab tk_X4_readSumsInside 1 rfl) rfl ?_
  refine am_bipush (q := 6) (n := 40) (by decide) rfl (am_tab tk_X4_readSumsInside 2 rfl) rfl ?_
  refine am_icmp_eq (q := 9) (t := 21) (am_tab tk_X4_readSumsInside 3 rfl) (by decide) rfl (fun h6 => ?_) (fun h6 => ?_)
  · refine am_aload_n (q := 22) rfl (am_tab tk_X4_readSumsInside 10 rfl) rfl ?_
    refine am_callVr (q := 25) (me2 := M_X4_open) (b := 27) (kb := 4) (nb := 13) (As := []) (rest := []) (c_open1 hX (by omega) (by omega)) ⟨rfl, rfl⟩ (Ls_27 hX.1.1) (by decide) ⟨Or.inl km_X4_175, kc_X4_open, kn_X4, kd_X4_open, ⟨by show 1 + 1 ≤ 6 * (n + 1) + 2; omega, by show 8 + (1 + 11) + 120 ≤ 60 * (6 * (n + 1) + 3); omega⟩, ⟨(Nat.le_of_ble_eq_true rfl), (Nat.le_of_ble_eq_true rfl)⟩, (Nat.le_of_ble_eq_true rfl)⟩ ki_X4_open ks_X4_open rfl (am_tab tk_X4_readSumsInside 11 rfl) rfl ?_
    rintro r T1 ⟨rfl, hX1, hG1⟩
    have hF1 : frw W_ps σ T1 := (frw.refl W_ps σ).trans hG1
    refine am_if_eq (q := 28) (t := 88) (am_tab tk_X4_readSumsInside 12 rfl) (by decide) rfl (fun h25 => ?_) (fun h25 => ?_)
    · exact absurd h25 (by decide)
    · refine am_aload_n (q := 29) rfl (am_tab tk_X4_readSumsInside 13 rfl) rfl ?_
      refine am_callVr (q := 32) (me2 := (M_X4_readSum n)) (b := 27) (kb := 4) (nb := 13) (As := []) (rest := []) (hP T1 (ocS 1 (npS s)) hX1 (by rw [oS_oc, oS_np]; omega)) ⟨rfl, rfl⟩ (Ls_27 hX1.1.1) (by decide) ⟨Or.inl km_X4_78, kc_X4_readSum, kn_X4, kd_X4_readSum, ⟨by show 6 * n + 4 + 1 ≤ 6 * (n + 1) + 2; omega, by show 8 + (5 + 11) + 60 * (6 * n + 5) ≤ 60 * (6 * (n + 1) + 3); omega⟩, ⟨(Nat.le_of_ble_eq_true rfl), (Nat.le_of_ble_eq_true rfl)⟩, (Nat.le_of_ble_eq_true rfl)⟩ ki_X4_readSum ks_X4_readSum rfl (am_tab tk_X4_readSumsInside 14 rfl) rfl ?_
      rintro r T2 ⟨rfl, hX2, hG2⟩
      have hF2 : frw W_ps σ T2 := hF1.trans hG2
      refine am_iload_n (q := 33) rfl (am_tab tk_X4_readSumsInside 15 rfl) rfl ?_
      refine am_if_eq (q := 36) (t := 59) (am_tab tk_X4_readSumsInside 16 rfl) (by decide) rfl (fun h33 => ?_) (fun h33 => ?_)
      · exact absurd h33 (by decide)
      · refine am_aload_n (q := 37) rfl (am_tab tk_X4_readSumsInside 17 rfl) rfl ?_
        refine am_aload_n (q := 38) rfl (am_tab tk_X4_readSumsInside 18 rfl) rfl ?_
        refine am_getI (q := 41) (a := 27) (k := 4) (n := 13) (j := 4) (x := (kdS b E (sumB b E P (ocS 1 (npS s))))) (Ls_27 hX2.1.1) (by decide) rfl hX2.kd (by decide) (Or.inl kf_X4_45) (am_tab tk_X4_readSumsInside 19 rfl) rfl ?_
        refine am_bipush (q := 43) (n := 44) (by decide) rfl (am_tab tk_X4_readSumsInside 20 rfl) rfl ?_
        refine am_icmp_ne (q := 46) (t := 50) (am_tab tk_X4_readSumsInside 21 rfl) (by decide) rfl (fun h43 => ?_) (fun h43 => ?_)
        · refine am_iconst (q := 51) (n := 0) (by decide) (am_tab tk_X4_readSumsInside 24 rfl) rfl ?_
          refine am_iconst (q := 52) (n := 1) (by decide) (am_tab tk_X4_readSumsInside 25 rfl) rfl ?_
          refine am_callVr (q := 55) (me2 := M_X4_pass) (b := 27) (kb := 4) (nb := 13) (As := [am_i 0, am_i 1]) (rest := []) (c_passF hX2 1 (by decide)) ⟨rfl, rfl⟩ (Ls_27 hX2.1.1) (by decide) ⟨Or.inl km_X4_71, kc_X4_pass, kn_X4, kd_X4_pass, ⟨by show 0 + 1 ≤ 6 * (n + 1) + 2; omega, by show 8 + (5 + 11) + 60 ≤ 60 * (6 * (n + 1) + 3); omega⟩, ⟨(Nat.le_of_ble_eq_true rfl), (Nat.le_of_ble_eq_true rfl)⟩, (Nat.le_of_ble_eq_true rfl)⟩ ki_X4_pass ks_X4_pass rfl (am_tab tk_X4_readSumsInside 26 rfl) rfl ?_
          rintro r T3 ⟨rfl, hX3, hG3⟩
          have hF3 : frw W_ps σ T3 := hF2.trans hG3
          refine am_aload_n (q := 56) rfl (am_tab tk_X4_readSumsInside 27 rfl) rfl ?_
          refine am_callVr (q := 59) (me2 := (M_X4_readSum n)) (b := 27) (kb := 4) (nb := 13) (As := []) (rest := []) (hP T3 (ftS b E 1 (sumB b E P (ocS 1 (npS s)))) hX3 (by rw [oS_ft, oS_sumB hO, oS_oc, oS_np]; omega)) ⟨rfl, rfl⟩ (Ls_27 hX3.1.1) (by decide) ⟨Or.inl km_X4_78, kc_X4_readSum, kn_X4, kd_X4_readSum, ⟨by show 6 * n + 4 + 1 ≤ 6 * (n + 1) + 2; omega, by show 8 + (5 + 11) + 60 * (6 * n + 5) ≤ 60 * (6 * (n + 1) + 3); omega⟩, ⟨(Nat.le_of_ble_eq_true rfl), (Nat.le_of_ble_eq_true rfl)⟩, (Nat.le_of_ble_eq_true rfl)⟩ ki_X4_readSum ks_X4_readSum rfl (am_tab tk_X4_readSumsInside 28 rfl) rfl ?_
          rintro r T4 ⟨rfl, hX4, hG4⟩
          have hF4 : frw W_ps σ T4 := hF3.trans hG4
          refine am_aload_n (q := 60) rfl (am_tab tk_X4_readSumsInside 29 rfl) rfl ?_
          refine am_aload_n (q := 61) rfl (am_tab tk_X4_readSumsInside 30 rfl) rfl ?_
          refine am_getI (q := 64) (a := 27) (k := 4) (n := 13) (j := 4) (x := (kdS b E (sumB b E P (ftS b E 1 (sumB b E P (ocS 1 (npS s))))))) (Ls_27 hX4.1.1) (by decide) rfl hX4.kd (by decide) (Or.inl kf_X4_45) (am_tab tk_X4_readSumsInside 31 rfl) rfl ?_
          refine am_bipush (q := 66) (n := 41) (by decide) rfl (am_tab tk_X4_readSumsInside 32 rfl) rfl ?_
          refine am_icmp_ne (q := 69) (t := 73) (am_tab tk_X4_readSumsInside 33 rfl) (by decide) rfl (fun h66 => ?_) (fun h66 => ?_)
          · refine am_iconst (q := 74) (n := 0) (by decide) (am_tab tk_X4_readSumsInside 36 rfl) rfl ?_
            refine am_iconst (q := 75) (n := 1) (by decide) (am_tab tk_X4_readSumsInside 37 rfl) rfl ?_
            refine am_callVr (q := 78) (me2 := M_X4_pass) (b := 27) (kb := 4) (nb := 13) (As := [am_i 0, am_i 1]) (rest := []) (c_passF hX4 1 (by decide)) ⟨rfl, rfl⟩ (Ls_27 hX4.1.1) (by decide) ⟨Or.inl km_X4_71, kc_X4_pass, kn_X4, kd_X4_pass, ⟨by show 0 + 1 ≤ 6 * (n + 1) + 2; omega, by show 8 + (5 + 11) + 60 ≤ 60 * (6 * (n + 1) + 3); omega⟩, ⟨(Nat.le_of_ble_eq_true rfl), (Nat.le_of_ble_eq_true rfl)⟩, (Nat.le_of_ble_eq_true rfl)⟩ ki_X4_pass ks_X4_pass rfl (am_tab tk_X4_readSumsInside 38 rfl) rfl ?_
            rintro r T5 ⟨rfl, hX5, hG5⟩
            have hF5 : frw W_ps σ T5 := hF4.trans hG5
            refine am_aload_n (q := 79) rfl (am_tab tk_X4_readSumsInside 39 rfl) rfl ?_
            have ho9 := hX5.op
            refine am_dup (q := 80) rfl (am_tab tk_X4_readSumsInside 40 rfl) rfl ?_
            refine am_getI (q := 83) (a := 27) (k := 4) (n := 13) (j := 7) (x := (T5.2.1 27 7)) (Ls_27 hX5.1.1) (by decide) rfl rfl (by decide) (Or.inl kf_X4_84) (am_tab tk_X4_readSumsInside 41 rfl) rfl ?_
            refine am_iconst (q := 84) (n := 1) (by decide) (am_tab tk_X4_readSumsInside 42 rfl) rfl ?_
            refine am_isub (q := 85) (by omega) (am_tab tk_X4_readSumsInside 43 rfl) rfl ?_
            refine am_putI (q := 88) (k := 4) (n := 13) (j := 7) (Ls_27 hX5.1.1) (by decide) rfl (by decide) (Or.inl ⟨kf_X4_84, rfl⟩) (am_tab tk_X4_readSumsInside 44 rfl) rfl ?_
            refine am_vret rfl (Nat.le_of_ble_eq_true rfl) (Nat.le_of_ble_eq_true rfl) (am_tab tk_X4_readSumsInside 45 rfl) ?_
            refine hQ _ _ ?_
            have e44 : psK b E 44 (sumB b E P (ocS 1 (npS s))) = ftS b E 1 (sumB b E P (ocS 1 (npS s))) := by unfold psK; rw [if_neg h43]
            have e41 : psK b E 41 (sumB b E P (ftS b E 1 (sumB b E P (ocS 1 (npS s))))) = ftS b E 1 (sumB b E P (ftS b E 1 (sumB b E P (ocS 1 (npS s))))) := by unfold psK; rw [if_neg h66]
            have e9 : insB b E (some P) true s = ocS (-1) (ftS b E 1 (sumB b E P (ftS b E 1 (sumB b E P (ocS 1 (npS s)))))) := by unfold insB; rw [if_pos h6]; show ocS (-1) (psK b E 41 (sumB b E P (psK b E 44 (sumB b E P (ocS 1 (npS s)))))) = _; rw [e44, e41]
            rw [e9]
            exact ⟨rfl, hX5.cl (by rw [oS_ft, oS_sumB hO, oS_ft, oS_sumB hO, oS_oc, oS_np]; have := hX.op; omega), hF5.setN (by unfold W_ps; omega)⟩
          · refine am_iconst (q := 70) (n := 1) (by decide) (am_tab tk_X4_readSumsInside 34 rfl) rfl ?_
            refine am_goto (t := 74) (am_tab tk_X4_readSumsInside 35 rfl) (by decide) ?_
            refine am_iconst (q := 75) (n := 1) (by decide) (am_tab tk_X4_readSumsInside 37 rfl) rfl ?_
            refine am_callVr (q := 78) (me2 := M_X4_pass) (b := 27) (kb := 4) (nb := 13) (As := [am_i 1, am_i 1]) (rest := []) (c_passT hX4 (by omega) 1) ⟨rfl, rfl⟩ (Ls_27 hX4.1.1) (by decide) ⟨Or.inl km_X4_71, kc_X4_pass, kn_X4, kd_X4_pass, ⟨by show 0 + 1 ≤ 6 * (n + 1) + 2; omega, by show 8 + (5 + 11) + 60 ≤ 60 * (6 * (n + 1) + 3); omega⟩, ⟨(Nat.le_of_ble_eq_true rfl), (Nat.le_of_ble_eq_true rfl)⟩, (Nat.le_of_ble_eq_true rfl)⟩ ki_X4_pass ks_X4_pass rfl (am_tab tk_X4_readSumsInside 38 rfl) rfl ?_
            rintro r T6 ⟨rfl, hX6, hG6⟩
            have hF6 : frw W_ps σ T6 := hF4.trans hG6
            refine am_aload_n (q := 79) rfl (am_tab tk_X4_readSumsInside 39 rfl) rfl ?_
            have ho9 := hX6.op
            refine am_dup (q := 80) rfl (am_tab tk_X4_readSumsInside 40 rfl) rfl ?_
            refine am_getI (q := 83) (a := 27) (k := 4) (n := 13) (j := 7) (x := (T6.2.1 27 7)) (Ls_27 hX6.1.1) (by decide) rfl rfl (by decide) (Or.inl kf_X4_84) (am_tab tk_X4_readSumsInside 41 rfl) rfl ?_
            refine am_iconst (q := 84) (n := 1) (by decide) (am_tab tk_X4_readSumsInside 42 rfl) rfl ?_
            refine am_isub (q := 85) (by omega) (am_tab tk_X4_readSumsInside 43 rfl) rfl ?_
            refine am_putI (q := 88) (k := 4) (n := 13) (j := 7) (Ls_27 hX6.1.1) (by decide) rfl (by decide) (Or.inl ⟨kf_X4_84, rfl⟩) (am_tab tk_X4_readSumsInside 44 rfl) rfl ?_
            refine am_vret rfl (Nat.le_of_ble_eq_true rfl) (Nat.le_of_ble_eq_true rfl) (am_tab tk_X4_readSumsInside 45 rfl) ?_
            refine hQ _ _ ?_
            have e44 : psK b E 44 (sumB b E P (ocS 1 (npS s))) = ftS b E 1 (sumB b E P (ocS 1 (npS s))) := by unfold psK; rw [if_neg h43]
            have e41 : psK b E 41 (sumB b E P (ftS b E 1 (sumB b E P (ocS 1 (npS s))))) = npS (sumB b E P (ftS b E 1 (sumB b E P (ocS 1 (npS s))))) := by unfold psK; rw [if_pos h66]
            have e9 : insB b E (some P) true s = ocS (-1) (npS (sumB b E P (ftS b E 1 (sumB b E P (ocS 1 (npS s)))))) := by unfold insB; rw [if_pos h6]; show ocS (-1) (psK b E 41 (sumB b E P (psK b E 44 (sumB b E P (ocS 1 (npS s)))))) = _; rw [e44, e41]
            rw [e9]
            exact ⟨rfl, hX6.cl (by rw [oS_np, oS_sumB hO, oS_ft, oS_sumB hO, oS_oc, oS_np]; have := hX.op; omega), hF6.setN (by unfold W_ps; omega)⟩
        · refine am_iconst (q := 47) (n := 1) (by decide) (am_tab tk_X4_readSumsInside 22 rfl) rfl ?_
          refine am_goto (t := 51) (am_tab tk_X4_readSumsInside 23 rfl) (by decide) ?_
          refine am_iconst (q := 52) (n := 1) (by decide) (am_tab tk_X4_readSumsInside 25 rfl) rfl ?_
          refine am_callVr (q := 55) (me2 := M_X4_pass) (b := 27) (kb := 4) (nb := 13) (As := [am_i 1, am_i 1]) (rest := []) (c_passT hX2 (by omega) 1) ⟨rfl, rfl⟩ (Ls_27 hX2.1.1) (by decide) ⟨Or.inl km_X4_71, kc_X4_pass, kn_X4, kd_X4_pass, ⟨by show 0 + 1 ≤ 6 * (n + 1) + 2; omega, by show 8 + (5 + 11) + 60 ≤ 60 * (6 * (n + 1) + 3); omega⟩, ⟨(Nat.le_of_ble_eq_true rfl), (Nat.le_of_ble_eq_true rfl)⟩, (Nat.le_of_ble_eq_true rfl)⟩ ki_X4_pass ks_X4_pass rfl (am_tab tk_X4_readSumsInside 26 rfl) rfl ?_
          rintro r T7 ⟨rfl, hX7, hG7⟩
          have hF7 : frw W_ps σ T7 := hF2.trans hG7
          refine am_aload_n (q := 56) rfl (am_tab tk_X4_readSumsInside 27 rfl) rfl ?_
          refine am_callVr (q := 59) (me2 := (M_X4_readSum n)) (b := 27) (kb := 4) (nb := 13) (As := []) (rest := []) (hP T7 (npS (sumB b E P (ocS 1 (npS s)))) hX7 (by rw [oS_np, oS_sumB hO, oS_oc, oS_np]; omega)) ⟨rfl, rfl⟩ (Ls_27 hX7.1.1) (by decide) ⟨Or.inl km_X4_78, kc_X4_readSum, kn_X4, kd_X4_readSum, ⟨by show 6 * n + 4 + 1 ≤ 6 * (n + 1) + 2; omega, by show 8 + (5 + 11) + 60 * (6 * n + 5) ≤ 60 * (6 * (n + 1) + 3); omega⟩, ⟨(Nat.le_of_ble_eq_true rfl), (Nat.le_of_ble_eq_true rfl)⟩, (Nat.le_of_ble_eq_true rfl)⟩ ki_X4_readSum ks_X4_readSum rfl (am_tab tk_X4_readSumsInside 28 rfl) rfl ?_
          rintro r T8 ⟨rfl, hX8, hG8⟩
          have hF8 : frw W_ps σ T8 := hF7.trans hG8
          refine am_aload_n (q := 60) rfl (am_tab tk_X4_readSumsInside 29 rfl) rfl ?_
          refine am_aload_n (q := 61) rfl (am_tab tk_X4_readSumsInside 30 rfl) rfl ?_
          refine am_getI (q := 64) (a := 27) (k := 4) (n := 13) (j := 4) (x := (kdS b E (sumB b E P (npS (sumB b E P (ocS 1 (npS s))))))) (Ls_27 hX8.1.1) (by decide) rfl hX8.kd (by decide) (Or.inl kf_X4_45) (am_tab tk_X4_readSumsInside 31 rfl) rfl ?_
          refine am_bipush (q := 66) (n := 41) (by decide) rfl (am_tab tk_X4_readSumsInside 32 rfl) rfl ?_
          refine am_icmp_ne (q := 69) (t := 73) (am_tab tk_X4_readSumsInside 33 rfl) (by decide) rfl (fun h66 => ?_) (fun h66 => ?_)
          · refine am_iconst (q := 74) (n := 0) (by decide) (am_tab tk_X4_readSumsInside 36 rfl) rfl ?_
            refine am_iconst (q := 75) (n := 1) (by decide) (am_tab tk_X4_readSumsInside 37 rfl) rfl ?_
            refine am_callVr (q := 78) (me2 := M_X4_pass) (b := 27) (kb := 4) (nb := 13) (As := [am_i 0, am_i 1]) (rest := []) (c_passF hX8 1 (by decide)) ⟨rfl, rfl⟩ (Ls_27 hX8.1.1) (by decide) ⟨Or.inl km_X4_71, kc_X4_pass, kn_X4, kd_X4_pass, ⟨by show 0 + 1 ≤ 6 * (n + 1) + 2; omega, by show 8 + (5 + 11) + 60 ≤ 60 * (6 * (n + 1) + 3); omega⟩, ⟨(Nat.le_of_ble_eq_true rfl), (Nat.le_of_ble_eq_true rfl)⟩, (Nat.le_of_ble_eq_true rfl)⟩ ki_X4_pass ks_X4_pass rfl (am_tab tk_X4_readSumsInside 38 rfl) rfl ?_
            rintro r T9 ⟨rfl, hX9, hG9⟩
            have hF9 : frw W_ps σ T9 := hF8.trans hG9
            refine am_aload_n (q := 79) rfl (am_tab tk_X4_readSumsInside 39 rfl) rfl ?_
            have ho9 := hX9.op
            refine am_dup (q := 80) rfl (am_tab tk_X4_readSumsInside 40 rfl) rfl ?_
            refine am_getI (q := 83) (a := 27) (k := 4) (n := 13) (j := 7) (x := (T9.2.1 27 7)) (Ls_27 hX9.1.1) (by decide) rfl rfl (by decide) (Or.inl kf_X4_84) (am_tab tk_X4_readSumsInside 41 rfl) rfl ?_
            refine am_iconst (q := 84) (n := 1) (by decide) (am_tab tk_X4_readSumsInside 42 rfl) rfl ?_
            refine am_isub (q := 85) (by omega) (am_tab tk_X4_readSumsInside 43 rfl) rfl ?_
            refine am_putI (q := 88) (k := 4) (n := 13) (j := 7) (Ls_27 hX9.1.1) (by decide) rfl (by decide) (Or.inl ⟨kf_X4_84, rfl⟩) (am_tab tk_X4_readSumsInside 44 rfl) rfl ?_
            refine am_vret rfl (Nat.le_of_ble_eq_true rfl) (Nat.le_of_ble_eq_true rfl) (am_tab tk_X4_readSumsInside 45 rfl) ?_
            refine hQ _ _ ?_
            have e44 : psK b E 44 (sumB b E P (ocS 1 (npS s))) = npS (sumB b E P (ocS 1 (npS s))) := by unfold psK; rw [if_pos h43]
            have e41 : psK b E 41 (sumB b E P (npS (sumB b E P (ocS 1 (npS s))))) = ftS b E 1 (sumB b E P (npS (sumB b E P (ocS 1 (npS s))))) := by unfold psK; rw [if_neg h66]
            have e9 : insB b E (some P) true s = ocS (-1) (ftS b E 1 (sumB b E P (npS (sumB b E P (ocS 1 (npS s)))))) := by unfold insB; rw [if_pos h6]; show ocS (-1) (psK b E 41 (sumB b E P (psK b E 44 (sumB b E P (ocS 1 (npS s)))))) = _; rw [e44, e41]
            rw [e9]
            exact ⟨rfl, hX9.cl (by rw [oS_ft, oS_sumB hO, oS_np, oS_sumB hO, oS_oc, oS_np]; have := hX.op; omega), hF9.setN (by unfold W_ps; omega)⟩
          · refine am_iconst (q := 70) (n := 1) (by decide) (am_tab tk_X4_readSumsInside 34 rfl) rfl ?_
            refine am_goto (t := 74) (am_tab tk_X4_readSumsInside 35 rfl) (by decide) ?_
            refine am_iconst (q := 75) (n := 1) (by decide) (am_tab tk_X4_readSumsInside 37 rfl) rfl ?_
            refine am_callVr (q := 78) (me2 := M_X4_pass) (b := 27) (kb := 4) (nb := 13) (As := [am_i 1, am_i 1]) (rest := []) (c_passT hX8 (by omega) 1) ⟨rfl, rfl⟩ (Ls_27 hX8.1.1) (by decide) ⟨Or.inl km_X4_71, kc_X4_pass, kn_X4, kd_X4_pass, ⟨by show 0 + 1 ≤ 6 * (n + 1) + 2; omega, by show 8 + (5 + 11) + 60 ≤ 60 * (6 * (n + 1) + 3); omega⟩, ⟨(Nat.le_of_ble_eq_true rfl), (Nat.le_of_ble_eq_true rfl)⟩, (Nat.le_of_ble_eq_true rfl)⟩ ki_X4_pass ks_X4_pass rfl (am_tab tk_X4_readSumsInside 38 rfl) rfl ?_
            rintro r T10 ⟨rfl, hX10, hG10⟩
            have hF10 : frw W_ps σ T10 := hF8.trans hG10
            refine am_aload_n (q := 79) rfl (am_tab tk_X4_readSumsInside 39 rfl) rfl ?_
            have ho9 := hX10.op
            refine am_dup (q := 80) rfl (am_tab tk_X4_readSumsInside 40 rfl) rfl ?_
            refine am_getI (q := 83) (a := 27) (k := 4) (n := 13) (j := 7) (x := (T10.2.1 27 7)) (Ls_27 hX10.1.1) (by decide) rfl rfl (by decide) (Or.inl kf_X4_84) (am_tab tk_X4_readSumsInside 41 rfl) rfl ?_
            refine am_iconst (q := 84) (n := 1) (by decide) (am_tab tk_X4_readSumsInside 42 rfl) rfl ?_
            refine am_isub (q := 85) (by omega) (am_tab tk_X4_readSumsInside 43 rfl) rfl ?_
            refine am_putI (q := 88) (k := 4) (n := 13) (j := 7) (Ls_27 hX10.1.1) (by decide) rfl (by decide) (Or.inl ⟨kf_X4_84, rfl⟩) (am_tab tk_X4_readSumsInside 44 rfl) rfl ?_
            refine am_vret rfl (Nat.le_of_ble_eq_true rfl) (Nat.le_of_ble_eq_true rfl) (am_tab tk_X4_readSumsInside 45 rfl) ?_
            refine hQ _ _ ?_
            have e44 : psK b E 44 (sumB b E P (ocS 1 (npS s))) = npS (sumB b E P (ocS 1 (npS s))) := by unfold psK; rw [if_pos h43]
            have e41 : psK b E 41 (sumB b E P (npS (sumB b E P (ocS 1 (npS s))))) = npS (sumB b E P (npS (sumB b E P (ocS 1 (npS s))))) := by unfold psK; rw [if_pos h66]
            have e9 : insB b E (some P) true s = ocS (-1) (npS (sumB b E P (npS (sumB b E P (ocS 1 (npS s)))))) := by unfold insB; rw [if_pos h6]; show ocS (-1) (psK b E 41 (sumB b E P (psK b E 44 (sumB b E P (ocS 1 (npS s)))))) = _; rw [e44, e41]
            rw [e9]
            exact ⟨rfl, hX10.cl (by rw [oS_np, oS_sumB hO, oS_np, oS_sumB hO, oS_oc, oS_np]; have := hX.op; omega), hF10.setN (by unfold W_ps; omega)⟩
  · refine am_aload_n (q := 10) rfl (am_tab tk_X4_readSumsInside 4 rfl) rfl ?_
    refine am_iconst (q := 11) (n := 1) (by decide) (am_tab tk_X4_readSumsInside 5 rfl) rfl ?_
    refine am_aload_n (q := 12) rfl (am_tab tk_X4_readSumsInside 6 rfl) rfl ?_
    refine am_getI (q := 15) (a := 27) (k := 4) (n := 13) (j := 5) (x := (σ.2.1 27 5)) (Ls_27 hX.1.1) (by decide) rfl rfl (by decide) (Or.inl kf_X4_55) (am_tab tk_X4_readSumsInside 7 rfl) rfl ?_
    refine am_callVr (q := 18) (me2 := M_X4_fail) (b := 27) (kb := 4) (nb := 13) (As := [am_i 1, am_i ((σ.2.1 27 5))]) (rest := []) (c_failX hX 1 (σ.2.1 27 5) (by decide)) ⟨rfl, rfl⟩ (Ls_27 hX.1.1) (by decide) ⟨Or.inl km_X4_58, kc_X4_fail, kn_X4, kd_X4_fail, ⟨by show 0 + 1 ≤ 6 * (n + 1) + 2; omega, by show 8 + (3 + 11) + 60 ≤ 60 * (6 * (n + 1) + 3); omega⟩, ⟨(Nat.le_of_ble_eq_true rfl), (Nat.le_of_ble_eq_true rfl)⟩, (Nat.le_of_ble_eq_true rfl)⟩ ki_X4_fail ks_X4_fail rfl (am_tab tk_X4_readSumsInside 8 rfl) rfl ?_
    rintro r T11 ⟨rfl, hX11, hG11⟩
    have hF11 : frw W_ps σ T11 := (frw.refl W_ps σ).trans hG11
    rw [hX.sp 1] at hX11
    refine am_goto (t := 88) (am_tab tk_X4_readSumsInside 9 rfl) (by decide) ?_
    refine am_vret rfl (Nat.le_of_ble_eq_true rfl) (Nat.le_of_ble_eq_true rfl) (am_tab tk_X4_readSumsInside 45 rfl) ?_
    refine hQ _ _ ?_
    have e9 : insB b E (some P) true s = ftS b E 1 s := by unfold insB; rw [if_neg h6]
    rw [e9]
    exact ⟨rfl, hX11, hF11⟩
