theorem c_fail0 (σ : am_H) (hL : lay σ) (k : Int) (pl : Int) (hb : σ.2.1 55 5 = 0) : am_met M_X10_fail [am_r 55, am_i k, am_i pl] σ (fun r σ' => r = none ∧ σ' = am_setN (am_setN σ 55 5 k) 55 6 pl) := by
  refine am_qq (fun Q hQ => ?_)
  refine am_enter (show plainFor yX10_fail = true by decide +kernel) rfl (Nat.le_of_ble_eq_true rfl) (fun _ _ _ => trivial) ?_
  refine am_aload_n (q := 1) rfl (am_tab tk_X10_fail 0 rfl) rfl ?_
  refine am_getI (q := 4) (a := 55) (k := 10) (n := 108) (j := 5) (x := (σ.2.1 55 5)) (Ls_55 hL) (by decide) rfl rfl (by decide) (Or.inl kf_X10_248) (am_tab tk_X10_fail 1 rfl) rfl ?_
  refine am_if_eq (q := 7) (t := 8) (am_tab tk_X10_fail 2 rfl) (by decide) rfl (fun h4 => ?_) (fun h4 => ?_)
  · refine am_aload_n (q := 9) rfl (am_tab tk_X10_fail 4 rfl) rfl ?_
    refine am_iload_n (q := 10) rfl (am_tab tk_X10_fail 5 rfl) rfl ?_
    refine am_putI (q := 13) (k := 10) (n := 108) (j := 5) (Ls_55 hL) (by decide) rfl (by decide) (Or.inl ⟨kf_X10_248, rfl⟩) (am_tab tk_X10_fail 6 rfl) rfl ?_
    refine am_aload_n (q := 14) rfl (am_tab tk_X10_fail 7 rfl) rfl ?_
    refine am_iload_n (q := 15) rfl (am_tab tk_X10_fail 8 rfl) rfl ?_
    refine am_putI (q := 18) (k := 10) (n := 108) (j := 6) (Ls_55 hL) (by decide) rfl (by decide) (Or.inl ⟨kf_X10_251, rfl⟩) (am_tab tk_X10_fail 9 rfl) rfl ?_
    refine am_vret rfl (Nat.le_of_ble_eq_true rfl) (Nat.le_of_ble_eq_true rfl) (am_tab tk_X10_fail 10 rfl) ?_
    refine hQ _ _ ?_
    exact ⟨rfl, rfl⟩
  · exact absurd hb h4
theorem c_fail1 (σ : am_H) (hL : lay σ) (k : Int) (pl : Int) (hb : ¬ σ.2.1 55 5 = 0) : am_met M_X10_fail [am_r 55, am_i k, am_i pl] σ (fun r σ' => r = none ∧ σ' = σ) := by
  refine am_qq (fun Q hQ => ?_)
  refine am_enter (show plainFor yX10_fail = true by decide +kernel) rfl (Nat.le_of_ble_eq_true rfl) (fun _ _ _ => trivial) ?_
  refine am_aload_n (q := 1) rfl (am_tab tk_X10_fail 0 rfl) rfl ?_
  refine am_getI (q := 4) (a := 55) (k := 10) (n := 108) (j := 5) (x := (σ.2.1 55 5)) (Ls_55 hL) (by decide) rfl rfl (by decide) (Or.inl kf_X10_248) (am_tab tk_X10_fail 1 rfl) rfl ?_
  refine am_if_eq (q := 7) (t := 8) (am_tab tk_X10_fail 2 rfl) (by decide) rfl (fun h4 => ?_) (fun h4 => ?_)
  · exact absurd h4 hb
  · refine am_vret rfl (Nat.le_of_ble_eq_true rfl) (Nat.le_of_ble_eq_true rfl) (am_tab tk_X10_fail 3 rfl) ?_
    refine hQ _ _ ?_
    exact ⟨rfl, rfl⟩
theorem c_X10_isLetter (σ : am_H) (hL : lay σ) (c : Int)  : am_met M_X10_isLetter [am_i c] σ (fun r σ' => r = some (am_i (b2i (isL c))) ∧ σ' = σ) := by
  refine am_qq (fun Q hQ => ?_)
  refine am_enter (show plainFor yX10_isLetter = true by decide +kernel) rfl (Nat.le_of_ble_eq_true rfl) (fun _ _ _ => trivial) ?_
  refine am_iload_n (q := 1) rfl (am_tab tk_X10_isLetter 0 rfl) rfl ?_
  refine am_bipush (q := 3) (n := 97) (by decide) rfl (am_tab tk_X10_isLetter 1 rfl) rfl ?_
  refine am_icmp_lt (q := 6) (t := 16) (am_tab tk_X10_isLetter 2 rfl) (by decide) rfl (fun h3 => ?_) (fun h3 => ?_)
  · refine am_iconst (q := 17) (n := 0) (by decide) (am_tab tk_X10_isLetter 8 rfl) rfl ?_
    refine am_iret (Or.inr ⟨rfl, by first | exact Or.inl rfl | exact Or.inr rfl | omega⟩) (Nat.le_of_ble_eq_true rfl) (Nat.le_of_ble_eq_true rfl) (am_tab tk_X10_isLetter 9 rfl) ?_
    refine hQ _ _ ?_
    refine ⟨congrArg (fun z => some (am_i z)) ?_, rfl⟩
    unfold b2i isL
    rw [decide_eq_false (by omega)]; rfl
  · refine am_iload_n (q := 7) rfl (am_tab tk_X10_isLetter 3 rfl) rfl ?_
    refine am_bipush (q := 9) (n := 122) (by decide) rfl (am_tab tk_X10_isLetter 4 rfl) rfl ?_
    refine am_icmp_gt (q := 12) (t := 16) (am_tab tk_X10_isLetter 5 rfl) (by decide) rfl (fun h9 => ?_) (fun h9 => ?_)
    · refine am_iconst (q := 17) (n := 0) (by decide) (am_tab tk_X10_isLetter 8 rfl) rfl ?_
      refine am_iret (Or.inr ⟨rfl, by first | exact Or.inl rfl | exact Or.inr rfl | omega⟩) (Nat.le_of_ble_eq_true rfl) (Nat.le_of_ble_eq_true rfl) (am_tab tk_X10_isLetter 9 rfl) ?_
      refine hQ _ _ ?_
      refine ⟨congrArg (fun z => some (am_i z)) ?_, rfl⟩
      unfold b2i isL
      rw [decide_eq_false (by omega)]; rfl
    · refine am_iconst (q := 13) (n := 1) (by decide) (am_tab tk_X10_isLetter 6 rfl) rfl ?_
      refine am_goto (t := 17) (am_tab tk_X10_isLetter 7 rfl) (by decide) ?_
      refine am_iret (Or.inr ⟨rfl, by first | exact Or.inl rfl | exact Or.inr rfl | omega⟩) (Nat.le_of_ble_eq_true rfl) (Nat.le_of_ble_eq_true rfl) (am_tab tk_X10_isLetter 9 rfl) ?_
      refine hQ _ _ ?_
      refine ⟨congrArg (fun z => some (am_i z)) ?_, rfl⟩
      unfold b2i isL
      rw [decide_eq_true (by omega)]; rfl
theorem c_X10_isDigit (σ : am_H) (hL : lay σ) (c : Int)  : am_met M_X10_isDigit [am_i c] σ (fun r σ' => r = some (am_i (b2i (isDg c))) ∧ σ' = σ) := by
  refine am_qq (fun Q hQ => ?_)
  refine am_enter (show plainFor yX10_isDigit = true by decide +kernel) rfl (Nat.le_of_ble_eq_true rfl) (fun _ _ _ => trivial) ?_
  refine am_iload_n (q := 1) rfl (am_tab tk_X10_isDigit 0 rfl) rfl ?_
  refine am_bipush (q := 3) (n := 48) (by decide) rfl (am_tab tk_X10_isDigit 1 rfl) rfl ?_
  refine am_icmp_lt (q := 6) (t := 16) (am_tab tk_X10_isDigit 2 rfl) (by decide) rfl (fun h3 => ?_) (fun h3 => ?_)
  · refine am_iconst (q := 17) (n := 0) (by decide) (am_tab tk_X10_isDigit 8 rfl) rfl ?_
    refine am_iret (Or.inr ⟨rfl, by first | exact Or.inl rfl | exact Or.inr rfl | omega⟩) (Nat.le_of_ble_eq_true rfl) (Nat.le_of_ble_eq_true rfl) (am_tab tk_X10_isDigit 9 rfl) ?_
    refine hQ _ _ ?_
    refine ⟨congrArg (fun z => some (am_i z)) ?_, rfl⟩
    unfold b2i isDg
    rw [decide_eq_false (by omega)]; rfl
  · refine am_iload_n (q := 7) rfl (am_tab tk_X10_isDigit 3 rfl) rfl ?_
    refine am_bipush (q := 9) (n := 57) (by decide) rfl (am_tab tk_X10_isDigit 4 rfl) rfl ?_
    refine am_icmp_gt (q := 12) (t := 16) (am_tab tk_X10_isDigit 5 rfl) (by decide) rfl (fun h9 => ?_) (fun h9 => ?_)
    · refine am_iconst (q := 17) (n := 0) (by decide) (am_tab tk_X10_isDigit 8 rfl) rfl ?_
      refine am_iret (Or.inr ⟨rfl, by first | exact Or.inl rfl | exact Or.inr rfl | omega⟩) (Nat.le_of_ble_eq_true rfl) (Nat.le_of_ble_eq_true rfl) (am_tab tk_X10_isDigit 9 rfl) ?_
      refine hQ _ _ ?_
      refine ⟨congrArg (fun z => some (am_i z)) ?_, rfl⟩
      unfold b2i isDg
      rw [decide_eq_false (by omega)]; rfl
    · refine am_iconst (q := 13) (n := 1) (by decide) (am_tab tk_X10_isDigit 6 rfl) rfl ?_
      refine am_goto (t := 17) (am_tab tk_X10_isDigit 7 rfl) (by decide) ?_
      refine am_iret (Or.inr ⟨rfl, by first | exact Or.inl rfl | exact Or.inr rfl | omega⟩) (Nat.le_of_ble_eq_true rfl) (Nat.le_of_ble_eq_true rfl) (am_tab tk_X10_isDigit 9 rfl) ?_
      refine hQ _ _ ?_
      refine ⟨congrArg (fun z => some (am_i z)) ?_, rfl⟩
      unfold b2i isDg
      rw [decide_eq_true (by omega)]; rfl
/-- the text: bytes b, of length E -/
def TX (b : Nat → Int) (E : Nat) (S : am_H) : Prop := (∀ j, S.2.1 56 j = b j) ∧ S.2.1 55 3 = (E : Int) ∧ E ≤ 1600 ∧ (∀ j, j < 1600 → 0 ≤ b j ∧ b j ≤ 255)
/-- the model stands ahead of what stands at place i, no fault so far -/
def TS (b : Nat → Int) (E i : Nat) (S : am_H) : Prop := TX b E S ∧ S.2.1 55 5 = 0 ∧ S.2.1 55 6 = -1 ∧ (0 ≤ S.2.1 55 2 ∧ S.2.1 55 2 ≤ E) ∧ S.2.1 55 4 ≤ S.2.1 55 2 ∧ sk b E (S.2.1 55 2).toNat = zP b E i ∧ (zT b E i = true ↔ S.2.1 55 4 = (zP b E i : Int))
/-- a fault has been found -/
def BD (b : Nat → Int) (E : Nat) (k pl : Int) (S : am_H) : Prop := TX b E S ∧ S.2.1 55 5 = k ∧ ¬ k = 0 ∧ S.2.1 55 6 = pl ∧ (0 ≤ S.2.1 55 2 ∧ S.2.1 55 2 ≤ E + 10)
def W_sc (a j : Nat) : Prop := a = 55 ∧ (j = 2 ∨ j = 4 ∨ j = 5 ∨ j = 6 ∨ j = 10 ∨ j = 38)
theorem TX.set {b : Nat → Int} {E j : Nat} {S : am_H} {x : Int} (h : TX b E S) (hj : ¬ j = 3) : TX b E (am_setN S 55 j x) := by
  refine ⟨h.1, ?_, h.2.2⟩
  show (if 55 = 55 ∧ 3 = j then x else S.2.1 55 3) = _
  rw [if_neg (by omega)]
  exact h.2.1
theorem zP_s {b : Nat → Int} {E i : Nat} {S : am_H} (h : TS b E i S) : (S.2.1 55 2).toNat ≤ zP b E i := by
  have h1 := rn_rng isBl b (E := E) (x := (S.2.1 55 2).toNat) (by have := h.2.2.2.1; omega)
  have h2 := h.2.2.2.2.2.1
  unfold sk at h2
  omega
theorem TS.look {b : Nat → Int} {E i : Nat} {S : am_H} (h : TS b E i S) : TS b E i (am_setN S 55 2 (zP b E i : Int)) := by
  have h1 := zP_rng b E i
  have h2 := zP_s h
  have h3 := h.2.2.2.1
  have h4 := h.2.2.2.2.1
  refine ⟨h.1.set (by decide), h.2.1, h.2.2.1, ?_, ?_, ?_, h.2.2.2.2.2.2⟩
  · show 0 ≤ (zP b E i : Int) ∧ (zP b E i : Int) ≤ E
    omega
  · show S.2.1 55 4 ≤ (zP b E i : Int)
    omega
  · show sk b E (zP b E i : Int).toNat = _
    rw [Int.toNat_natCast]
    exact sk_zP b E i
def byt (b : Nat → Int) (E i : Nat) : Int := if zP b E i < E then b (zP b E i) else -1
theorem c_X10_look (b : Nat → Int) (E i : Nat) (S : am_H) (hL : lay S) (hS : TS b E i S)   : am_met M_X10_look [am_r 55] S (fun r σ' => r = some (am_i (byt b E i)) ∧ σ' = am_setN S 55 2 (zP b E i : Int)) := by
  refine am_qq (fun Q hQ => ?_)
  refine am_enter (show plainFor yX10_look = true by decide +kernel) rfl (Nat.le_of_ble_eq_true rfl) (fun _ _ _ => trivial) ?_
  have hX := hS.1
  have hX2 := hX.2.1
  have hX3 := hX.2.2.1
  have hAt := hS.2.2.2.1
  have hEd := hS.2.2.2.2.1
  have hzp := zP_rng b E i
  have hzs := zP_s hS
  have hby := hX.2.2.2
  have L0 : ∀ (n0 : Nat) (x : Nat), E - x < n0 → x ≤ E → sk b E x = zP b E i → am_wp M_X10_look Q 0 0 0 [(0, am_r 55)] [] (am_setN S 55 2 (x : Int)) := by
    intro n0
    induction n0 with
    | zero => intro x hn0; exact absurd hn0 (Nat.not_lt_zero _)
    | succ n0 ih0 =>
      intro x hn0 hx hsk
      have hbx : x < E → 0 ≤ b x ∧ b x ≤ 255 := fun h => hby x (by omega)
      refine am_aload_n (q := 1) rfl (am_tab tk_X10_look 0 rfl) rfl ?_
      refine am_getI (q := 4) (a := 55) (k := 10) (n := 108) (j := 2) (x := (x : Int)) (Ls_55 hL) (by decide) rfl rfl (by decide) (Or.inl kf_X10_254) (am_tab tk_X10_look 1 rfl) rfl ?_
      refine am_aload_n (q := 5) rfl (am_tab tk_X10_look 2 rfl) rfl ?_
      refine am_getI (q := 8) (a := 55) (k := 10) (n := 108) (j := 3) (x := (E : Int)) (Ls_55 hL) (by decide) rfl hX2 (by decide) (Or.inl kf_X10_257) (am_tab tk_X10_look 3 rfl) rfl ?_
      refine am_icmp_ge (q := 11) (t := 52) (am_tab tk_X10_look 4 rfl) (by decide) rfl (fun h8 => ?_) (fun h8 => ?_)
      · refine am_aload_n (q := 53) rfl (am_tab tk_X10_look 26 rfl) rfl ?_
        refine am_getI (q := 56) (a := 55) (k := 10) (n := 108) (j := 2) (x := (x : Int)) (Ls_55 hL) (by decide) rfl rfl (by decide) (Or.inl kf_X10_254) (am_tab tk_X10_look 27 rfl) rfl ?_
        refine am_aload_n (q := 57) rfl (am_tab tk_X10_look 28 rfl) rfl ?_
        refine am_getI (q := 60) (a := 55) (k := 10) (n := 108) (j := 3) (x := (E : Int)) (Ls_55 hL) (by decide) rfl hX2 (by decide) (Or.inl kf_X10_257) (am_tab tk_X10_look 29 rfl) rfl ?_
        refine am_icmp_ge (q := 63) (t := 75) (am_tab tk_X10_look 30 rfl) (by decide) rfl (fun h60 => ?_) (fun h60 => ?_)
        · refine am_iconst (q := 76) (n := (-1)) (by decide) (am_tab tk_X10_look 37 rfl) rfl ?_
          refine am_iret (Or.inl rfl) (Nat.le_of_ble_eq_true rfl) (Nat.le_of_ble_eq_true rfl) (am_tab tk_X10_look 38 rfl) ?_
          refine hQ _ _ ?_
          have hzx : zP b E i = x := by
            rw [← hsk]
            refine rn_stop (fun hc => ?_)
            have h9 := hc.2
            unfold isBl at h9
            simp only [decide_eq_true_eq] at h9
            omega
          refine ⟨congrArg (fun z => some (am_i z)) ?_, by rw [hzx]⟩
          unfold byt
          rw [hzx]
          rw [if_neg (by omega)]
        · refine am_aload_n (q := 64) rfl (am_tab tk_X10_look 31 rfl) rfl ?_
          refine am_getR (q := 67) (a := 55) (k := 10) (n := 108) (j := 0) (r := some (56)) (Ls_55 hL) (by decide) rfl (Lr_55_0 hL) (by decide) (Or.inl kf_X10_7) (am_tab tk_X10_look 32 rfl) rfl ?_
          refine am_aload_n (q := 68) rfl (am_tab tk_X10_look 33 rfl) rfl ?_
          refine am_getI (q := 71) (a := 55) (k := 10) (n := 108) (j := 2) (x := (x : Int)) (Ls_55 hL) (by decide) rfl rfl (by decide) (Or.inl kf_X10_254) (am_tab tk_X10_look 34 rfl) rfl ?_
          refine am_iald (q := 72) (a := 56) (n := 1600) (x := (b x)) (Ls_56 hL) (by omega) (by omega) (by rw [show Int.toNat (x : Int) = x by omega]; exact hX.1 x) (am_tab tk_X10_look 35 rfl) rfl ?_
          refine am_goto (t := 76) (am_tab tk_X10_look 36 rfl) (by decide) ?_
          refine am_iret (Or.inl rfl) (Nat.le_of_ble_eq_true rfl) (Nat.le_of_ble_eq_true rfl) (am_tab tk_X10_look 38 rfl) ?_
          refine hQ _ _ ?_
          have hzx : zP b E i = x := by
            rw [← hsk]
            refine rn_stop (fun hc => ?_)
            have h9 := hc.2
            unfold isBl at h9
            simp only [decide_eq_true_eq] at h9
            omega
          refine ⟨congrArg (fun z => some (am_i z)) ?_, by rw [hzx]⟩
          unfold byt
          rw [hzx]
          rw [if_pos (by omega)]
      · refine am_aload_n (q := 12) rfl (am_tab tk_X10_look 5 rfl) rfl ?_
        refine am_getR (q := 15) (a := 55) (k := 10) (n := 108) (j := 0) (r := some (56)) (Ls_55 hL) (by decide) rfl (Lr_55_0 hL) (by decide) (Or.inl kf_X10_7) (am_tab tk_X10_look 6 rfl) rfl ?_
        refine am_aload_n (q := 16) rfl (am_tab tk_X10_look 7 rfl) rfl ?_
        refine am_getI (q := 19) (a := 55) (k := 10) (n := 108) (j := 2) (x := (x : Int)) (Ls_55 hL) (by decide) rfl rfl (by decide) (Or.inl kf_X10_254) (am_tab tk_X10_look 8 rfl) rfl ?_
        refine am_iald (q := 20) (a := 56) (n := 1600) (x := (b x)) (Ls_56 hL) (by omega) (by omega) (by rw [show Int.toNat (x : Int) = x by omega]; exact hX.1 x) (am_tab tk_X10_look 9 rfl) rfl ?_
        refine am_bipush (q := 22) (n := 10) (by decide) rfl (am_tab tk_X10_look 10 rfl) rfl ?_
        refine am_icmp_eq (q := 25) (t := 39) (am_tab tk_X10_look 11 rfl) (by decide) rfl (fun h22 => ?_) (fun h22 => ?_)
        · refine am_aload_n (q := 40) rfl (am_tab tk_X10_look 19 rfl) rfl ?_
          refine am_dup (q := 41) rfl (am_tab tk_X10_look 20 rfl) rfl ?_
          refine am_getI (q := 44) (a := 55) (k := 10) (n := 108) (j := 2) (x := (x : Int)) (Ls_55 hL) (by decide) rfl rfl (by decide) (Or.inl kf_X10_254) (am_tab tk_X10_look 21 rfl) rfl ?_
          refine am_iconst (q := 45) (n := 1) (by decide) (am_tab tk_X10_look 22 rfl) rfl ?_
          refine am_iadd (q := 46) (by omega) (am_tab tk_X10_look 23 rfl) rfl ?_
          refine am_putI (q := 49) (k := 10) (n := 108) (j := 2) (Ls_55 hL) (by decide) rfl (by decide) (Or.inl ⟨kf_X10_254, rfl⟩) (am_tab tk_X10_look 24 rfl) rfl ?_
          refine am_goto (t := 0) (am_tab tk_X10_look 25 rfl) (by decide) ?_
          refine am_hp2 (σ1 := am_setN S 55 2 ((x + 1 : Nat) : Int)) ?_ ?_
          · rw [am_setN_N]; rfl
          exact am_less (by intro q hq; simp only [List.mem_cons, List.not_mem_nil, or_false] at hq; rcases hq with rfl <;> simp) (ih0 (x + 1) (by omega) (by omega) (by rw [← hsk]; exact (rn_step (p := isBl) (by omega) (by unfold isBl; rw [decide_eq_true (by omega)])).symm))
        · refine am_aload_n (q := 26) rfl (am_tab tk_X10_look 12 rfl) rfl ?_
          refine am_getR (q := 29) (a := 55) (k := 10) (n := 108) (j := 0) (r := some (56)) (Ls_55 hL) (by decide) rfl (Lr_55_0 hL) (by decide) (Or.inl kf_X10_7) (am_tab tk_X10_look 13 rfl) rfl ?_
          refine am_aload_n (q := 30) rfl (am_tab tk_X10_look 14 rfl) rfl ?_
          refine am_getI (q := 33) (a := 55) (k := 10) (n := 108) (j := 2) (x := (x : Int)) (Ls_55 hL) (by decide) rfl rfl (by decide) (Or.inl kf_X10_254) (am_tab tk_X10_look 15 rfl) rfl ?_
          refine am_iald (q := 34) (a := 56) (n := 1600) (x := (b x)) (Ls_56 hL) (by omega) (by omega) (by rw [show Int.toNat (x : Int) = x by omega]; exact hX.1 x) (am_tab tk_X10_look 16 rfl) rfl ?_
          refine am_bipush (q := 36) (n := 32) (by decide) rfl (am_tab tk_X10_look 17 rfl) rfl ?_
          refine am_icmp_ne (q := 39) (t := 52) (am_tab tk_X10_look 18 rfl) (by decide) rfl (fun h36 => ?_) (fun h36 => ?_)
          · refine am_aload_n (q := 53) rfl (am_tab tk_X10_look 26 rfl) rfl ?_
            refine am_getI (q := 56) (a := 55) (k := 10) (n := 108) (j := 2) (x := (x : Int)) (Ls_55 hL) (by decide) rfl rfl (by decide) (Or.inl kf_X10_254) (am_tab tk_X10_look 27 rfl) rfl ?_
            refine am_aload_n (q := 57) rfl (am_tab tk_X10_look 28 rfl) rfl ?_
            refine am_getI (q := 60) (a := 55) (k := 10) (n := 108) (j := 3) (x := (E : Int)) (Ls_55 hL) (by decide) rfl hX2 (by decide) (Or.inl kf_X10_257) (am_tab tk_X10_look 29 rfl) rfl ?_
            refine am_icmp_ge (q := 63) (t := 75) (am_tab tk_X10_look 30 rfl) (by decide) rfl (fun h60 => ?_) (fun h60 => ?_)
            · refine am_iconst (q := 76) (n := (-1)) (by decide) (am_tab tk_X10_look 37 rfl) rfl ?_
              refine am_iret (Or.inl rfl) (Nat.le_of_ble_eq_true rfl) (Nat.le_of_ble_eq_true rfl) (am_tab tk_X10_look 38 rfl) ?_
              refine hQ _ _ ?_
              have hzx : zP b E i = x := by
                rw [← hsk]
                refine rn_stop (fun hc => ?_)
                have h9 := hc.2
                unfold isBl at h9
                simp only [decide_eq_true_eq] at h9
                omega
              refine ⟨congrArg (fun z => some (am_i z)) ?_, by rw [hzx]⟩
              unfold byt
              rw [hzx]
              rw [if_neg (by omega)]
            · refine am_aload_n (q := 64) rfl (am_tab tk_X10_look 31 rfl) rfl ?_
              refine am_getR (q := 67) (a := 55) (k := 10) (n := 108) (j := 0) (r := some (56)) (Ls_55 hL) (by decide) rfl (Lr_55_0 hL) (by decide) (Or.inl kf_X10_7) (am_tab tk_X10_look 32 rfl) rfl ?_
              refine am_aload_n (q := 68) rfl (am_tab tk_X10_look 33 rfl) rfl ?_
              refine am_getI (q := 71) (a := 55) (k := 10) (n := 108) (j := 2) (x := (x : Int)) (Ls_55 hL) (by decide) rfl rfl (by decide) (Or.inl kf_X10_254) (am_tab tk_X10_look 34 rfl) rfl ?_
              refine am_iald (q := 72) (a := 56) (n := 1600) (x := (b x)) (Ls_56 hL) (by omega) (by omega) (by rw [show Int.toNat (x : Int) = x by omega]; exact hX.1 x) (am_tab tk_X10_look 35 rfl) rfl ?_
              refine am_goto (t := 76) (am_tab tk_X10_look 36 rfl) (by decide) ?_
              refine am_iret (Or.inl rfl) (Nat.le_of_ble_eq_true rfl) (Nat.le_of_ble_eq_true rfl) (am_tab tk_X10_look 38 rfl) ?_
              refine hQ _ _ ?_
              have hzx : zP b E i = x := by
                rw [← hsk]
                refine rn_stop (fun hc => ?_)
                have h9 := hc.2
                unfold isBl at h9
                simp only [decide_eq_true_eq] at h9
                omega
              refine ⟨congrArg (fun z => some (am_i z)) ?_, by rw [hzx]⟩
              unfold byt
              rw [hzx]
              rw [if_pos (by omega)]
          · refine am_aload_n (q := 40) rfl (am_tab tk_X10_look 19 rfl) rfl ?_
            refine am_dup (q := 41) rfl (am_tab tk_X10_look 20 rfl) rfl ?_
            refine am_getI (q := 44) (a := 55) (k := 10) (n := 108) (j := 2) (x := (x : Int)) (Ls_55 hL) (by decide) rfl rfl (by decide) (Or.inl kf_X10_254) (am_tab tk_X10_look 21 rfl) rfl ?_
            refine am_iconst (q := 45) (n := 1) (by decide) (am_tab tk_X10_look 22 rfl) rfl ?_
            refine am_iadd (q := 46) (by omega) (am_tab tk_X10_look 23 rfl) rfl ?_
            refine am_putI (q := 49) (k := 10) (n := 108) (j := 2) (Ls_55 hL) (by decide) rfl (by decide) (Or.inl ⟨kf_X10_254, rfl⟩) (am_tab tk_X10_look 24 rfl) rfl ?_
            refine am_goto (t := 0) (am_tab tk_X10_look 25 rfl) (by decide) ?_
            refine am_hp2 (σ1 := am_setN S 55 2 ((x + 1 : Nat) : Int)) ?_ ?_
            · rw [am_setN_N]; rfl
            exact am_less (by intro q hq; simp only [List.mem_cons, List.not_mem_nil, or_false] at hq; rcases hq with rfl <;> simp) (ih0 (x + 1) (by omega) (by omega) (by rw [← hsk]; exact (rn_step (p := isBl) (by omega) (by unfold isBl; rw [decide_eq_true (by omega)])).symm))
  refine am_hp2 (σ1 := am_setN S 55 2 (((S.2.1 55 2).toNat : Nat) : Int)) ?_ ?_
  · rw [show (((S.2.1 55 2).toNat : Nat) : Int) = S.2.1 55 2 by omega, am_setN_self]
  refine am_less (by intro q hq; simp only [List.mem_cons, List.not_mem_nil, or_false] at hq; rcases hq with rfl <;> simp [am_args, am_cat]) (L0 (_ + 1) ((S.2.1 55 2).toNat) (by exact Nat.lt_succ_self _) (by omega) hS.2.2.2.2.2.1)
/-- does the word l stand here -/
def hwB (b : Nat → Int) (E i : Nat) (l : List Int) : Bool := decide (zP b E i < E ∧ isL (b (zP b E i)) = true ∧ ¬ zT b E i = true) && mW b (zP b E i) (rn isL b E (zP b E i)) l
theorem c_X10_isHere (b : Nat → Int) (E i : Nat) (S : am_H) (hL : lay S) (hS : TS b E i S) (a : Nat) (l : List Int)  (hsh : S.1[a]? = some (13, l.length)) (ha : ¬ a = 55) (hl : l.length ≤ 10) (hw : ∀ j, j < l.length → S.2.1 a j = l.getD j 0) : am_met M_X10_isHere [am_r 55, am_r a] S (fun r σ' => r = some (am_i (b2i (hwB b E i l))) ∧ σ' = am_setN S 55 2 (zP b E i : Int)) := by
  refine am_qq (fun Q hQ => ?_)
  refine am_enter (show plainFor yX10_isHere = true by decide +kernel) rfl (Nat.le_of_ble_eq_true rfl) (fun _ _ _ => trivial) ?_
  have hX := hS.1
  have hX2 := hX.2.1
  have hX3 := hX.2.2.1
  have hAt := hS.2.2.2.1
  have hEd := hS.2.2.2.2.1
  have hzp := zP_rng b E i
  have hzs := zP_s hS
  have hby := hX.2.2.2
  have hS5 := hS.2.1
  refine am_aload_n (q := 1) rfl (am_tab tk_X10_isHere 0 rfl) rfl ?_
  refine am_getI (q := 4) (a := 55) (k := 10) (n := 108) (j := 5) (x := 0) (Ls_55 hL) (by decide) rfl hS5 (by decide) (Or.inl kf_X10_248) (am_tab tk_X10_isHere 1 rfl) rfl ?_
  refine am_if_ne (q := 7) (t := 28) (am_tab tk_X10_isHere 2 rfl) (by decide) rfl (fun h4 => ?_) (fun h4 => ?_)
  · exact absurd rfl h4
  · refine am_aload_n (q := 8) rfl (am_tab tk_X10_isHere 3 rfl) rfl ?_
    refine am_callV0 (q := 11) (me2 := M_X10_look) (b := 55) (kb := 10) (nb := 108) (As := []) (rest := []) (out := [am_i (byt b E i)]) (c_X10_look b E i S hL hS) ⟨rfl, rfl⟩ (Ls_55 hL) (by decide) ⟨Or.inl km_X10_260, kc_X10_look, kn_X10, kd_X10_look, ⟨(Nat.le_of_ble_eq_true rfl), (Nat.le_of_ble_eq_true rfl)⟩, ⟨(Nat.le_of_ble_eq_true rfl), (Nat.le_of_ble_eq_true rfl)⟩, (Nat.le_of_ble_eq_true rfl)⟩ ki_X10_look ks_X10_look rfl rfl (am_tab tk_X10_isHere 4 rfl) rfl ?_
    refine am_callS0 (q := 14) (me2 := M_X10_isLetter) (As := [am_i (byt b E i)]) (rest := []) (out := [am_i (b2i (isL (byt b E i)))]) (c_X10_isLetter (am_setN S 55 2 (zP b E i : Int)) hL (byt b E i)) ⟨rfl, rfl⟩ ⟨Or.inl km_X10_264, kc_X10_isLetter, kn_X10, kd_X10_isLetter, ⟨(Nat.le_of_ble_eq_true rfl), (Nat.le_of_ble_eq_true rfl)⟩, ⟨(Nat.le_of_ble_eq_true rfl), (Nat.le_of_ble_eq_true rfl)⟩, (Nat.le_of_ble_eq_true rfl)⟩ ki_X10_isLetter rfl rfl (am_tab tk_X10_isHere 5 rfl) rfl ?_
    refine am_if_eq (q := 17) (t := 28) (am_tab tk_X10_isHere 6 rfl) (by decide) rfl (fun h14 => ?_) (fun h14 => ?_)
    · refine am_iconst (q := 29) (n := 0) (by decide) (am_tab tk_X10_isHere 12 rfl) rfl ?_
      refine am_iret (Or.inr ⟨rfl, by first | exact Or.inl rfl | exact Or.inr rfl | omega⟩) (Nat.le_of_ble_eq_true rfl) (Nat.le_of_ble_eq_true rfl) (am_tab tk_X10_isHere 13 rfl) ?_
      refine hQ _ _ ?_
      refine ⟨congrArg (fun z => some (am_i z)) ?_, rfl⟩
      unfold hwB
      have hno : ¬ (zP b E i < E ∧ isL (b (zP b E i)) = true ∧ ¬ zT b E i = true) := by
        intro hx
        have h9 := b2f h14
        unfold byt at h9
        rw [if_pos hx.1, hx.2.1] at h9
        exact absurd h9 (by simp)
      rw [decide_eq_false hno]; rfl
    · refine am_aload_n (q := 18) rfl (am_tab tk_X10_isHere 7 rfl) rfl ?_
      refine am_getI (q := 21) (a := 55) (k := 10) (n := 108) (j := 2) (x := (zP b E i : Int)) (Ls_55 hL) (by decide) rfl rfl (by decide) (Or.inl kf_X10_254) (am_tab tk_X10_isHere 8 rfl) rfl ?_
      refine am_aload_n (q := 22) rfl (am_tab tk_X10_isHere 9 rfl) rfl ?_
      refine am_getI (q := 25) (a := 55) (k := 10) (n := 108) (j := 4) (x := (S.2.1 55 4)) (Ls_55 hL) (by decide) rfl rfl (by decide) (Or.inl kf_X10_268) (am_tab tk_X10_isHere 10 rfl) rfl ?_
      refine am_icmp_ne (q := 28) (t := 30) (am_tab tk_X10_isHere 11 rfl) (by decide) rfl (fun h25 => ?_) (fun h25 => ?_)
      · have hlt : zP b E i < E ∧ isL (b (zP b E i)) = true := by
          have h9 := b2t h14
          unfold byt at h9
          by_cases hq : zP b E i < E
          · rw [if_pos hq] at h9; exact ⟨hq, h9⟩
          · rw [if_neg hq] at h9; exact absurd h9 (by decide)
        have hyes : zP b E i < E ∧ isL (b (zP b E i)) = true ∧ ¬ zT b E i = true := ⟨hlt.1, hlt.2, fun ht => h25 (hS.2.2.2.2.2.2.mp ht).symm⟩
        refine am_aload_n (q := 31) rfl (am_tab tk_X10_isHere 14 rfl) rfl ?_
        refine am_getI (q := 34) (a := 55) (k := 10) (n := 108) (j := 2) (x := (zP b E i : Int)) (Ls_55 hL) (by decide) rfl rfl (by decide) (Or.inl kf_X10_254) (am_tab tk_X10_isHere 15 rfl) rfl ?_
        refine am_istore_n (q := 35) (by decide) (ls2 := [(2, am_i ((zP b E i : Int))), (0, am_r 55), (1, am_r a)]) rfl (am_tab tk_X10_isHere 16 rfl) rfl ?_
        have L35 : ∀ (n35 : Nat) (x : Nat), E - x < n35 → x ≤ E → zP b E i ≤ x → rn isL b E x = rn isL b E (zP b E i) → am_wp M_X10_isHere Q 0 0 35 [(2, am_i ((x : Int))), (0, am_r 55), (1, am_r a)] [] (am_setN S 55 2 (zP b E i : Int)) := by
          intro n35
          induction n35 with
          | zero => intro x hn35; exact absurd hn35 (Nat.not_lt_zero _)
          | succ n35 ih35 =>
            intro x hn35 hx hzx hrn
            refine am_iload_n (q := 36) rfl (am_tab tk_X10_isHere 17 rfl) rfl ?_
            refine am_aload_n (q := 37) rfl (am_tab tk_X10_isHere 18 rfl) rfl ?_
            refine am_getI (q := 40) (a := 55) (k := 10) (n := 108) (j := 3) (x := (E : Int)) (Ls_55 hL) (by decide) rfl hX2 (by decide) (Or.inl kf_X10_257) (am_tab tk_X10_isHere 19 rfl) rfl ?_
            refine am_icmp_ge (q := 43) (t := 61) (am_tab tk_X10_isHere 20 rfl) (by decide) rfl (fun h40 => ?_) (fun h40 => ?_)
            · have hre : rn isL b E (zP b E i) = x := by
                rw [← hrn]
                refine rn_stop (fun hc => ?_)
                omega
              refine am_iload_n (q := 62) rfl (am_tab tk_X10_isHere 29 rfl) rfl ?_
              refine am_aload_n (q := 63) rfl (am_tab tk_X10_isHere 30 rfl) rfl ?_
              refine am_getI (q := 66) (a := 55) (k := 10) (n := 108) (j := 2) (x := (zP b E i : Int)) (Ls_55 hL) (by decide) rfl rfl (by decide) (Or.inl kf_X10_254) (am_tab tk_X10_isHere 31 rfl) rfl ?_
              refine am_isub (q := 67) (by omega) (am_tab tk_X10_isHere 32 rfl) rfl ?_
              refine am_aload_n (q := 68) rfl (am_tab tk_X10_isHere 33 rfl) rfl ?_
              refine am_alen (q := 69) (a := a) (k := 13) (n := l.length) hsh (by decide) (by omega) (am_tab tk_X10_isHere 34 rfl) rfl ?_
              refine am_icmp_eq (q := 72) (t := 74) (am_tab tk_X10_isHere 35 rfl) (by decide) rfl (fun h69 => ?_) (fun h69 => ?_)
              · have hr : rn isL b E (zP b E i) = zP b E i + l.length := by omega
                have L76 : ∀ (n76 : Nat) (j : Nat), l.length - j < n76 → j ≤ l.length → (∀ k, k < j → b (zP b E i + k) = l.getD k 0) → am_wp M_X10_isHere Q 0 0 76 [(3, am_i ((j : Int))), (0, am_r 55), (1, am_r a), (2, am_i ((x : Int)))] [] (am_setN S 55 2 (zP b E i : Int)) := by
                  intro n76
                  induction n76 with
                  | zero => intro j hn76; exact absurd hn76 (Nat.not_lt_zero _)
                  | succ n76 ih76 =>
                    intro j hn76 hj hmt
                    refine am_iload_n (q := 77) rfl (am_tab tk_X10_isHere 40 rfl) rfl ?_
                    refine am_aload_n (q := 78) rfl (am_tab tk_X10_isHere 41 rfl) rfl ?_
                    refine am_alen (q := 79) (a := a) (k := 13) (n := l.length) hsh (by decide) (by omega) (am_tab tk_X10_isHere 42 rfl) rfl ?_
                    refine am_icmp_ge (q := 82) (t := 107) (am_tab tk_X10_isHere 43 rfl) (by decide) rfl (fun h79 => ?_) (fun h79 => ?_)
                    · refine am_iconst (q := 108) (n := 1) (by decide) (am_tab tk_X10_isHere 59 rfl) rfl ?_
                      refine am_iret (Or.inr ⟨rfl, by first | exact Or.inl rfl | exact Or.inr rfl | omega⟩) (Nat.le_of_ble_eq_true rfl) (Nat.le_of_ble_eq_true rfl) (am_tab tk_X10_isHere 60 rfl) ?_
                      refine hQ _ _ ?_
                      refine ⟨congrArg (fun z => some (am_i z)) ?_, rfl⟩
                      unfold hwB
                      have hmw : mW b (zP b E i) (rn isL b E (zP b E i)) l = true := by
                        unfold mW
                        rw [decide_eq_true (by omega), mB_of (fun k hk => hmt k (by omega))]; rfl
                      rw [hmw, decide_eq_true hyes]; rfl
                    · refine am_aload_n (q := 83) rfl (am_tab tk_X10_isHere 44 rfl) rfl ?_
                      refine am_getR (q := 86) (a := 55) (k := 10) (n := 108) (j := 0) (r := some (56)) (Ls_55 hL) (by decide) rfl (Lr_55_0 hL) (by decide) (Or.inl kf_X10_7) (am_tab tk_X10_isHere 45 rfl) rfl ?_
                      refine am_aload_n (q := 87) rfl (am_tab tk_X10_isHere 46 rfl) rfl ?_
                      refine am_getI (q := 90) (a := 55) (k := 10) (n := 108) (j := 2) (x := (zP b E i : Int)) (Ls_55 hL) (by decide) rfl rfl (by decide) (Or.inl kf_X10_254) (am_tab tk_X10_isHere 47 rfl) rfl ?_
                      refine am_iload_n (q := 91) rfl (am_tab tk_X10_isHere 48 rfl) rfl ?_
                      refine am_iadd (q := 92) (by omega) (am_tab tk_X10_isHere 49 rfl) rfl ?_
                      refine am_iald (q := 93) (a := 56) (n := 1600) (x := (b (zP b E i + j))) (Ls_56 hL) (by omega) (by omega) (by rw [show Int.toNat ((zP b E i : Int) + (j : Int)) = zP b E i + j by omega]; exact hX.1 _) (am_tab tk_X10_isHere 50 rfl) rfl ?_
                      refine am_aload_n (q := 94) rfl (am_tab tk_X10_isHere 51 rfl) rfl ?_
                      refine am_iload_n (q := 95) rfl (am_tab tk_X10_isHere 52 rfl) rfl ?_
                      refine am_cald (q := 96) (a := a) (n := l.length) (x := (l.getD j 0)) hsh (by omega) (by omega) (by rw [show Int.toNat (j : Int) = j by omega]; show (if a = 55 ∧ _ then _ else S.2.1 a j) = _; rw [if_neg (by omega)]; exact hw j (by omega)) (am_tab tk_X10_isHere 53 rfl) rfl ?_
                      refine am_icmp_eq (q := 99) (t := 101) (am_tab tk_X10_isHere 54 rfl) (by decide) rfl (fun h96 => ?_) (fun h96 => ?_)
                      · refine am_iinc (q := 104) rfl (by omega) (by decide) (ls2 := [(3, am_i (((j : Int) + 1))), (0, am_r 55), (1, am_r a), (2, am_i ((x : Int)))]) rfl (am_tab tk_X10_isHere 57 rfl) rfl ?_
                        refine am_goto (t := 76) (am_tab tk_X10_isHere 58 rfl) (by decide) ?_
                        exact am_less (by intro q hq; simp only [List.mem_cons, List.not_mem_nil, or_false] at hq; rcases hq with rfl | rfl | rfl | rfl <;> simp) (ih76 (j + 1) (by omega) (by omega) (fun k hk => by by_cases hkj : k = j; rw [hkj]; exact h96; exact hmt k (by omega)))
                      · refine am_iconst (q := 100) (n := 0) (by decide) (am_tab tk_X10_isHere 55 rfl) rfl ?_
                        refine am_iret (Or.inr ⟨rfl, by first | exact Or.inl rfl | exact Or.inr rfl | omega⟩) (Nat.le_of_ble_eq_true rfl) (Nat.le_of_ble_eq_true rfl) (am_tab tk_X10_isHere 56 rfl) ?_
                        refine hQ _ _ ?_
                        refine ⟨congrArg (fun z => some (am_i z)) ?_, rfl⟩
                        unfold hwB
                        rcases hm : mW b (zP b E i) (rn isL b E (zP b E i)) l with _ | _
                        · simp [b2i]
                        · exfalso
                          unfold mW at hm
                          simp only [Bool.and_eq_true, decide_eq_true_eq] at hm
                          exact h96 (mB_at hm.2 j (by omega))
                refine am_iconst (q := 75) (n := 0) (by decide) (am_tab tk_X10_isHere 38 rfl) rfl ?_
                refine am_istore_n (q := 76) (by decide) (ls2 := [(3, am_i 0), (2, am_i ((x : Int))), (0, am_r 55), (1, am_r a)]) rfl (am_tab tk_X10_isHere 39 rfl) rfl ?_
                have hr : rn isL b E (zP b E i) = zP b E i + l.length := by omega
                refine am_less (by intro q hq; simp only [List.mem_cons, List.not_mem_nil, or_false] at hq; rcases hq with rfl | rfl | rfl | rfl <;> simp) (L76 (_ + 1) 0 (by exact Nat.lt_succ_self _) (by omega) (by omega))
              · refine am_iconst (q := 73) (n := 0) (by decide) (am_tab tk_X10_isHere 36 rfl) rfl ?_
                refine am_iret (Or.inr ⟨rfl, by first | exact Or.inl rfl | exact Or.inr rfl | omega⟩) (Nat.le_of_ble_eq_true rfl) (Nat.le_of_ble_eq_true rfl) (am_tab tk_X10_isHere 37 rfl) ?_
                refine hQ _ _ ?_
                refine ⟨congrArg (fun z => some (am_i z)) ?_, rfl⟩
                unfold hwB
                unfold mW
                rw [decide_eq_false (p := rn isL b E (zP b E i) = zP b E i + l.length) (by omega)]; simp [b2i]
            · refine am_aload_n (q := 44) rfl (am_tab tk_X10_isHere 21 rfl) rfl ?_
              refine am_getR (q := 47) (a := 55) (k := 10) (n := 108) (j := 0) (r := some (56)) (Ls_55 hL) (by decide) rfl (Lr_55_0 hL) (by decide) (Or.inl kf_X10_7) (am_tab tk_X10_isHere 22 rfl) rfl ?_
              refine am_iload_n (q := 48) rfl (am_tab tk_X10_isHere 23 rfl) rfl ?_
              refine am_iald (q := 49) (a := 56) (n := 1600) (x := (b x)) (Ls_56 hL) (by omega) (by omega) (by rw [show Int.toNat (x : Int) = x by omega]; exact hX.1 x) (am_tab tk_X10_isHere 24 rfl) rfl ?_
              refine am_callS0 (q := 52) (me2 := M_X10_isLetter) (As := [am_i ((b x))]) (rest := []) (out := [am_i (b2i (isL (b x)))]) (c_X10_isLetter (am_setN S 55 2 (zP b E i : Int)) hL (b x)) ⟨rfl, rfl⟩ ⟨Or.inl km_X10_264, kc_X10_isLetter, kn_X10, kd_X10_isLetter, ⟨(Nat.le_of_ble_eq_true rfl), (Nat.le_of_ble_eq_true rfl)⟩, ⟨(Nat.le_of_ble_eq_true rfl), (Nat.le_of_ble_eq_true rfl)⟩, (Nat.le_of_ble_eq_true rfl)⟩ ki_X10_isLetter rfl rfl (am_tab tk_X10_isHere 25 rfl) rfl ?_
              refine am_if_eq (q := 55) (t := 61) (am_tab tk_X10_isHere 26 rfl) (by decide) rfl (fun h52 => ?_) (fun h52 => ?_)
              · have hre : rn isL b E (zP b E i) = x := by
                  rw [← hrn]
                  refine rn_stop (fun hc => ?_)
                  rw [b2f h52] at hc; exact absurd hc.2 (by simp)
                refine am_iload_n (q := 62) rfl (am_tab tk_X10_isHere 29 rfl) rfl ?_
                refine am_aload_n (q := 63) rfl (am_tab tk_X10_isHere 30 rfl) rfl ?_
                refine am_getI (q := 66) (a := 55) (k := 10) (n := 108) (j := 2) (x := (zP b E i : Int)) (Ls_55 hL) (by decide) rfl rfl (by decide) (Or.inl kf_X10_254) (am_tab tk_X10_isHere 31 rfl) rfl ?_
                refine am_isub (q := 67) (by omega) (am_tab tk_X10_isHere 32 rfl) rfl ?_
                refine am_aload_n (q := 68) rfl (am_tab tk_X10_isHere 33 rfl) rfl ?_
                refine am_alen (q := 69) (a := a) (k := 13) (n := l.length) hsh (by decide) (by omega) (am_tab tk_X10_isHere 34 rfl) rfl ?_
                refine am_icmp_eq (q := 72) (t := 74) (am_tab tk_X10_isHere 35 rfl) (by decide) rfl (fun h69 => ?_) (fun h69 => ?_)
                · have hr : rn isL b E (zP b E i) = zP b E i + l.length := by omega
                  have L76 : ∀ (n76 : Nat) (j : Nat), l.length - j < n76 → j ≤ l.length → (∀ k, k < j → b (zP b E i + k) = l.getD k 0) → am_wp M_X10_isHere Q 0 0 76 [(3, am_i ((j : Int))), (0, am_r 55), (1, am_r a), (2, am_i ((x : Int)))] [] (am_setN S 55 2 (zP b E i : Int)) := by
                    intro n76
                    induction n76 with
                    | zero => intro j hn76; exact absurd hn76 (Nat.not_lt_zero _)
                    | succ n76 ih76 =>
                      intro j hn76 hj hmt
                      refine am_iload_n (q := 77) rfl (am_tab tk_X10_isHere 40 rfl) rfl ?_
                      refine am_aload_n (q := 78) rfl (am_tab tk_X10_isHere 41 rfl) rfl ?_
                      refine am_alen (q := 79) (a := a) (k := 13) (n := l.length) hsh (by decide) (by omega) (am_tab tk_X10_isHere 42 rfl) rfl ?_
                      refine am_icmp_ge (q := 82) (t := 107) (am_tab tk_X10_isHere 43 rfl) (by decide) rfl (fun h79 => ?_) (fun h79 => ?_)
                      · refine am_iconst (q := 108) (n := 1) (by decide) (am_tab tk_X10_isHere 59 rfl) rfl ?_
                        refine am_iret (Or.inr ⟨rfl, by first | exact Or.inl rfl | exact Or.inr rfl | omega⟩) (Nat.le_of_ble_eq_true rfl) (Nat.le_of_ble_eq_true rfl) (am_tab tk_X10_isHere 60 rfl) ?_
                        refine hQ _ _ ?_
                        refine ⟨congrArg (fun z => some (am_i z)) ?_, rfl⟩
                        unfold hwB
                        have hmw : mW b (zP b E i) (rn isL b E (zP b E i)) l = true := by
                          unfold mW
                          rw [decide_eq_true (by omega), mB_of (fun k hk => hmt k (by omega))]; rfl
                        rw [hmw, decide_eq_true hyes]; rfl
                      · refine am_aload_n (q := 83) rfl (am_tab tk_X10_isHere 44 rfl) rfl ?_
                        refine am_getR (q := 86) (a := 55) (k := 10) (n := 108) (j := 0) (r := some (56)) (Ls_55 hL) (by decide) rfl (Lr_55_0 hL) (by decide) (Or.inl kf_X10_7) (am_tab tk_X10_isHere 45 rfl) rfl ?_
                        refine am_aload_n (q := 87) rfl (am_tab tk_X10_isHere 46 rfl) rfl ?_
                        refine am_getI (q := 90) (a := 55) (k := 10) (n := 108) (j := 2) (x := (zP b E i : Int)) (Ls_55 hL) (by decide) rfl rfl (by decide) (Or.inl kf_X10_254) (am_tab tk_X10_isHere 47 rfl) rfl ?_
                        refine am_iload_n (q := 91) rfl (am_tab tk_X10_isHere 48 rfl) rfl ?_
                        refine am_iadd (q := 92) (by omega) (am_tab tk_X10_isHere 49 rfl) rfl ?_
                        refine am_iald (q := 93) (a := 56) (n := 1600) (x := (b (zP b E i + j))) (Ls_56 hL) (by omega) (by omega) (by rw [show Int.toNat ((zP b E i : Int) + (j : Int)) = zP b E i + j by omega]; exact hX.1 _) (am_tab tk_X10_isHere 50 rfl) rfl ?_
                        refine am_aload_n (q := 94) rfl (am_tab tk_X10_isHere 51 rfl) rfl ?_
                        refine am_iload_n (q := 95) rfl (am_tab tk_X10_isHere 52 rfl) rfl ?_
                        refine am_cald (q := 96) (a := a) (n := l.length) (x := (l.getD j 0)) hsh (by omega) (by omega) (by rw [show Int.toNat (j : Int) = j by omega]; show (if a = 55 ∧ _ then _ else S.2.1 a j) = _; rw [if_neg (by omega)]; exact hw j (by omega)) (am_tab tk_X10_isHere 53 rfl) rfl ?_
                        refine am_icmp_eq (q := 99) (t := 101) (am_tab tk_X10_isHere 54 rfl) (by decide) rfl (fun h96 => ?_) (fun h96 => ?_)
                        · refine am_iinc (q := 104) rfl (by omega) (by decide) (ls2 := [(3, am_i (((j : Int) + 1))), (0, am_r 55), (1, am_r a), (2, am_i ((x : Int)))]) rfl (am_tab tk_X10_isHere 57 rfl) rfl ?_
                          refine am_goto (t := 76) (am_tab tk_X10_isHere 58 rfl) (by decide) ?_
                          exact am_less (by intro q hq; simp only [List.mem_cons, List.not_mem_nil, or_false] at hq; rcases hq with rfl | rfl | rfl | rfl <;> simp) (ih76 (j + 1) (by omega) (by omega) (fun k hk => by by_cases hkj : k = j; rw [hkj]; exact h96; exact hmt k (by omega)))
                        · refine am_iconst (q := 100) (n := 0) (by decide) (am_tab tk_X10_isHere 55 rfl) rfl ?_
                          refine am_iret (Or.inr ⟨rfl, by first | exact Or.inl rfl | exact Or.inr rfl | omega⟩) (Nat.le_of_ble_eq_true rfl) (Nat.le_of_ble_eq_true rfl) (am_tab tk_X10_isHere 56 rfl) ?_
                          refine hQ _ _ ?_
                          refine ⟨congrArg (fun z => some (am_i z)) ?_, rfl⟩
                          unfold hwB
                          rcases hm : mW b (zP b E i) (rn isL b E (zP b E i)) l with _ | _
                          · simp [b2i]
                          · exfalso
                            unfold mW at hm
                            simp only [Bool.and_eq_true, decide_eq_true_eq] at hm
                            exact h96 (mB_at hm.2 j (by omega))
                  refine am_iconst (q := 75) (n := 0) (by decide) (am_tab tk_X10_isHere 38 rfl) rfl ?_
                  refine am_istore_n (q := 76) (by decide) (ls2 := [(3, am_i 0), (2, am_i ((x : Int))), (0, am_r 55), (1, am_r a)]) rfl (am_tab tk_X10_isHere 39 rfl) rfl ?_
                  have hr : rn isL b E (zP b E i) = zP b E i + l.length := by omega
                  refine am_less (by intro q hq; simp only [List.mem_cons, List.not_mem_nil, or_false] at hq; rcases hq with rfl | rfl | rfl | rfl <;> simp) (L76 (_ + 1) 0 (by exact Nat.lt_succ_self _) (by omega) (by omega))
                · refine am_iconst (q := 73) (n := 0) (by decide) (am_tab tk_X10_isHere 36 rfl) rfl ?_
                  refine am_iret (Or.inr ⟨rfl, by first | exact Or.inl rfl | exact Or.inr rfl | omega⟩) (Nat.le_of_ble_eq_true rfl) (Nat.le_of_ble_eq_true rfl) (am_tab tk_X10_isHere 37 rfl) ?_
                  refine hQ _ _ ?_
                  refine ⟨congrArg (fun z => some (am_i z)) ?_, rfl⟩
                  unfold hwB
                  unfold mW
                  rw [decide_eq_false (p := rn isL b E (zP b E i) = zP b E i + l.length) (by omega)]; simp [b2i]
              · refine am_iinc (q := 58) rfl (by omega) (by decide) (ls2 := [(2, am_i (((x : Int) + 1))), (0, am_r 55), (1, am_r a)]) rfl (am_tab tk_X10_isHere 27 rfl) rfl ?_
                refine am_goto (t := 35) (am_tab tk_X10_isHere 28 rfl) (by decide) ?_
                exact am_less (by intro q hq; simp only [List.mem_cons, List.not_mem_nil, or_false] at hq; rcases hq with rfl | rfl | rfl <;> simp) (ih35 (x + 1) (by omega) (by omega) (by omega) (by rw [← hrn]; exact (rn_step (by omega) (b2t h52)).symm))
        refine am_less (by intro q hq; simp only [List.mem_cons, List.not_mem_nil, or_false] at hq; rcases hq with rfl | rfl | rfl <;> simp) (L35 (_ + 1) (zP b E i) (by exact Nat.lt_succ_self _) hzp (Nat.le_refl _) rfl)
      · refine am_iconst (q := 29) (n := 0) (by decide) (am_tab tk_X10_isHere 12 rfl) rfl ?_
        refine am_iret (Or.inr ⟨rfl, by first | exact Or.inl rfl | exact Or.inr rfl | omega⟩) (Nat.le_of_ble_eq_true rfl) (Nat.le_of_ble_eq_true rfl) (am_tab tk_X10_isHere 13 rfl) ?_
        refine hQ _ _ ?_
        refine ⟨congrArg (fun z => some (am_i z)) ?_, rfl⟩
        unfold hwB
        have hno : ¬ (zP b E i < E ∧ isL (b (zP b E i)) = true ∧ ¬ zT b E i = true) := by
          intro hx
          exact hx.2.2 (hS.2.2.2.2.2.2.mpr h25.symm)
        rw [decide_eq_false hno]; rfl
