def aqJ (b : Nat → Int) (E : Nat) (S : am_H) : (Nat × List Int) ⊕ (Int × Int) → Prop
  | .inl q => QX b E 2 q.1 q.2 [] 0 0 S
  | .inr e => ZB b E e.1 e.2 S
theorem aqJ.L {b : Nat → Int} {E : Nat} {S : am_H} {p : (Nat × List Int) ⊕ (Int × Int)} (h : aqJ b E S p) : lay S := by
  cases p with
  | inl q => exact (show QX b E 2 q.1 q.2 [] 0 0 S from h).1.1
  | inr e => exact (show ZB b E e.1 e.2 S from h).1
theorem PT.J {b : Nat → Int} {E : Nat} {S : am_H} {p : (Nat × List Int) ⊕ (Int × Int)} (h : PT b E 2 S p) : aqJ b E S p := by
  cases p with
  | inl q => exact h
  | inr e => exact (show QB b E e.1 e.2 1680 S from h).1
theorem PX.J {b : Nat → Int} {E : Nat} {S : am_H} {p : (Nat × List Int) ⊕ (Int × Int)} (h : PX b E 2 [] 0 0 S p) : aqJ b E S p := by
  cases p with
  | inl q => exact h
  | inr e => exact (show QB b E e.1 e.2 1660 S from h).1
/-- cells in which a question is read -/
def W_rd (a j : Nat) : Prop := W_t a j ∨ (a = 55 ∧ (j = 104 ∨ j = 105 ∨ j = 1 ∨ j = 3 ∨ j = 7 ∨ j = 8))
theorem GD.rd {σ τ : am_H} (hG : GD σ) (hF : frw W_rd σ τ) : GD τ := by
  refine GD_fr hG hF (by unfold W_rd W_t W_p W_sc W_q; omega) ?_ ?_
  · rw [hF.2.2 55 59 (by unfold W_rd W_t W_p W_sc W_q; omega)]; exact hG.o
  · rw [hF.2.2 55 61 (by unfold W_rd W_t W_p W_sc W_q; omega)]; exact hG.t
theorem cn_rd {σ τ : am_H} (hF : frw W_rd σ τ) : cn τ = cn σ := cn_eq (fun a j h1 h2 => hF.2.2 a j (by unfold W_rd W_t W_p W_sc W_q; omega))
theorem dl_rd {σ τ : am_H} (hF : frw W_rd σ τ) : dlM τ = dlM σ := by
  unfold dlM
  rw [hF.2.2 55 52 (by unfold W_rd W_t W_p W_sc W_q; omega), hF.2.2 96 0 (by unfold W_rd W_t W_p W_sc W_q; omega), hF.2.2 96 1 (by unfold W_rd W_t W_p W_sc W_q; omega), hF.2.2 85 9 (by unfold W_rd W_t W_p W_sc W_q; omega)]
theorem ofQ_eq {S T : am_H} (h5 : S.2.1 85 5 = T.2.1 85 5) (h9 : ∀ j, S.2.1 89 j = T.2.1 89 j) : ofQ S = ofQ T := by
  funext m i
  unfold ofQ
  rw [h5, h9]
def W_lp (a j : Nat) : Prop := a = 129 ∨ (a = 55 ∧ (j = 56 ∨ j = 57 ∨ j = 103 ∨ j = 104 ∨ j = 105))
def W_v (a j : Nat) : Prop := a = 55 ∧ (j = 104 ∨ j = 105)
/-- a day ahead is one, though two cells that no day minds are changed on both sides -/
theorem DS.v {σ S T : am_H} {n : Nat} (hD : DS σ n S) (hF : frw W_lp S T) : DS (am_setN (am_setN σ 55 104 (T.2.1 55 104)) 55 105 (T.2.1 55 105)) n T := by
  have hcU : cn (am_setN (am_setN σ 55 104 (T.2.1 55 104)) 55 105 (T.2.1 55 105)) = cn σ := cn_eq (fun a j h1 h2 => by
    show (if a = 55 ∧ j = 105 then _ else if a = 55 ∧ j = 104 then _ else σ.2.1 a j) = _
    rw [if_neg (by omega), if_neg (by omega)])
  refine ⟨⟨hF.1.trans hD.1.1, hF.2.1.trans hD.1.2.1, fun a j hw => ?_⟩, ?_, ?_, fun k hk => ?_⟩
  · show T.2.1 a j = (if a = 55 ∧ j = 105 then T.2.1 55 105 else if a = 55 ∧ j = 104 then T.2.1 55 104 else σ.2.1 a j)
    by_cases g1 : a = 55 ∧ j = 105
    · rw [if_pos g1, g1.1, g1.2]
    · rw [if_neg g1]
      by_cases g2 : a = 55 ∧ j = 104
      · rw [if_pos g2, g2.1, g2.2]
      · rw [if_neg g2, hF.2.2 a j (by unfold W_lp; unfold W_ah at hw; omega), hD.1.2.2 a j hw]
  · rw [itS_eq hcU n, ← hD.2.1]
    exact cn_eq (fun a j h1 h2 => hF.2.2 a j (by unfold W_lp; omega))
  · refine GD_fr hD.2.2.1 hF (by unfold W_lp; omega) ?_ ?_
    · rw [hF.2.2 55 59 (by unfold W_lp; omega)]; exact hD.2.2.1.o
    · rw [hF.2.2 55 61 (by unfold W_lp; omega)]; exact hD.2.2.1.t
  · show T.2.1 97 k = (if 96 = 55 ∧ k = 105 then T.2.1 55 105 else if 96 = 55 ∧ k = 104 then T.2.1 55 104 else σ.2.1 96 k)
    rw [if_neg (by omega), if_neg (by omega), hF.2.2 97 k (by unfold W_lp; omega), hD.2.2.2 k hk]
set_option maxRecDepth 100000 in
theorem c_X10_ask (b : Nat → Int) (E : Nat) (σ : am_H) (hG : GD σ) (hWD : WD σ) (hX : (∀ j, σ.2.1 56 j = b j) ∧ σ.2.1 55 1 = (E : Int) ∧ E ≤ 1600 ∧ (∀ j, j < 1600 → 0 ≤ b j ∧ b j ≤ 255)) (hOK : ∀ cs, aqF b E = .inl cs → okQ cs [] = true) (n : Int)  : am_met M_X10_ask [am_r 55, am_i n] σ (fun r σ' => aqP b E σ n r σ') := by
  refine am_qq (fun Q hQ => ?_)
  refine am_enter (show plainFor yX10_ask = true by decide +kernel) rfl (Nat.le_of_ble_eq_true rfl) (fun _ _ _ => trivial) ?_
  have hL := hG.L
  have hD90 : 0 ≤ σ.2.1 96 1 ∧ σ.2.1 96 1 ≤ 90 := ⟨hG.R.day.1, by have := hG.R.day; have := hG.R.Y; omega⟩
  have frt : frw W_rd σ (t1H σ) := ((frw.refl W_rd σ).setN (by unfold W_rd W_t W_p W_sc W_q; omega)).setN (by unfold W_rd W_t W_p W_sc W_q; omega)
  by_cases c0 : ¬ σ.2.1 55 52 = 0 ∧ (1 ≤ n ∧ n ≤ 120) ∧ n ≤ dlM σ
  · refine am_aload_n (q := 1) rfl (am_tab tk_X10_ask 0 rfl) rfl ?_
    refine am_getI (q := 4) (a := 55) (k := 10) (n := 108) (j := 52) (x := (σ.2.1 55 52)) (Ls_55 hL) (by decide) rfl rfl (by decide) (Or.inl kf_X10_384) (am_tab tk_X10_ask 1 rfl) rfl ?_
    refine am_if_eq (q := 7) (t := 15) (am_tab tk_X10_ask 2 rfl) (by decide) rfl (fun h4 => ?_) (fun h4 => ?_)
    · exact absurd h4 c0.1
    · refine am_aload_n (q := 8) rfl (am_tab tk_X10_ask 3 rfl) rfl ?_
      refine am_iload_n (q := 9) rfl (am_tab tk_X10_ask 4 rfl) rfl ?_
      refine am_callV0 (q := 12) (me2 := M_X10_isAhead) (b := 55) (kb := 10) (nb := 108) (As := [am_i n]) (rest := []) (out := [am_i (if (1 ≤ n ∧ n ≤ 120) ∧ n ≤ dlM σ then 1 else 0)]) (c_X10_isAhead σ hG.L n hG.R.year hD90 hG.R.Y) ⟨rfl, rfl⟩ (Ls_55 hL) (by decide) ⟨Or.inl km_X10_509, kc_X10_isAhead, kn_X10, kd_X10_isAhead, ⟨(Nat.le_of_ble_eq_true rfl), (Nat.le_of_ble_eq_true rfl)⟩, ⟨(Nat.le_of_ble_eq_true rfl), (Nat.le_of_ble_eq_true rfl)⟩, (Nat.le_of_ble_eq_true rfl)⟩ ki_X10_isAhead ks_X10_isAhead rfl rfl (am_tab tk_X10_ask 5 rfl) rfl ?_
      refine am_if_ne (q := 15) (t := 24) (am_tab tk_X10_ask 6 rfl) (by decide) rfl (fun h12 => ?_) (fun h12 => ?_)
      · replace h12 := b01n h12
        refine am_aload_n (q := 25) rfl (am_tab tk_X10_ask 12 rfl) rfl ?_
        refine am_aload_n (q := 26) rfl (am_tab tk_X10_ask 13 rfl) rfl ?_
        refine am_getI (q := 29) (a := 55) (k := 10) (n := 108) (j := 1) (x := (σ.2.1 55 1)) (Ls_55 hL) (by decide) rfl rfl (by decide) (Or.inl kf_X10_245) (am_tab tk_X10_ask 14 rfl) rfl ?_
        refine am_putI (q := 32) (k := 10) (n := 108) (j := 3) (Ls_55 hL) (by decide) rfl (by decide) (Or.inl ⟨kf_X10_257, rfl⟩) (am_tab tk_X10_ask 15 rfl) rfl ?_
        refine am_aload_n (q := 33) rfl (am_tab tk_X10_ask 16 rfl) rfl ?_
        refine am_iconst (q := 34) (n := 0) (by decide) (am_tab tk_X10_ask 17 rfl) rfl ?_
        refine am_putI (q := 37) (k := 10) (n := 108) (j := 1) (Ls_55 hL) (by decide) rfl (by decide) (Or.inl ⟨kf_X10_245, rfl⟩) (am_tab tk_X10_ask 18 rfl) rfl ?_
        refine am_aload_n (q := 38) rfl (am_tab tk_X10_ask 19 rfl) rfl ?_
        refine am_iconst (q := 39) (n := 0) (by decide) (am_tab tk_X10_ask 20 rfl) rfl ?_
        refine am_putI (q := 42) (k := 10) (n := 108) (j := 2) (Ls_55 hL) (by decide) rfl (by decide) (Or.inl ⟨kf_X10_254, rfl⟩) (am_tab tk_X10_ask 21 rfl) rfl ?_
        refine am_aload_n (q := 43) rfl (am_tab tk_X10_ask 22 rfl) rfl ?_
        refine am_iconst (q := 44) (n := (-1)) (by decide) (am_tab tk_X10_ask 23 rfl) rfl ?_
        refine am_putI (q := 47) (k := 10) (n := 108) (j := 4) (Ls_55 hL) (by decide) rfl (by decide) (Or.inl ⟨kf_X10_268, rfl⟩) (am_tab tk_X10_ask 24 rfl) rfl ?_
        refine am_aload_n (q := 48) rfl (am_tab tk_X10_ask 25 rfl) rfl ?_
        refine am_iconst (q := 49) (n := 0) (by decide) (am_tab tk_X10_ask 26 rfl) rfl ?_
        refine am_putI (q := 52) (k := 10) (n := 108) (j := 5) (Ls_55 hL) (by decide) rfl (by decide) (Or.inl ⟨kf_X10_248, rfl⟩) (am_tab tk_X10_ask 27 rfl) rfl ?_
        refine am_aload_n (q := 53) rfl (am_tab tk_X10_ask 28 rfl) rfl ?_
        refine am_iconst (q := 54) (n := (-1)) (by decide) (am_tab tk_X10_ask 29 rfl) rfl ?_
        refine am_putI (q := 57) (k := 10) (n := 108) (j := 6) (Ls_55 hL) (by decide) rfl (by decide) (Or.inl ⟨kf_X10_251, rfl⟩) (am_tab tk_X10_ask 30 rfl) rfl ?_
        refine am_aload_n (q := 58) rfl (am_tab tk_X10_ask 31 rfl) rfl ?_
        refine am_iconst (q := 59) (n := 2) (by decide) (am_tab tk_X10_ask 32 rfl) rfl ?_
        refine am_putI (q := 62) (k := 10) (n := 108) (j := 53) (Ls_55 hL) (by decide) rfl (by decide) (Or.inl ⟨kf_X10_306, rfl⟩) (am_tab tk_X10_ask 33 rfl) rfl ?_
        refine am_aload_n (q := 63) rfl (am_tab tk_X10_ask 34 rfl) rfl ?_
        refine am_iconst (q := 64) (n := 0) (by decide) (am_tab tk_X10_ask 35 rfl) rfl ?_
        refine am_putI (q := 67) (k := 10) (n := 108) (j := 97) (Ls_55 hL) (by decide) rfl (by decide) (Or.inl ⟨kf_X10_336, rfl⟩) (am_tab tk_X10_ask 36 rfl) rfl ?_
        refine am_aload_n (q := 68) rfl (am_tab tk_X10_ask 37 rfl) rfl ?_
        refine am_iconst (q := 69) (n := 0) (by decide) (am_tab tk_X10_ask 38 rfl) rfl ?_
        refine am_putI (q := 72) (k := 10) (n := 108) (j := 99) (Ls_55 hL) (by decide) rfl (by decide) (Or.inl ⟨kf_X10_339, rfl⟩) (am_tab tk_X10_ask 39 rfl) rfl ?_
        refine am_aload_n (q := 73) rfl (am_tab tk_X10_ask 40 rfl) rfl ?_
        refine am_iconst (q := 74) (n := 0) (by decide) (am_tab tk_X10_ask 41 rfl) rfl ?_
        refine am_putI (q := 77) (k := 10) (n := 108) (j := 100) (Ls_55 hL) (by decide) rfl (by decide) (Or.inl ⟨kf_X10_342, rfl⟩) (am_tab tk_X10_ask 42 rfl) rfl ?_
        refine am_aload_n (q := 78) rfl (am_tab tk_X10_ask 43 rfl) rfl ?_
        refine am_iconst (q := 79) (n := 0) (by decide) (am_tab tk_X10_ask 44 rfl) rfl ?_
        refine am_putI (q := 82) (k := 10) (n := 108) (j := 101) (Ls_55 hL) (by decide) rfl (by decide) (Or.inl ⟨kf_X10_345, rfl⟩) (am_tab tk_X10_ask 45 rfl) rfl ?_
        have fr0 : frw W_t (t1H σ) (am_setN (am_setN (am_setN (am_setN (am_setN (am_setN (am_setN (am_setN (am_setN (am_setN (am_setN σ 55 3 (σ.2.1 55 1)) 55 1 0) 55 2 0) 55 4 (-1)) 55 5 0) 55 6 (-1)) 55 53 2) 55 97 0) 55 99 0) 55 100 0) 55 101 0) := ((((((((((frw.refl W_t (t1H σ)).setN (by unfold W_t W_p W_sc W_q; omega)).setN (by unfold W_t W_p W_sc W_q; omega)).setN (by unfold W_t W_p W_sc W_q; omega)).setN (by unfold W_t W_p W_sc W_q; omega)).setN (by unfold W_t W_p W_sc W_q; omega)).setN (by unfold W_t W_p W_sc W_q; omega)).setN (by unfold W_t W_p W_sc W_q; omega)).setN (by unfold W_t W_p W_sc W_q; omega)).setN (by unfold W_t W_p W_sc W_q; omega))
        have hZ0 : ZS b E 0 (am_setN (am_setN (am_setN (am_setN (am_setN (am_setN (am_setN (am_setN (am_setN (am_setN (am_setN σ 55 3 (σ.2.1 55 1)) 55 1 0) 55 2 0) 55 4 (-1)) 55 5 0) 55 6 (-1)) 55 53 2) 55 97 0) 55 99 0) 55 100 0) 55 101 0) := ⟨hL, hWD.fr (W := fun a _ => a = 55) ⟨rfl, rfl, fun a j h => by
            show (if a = 55 ∧ j = 101 then 0 else if a = 55 ∧ j = 100 then 0 else if a = 55 ∧ j = 99 then 0 else if a = 55 ∧ j = 97 then 0 else if a = 55 ∧ j = 53 then 2 else if a = 55 ∧ j = 6 then -1 else if a = 55 ∧ j = 5 then 0 else if a = 55 ∧ j = 4 then -1 else if a = 55 ∧ j = 2 then 0 else if a = 55 ∧ j = 1 then 0 else if a = 55 ∧ j = 3 then σ.2.1 55 1 else σ.2.1 a j) = _
            rw [if_neg (by omega), if_neg (by omega), if_neg (by omega), if_neg (by omega), if_neg (by omega), if_neg (by omega), if_neg (by omega), if_neg (by omega), if_neg (by omega), if_neg (by omega), if_neg (by omega)]⟩ (fun a j h => by show ¬ a = 55; omega), ⟨hX.1, hX.2.1, hX.2.2⟩, rfl, rfl, ⟨Int.le_refl 0, Int.natCast_nonneg E⟩, (by show (-1 : Int) ≤ 0; decide), rfl, ⟨fun h => absurd (show false = true from h) (by decide), fun h => absurd (show (-1 : Int) = (zP b E 0 : Int) from h) (by omega)⟩⟩
        refine am_aload_n (q := 83) rfl (am_tab tk_X10_ask 46 rfl) rfl ?_
        have L117 : ∀ (n117 : Nat) (kd5 : Int) (p : (Nat × List Int) ⊕ (Int × Int)) (T : am_H), 0 < n117 → aqJ b E T p → aqQ b E = p → frw W_t (t1H σ) T → (p.isLeft = true → kd5 = zK b E 0 - 155 ∧ (155 ≤ zK b E 0 ∧ zK b E 0 ≤ 160)) → am_wp M_X10_ask Q 0 0 117 [(2, am_i kd5), (0, am_r 55), (1, am_i n)] [] T := by
          intro n117
          induction n117 with
          | zero => intro kd5 p T hn117; exact absurd hn117 (Nat.not_lt_zero _)
          | succ n117 ih117 =>
            intro kd5 p T hn117 hJ hpp hfT hkd
            by_cases lf : p.isLeft = true
            · obtain ⟨q, hpq⟩ := sumL lf
              rw [hpq] at hJ hpp
              have hQX : QX b E 2 q.1 q.2 [] 0 0 T := hJ
              obtain ⟨ekd, hkr⟩ := hkd (by rw [hpq]; rfl)
              have hqi := hQX.2.2.2.2
              have hzr := zP_rng b E q.1
              refine am_aload_n (q := 118) rfl (am_tab tk_X10_ask 63 rfl) rfl ?_
              refine am_getI (q := 121) (a := 55) (k := 10) (n := 108) (j := 5) (x := 0) (Ls_55 hQX.1.1) (by decide) rfl hQX.1.2.2.2.1 (by decide) (Or.inl kf_X10_248) (am_tab tk_X10_ask 64 rfl) rfl ?_
              refine am_if_ne (q := 124) (t := 141) (am_tab tk_X10_ask 65 rfl) (by decide) rfl (fun h121 => ?_) (fun h121 => ?_)
              · exact absurd h121 (by decide)
              · refine am_aload_n (q := 125) rfl (am_tab tk_X10_ask 66 rfl) rfl ?_
                refine am_callV0 (q := 128) (me2 := M_X10_look) (b := 55) (kb := 10) (nb := 108) (As := []) (rest := []) (out := [am_i (byt b E q.1)]) (c_X10_look b E q.1 T hQX.1.1 hQX.1.2.2) ⟨rfl, rfl⟩ (Ls_55 hQX.1.1) (by decide) ⟨Or.inl km_X10_260, kc_X10_look, kn_X10, kd_X10_look, ⟨(Nat.le_of_ble_eq_true rfl), (Nat.le_of_ble_eq_true rfl)⟩, ⟨(Nat.le_of_ble_eq_true rfl), (Nat.le_of_ble_eq_true rfl)⟩, (Nat.le_of_ble_eq_true rfl)⟩ ki_X10_look ks_X10_look rfl rfl (am_tab tk_X10_ask 67 rfl) rfl ?_
                by_cases fin : zK b E q.1 = 6
                · refine am_iconst (q := 129) (n := (-1)) (by decide) (am_tab tk_X10_ask 68 rfl) rfl ?_
                  refine am_icmp_eq (q := 132) (t := 141) (am_tab tk_X10_ask 69 rfl) (by decide) rfl (fun h129 => ?_) (fun h129 => ?_)
                  · refine am_aload_n (q := 142) rfl (am_tab tk_X10_ask 75 rfl) rfl ?_
                    refine am_aload_n (q := 143) rfl (am_tab tk_X10_ask 76 rfl) rfl ?_
                    refine am_getI (q := 146) (a := 55) (k := 10) (n := 108) (j := 5) (x := 0) (Ls_55 hQX.1.1) (by decide) rfl hQX.1.2.2.2.1 (by decide) (Or.inl kf_X10_248) (am_tab tk_X10_ask 77 rfl) rfl ?_
                    refine am_putI (q := 149) (k := 10) (n := 108) (j := 7) (Ls_55 hQX.1.1) (by decide) rfl (by decide) (Or.inl ⟨kf_X10_378, rfl⟩) (am_tab tk_X10_ask 78 rfl) rfl ?_
                    refine am_aload_n (q := 150) rfl (am_tab tk_X10_ask 79 rfl) rfl ?_
                    refine am_aload_n (q := 151) rfl (am_tab tk_X10_ask 80 rfl) rfl ?_
                    refine am_getI (q := 154) (a := 55) (k := 10) (n := 108) (j := 6) (x := (-1)) (Ls_55 hQX.1.1) (by decide) rfl hQX.1.2.2.2.2.1 (by decide) (Or.inl kf_X10_251) (am_tab tk_X10_ask 81 rfl) rfl ?_
                    refine am_putI (q := 157) (k := 10) (n := 108) (j := 8) (Ls_55 hQX.1.1) (by decide) rfl (by decide) (Or.inl ⟨kf_X10_13, rfl⟩) (am_tab tk_X10_ask 82 rfl) rfl ?_
                    refine am_aload_n (q := 158) rfl (am_tab tk_X10_ask 83 rfl) rfl ?_
                    refine am_getI (q := 161) (a := 55) (k := 10) (n := 108) (j := 5) (x := 0) (Ls_55 hQX.1.1) (by decide) rfl hQX.1.2.2.2.1 (by decide) (Or.inl kf_X10_248) (am_tab tk_X10_ask 84 rfl) rfl ?_
                    refine am_if_eq (q := 164) (t := 168) (am_tab tk_X10_ask 85 rfl) (by decide) rfl (fun h161 => ?_) (fun h161 => ?_)
                    · have hAF : aqF b E = .inl q.2.reverse := by unfold aqF; rw [hpp]; show (if _ then _ else _) = _; rw [if_pos fin]
                      obtain ⟨cs, hcs⟩ : ∃ cs, cs = q.2.reverse := ⟨_, rfl⟩
                      rw [← hcs] at hAF
                      have hok := hOK cs hAF
                      have hlc : cs.length = q.2.length := by rw [hcs, List.length_reverse]
                      have hfw : frw W_t (t1H σ) (am_setN T 55 2 (zP b E q.1 : Int)) := hfT.setN (by unfold W_t W_p W_sc W_q; omega)
                      have hfr : frw W_rd σ (am_setN (am_setN (am_setN T 55 2 (zP b E q.1 : Int)) 55 7 0) 55 8 (-1)) := ((frt.trans (hfw.mono (fun _ _ h => Or.inl h))).setN (by unfold W_rd W_t W_p W_sc W_q; omega)).setN (by unfold W_rd W_t W_p W_sc W_q; omega)
                      refine am_aload_n (q := 169) rfl (am_tab tk_X10_ask 88 rfl) rfl ?_
                      have L189 : ∀ (n189 : Nat) (U : am_H), 0 < n189 → U = (am_setN (am_setN (am_setN (am_setN (am_setN T 55 2 (zP b E q.1 : Int)) 55 7 0) 55 8 (-1)) 55 104 (if kd5 < 2 then -1 else 0)) 55 105 1) → am_wp M_X10_ask Q 0 0 189 [(2, am_i kd5), (0, am_r 55), (1, am_i n)] [] U := by
                        intro n189
                        induction n189 with
                        | zero => intro U hn189; exact absurd hn189 (Nat.not_lt_zero _)
                        | succ n189 ih189 =>
                          intro U hn189 hU
                          have hfU : frw W_rd σ U := by rw [hU]; exact (hfr.setN (by unfold W_rd W_t W_p W_sc W_q; omega)).setN (by unfold W_rd W_t W_p W_sc W_q; omega)
                          have hGU := hG.rd hfU
                          have hcU := cn_rd hfU
                          refine am_aload_n (q := 190) rfl (am_tab tk_X10_ask 99 rfl) rfl ?_
                          refine am_callVr (q := 193) (me2 := M_X10_putsAside) (b := 55) (kb := 10) (nb := 108) (As := []) (rest := []) (c_aside U hGU) ⟨rfl, rfl⟩ (Ls_55 hGU.L) (by decide) ⟨Or.inl km_X10_514, kc_X10_putsAside, kn_X10, kd_X10_putsAside, ⟨(Nat.le_of_ble_eq_true rfl), (Nat.le_of_ble_eq_true rfl)⟩, ⟨(Nat.le_of_ble_eq_true rfl), (Nat.le_of_ble_eq_true rfl)⟩, (Nat.le_of_ble_eq_true rfl)⟩ ki_X10_putsAside ks_X10_putsAside rfl (am_tab tk_X10_ask 100 rfl) rfl ?_
                          rintro r S0 ⟨rfl, hD0⟩
                          refine am_st (st2 := []) rfl ?_
                          refine am_aload_n (q := 194) rfl (am_tab tk_X10_ask 101 rfl) rfl ?_
                          refine am_iload_n (q := 195) rfl (am_tab tk_X10_ask 102 rfl) rfl ?_
                          refine am_callVr (q := 198) (me2 := M_X10_daysGo) (b := 55) (kb := 10) (nb := 108) (As := [am_i n]) (rest := []) (c_X10_daysGo U hGU S0 hD0 n n.toNat (by omega) (by omega) (by rw [dl_rd hfU]; omega)) ⟨rfl, rfl⟩ (Ls_55 hD0.2.2.1.L) (by decide) ⟨Or.inl km_X10_517, kc_X10_daysGo, kn_X10, kd_X10_daysGo, ⟨(Nat.le_of_ble_eq_true rfl), (Nat.le_of_ble_eq_true rfl)⟩, ⟨(Nat.le_of_ble_eq_true rfl), (Nat.le_of_ble_eq_true rfl)⟩, (Nat.le_of_ble_eq_true rfl)⟩ ki_X10_daysGo ks_X10_daysGo rfl (am_tab tk_X10_ask 103 rfl) rfl ?_
                          rintro r S1 ⟨rfl, hD1, hLD0⟩
                          obtain ⟨_, e61, e62⟩ := hLD0 (n.toNat - 1) (by omega)
                          rw [thD_eq (itS_eq hcU _)] at e61
                          rw [fsD_eq (itS_eq hcU _)] at e62
                          have hcS : cn S1 = cn (itS n.toNat σ) := hD1.2.1.trans (itS_eq hcU _)
                          have e96 : ∀ j, S1.2.1 96 j = (itS n.toNat σ).2.1 96 j := fun j => cn_at hcS 96 j (by decide) (by decide)
                          have hR1 := hD1.2.2.1.R
                          have hdy := hR1.day
                          have hYY := hR1.Y
                          rw [e96] at hdy
                          refine am_st (st2 := []) rfl ?_
                          refine am_aload_n (q := 199) rfl (am_tab tk_X10_ask 104 rfl) rfl ?_
                          refine am_aload_n (q := 200) rfl (am_tab tk_X10_ask 105 rfl) rfl ?_
                          refine am_getR (q := 203) (a := 55) (k := 10) (n := 108) (j := 54) (r := some (96)) (Ls_55 hD1.2.2.1.L) (by decide) rfl (Lr_55_54 hD1.2.2.1.L) (by decide) (Or.inl kf_X10_136) (am_tab tk_X10_ask 106 rfl) rfl ?_
                          refine am_bipush (q := 205) (n := 20) (by decide) rfl (am_tab tk_X10_ask 107 rfl) rfl ?_
                          refine am_aload_n (q := 206) rfl (am_tab tk_X10_ask 108 rfl) rfl ?_
                          refine am_getR (q := 209) (a := 55) (k := 10) (n := 108) (j := 54) (r := some (96)) (Ls_55 hD1.2.2.1.L) (by decide) rfl (Lr_55_54 hD1.2.2.1.L) (by decide) (Or.inl kf_X10_136) (am_tab tk_X10_ask 109 rfl) rfl ?_
                          refine am_iconst (q := 210) (n := 1) (by decide) (am_tab tk_X10_ask 110 rfl) rfl ?_
                          refine am_iald (q := 211) (a := 96) (n := 443) (x := ((itS n.toNat σ).2.1 96 1)) (Ls_96 hD1.2.2.1.L) (by omega) (by omega) (e96 1) (am_tab tk_X10_ask 111 rfl) rfl ?_
                          refine am_iadd (q := 212) (by omega) (am_tab tk_X10_ask 112 rfl) rfl ?_
                          refine am_iald (q := 213) (a := 96) (n := 443) (x := ((itS n.toNat σ).2.1 96 (Int.toNat (20 + ((itS n.toNat σ).2.1 96 1))))) (Ls_96 hD1.2.2.1.L) (by omega) (by omega) (e96 _) (am_tab tk_X10_ask 113 rfl) rfl ?_
                          refine am_putI (q := 216) (k := 10) (n := 108) (j := 56) (Ls_55 hD1.2.2.1.L) (by decide) rfl (by decide) (Or.inl ⟨kf_X10_417, rfl⟩) (am_tab tk_X10_ask 114 rfl) rfl ?_
                          have L234 : ∀ (n234 : Nat) (i : Nat) (T8 : am_H), 8 - i < n234 → i ≤ (σ.2.1 85 5).toNat → frw W_lp S1 T8 → T8.2.1 55 56 = ((itS n.toNat σ).2.1 96 (Int.toNat (20 + ((itS n.toNat σ).2.1 96 1)))) → (T8.2.1 55 57 = if fsD (itS (n.toNat - 1) σ) = 0 then 0 else 1) → T8.2.1 55 104 = aqL σ n.toNat kd5 cs (S1.2.1 55 58) (S1.2.1 55 59) i → (T8.2.1 55 105 = if i = 0 then 1 else 0) → am_wp M_X10_ask Q 0 0 234 [(3, am_i ((i : Int))), (2, am_i kd5), (0, am_r 55), (1, am_i n)] [] T8 := by
                            intro n234
                            induction n234 with
                            | zero => intro i T8 hn234; exact absurd hn234 (Nat.not_lt_zero _)
                            | succ n234 ih234 =>
                              intro i T8 hn234 hi hT8 h56 h57 h104 h105
                              have hL8 : lay T8 := hT8.L hD1.2.2.1.L
                              have h85 : T8.2.1 85 5 = σ.2.1 85 5 := by rw [hT8.2.2 85 5 (by unfold W_lp; omega), hD1.1.2.2 85 5 (by unfold W_ah; omega)]; exact hfU.2.2 85 5 (by unfold W_rd W_t W_p W_sc W_q; omega)
                              have hPP := hG.R.P
                              have h61 : T8.2.1 55 61 = S1.2.1 55 61 := hT8.2.2 55 61 (by unfold W_lp; omega)
                              have htel : 0 ≤ ((itS n.toNat σ).2.1 96 (Int.toNat (20 + ((itS n.toNat σ).2.1 96 1)))) ∧ ((itS n.toNat σ).2.1 96 (Int.toNat (20 + ((itS n.toNat σ).2.1 96 1)))) < 256 := by rw [← e96, show Int.toNat (20 + ((itS n.toNat σ).2.1 96 1)) = 20 + (((itS n.toNat σ).2.1 96 1)).toNat by omega]; exact hR1.told _ (by rw [← e96] at hdy ⊢; omega)
                              have hth : 0 ≤ thD (itS (n.toNat - 1) σ) ∧ thD (itS (n.toNat - 1) σ) < 256 := by rw [← e61]; exact hD1.2.2.1.t
                              have h97 : T8.2.1 55 97 = (cs.length : Int) := by
                                rw [hT8.2.2 55 97 (by unfold W_lp; omega), hD1.1.2.2 55 97 (by unfold W_ah; omega), hU, hlc]
                                exact hQX.2.1.1
                              have h127 : ∀ k, k < cs.length → T8.2.1 127 k = cs.getD k 0 := by
                                intro k hk
                                rw [hT8.2.2 127 k (by unfold W_lp; omega), hD1.1.2.2 127 k (by unfold W_ah; omega), hU, hcs]
                                have h9 := pl_get (f := fun k => T.2.1 127 k) q.2.length k (by omega)
                                rw [hQX.2.1.2.1] at h9
                                exact h9.symm
                              have hpt : ptM T8 i = ptM (aqS σ n.toNat (S1.2.1 55 58) (S1.2.1 55 59)) i := ptM_eq (fun j => (hT8.2.2 96 j (by unfold W_lp; omega)).trans (e96 j)) (fun j => by
                                rw [hT8.2.2 87 j (by unfold W_lp; omega), hD1.1.2.2 87 j (by unfold W_ah; omega), hfU.2.2 87 j (by unfold W_rd W_t W_p W_sc W_q; omega)]
                                exact (itS_9 87 j (by decide) n.toNat).symm) h56 h57 (hT8.2.2 55 58 (by unfold W_lp; omega)) (hT8.2.2 55 59 (by unfold W_lp; omega)) (h61.trans e61)
                              have hof : ofQ T8 = ofQ σ := ofQ_eq h85 (fun j => by rw [hT8.2.2 89 j (by unfold W_lp; omega), hD1.1.2.2 89 j (by unfold W_ah; omega), hfU.2.2 89 j (by unfold W_rd W_t W_p W_sc W_q; omega)])
                              have hAr := aqL_rng (σ := σ) (n := n.toNat) (kd := kd5) (x := S1.2.1 55 58) (y := S1.2.1 55 59) hok i (by omega)
                              have hVr : -1000000 ≤ (aqV σ n.toNat cs (S1.2.1 55 58) (S1.2.1 55 59) i) ∧ (aqV σ n.toNat cs (S1.2.1 55 58) (S1.2.1 55 59) i) ≤ 1000000 := evQ_rng (ts := []) (st := []) trivial hok
                              refine am_iload_n (q := 235) rfl (am_tab tk_X10_ask 125 rfl) rfl ?_
                              refine am_aload_n (q := 236) rfl (am_tab tk_X10_ask 126 rfl) rfl ?_
                              refine am_callVr (q := 239) (me2 := M_X10_peopleMany) (b := 55) (kb := 10) (nb := 108) (As := []) (rest := [am_i ((i : Int))]) (c_X10_peopleMany T8 hL8) ⟨rfl, rfl⟩ (Ls_55 hL8) (by decide) ⟨Or.inl km_X10_394, kc_X10_peopleMany, kn_X10, kd_X10_peopleMany, ⟨(Nat.le_of_ble_eq_true rfl), (Nat.le_of_ble_eq_true rfl)⟩, ⟨(Nat.le_of_ble_eq_true rfl), (Nat.le_of_ble_eq_true rfl)⟩, (Nat.le_of_ble_eq_true rfl)⟩ ki_X10_peopleMany ks_X10_peopleMany rfl (am_tab tk_X10_ask 127 rfl) rfl ?_
                              rintro r τ ⟨hr, hτ⟩
                              rw [h85] at hr
                              rw [hr, hτ]
                              refine am_st (st2 := [am_i ((σ.2.1 85 5)), am_i ((i : Int))]) rfl ?_
                              refine am_icmp_ge (q := 242) (t := 259) (am_tab tk_X10_ask 128 rfl) (by decide) rfl (fun h239 => ?_) (fun h239 => ?_)
                              · obtain ⟨V, hV⟩ : ∃ V, V = am_setN (am_setN U 55 104 (T8.2.1 55 104)) 55 105 (T8.2.1 55 105) := ⟨_, rfl⟩
                                have hDV : DS V n.toNat T8 := by rw [hV]; exact hD1.v hT8
                                have hVV : frw W_v (am_setN (am_setN (am_setN T 55 2 (zP b E q.1 : Int)) 55 7 0) 55 8 (-1)) V := by rw [hV, hU]; exact ((((frw.refl W_v _).setN (by unfold W_v; omega)).setN (by unfold W_v; omega)).setN (by unfold W_v; omega)).setN (by unfold W_v; omega)
                                have hfV : frw W_rd σ V := hfr.trans (hVV.mono (fun _ _ h => by unfold W_v at h; unfold W_rd; omega))
                                have hGV := hG.rd hfV
                                have hdV := dl_rd hfV
                                obtain ⟨x9, hx9⟩ : ∃ x, x = S1.2.1 55 58 := ⟨_, rfl⟩
                                obtain ⟨y9, hy9⟩ : ∃ y, y = S1.2.1 55 59 := ⟨_, rfl⟩
                                rw [← hx9, ← hy9] at h104
                                refine am_aload_n (q := 260) rfl (am_tab tk_X10_ask 138 rfl) rfl ?_
                                refine am_callVr (q := 263) (me2 := M_X10_takesBack) (b := 55) (kb := 10) (nb := 108) (As := []) (rest := []) (c_back V hGV n.toNat (by rw [hdV]; omega) T8 hDV) ⟨rfl, rfl⟩ (Ls_55 hL8) (by decide) ⟨Or.inl km_X10_520, kc_X10_takesBack, kn_X10, kd_X10_takesBack, ⟨(Nat.le_of_ble_eq_true rfl), (Nat.le_of_ble_eq_true rfl)⟩, ⟨(Nat.le_of_ble_eq_true rfl), (Nat.le_of_ble_eq_true rfl)⟩, (Nat.le_of_ble_eq_true rfl)⟩ ki_X10_takesBack ks_X10_takesBack rfl (am_tab tk_X10_ask 139 rfl) rfl ?_
                                rintro r S9 ⟨rfl, hP9⟩
                                have fr9 : frw W_ask (am_setN (am_setN (am_setN T 55 2 (zP b E q.1 : Int)) 55 7 0) 55 8 (-1)) S9 := (hVV.mono (W2 := W_ask) (fun _ _ h => by unfold W_v at h; unfold W_ask; omega)).trans (hP9.1.mono (fun _ _ h => Or.inl h))
                                have e104 : S9.2.1 55 104 = aqL σ n.toNat kd5 cs x9 y9 (σ.2.1 85 5).toNat := by
                                  rw [hP9.1.2.2 55 104 (by unfold W_pub; omega), hV]
                                  show T8.2.1 55 104 = _
                                  rw [h104, show i = (σ.2.1 85 5).toNat by omega]
                                refine am_st (st2 := []) rfl ?_
                                refine am_aload_n (q := 264) rfl (am_tab tk_X10_ask 140 rfl) rfl ?_
                                refine am_getL (q := 267) (a := 55) (k := 10) (n := 108) (j := 104) (x := (aqL σ n.toNat kd5 cs x9 y9 (σ.2.1 85 5).toNat)) (Ls_55 hP9.2.L) (by decide) rfl e104 (by decide) (Or.inl kf_X10_658) (am_tab tk_X10_ask 141 rfl) rfl ?_
                                refine am_lret rfl (Nat.le_of_ble_eq_true rfl) (Nat.le_of_ble_eq_true rfl) (am_tab tk_X10_ask 142 rfl) ?_
                                refine hQ _ _ ?_
                                unfold aqP
                                rw [if_pos c0]
                                rw [hAF]
                                rw [← ekd]
                                refine ⟨⟨x9, y9, rfl⟩, ?_, hP9.2⟩
                                exact ((hfw.both 55 7 0).both 55 8 (-1)).mono (fun _ _ h => Or.inr (Or.inl h)) |>.trans fr9
                              · have hi8 : i < 8 := by omega
                                refine am_aload_n (q := 243) rfl (am_tab tk_X10_ask 129 rfl) rfl ?_
                                refine am_iload_n (q := 244) rfl (am_tab tk_X10_ask 130 rfl) rfl ?_
                                refine am_aload_n (q := 245) rfl (am_tab tk_X10_ask 131 rfl) rfl ?_
                                refine am_iload_n (q := 246) rfl (am_tab tk_X10_ask 132 rfl) rfl ?_
                                refine am_callVr (q := 249) (me2 := M_X10_qTold) (b := 55) (kb := 10) (nb := 108) (As := [am_i ((i : Int))]) (rest := [am_i kd5, am_r 55]) (c_X10_qTold T8 hL8 i hi8 (by rw [h85]; exact hG.R.P) (by rw [h56]; exact htel) (by rw [h61, e61]; exact hth) cs h97 (by omega) h127 hok) ⟨rfl, rfl⟩ (Ls_55 hL8) (by decide) ⟨Or.inl km_X10_671, kc_X10_qTold, kn_X10, kd_X10_qTold, ⟨(Nat.le_of_ble_eq_true rfl), (Nat.le_of_ble_eq_true rfl)⟩, ⟨(Nat.le_of_ble_eq_true rfl), (Nat.le_of_ble_eq_true rfl)⟩, (Nat.le_of_ble_eq_true rfl)⟩ ki_X10_qTold ks_X10_qTold rfl (am_tab tk_X10_ask 133 rfl) rfl ?_
                                rintro r τ ⟨hr, g, z, hτ⟩
                                subst hτ
                                rw [show (evQ (ptM T8 i) (fun m => ofQ T8 m (i : Int)) [] cs).headD 0 = aqV σ n.toNat cs (S1.2.1 55 58) (S1.2.1 55 59) i from by unfold aqV; rw [hpt, hof]] at hr
                                subst hr
                                refine am_st (st2 := [am_l (aqV σ n.toNat cs (S1.2.1 55 58) (S1.2.1 55 59) i), am_i kd5, am_r 55]) rfl ?_
                                refine am_iload_n (q := 250) rfl (am_tab tk_X10_ask 134 rfl) rfl ?_
                                refine am_callV0 (q := 253) (me2 := M_X10_qTakes) (b := 55) (kb := 10) (nb := 108) (As := [am_i kd5, am_l (aqV σ n.toNat cs (S1.2.1 55 58) (S1.2.1 55 59) i), am_i ((i : Int))]) (rest := []) (out := []) (c_X10_qTakes (am_setN (am_setA T8 129 g) 55 103 z) hL8 kd5 (aqV σ n.toNat cs (S1.2.1 55 58) (S1.2.1 55 59) i) (i : Int) (by omega) (by omega) (by omega) (by show _ ≤ T8.2.1 55 104 ∧ T8.2.1 55 104 ≤ _; rw [h104]; omega)) ⟨rfl, rfl⟩ (Ls_55 hL8) (by decide) ⟨Or.inl km_X10_675, kc_X10_qTakes, kn_X10, kd_X10_qTakes, ⟨(Nat.le_of_ble_eq_true rfl), (Nat.le_of_ble_eq_true rfl)⟩, ⟨(Nat.le_of_ble_eq_true rfl), (Nat.le_of_ble_eq_true rfl)⟩, (Nat.le_of_ble_eq_true rfl)⟩ ki_X10_qTakes ks_X10_qTakes rfl rfl (am_tab tk_X10_ask 135 rfl) rfl ?_
                                refine am_iinc (q := 256) rfl (by omega) (by decide) (ls2 := [(3, am_i (((i : Int) + 1))), (2, am_i kd5), (0, am_r 55), (1, am_i n)]) rfl (am_tab tk_X10_ask 136 rfl) rfl ?_
                                refine am_goto (t := 234) (am_tab tk_X10_ask 137 rfl) (by decide) ?_
                                exact am_less (by intro q hq; simp only [List.mem_cons, List.not_mem_nil, or_false] at hq; rcases hq with rfl | rfl | rfl | rfl <;> simp) (ih234 (i + 1) (am_setN (am_setN (am_setN (am_setA T8 129 g) 55 103 z) 55 104 (tkQ kd5 (aqV σ n.toNat cs (S1.2.1 55 58) (S1.2.1 55 59) i) (i : Int) (T8.2.1 55 104) (T8.2.1 55 105))) 55 105 0) (by omega) (by omega) ((((hT8.setA (a := 129) (fun j => by unfold W_lp; omega)).setN (by unfold W_lp; omega)).setN (by unfold W_lp; omega)).setN (by unfold W_lp; omega)) h56 h57 (by show tkQ _ _ _ _ _ = _; rw [h104, h105]; rfl) (by show (0 : Int) = _; rw [if_neg (by omega)]))
                          refine am_aload_n (q := 217) rfl (am_tab tk_X10_ask 115 rfl) rfl ?_
                          refine am_aload_n (q := 218) rfl (am_tab tk_X10_ask 116 rfl) rfl ?_
                          refine am_getI (q := 221) (a := 55) (k := 10) (n := 108) (j := 62) (x := (fsD (itS (n.toNat - 1) σ))) (Ls_55 hD1.2.2.1.L) (by decide) rfl e62 (by decide) (Or.inl kf_X10_464) (am_tab tk_X10_ask 117 rfl) rfl ?_
                          refine am_if_eq (q := 224) (t := 228) (am_tab tk_X10_ask 118 rfl) (by decide) rfl (fun h221 => ?_) (fun h221 => ?_)
                          · refine am_lconst0 (q := 229) (am_tab tk_X10_ask 121 rfl) rfl ?_
                            refine am_putL (q := 232) (k := 10) (n := 108) (j := 57) (Ls_55 hD1.2.2.1.L) (by decide) rfl (by decide) (Or.inl ⟨kf_X10_420, rfl⟩) (am_tab tk_X10_ask 122 rfl) rfl ?_
                            refine am_iconst (q := 233) (n := 0) (by decide) (am_tab tk_X10_ask 123 rfl) rfl ?_
                            refine am_istore_n (q := 234) (by decide) (ls2 := [(3, am_i 0), (2, am_i kd5), (0, am_r 55), (1, am_i n)]) rfl (am_tab tk_X10_ask 124 rfl) rfl ?_
                            refine am_less (by intro q hq; simp only [List.mem_cons, List.not_mem_nil, or_false] at hq; rcases hq with rfl | rfl | rfl | rfl <;> simp) (L234 (_ + 1) 0 (am_setN (am_setN S1 55 56 ((itS n.toNat σ).2.1 96 (Int.toNat (20 + ((itS n.toNat σ).2.1 96 1))))) 55 57 0) (by exact Nat.lt_succ_self _) (Nat.zero_le _) (((frw.refl W_lp S1).setN (by unfold W_lp; omega)).setN (by unfold W_lp; omega)) rfl (by show (0 : Int) = if fsD (itS (n.toNat - 1) σ) = 0 then 0 else 1; rw [if_pos h221]) (by show S1.2.1 55 104 = aqL σ n.toNat kd5 cs _ _ 0; rw [hD1.1.2.2 55 104 (by unfold W_ah; omega), hU]; rfl) (by show S1.2.1 55 105 = 1; rw [hD1.1.2.2 55 105 (by unfold W_ah; omega), hU]; rfl))
                          · refine am_lconst1 (q := 225) (am_tab tk_X10_ask 119 rfl) rfl ?_
                            refine am_goto (t := 229) (am_tab tk_X10_ask 120 rfl) (by decide) ?_
                            refine am_putL (q := 232) (k := 10) (n := 108) (j := 57) (Ls_55 hD1.2.2.1.L) (by decide) rfl (by decide) (Or.inl ⟨kf_X10_420, rfl⟩) (am_tab tk_X10_ask 122 rfl) rfl ?_
                            refine am_iconst (q := 233) (n := 0) (by decide) (am_tab tk_X10_ask 123 rfl) rfl ?_
                            refine am_istore_n (q := 234) (by decide) (ls2 := [(3, am_i 0), (2, am_i kd5), (0, am_r 55), (1, am_i n)]) rfl (am_tab tk_X10_ask 124 rfl) rfl ?_
                            refine am_less (by intro q hq; simp only [List.mem_cons, List.not_mem_nil, or_false] at hq; rcases hq with rfl | rfl | rfl | rfl <;> simp) (L234 (_ + 1) 0 (am_setN (am_setN S1 55 56 ((itS n.toNat σ).2.1 96 (Int.toNat (20 + ((itS n.toNat σ).2.1 96 1))))) 55 57 1) (by exact Nat.lt_succ_self _) (Nat.zero_le _) (((frw.refl W_lp S1).setN (by unfold W_lp; omega)).setN (by unfold W_lp; omega)) rfl (by show (1 : Int) = if fsD (itS (n.toNat - 1) σ) = 0 then 0 else 1; rw [if_neg h221]) (by show S1.2.1 55 104 = aqL σ n.toNat kd5 cs _ _ 0; rw [hD1.1.2.2 55 104 (by unfold W_ah; omega), hU]; rfl) (by show S1.2.1 55 105 = 1; rw [hD1.1.2.2 55 105 (by unfold W_ah; omega), hU]; rfl))
                      refine am_iload_n (q := 170) rfl (am_tab tk_X10_ask 89 rfl) rfl ?_
                      refine am_iconst (q := 171) (n := 2) (by decide) (am_tab tk_X10_ask 90 rfl) rfl ?_
                      refine am_icmp_ge (q := 174) (t := 180) (am_tab tk_X10_ask 91 rfl) (by decide) rfl (fun h171 => ?_) (fun h171 => ?_)
                      · refine am_lconst0 (q := 181) (am_tab tk_X10_ask 94 rfl) rfl ?_
                        refine am_putL (q := 184) (k := 10) (n := 108) (j := 104) (Ls_55 hQX.1.1) (by decide) rfl (by decide) (Or.inl ⟨kf_X10_658, rfl⟩) (am_tab tk_X10_ask 95 rfl) rfl ?_
                        refine am_aload_n (q := 185) rfl (am_tab tk_X10_ask 96 rfl) rfl ?_
                        refine am_iconst (q := 186) (n := 1) (by decide) (am_tab tk_X10_ask 97 rfl) rfl ?_
                        refine am_putZ (q := 189) (k := 10) (n := 108) (j := 105) (Ls_55 hQX.1.1) (by decide) rfl (by first | exact Or.inl rfl | exact Or.inr rfl | omega) (by decide) (Or.inl ⟨kf_X10_663, rfl⟩) (am_tab tk_X10_ask 98 rfl) rfl ?_
                        refine am_less (by intro q hq; simp only [List.mem_cons, List.not_mem_nil, or_false] at hq; rcases hq with rfl | rfl | rfl <;> simp) (L189 (_ + 1) (am_setN (am_setN (am_setN (am_setN (am_setN T 55 2 (zP b E q.1 : Int)) 55 7 0) 55 8 (-1)) 55 104 0) 55 105 1) (by exact Nat.lt_succ_self _) (by rw [if_neg (by omega)]))
                      · refine am_ldc2 (q := 177) (n := (-1)) (by decide) kk_X10_661 (am_tab tk_X10_ask 92 rfl) rfl ?_
                        refine am_goto (t := 181) (am_tab tk_X10_ask 93 rfl) (by decide) ?_
                        refine am_putL (q := 184) (k := 10) (n := 108) (j := 104) (Ls_55 hQX.1.1) (by decide) rfl (by decide) (Or.inl ⟨kf_X10_658, rfl⟩) (am_tab tk_X10_ask 95 rfl) rfl ?_
                        refine am_aload_n (q := 185) rfl (am_tab tk_X10_ask 96 rfl) rfl ?_
                        refine am_iconst (q := 186) (n := 1) (by decide) (am_tab tk_X10_ask 97 rfl) rfl ?_
                        refine am_putZ (q := 189) (k := 10) (n := 108) (j := 105) (Ls_55 hQX.1.1) (by decide) rfl (by first | exact Or.inl rfl | exact Or.inr rfl | omega) (by decide) (Or.inl ⟨kf_X10_663, rfl⟩) (am_tab tk_X10_ask 98 rfl) rfl ?_
                        refine am_less (by intro q hq; simp only [List.mem_cons, List.not_mem_nil, or_false] at hq; rcases hq with rfl | rfl | rfl <;> simp) (L189 (_ + 1) (am_setN (am_setN (am_setN (am_setN (am_setN T 55 2 (zP b E q.1 : Int)) 55 7 0) 55 8 (-1)) 55 104 (-1)) 55 105 1) (by exact Nat.lt_succ_self _) (by rw [if_pos (by omega)]))
                    · exact absurd h161 (by decide)
                  · exact absurd (byt_6 fin) h129
                · refine am_iconst (q := 129) (n := (-1)) (by decide) (am_tab tk_X10_ask 68 rfl) rfl ?_
                  refine am_icmp_eq (q := 132) (t := 141) (am_tab tk_X10_ask 69 rfl) (by decide) rfl (fun h129 => ?_) (fun h129 => ?_)
                  · exact absurd h129 (byt_n6 fin hX.2.2.2 hX.2.2.1)
                  · refine am_aload_n (q := 133) rfl (am_tab tk_X10_ask 70 rfl) rfl ?_
                    refine am_iconst (q := 134) (n := 1) (by decide) (am_tab tk_X10_ask 71 rfl) rfl ?_
                    refine am_aload_n (q := 135) rfl (am_tab tk_X10_ask 72 rfl) rfl ?_
                    refine am_getI (q := 138) (a := 55) (k := 10) (n := 108) (j := 2) (x := (zP b E q.1 : Int)) (Ls_55 hQX.1.1) (by decide) rfl rfl (by decide) (Or.inl kf_X10_254) (am_tab tk_X10_ask 73 rfl) rfl ?_
                    refine am_callV0 (q := 141) (me2 := M_X10_fail) (b := 55) (kb := 10) (nb := 108) (As := [am_i 1, am_i ((zP b E q.1 : Int))]) (rest := []) (out := []) (c_fail0 (am_setN T 55 2 (zP b E q.1 : Int)) hQX.1.1 1 (zP b E q.1 : Int) hQX.1.2.2.2.1) ⟨rfl, rfl⟩ (Ls_55 hQX.1.1) (by decide) ⟨Or.inl km_X10_278, kc_X10_fail, kn_X10, kd_X10_fail, ⟨(Nat.le_of_ble_eq_true rfl), (Nat.le_of_ble_eq_true rfl)⟩, ⟨(Nat.le_of_ble_eq_true rfl), (Nat.le_of_ble_eq_true rfl)⟩, (Nat.le_of_ble_eq_true rfl)⟩ ki_X10_fail ks_X10_fail rfl rfl (am_tab tk_X10_ask 74 rfl) rfl ?_
                    refine am_aload_n (q := 142) rfl (am_tab tk_X10_ask 75 rfl) rfl ?_
                    refine am_aload_n (q := 143) rfl (am_tab tk_X10_ask 76 rfl) rfl ?_
                    refine am_getI (q := 146) (a := 55) (k := 10) (n := 108) (j := 5) (x := 1) (Ls_55 hQX.1.1) (by decide) rfl rfl (by decide) (Or.inl kf_X10_248) (am_tab tk_X10_ask 77 rfl) rfl ?_
                    refine am_putI (q := 149) (k := 10) (n := 108) (j := 7) (Ls_55 hQX.1.1) (by decide) rfl (by decide) (Or.inl ⟨kf_X10_378, rfl⟩) (am_tab tk_X10_ask 78 rfl) rfl ?_
                    refine am_aload_n (q := 150) rfl (am_tab tk_X10_ask 79 rfl) rfl ?_
                    refine am_aload_n (q := 151) rfl (am_tab tk_X10_ask 80 rfl) rfl ?_
                    refine am_getI (q := 154) (a := 55) (k := 10) (n := 108) (j := 6) (x := (zP b E q.1 : Int)) (Ls_55 hQX.1.1) (by decide) rfl rfl (by decide) (Or.inl kf_X10_251) (am_tab tk_X10_ask 81 rfl) rfl ?_
                    refine am_putI (q := 157) (k := 10) (n := 108) (j := 8) (Ls_55 hQX.1.1) (by decide) rfl (by decide) (Or.inl ⟨kf_X10_13, rfl⟩) (am_tab tk_X10_ask 82 rfl) rfl ?_
                    refine am_aload_n (q := 158) rfl (am_tab tk_X10_ask 83 rfl) rfl ?_
                    refine am_getI (q := 161) (a := 55) (k := 10) (n := 108) (j := 5) (x := 1) (Ls_55 hQX.1.1) (by decide) rfl rfl (by decide) (Or.inl kf_X10_248) (am_tab tk_X10_ask 84 rfl) rfl ?_
                    refine am_if_eq (q := 164) (t := 168) (am_tab tk_X10_ask 85 rfl) (by decide) rfl (fun h161 => ?_) (fun h161 => ?_)
                    · exact absurd h161 (by decide)
                    · refine am_ldc2 (q := 167) (n := (-1000000000000000)) (by decide) kk_X10_666 (am_tab tk_X10_ask 86 rfl) rfl ?_
                      refine am_lret rfl (Nat.le_of_ble_eq_true rfl) (Nat.le_of_ble_eq_true rfl) (am_tab tk_X10_ask 87 rfl) ?_
                      refine hQ _ _ ?_
                      unfold aqP
                      rw [if_pos c0]
                      have hA : aqF b E = .inr (1, (zP b E q.1 : Int)) := by unfold aqF; rw [hpp]; show (if _ then _ else _) = _; rw [if_neg fin]
                      rw [hA]
                      have hfz : frw W_t (t1H σ) (am_setN (am_setN (am_setN T 55 2 (zP b E q.1 : Int)) 55 5 1) 55 6 (zP b E q.1 : Int)) := ((hfT.setN (by unfold W_t W_p W_sc W_q; omega)).setN (by unfold W_t W_p W_sc W_q; omega)).setN (by unfold W_t W_p W_sc W_q; omega)
                      refine ⟨rfl, (show ¬ (1 : Int) = 0 by decide), ((hfz.both 55 7 _).both 55 8 _).mono (fun _ _ h => Or.inr (Or.inl h)), hG.rd ?_⟩
                      exact ((frt.trans (hfz.mono (fun _ _ h => Or.inl h))).setN (by unfold W_rd W_t W_p W_sc W_q; omega)).setN (by unfold W_rd W_t W_p W_sc W_q; omega)
            · obtain ⟨e, hpe⟩ := sumR lf
              rw [hpe] at hJ hpp
              have hB : ZB b E e.1 e.2 T := hJ
              refine am_aload_n (q := 118) rfl (am_tab tk_X10_ask 63 rfl) rfl ?_
              refine am_getI (q := 121) (a := 55) (k := 10) (n := 108) (j := 5) (x := e.1) (Ls_55 hB.1) (by decide) rfl hB.2.2.2.1 (by decide) (Or.inl kf_X10_248) (am_tab tk_X10_ask 64 rfl) rfl ?_
              refine am_if_ne (q := 124) (t := 141) (am_tab tk_X10_ask 65 rfl) (by decide) rfl (fun h121 => ?_) (fun h121 => ?_)
              · refine am_aload_n (q := 142) rfl (am_tab tk_X10_ask 75 rfl) rfl ?_
                refine am_aload_n (q := 143) rfl (am_tab tk_X10_ask 76 rfl) rfl ?_
                refine am_getI (q := 146) (a := 55) (k := 10) (n := 108) (j := 5) (x := e.1) (Ls_55 hB.1) (by decide) rfl hB.2.2.2.1 (by decide) (Or.inl kf_X10_248) (am_tab tk_X10_ask 77 rfl) rfl ?_
                refine am_putI (q := 149) (k := 10) (n := 108) (j := 7) (Ls_55 hB.1) (by decide) rfl (by decide) (Or.inl ⟨kf_X10_378, rfl⟩) (am_tab tk_X10_ask 78 rfl) rfl ?_
                refine am_aload_n (q := 150) rfl (am_tab tk_X10_ask 79 rfl) rfl ?_
                refine am_aload_n (q := 151) rfl (am_tab tk_X10_ask 80 rfl) rfl ?_
                refine am_getI (q := 154) (a := 55) (k := 10) (n := 108) (j := 6) (x := e.2) (Ls_55 hB.1) (by decide) rfl hB.2.2.2.2.2.1 (by decide) (Or.inl kf_X10_251) (am_tab tk_X10_ask 81 rfl) rfl ?_
                refine am_putI (q := 157) (k := 10) (n := 108) (j := 8) (Ls_55 hB.1) (by decide) rfl (by decide) (Or.inl ⟨kf_X10_13, rfl⟩) (am_tab tk_X10_ask 82 rfl) rfl ?_
                refine am_aload_n (q := 158) rfl (am_tab tk_X10_ask 83 rfl) rfl ?_
                refine am_getI (q := 161) (a := 55) (k := 10) (n := 108) (j := 5) (x := e.1) (Ls_55 hB.1) (by decide) rfl hB.2.2.2.1 (by decide) (Or.inl kf_X10_248) (am_tab tk_X10_ask 84 rfl) rfl ?_
                refine am_if_eq (q := 164) (t := 168) (am_tab tk_X10_ask 85 rfl) (by decide) rfl (fun h161 => ?_) (fun h161 => ?_)
                · exact absurd h161 hB.2.2.2.2.1
                · refine am_ldc2 (q := 167) (n := (-1000000000000000)) (by decide) kk_X10_666 (am_tab tk_X10_ask 86 rfl) rfl ?_
                  refine am_lret rfl (Nat.le_of_ble_eq_true rfl) (Nat.le_of_ble_eq_true rfl) (am_tab tk_X10_ask 87 rfl) ?_
                  refine hQ _ _ ?_
                  unfold aqP
                  rw [if_pos c0]
                  have hA : aqF b E = .inr e := by unfold aqF; rw [hpp]
                  rw [hA]
                  refine ⟨rfl, hB.2.2.2.2.1, ((hfT.both 55 7 _).both 55 8 _).mono (fun _ _ h => Or.inr (Or.inl h)), hG.rd ?_⟩
                  exact ((frt.trans (hfT.mono (fun _ _ h => Or.inl h))).setN (by unfold W_rd W_t W_p W_sc W_q; omega)).setN (by unfold W_rd W_t W_p W_sc W_q; omega)
              · exact absurd h121 hB.2.2.2.2.1
        by_cases kd : 155 ≤ zK b E 0 ∧ zK b E 0 ≤ 160
        · refine am_callVr (q := 86) (me2 := M_X10_qKind) (b := 55) (kb := 10) (nb := 108) (As := []) (rest := []) (c_X10_qKind b E 0 (am_setN (am_setN (am_setN (am_setN (am_setN (am_setN (am_setN (am_setN (am_setN (am_setN (am_setN σ 55 3 (σ.2.1 55 1)) 55 1 0) 55 2 0) 55 4 (-1)) 55 5 0) 55 6 (-1)) 55 53 2) 55 97 0) 55 99 0) 55 100 0) 55 101 0) hZ0) ⟨rfl, rfl⟩ (Ls_55 hL) (by decide) ⟨Or.inl km_X10_668, kc_X10_qKind, kn_X10, kd_X10_qKind, ⟨(Nat.le_of_ble_eq_true rfl), (Nat.le_of_ble_eq_true rfl)⟩, ⟨(Nat.le_of_ble_eq_true rfl), (Nat.le_of_ble_eq_true rfl)⟩, (Nat.le_of_ble_eq_true rfl)⟩ ki_X10_qKind ks_X10_qKind rfl (am_tab tk_X10_ask 47 rfl) rfl ?_
          rintro r T1 hKK
          have hKK2 : r = some (am_i (zK b E 0 - 155)) ∧ ZS b E 1 T1 ∧ frw W_sc (am_setN (am_setN (am_setN (am_setN (am_setN (am_setN (am_setN (am_setN (am_setN (am_setN (am_setN σ 55 3 (σ.2.1 55 1)) 55 1 0) 55 2 0) 55 4 (-1)) 55 5 0) 55 6 (-1)) 55 53 2) 55 97 0) 55 99 0) 55 100 0) 55 101 0) T1 := by
            rcases hKK with h | h
            · exact h.2
            · exact absurd kd h.1
          obtain ⟨rfl, hZ1, hF1⟩ := hKK2
          have hf1 := fr0.trans (W_sc_t hF1)
          have hQ1 : QX b E 2 1 [] [] 0 0 T1 := ⟨hZ1, ⟨hF1.2.2 55 97 (by unfold W_sc; omega), rfl, hF1.2.2 55 99 (by unfold W_sc; omega), rfl, hF1.2.2 55 100 (by unfold W_sc; omega), hF1.2.2 55 101 (by unfold W_sc; omega)⟩, hF1.2.2 55 53 (by unfold W_sc; omega), ⟨rfl, by decide⟩, by simp, zP_on (by omega) (Nat.zero_le _)⟩
          refine am_st (st2 := [am_i (zK b E 0 - 155)]) rfl ?_
          refine am_istore_n (q := 87) (by decide) (ls2 := [(2, am_i (zK b E 0 - 155)), (0, am_r 55), (1, am_i n)]) rfl (am_tab tk_X10_ask 48 rfl) rfl ?_
          refine am_aload_n (q := 88) rfl (am_tab tk_X10_ask 49 rfl) rfl ?_
          refine am_getI (q := 91) (a := 55) (k := 10) (n := 108) (j := 5) (x := 0) (Ls_55 hZ1.1) (by decide) rfl hZ1.2.2.2.1 (by decide) (Or.inl kf_X10_248) (am_tab tk_X10_ask 50 rfl) rfl ?_
          refine am_if_ne (q := 94) (t := 106) (am_tab tk_X10_ask 51 rfl) (by decide) rfl (fun h91 => ?_) (fun h91 => ?_)
          · exact absurd h91 (by decide)
          · refine am_iload_n (q := 95) rfl (am_tab tk_X10_ask 52 rfl) rfl ?_
            refine am_iconst (q := 96) (n := 3) (by decide) (am_tab tk_X10_ask 53 rfl) rfl ?_
            refine am_icmp_ge (q := 99) (t := 106) (am_tab tk_X10_ask 54 rfl) (by decide) rfl (fun h96 => ?_) (fun h96 => ?_)
            · refine am_aload_n (q := 107) rfl (am_tab tk_X10_ask 58 rfl) rfl ?_
              refine am_getI (q := 110) (a := 55) (k := 10) (n := 108) (j := 5) (x := 0) (Ls_55 hZ1.1) (by decide) rfl hZ1.2.2.2.1 (by decide) (Or.inl kf_X10_248) (am_tab tk_X10_ask 59 rfl) rfl ?_
              refine am_if_ne (q := 113) (t := 117) (am_tab tk_X10_ask 60 rfl) (by decide) rfl (fun h110 => ?_) (fun h110 => ?_)
              · exact absurd h110 (by decide)
              · refine am_aload_n (q := 114) rfl (am_tab tk_X10_ask 61 rfl) rfl ?_
                refine am_callVr (q := 117) (me2 := M_X10_qSums) (b := 55) (kb := 10) (nb := 108) (As := []) (rest := []) (c_X10_qSums b E 2 (by decide) 1 [] [] 0 0 T1 hQ1 1700 (by omega) (fun x _ _ => rfl)) ⟨rfl, rfl⟩ (Ls_55 hZ1.1) (by decide) ⟨Or.inl km_X10_627, kc_X10_qSums, kn_X10, kd_X10_qSums, ⟨(Nat.le_of_ble_eq_true rfl), (Nat.le_of_ble_eq_true rfl)⟩, ⟨(Nat.le_of_ble_eq_true rfl), (Nat.le_of_ble_eq_true rfl)⟩, (Nat.le_of_ble_eq_true rfl)⟩ ki_X10_qSums ks_X10_qSums rfl (am_tab tk_X10_ask 62 rfl) rfl ?_
                rintro r T2 ⟨rfl, hJ0, hF2⟩
                have hJ2 := PX.J hJ0
                have hf2 := hf1.trans (hF2.mono (fun _ _ h => Or.inl h))
                have hq2 : aqQ b E = smF b E 2 1700 1 [] [] 0 := by unfold aqQ; rw [if_pos kd, if_neg (by omega)]
                refine am_st (st2 := []) rfl ?_
                refine am_less (by intro q hq; simp only [List.mem_cons, List.not_mem_nil, or_false] at hq; rcases hq with rfl | rfl | rfl <;> simp) (L117 (_ + 1) (zK b E 0 - 155) (aqQ b E) T2 (by exact Nat.lt_succ_self _) (by rw [hq2]; exact hJ2) rfl hf2 (fun _ => ⟨rfl, kd⟩))
            · refine am_aload_n (q := 100) rfl (am_tab tk_X10_ask 55 rfl) rfl ?_
              refine am_callVr (q := 103) (me2 := M_X10_qTest) (b := 55) (kb := 10) (nb := 108) (As := []) (rest := []) (c_X10_qTest b E 2 (by decide) 1 [] [] 0 T1 hQ1 1700 (by omega) rfl) ⟨rfl, rfl⟩ (Ls_55 hZ1.1) (by decide) ⟨Or.inl km_X10_348, kc_X10_qTest, kn_X10, kd_X10_qTest, ⟨(Nat.le_of_ble_eq_true rfl), (Nat.le_of_ble_eq_true rfl)⟩, ⟨(Nat.le_of_ble_eq_true rfl), (Nat.le_of_ble_eq_true rfl)⟩, (Nat.le_of_ble_eq_true rfl)⟩ ki_X10_qTest ks_X10_qTest rfl (am_tab tk_X10_ask 56 rfl) rfl ?_
              rintro r T2 ⟨rfl, hJ0, hF2⟩
              have hJ2 := PT.J hJ0
              have hf2 := hf1.trans (hF2.mono (fun _ _ h => Or.inl h))
              have hq2 : aqQ b E = tsF b E 2 1700 1 [] [] 0 := by unfold aqQ; rw [if_pos kd, if_pos (by omega)]
              refine am_st (st2 := []) rfl ?_
              refine am_goto (t := 117) (am_tab tk_X10_ask 57 rfl) (by decide) ?_
              refine am_less (by intro q hq; simp only [List.mem_cons, List.not_mem_nil, or_false] at hq; rcases hq with rfl | rfl | rfl <;> simp) (L117 (_ + 1) (zK b E 0 - 155) (aqQ b E) T2 (by exact Nat.lt_succ_self _) (by rw [hq2]; exact hJ2) rfl hf2 (fun _ => ⟨rfl, kd⟩))
        · refine am_callVr (q := 86) (me2 := M_X10_qKind) (b := 55) (kb := 10) (nb := 108) (As := []) (rest := []) (c_X10_qKind b E 0 (am_setN (am_setN (am_setN (am_setN (am_setN (am_setN (am_setN (am_setN (am_setN (am_setN (am_setN σ 55 3 (σ.2.1 55 1)) 55 1 0) 55 2 0) 55 4 (-1)) 55 5 0) 55 6 (-1)) 55 53 2) 55 97 0) 55 99 0) 55 100 0) 55 101 0) hZ0) ⟨rfl, rfl⟩ (Ls_55 hL) (by decide) ⟨Or.inl km_X10_668, kc_X10_qKind, kn_X10, kd_X10_qKind, ⟨(Nat.le_of_ble_eq_true rfl), (Nat.le_of_ble_eq_true rfl)⟩, ⟨(Nat.le_of_ble_eq_true rfl), (Nat.le_of_ble_eq_true rfl)⟩, (Nat.le_of_ble_eq_true rfl)⟩ ki_X10_qKind ks_X10_qKind rfl (am_tab tk_X10_ask 47 rfl) rfl ?_
          rintro r T1 hKK
          have hKK2 : r = some (am_i 5) ∧ ZB b E 1 (zP b E 0 : Int) T1 ∧ frw W_sc (am_setN (am_setN (am_setN (am_setN (am_setN (am_setN (am_setN (am_setN (am_setN (am_setN (am_setN σ 55 3 (σ.2.1 55 1)) 55 1 0) 55 2 0) 55 4 (-1)) 55 5 0) 55 6 (-1)) 55 53 2) 55 97 0) 55 99 0) 55 100 0) 55 101 0) T1 := by
            rcases hKK with h | h
            · exact absurd h.1 kd
            · exact h.2
          obtain ⟨rfl, hB1, hF1⟩ := hKK2
          have hf1 := fr0.trans (W_sc_t hF1)
          refine am_st (st2 := [am_i 5]) rfl ?_
          refine am_istore_n (q := 87) (by decide) (ls2 := [(2, am_i 5), (0, am_r 55), (1, am_i n)]) rfl (am_tab tk_X10_ask 48 rfl) rfl ?_
          refine am_aload_n (q := 88) rfl (am_tab tk_X10_ask 49 rfl) rfl ?_
          refine am_getI (q := 91) (a := 55) (k := 10) (n := 108) (j := 5) (x := 1) (Ls_55 hB1.1) (by decide) rfl hB1.2.2.2.1 (by decide) (Or.inl kf_X10_248) (am_tab tk_X10_ask 50 rfl) rfl ?_
          refine am_if_ne (q := 94) (t := 106) (am_tab tk_X10_ask 51 rfl) (by decide) rfl (fun h91 => ?_) (fun h91 => ?_)
          · refine am_aload_n (q := 107) rfl (am_tab tk_X10_ask 58 rfl) rfl ?_
            refine am_getI (q := 110) (a := 55) (k := 10) (n := 108) (j := 5) (x := 1) (Ls_55 hB1.1) (by decide) rfl hB1.2.2.2.1 (by decide) (Or.inl kf_X10_248) (am_tab tk_X10_ask 59 rfl) rfl ?_
            refine am_if_ne (q := 113) (t := 117) (am_tab tk_X10_ask 60 rfl) (by decide) rfl (fun h110 => ?_) (fun h110 => ?_)
            · refine am_less (by intro q hq; simp only [List.mem_cons, List.not_mem_nil, or_false] at hq; rcases hq with rfl | rfl | rfl <;> simp) (L117 (_ + 1) 5 (aqQ b E) T1 (by exact Nat.lt_succ_self _) (by rw [show aqQ b E = .inr (1, (zP b E 0 : Int)) from by unfold aqQ; rw [if_neg kd]]; exact hB1) rfl hf1 (fun h => absurd (by rw [show aqQ b E = .inr (1, (zP b E 0 : Int)) from by unfold aqQ; rw [if_neg kd]] at h; exact h) (show ¬ (false = true) by decide)))
            · exact absurd (show (1 : Int) = 0 from h110) (by decide)
          · exact absurd (show (1 : Int) = 0 from h91) (by decide)
      · exact absurd c0.2 (b01z h12)
  · refine am_aload_n (q := 1) rfl (am_tab tk_X10_ask 0 rfl) rfl ?_
    refine am_getI (q := 4) (a := 55) (k := 10) (n := 108) (j := 52) (x := (σ.2.1 55 52)) (Ls_55 hL) (by decide) rfl rfl (by decide) (Or.inl kf_X10_384) (am_tab tk_X10_ask 1 rfl) rfl ?_
    refine am_if_eq (q := 7) (t := 15) (am_tab tk_X10_ask 2 rfl) (by decide) rfl (fun h4 => ?_) (fun h4 => ?_)
    · refine am_aload_n (q := 16) rfl (am_tab tk_X10_ask 7 rfl) rfl ?_
      refine am_iconst (q := 17) (n := 0) (by decide) (am_tab tk_X10_ask 8 rfl) rfl ?_
      refine am_putI (q := 20) (k := 10) (n := 108) (j := 1) (Ls_55 hL) (by decide) rfl (by decide) (Or.inl ⟨kf_X10_245, rfl⟩) (am_tab tk_X10_ask 9 rfl) rfl ?_
      refine am_ldc2 (q := 23) (n := (-1000000000000000)) (by decide) kk_X10_666 (am_tab tk_X10_ask 10 rfl) rfl ?_
      refine am_lret rfl (Nat.le_of_ble_eq_true rfl) (Nat.le_of_ble_eq_true rfl) (am_tab tk_X10_ask 11 rfl) ?_
      refine hQ _ _ ?_
      unfold aqP
      rw [if_neg c0]
      exact ⟨rfl, rfl⟩
    · refine am_aload_n (q := 8) rfl (am_tab tk_X10_ask 3 rfl) rfl ?_
      refine am_iload_n (q := 9) rfl (am_tab tk_X10_ask 4 rfl) rfl ?_
      refine am_callV0 (q := 12) (me2 := M_X10_isAhead) (b := 55) (kb := 10) (nb := 108) (As := [am_i n]) (rest := []) (out := [am_i (if (1 ≤ n ∧ n ≤ 120) ∧ n ≤ dlM σ then 1 else 0)]) (c_X10_isAhead σ hG.L n hG.R.year hD90 hG.R.Y) ⟨rfl, rfl⟩ (Ls_55 hL) (by decide) ⟨Or.inl km_X10_509, kc_X10_isAhead, kn_X10, kd_X10_isAhead, ⟨(Nat.le_of_ble_eq_true rfl), (Nat.le_of_ble_eq_true rfl)⟩, ⟨(Nat.le_of_ble_eq_true rfl), (Nat.le_of_ble_eq_true rfl)⟩, (Nat.le_of_ble_eq_true rfl)⟩ ki_X10_isAhead ks_X10_isAhead rfl rfl (am_tab tk_X10_ask 5 rfl) rfl ?_
      refine am_if_ne (q := 15) (t := 24) (am_tab tk_X10_ask 6 rfl) (by decide) rfl (fun h12 => ?_) (fun h12 => ?_)
      · exact absurd ⟨h4, b01n h12⟩ c0
      · replace h12 := b01z h12
        refine am_aload_n (q := 16) rfl (am_tab tk_X10_ask 7 rfl) rfl ?_
        refine am_iconst (q := 17) (n := 0) (by decide) (am_tab tk_X10_ask 8 rfl) rfl ?_
        refine am_putI (q := 20) (k := 10) (n := 108) (j := 1) (Ls_55 hL) (by decide) rfl (by decide) (Or.inl ⟨kf_X10_245, rfl⟩) (am_tab tk_X10_ask 9 rfl) rfl ?_
        refine am_ldc2 (q := 23) (n := (-1000000000000000)) (by decide) kk_X10_666 (am_tab tk_X10_ask 10 rfl) rfl ?_
        refine am_lret rfl (Nat.le_of_ble_eq_true rfl) (Nat.le_of_ble_eq_true rfl) (am_tab tk_X10_ask 11 rfl) ?_
        refine hQ _ _ ?_
        unfold aqP
        rw [if_neg c0]
        exact ⟨rfl, rfl⟩
