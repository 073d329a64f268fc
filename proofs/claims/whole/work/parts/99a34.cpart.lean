theorem RX.kr {b : Nat → Int} {E : Nat} {cv : Nat → Int} {M : Nat} {tk : Int} {σ : am_H} {s : SX} (h : RX b E cv M tk σ s) : 0 ≤ kdS b E s ∧ kdS b E s < 256 := by
  cases s with
  | inl q => exact (h.1.2.1.2.2.2.1 q.1 h.2.2.1).1
  | inr q => exact ⟨(by decide : (0 : Int) ≤ 6), (by decide : (6 : Int) < 256)⟩
/-- a fault stays -/
def StF (F : SX → SX) : Prop := ∀ q, (F (.inr q)).isLeft = false
theorem StF.l {F : SX → SX} (h : StF F) {s : SX} (hl : (F s).isLeft = true) : s.isLeft = true := by
  cases s with
  | inl q => rfl
  | inr q => rw [h q] at hl; exact absurd hl (by decide)
theorem StF.r {F : SX → SX} (h : StF F) {s : SX} (hl : s.isLeft = false) : (F s).isLeft = false := by
  cases s with
  | inl q => exact absurd hl (by simp)
  | inr q => exact h q
theorem sl_np {s : SX} (h : s.isLeft = false) : (npS s).isLeft = false := by cases s <;> first | rfl | exact absurd h (by simp)
theorem sl_ft (b : Nat → Int) (E : Nat) (k : Int) (s : SX) : (ftS b E k s).isLeft = false := by cases s <;> rfl
theorem sl_ad {m : Int} {s : SX} (h : s.isLeft = false) : (adS m s).isLeft = false := by cases s <;> first | rfl | exact absurd h (by simp)
theorem sl_oc {d : Int} {s : SX} (h : s.isLeft = false) : (ocS d s).isLeft = false := by cases s <;> first | rfl | exact absurd h (by simp)
theorem sl_nu {b : Nat → Int} {E : Nat} {lo hi : Int} {s : SX} (h : s.isLeft = false) : (nuS b E lo hi s).isLeft = false := by cases s <;> first | rfl | exact absurd h (by simp)
theorem kd_r {b : Nat → Int} {E : Nat} {s : SX} (h : s.isLeft = false) : kdS b E s = 6 := by cases s <;> first | rfl | exact absurd h (by simp)
theorem st_smL {b : Nat → Int} {E : Nat} {F : SX → SX} : ∀ f w s, s.isLeft = false → (smL b E F f w s).isLeft = false
  | 0, w, s, h => by unfold smL; split; exact h; exact sl_ad h
  | f + 1, w, s, h => by
    have hk := kd_r (b := b) (E := E) h
    unfold smL
    rw [if_neg (by omega), if_neg (by omega)]
    split
    · exact h
    · exact sl_ad h
theorem st_sumB {b : Nat → Int} {E : Nat} {F : SX → SX} (hF : StF F) : StF (sumB b E F) := fun q => st_smL _ _ _ (hF q)
theorem st_ins (b : Nat → Int) (E : Nat) (Q : Option (SX → SX)) (two : Bool) : StF (insB b E Q two) := fun q => by
  unfold insB
  rw [if_neg (show ¬ kdS b E (.inr q) = 40 by show ¬ (6 : Int) = 40; decide)]
  exact sl_ft _ _ _ _
theorem st_part (b : Nat → Int) (E : Nat) (tk : Int) (Q : Option (SX → SX)) : StF (partB b E tk Q) := fun q => by
  have hk : kdS b E (.inr q) = 6 := rfl
  unfold partB
  rw [hk, if_neg (by decide), if_neg (by decide), if_neg (fun h => absurd h.1 (by decide))]
  split
  · rfl
  · rfl
theorem st_partX (b : Nat → Int) (E : Nat) (tk : Int) : ∀ n, StF (partX b E tk n)
  | 0 => st_part b E tk none
  | n + 1 => st_part b E tk (some (partX b E tk n))
theorem kap_num {v : Int} (h : 0 ≤ v) : v = kap (1000 + v) := by
  unfold kap
  rw [if_pos (by omega)]
  omega
theorem nu_l {b : Nat → Int} {E : Nat} {s : SX} (h : (nuS b E 0 9999 s).isLeft = true) : 0 ≤ vS b E s := by
  cases s with
  | inl q =>
    by_cases hc : zK b E q.1 = 1 ∧ 0 ≤ zV b E q.1 ∧ zV b E q.1 ≤ 9999
    · exact hc.2.1
    · simp only [nuS, if_neg hc] at h
      exact absurd h (by simp)
  | inr q => exact Int.le_refl 0
theorem wof_in {tk k : Int} (h : ¬ wof tk k 0 11 = -1) : 130 ≤ k ∧ k ≤ 147 := Decidable.byContradiction (fun h2 => h (wof_out (by omega)))
theorem b10 {c : Prop} [Decidable c] (h : (if c then (0 : Int) else 1) = 0) : c := Decidable.byContradiction (fun h2 => absurd ((if_neg h2).symm.trans h) (by decide))
theorem c_part0 (b : Nat → Int) (E : Nat) (cv : Nat → Int) (M : Nat) (tk : Int)  (σ : am_H) (s : SX) (hX : RX b E cv M tk σ s) (hn : oS s + (0 : Int) = 6)   : am_met (M_X4_readPart 0) [am_r 27] σ (fun r σ' => r = none ∧ RX b E cv M tk σ' (partB b E tk none s) ∧ frw W_ps σ σ') := by
  refine am_qq (fun Q hQ => ?_)
  refine am_enter (show plainFor yX4_readPart = true by decide +kernel) rfl (Nat.le_of_ble_eq_true rfl) (fun _ _ _ => trivial) ?_
  have hn9 := hn
  refine am_aload_n (q := 1) rfl (am_tab tk_X4_readPart 0 rfl) rfl ?_
  refine am_getI (q := 4) (a := 27) (k := 4) (n := 13) (j := 4) (x := (kdS b E s)) (Ls_27 hX.1.1) (by decide) rfl hX.kd (by decide) (Or.inl kf_X4_45) (am_tab tk_X4_readPart 1 rfl) rfl ?_
  refine am_istore_n (q := 5) (Nat.le_of_ble_eq_true rfl) (ls2 := [(1, am_i ((kdS b E s))), (0, am_r 27)]) rfl (am_tab tk_X4_readPart 2 rfl) rfl ?_
  refine am_iload_n (q := 6) rfl (am_tab tk_X4_readPart 3 rfl) rfl ?_
  refine am_bipush (q := 8) (n := 40) (by decide) rfl (am_tab tk_X4_readPart 4 rfl) rfl ?_
  refine am_icmp_ne (q := 11) (t := 19) (am_tab tk_X4_readPart 5 rfl) (by decide) rfl (fun h8 => ?_) (fun h8 => ?_)
  · refine am_iload_n (q := 20) rfl (am_tab tk_X4_readPart 10 rfl) rfl ?_
    refine am_sipush (q := 23) (n := 153) (by decide) rfl (am_tab tk_X4_readPart 11 rfl) rfl ?_
    refine am_icmp_eq (q := 26) (t := 33) (am_tab tk_X4_readPart 12 rfl) (by decide) rfl (fun h23 => ?_) (fun h23 => ?_)
    · refine am_aload_n (q := 34) rfl (am_tab tk_X4_readPart 16 rfl) rfl ?_
      refine am_iconst (q := 35) (n := 1) (by decide) (am_tab tk_X4_readPart 17 rfl) rfl ?_
      refine am_iconst (q := 36) (n := 0) (by decide) (am_tab tk_X4_readPart 18 rfl) rfl ?_
      refine am_callVr (q := 39) (me2 := M_X4_pass) (b := 27) (kb := 4) (nb := 13) (As := [am_i 1, am_i 0]) (rest := []) (c_passT hX (by omega) 0) ⟨rfl, rfl⟩ (Ls_27 hX.1.1) (by decide) ⟨Or.inl km_X4_71, kc_X4_pass, kn_X4, kd_X4_pass, ⟨by show 0 + 1 ≤ 6 * 0 + 3; omega, by show 8 + (5 + 11) + 60 ≤ 60 * (6 * 0 + 4); omega⟩, ⟨(Nat.le_of_ble_eq_true rfl), (Nat.le_of_ble_eq_true rfl)⟩, (Nat.le_of_ble_eq_true rfl)⟩ ki_X4_pass ks_X4_pass rfl (am_tab tk_X4_readPart 19 rfl) rfl ?_
      rintro r T1 ⟨rfl, hX1, hG1⟩
      have hF1 : frw W_ps σ T1 := (frw.refl W_ps σ).trans hG1
      refine am_aload_n (q := 40) rfl (am_tab tk_X4_readPart 20 rfl) rfl ?_
      refine am_iconst (q := 41) (n := 1) (by decide) (am_tab tk_X4_readPart 21 rfl) rfl ?_
      refine am_callVr (q := 44) (me2 := (M_X4_readSumsInside 0)) (b := 27) (kb := 4) (nb := 13) (As := [am_i 1]) (rest := []) (c_ins0_1 b E cv M tk T1 (npS s) hX1 (by rw [oS_np]; exact hn)) ⟨rfl, rfl⟩ (Ls_27 hX1.1.1) (by decide) ⟨Or.inl km_X4_185, kc_X4_readSumsInside, kn_X4, kd_X4_readSumsInside, ⟨by show 6 * 0 + 2 + 1 ≤ 6 * 0 + 3; omega, by show 8 + (2 + 11) + 60 * (6 * 0 + 3) ≤ 60 * (6 * 0 + 4); omega⟩, ⟨(Nat.le_of_ble_eq_true rfl), (Nat.le_of_ble_eq_true rfl)⟩, (Nat.le_of_ble_eq_true rfl)⟩ ki_X4_readSumsInside ks_X4_readSumsInside rfl (am_tab tk_X4_readPart 22 rfl) rfl ?_
      rintro r T2 ⟨rfl, hX2, hG2⟩
      have hF2 : frw W_ps σ T2 := hF1.trans hG2
      refine am_aload_n (q := 45) rfl (am_tab tk_X4_readPart 23 rfl) rfl ?_
      refine am_getR (q := 48) (a := 27) (k := 4) (n := 13) (j := 1) (r := some (28)) (Ls_27 hX2.1.1) (by decide) rfl (Lr_27_1 hX2.1.1) (by decide) (Or.inl kf_X4_14) (am_tab tk_X4_readPart 24 rfl) rfl ?_
      refine am_sipush (q := 51) (n := 20000) (by decide) rfl (am_tab tk_X4_readPart 25 rfl) rfl ?_
      refine am_iload_n (q := 52) rfl (am_tab tk_X4_readPart 26 rfl) rfl ?_
      refine am_iadd (q := 53) (by omega) (am_tab tk_X4_readPart 27 rfl) rfl ?_
      refine am_callVr (q := 56) (me2 := M_X5_add) (b := 28) (kb := 5) (nb := 2) (As := [am_i ((20000 + (kdS b E s)))]) (rest := []) (c_addX hX2 (20000 + (kdS b E s)) (if kdS b E s = 153 then 5 else 6) (fun _ => by rw [if_pos h23, h23]; decide)) ⟨rfl, rfl⟩ (Ls_28 hX2.1.1) (by decide) ⟨Or.inr km_X4_172, kc_X5_add, kn_X5, kd_X5_add, ⟨by show 0 + 1 ≤ 6 * 0 + 3; omega, by show 8 + (2 + 11) + 60 ≤ 60 * (6 * 0 + 4); omega⟩, ⟨(Nat.le_of_ble_eq_true rfl), (Nat.le_of_ble_eq_true rfl)⟩, (Nat.le_of_ble_eq_true rfl)⟩ ki_X5_add ks_X5_add rfl (am_tab tk_X4_readPart 28 rfl) rfl ?_
      rintro r T3 ⟨rfl, hX3, hG3⟩
      have hF3 : frw W_ps σ T3 := hF2.trans hG3
      refine am_goto (t := 155) (am_tab tk_X4_readPart 29 rfl) (by decide) ?_
      refine am_vret rfl (Nat.le_of_ble_eq_true rfl) (Nat.le_of_ble_eq_true rfl) (am_tab tk_X4_readPart 76 rfl) ?_
      refine hQ _ _ ?_
      have e9 : partB b E tk none s = adS (if kdS b E s = 153 then 5 else 6) (insB b E none true (npS s)) := by unfold partB; rw [if_neg h8, if_pos (show kdS b E s = 153 ∨ kdS b E s = 154 by omega)]
      rw [e9]
      exact ⟨rfl, hX3, hF3⟩
    · refine am_iload_n (q := 27) rfl (am_tab tk_X4_readPart 13 rfl) rfl ?_
      refine am_sipush (q := 30) (n := 154) (by decide) rfl (am_tab tk_X4_readPart 14 rfl) rfl ?_
      refine am_icmp_ne (q := 33) (t := 59) (am_tab tk_X4_readPart 15 rfl) (by decide) rfl (fun h30 => ?_) (fun h30 => ?_)
      · refine am_iload_n (q := 60) rfl (am_tab tk_X4_readPart 30 rfl) rfl ?_
        refine am_sipush (q := 63) (n := 148) (by decide) rfl (am_tab tk_X4_readPart 31 rfl) rfl ?_
        refine am_icmp_ne (q := 66) (t := 107) (am_tab tk_X4_readPart 32 rfl) (by decide) rfl (fun h63 => ?_) (fun h63 => ?_)
        · refine am_aload_n (q := 108) rfl (am_tab tk_X4_readPart 52 rfl) rfl ?_
          refine am_iload_n (q := 109) rfl (am_tab tk_X4_readPart 53 rfl) rfl ?_
          refine am_callV0 (q := 112) (me2 := M_X4_isPartWord) (b := 27) (kb := 4) (nb := 13) (As := [am_i ((kdS b E s))]) (rest := []) (out := [am_i ((if wof tk (kdS b E s) 0 11 = -1 then 0 else 1))]) (c_isPartWord b E cv M tk s σ hX (kdS b E s)) ⟨rfl, rfl⟩ (Ls_27 hX.1.1) (by decide) ⟨Or.inl km_X4_188, kc_X4_isPartWord, kn_X4, kd_X4_isPartWord, ⟨by show 0 + 1 ≤ 6 * 0 + 3; omega, by show 8 + (2 + 11) + 60 ≤ 60 * (6 * 0 + 4); omega⟩, ⟨(Nat.le_of_ble_eq_true rfl), (Nat.le_of_ble_eq_true rfl)⟩, (Nat.le_of_ble_eq_true rfl)⟩ ki_X4_isPartWord ks_X4_isPartWord rfl rfl (am_tab tk_X4_readPart 54 rfl) rfl ?_
          refine am_if_eq (q := 115) (t := 140) (am_tab tk_X4_readPart 55 rfl) (by decide) rfl (fun h112 => ?_) (fun h112 => ?_)
          · have hw : wof tk (kdS b E s) 0 11 = -1 := b10 h112
            refine am_aload_n (q := 141) rfl (am_tab tk_X4_readPart 69 rfl) rfl ?_
            refine am_getR (q := 144) (a := 27) (k := 4) (n := 13) (j := 1) (r := some (28)) (Ls_27 hX.1.1) (by decide) rfl (Lr_27_1 hX.1.1) (by decide) (Or.inl kf_X4_14) (am_tab tk_X4_readPart 70 rfl) rfl ?_
            refine am_aload_n (q := 145) rfl (am_tab tk_X4_readPart 71 rfl) rfl ?_
            refine am_iconst (q := 146) (n := 0) (by decide) (am_tab tk_X4_readPart 72 rfl) rfl ?_
            refine am_sipush (q := 149) (n := 9999) (by decide) rfl (am_tab tk_X4_readPart 73 rfl) rfl ?_
            refine am_callVr (q := 152) (me2 := M_X4_readNumber) (b := 27) (kb := 4) (nb := 13) (As := [am_i 0, am_i 9999]) (rest := [am_r 28]) (c_numX hX 0 9999) ⟨rfl, rfl⟩ (Ls_27 hX.1.1) (by decide) ⟨Or.inl km_X4_111, kc_X4_readNumber, kn_X4, kd_X4_readNumber, ⟨by show 1 + 1 ≤ 6 * 0 + 3; omega, by show 8 + (4 + 11) + 120 ≤ 60 * (6 * 0 + 4); omega⟩, ⟨(Nat.le_of_ble_eq_true rfl), (Nat.le_of_ble_eq_true rfl)⟩, (Nat.le_of_ble_eq_true rfl)⟩ ki_X4_readNumber ks_X4_readNumber rfl (am_tab tk_X4_readPart 74 rfl) rfl ?_
            rintro r T4 ⟨v4, rfl, hX4, hG4, hv4⟩
            have hF4 : frw W_ps σ T4 := (frw.refl W_ps σ).trans hG4
            refine am_callVr (q := 155) (me2 := M_X5_add) (b := 28) (kb := 5) (nb := 2) (As := [am_i v4]) (rest := []) (c_addX hX4 v4 (1000 + vS b E s) (fun h => by rw [hv4 h]; exact kap_num (nu_l h))) ⟨rfl, rfl⟩ (Ls_28 hX4.1.1) (by decide) ⟨Or.inr km_X4_172, kc_X5_add, kn_X5, kd_X5_add, ⟨by show 0 + 1 ≤ 6 * 0 + 3; omega, by show 8 + (2 + 11) + 60 ≤ 60 * (6 * 0 + 4); omega⟩, ⟨(Nat.le_of_ble_eq_true rfl), (Nat.le_of_ble_eq_true rfl)⟩, (Nat.le_of_ble_eq_true rfl)⟩ ki_X5_add ks_X5_add rfl (am_tab tk_X4_readPart 75 rfl) rfl ?_
            rintro r T5 ⟨rfl, hX5, hG5⟩
            have hF5 : frw W_ps σ T5 := hF4.trans hG5
            refine am_vret rfl (Nat.le_of_ble_eq_true rfl) (Nat.le_of_ble_eq_true rfl) (am_tab tk_X4_readPart 76 rfl) ?_
            refine hQ _ _ ?_
            have e9 : partB b E tk none s = adS (1000 + vS b E s) (nuS b E 0 9999 s) := by unfold partB; rw [if_neg h8, if_neg (show ¬ (kdS b E s = 153 ∨ kdS b E s = 154) by omega), if_neg (fun h => h63 h.1), if_neg (fun h => h hw)]
            rw [e9]
            exact ⟨rfl, hX5, hF5⟩
          · have hw : ¬ wof tk (kdS b E s) 0 11 = -1 := fun h => h112 (if_pos h)
            have hwi := wof_in hw
            refine am_aload_n (q := 116) rfl (am_tab tk_X4_readPart 56 rfl) rfl ?_
            refine am_iconst (q := 117) (n := 1) (by decide) (am_tab tk_X4_readPart 57 rfl) rfl ?_
            refine am_iconst (q := 118) (n := 0) (by decide) (am_tab tk_X4_readPart 58 rfl) rfl ?_
            refine am_callVr (q := 121) (me2 := M_X4_pass) (b := 27) (kb := 4) (nb := 13) (As := [am_i 1, am_i 0]) (rest := []) (c_passT hX (by omega) 0) ⟨rfl, rfl⟩ (Ls_27 hX.1.1) (by decide) ⟨Or.inl km_X4_71, kc_X4_pass, kn_X4, kd_X4_pass, ⟨by show 0 + 1 ≤ 6 * 0 + 3; omega, by show 8 + (5 + 11) + 60 ≤ 60 * (6 * 0 + 4); omega⟩, ⟨(Nat.le_of_ble_eq_true rfl), (Nat.le_of_ble_eq_true rfl)⟩, (Nat.le_of_ble_eq_true rfl)⟩ ki_X4_pass ks_X4_pass rfl (am_tab tk_X4_readPart 59 rfl) rfl ?_
            rintro r T6 ⟨rfl, hX6, hG6⟩
            have hF6 : frw W_ps σ T6 := (frw.refl W_ps σ).trans hG6
            refine am_aload_n (q := 122) rfl (am_tab tk_X4_readPart 60 rfl) rfl ?_
            refine am_getR (q := 125) (a := 27) (k := 4) (n := 13) (j := 1) (r := some (28)) (Ls_27 hX6.1.1) (by decide) rfl (Lr_27_1 hX6.1.1) (by decide) (Or.inl kf_X4_14) (am_tab tk_X4_readPart 61 rfl) rfl ?_
            refine am_sipush (q := 128) (n := 10000) (by decide) rfl (am_tab tk_X4_readPart 62 rfl) rfl ?_
            refine am_iload_n (q := 129) rfl (am_tab tk_X4_readPart 63 rfl) rfl ?_
            refine am_iadd (q := 130) (by omega) (am_tab tk_X4_readPart 64 rfl) rfl ?_
            refine am_sipush (q := 133) (n := 128) (by decide) rfl (am_tab tk_X4_readPart 65 rfl) rfl ?_
            refine am_isub (q := 134) (by omega) (am_tab tk_X4_readPart 66 rfl) rfl ?_
            refine am_callVr (q := 137) (me2 := M_X5_add) (b := 28) (kb := 5) (nb := 2) (As := [am_i (((10000 + (kdS b E s)) - 128))]) (rest := []) (c_addX hX6 ((10000 + (kdS b E s)) - 128) (40 + wof tk (kdS b E s) 0 11) (fun _ => kap_wof hw)) ⟨rfl, rfl⟩ (Ls_28 hX6.1.1) (by decide) ⟨Or.inr km_X4_172, kc_X5_add, kn_X5, kd_X5_add, ⟨by show 0 + 1 ≤ 6 * 0 + 3; omega, by show 8 + (2 + 11) + 60 ≤ 60 * (6 * 0 + 4); omega⟩, ⟨(Nat.le_of_ble_eq_true rfl), (Nat.le_of_ble_eq_true rfl)⟩, (Nat.le_of_ble_eq_true rfl)⟩ ki_X5_add ks_X5_add rfl (am_tab tk_X4_readPart 67 rfl) rfl ?_
            rintro r T7 ⟨rfl, hX7, hG7⟩
            have hF7 : frw W_ps σ T7 := hF6.trans hG7
            refine am_goto (t := 155) (am_tab tk_X4_readPart 68 rfl) (by decide) ?_
            refine am_vret rfl (Nat.le_of_ble_eq_true rfl) (Nat.le_of_ble_eq_true rfl) (am_tab tk_X4_readPart 76 rfl) ?_
            refine hQ _ _ ?_
            have e9 : partB b E tk none s = adS (40 + wof tk (kdS b E s) 0 11) (npS s) := by unfold partB; rw [if_neg h8, if_neg (show ¬ (kdS b E s = 153 ∨ kdS b E s = 154) by omega), if_neg (fun h => h63 h.1), if_pos hw]
            rw [e9]
            exact ⟨rfl, hX7, hF7⟩
        · refine am_aload_n (q := 67) rfl (am_tab tk_X4_readPart 33 rfl) rfl ?_
          refine am_getI (q := 70) (a := 27) (k := 4) (n := 13) (j := 11) (x := (if tk = 2 then 1 else 0)) (Ls_27 hX.1.1) (by decide) rfl hX.flag (by decide) (Or.inl kf_X4_36) (am_tab tk_X4_readPart 34 rfl) rfl ?_
          refine am_if_eq (q := 73) (t := 107) (am_tab tk_X4_readPart 35 rfl) (by decide) rfl (fun h70 => ?_) (fun h70 => ?_)
          · replace h70 := b01z h70
            refine am_aload_n (q := 108) rfl (am_tab tk_X4_readPart 52 rfl) rfl ?_
            refine am_iload_n (q := 109) rfl (am_tab tk_X4_readPart 53 rfl) rfl ?_
            refine am_callV0 (q := 112) (me2 := M_X4_isPartWord) (b := 27) (kb := 4) (nb := 13) (As := [am_i ((kdS b E s))]) (rest := []) (out := [am_i ((if wof tk (kdS b E s) 0 11 = -1 then 0 else 1))]) (c_isPartWord b E cv M tk s σ hX (kdS b E s)) ⟨rfl, rfl⟩ (Ls_27 hX.1.1) (by decide) ⟨Or.inl km_X4_188, kc_X4_isPartWord, kn_X4, kd_X4_isPartWord, ⟨by show 0 + 1 ≤ 6 * 0 + 3; omega, by show 8 + (2 + 11) + 60 ≤ 60 * (6 * 0 + 4); omega⟩, ⟨(Nat.le_of_ble_eq_true rfl), (Nat.le_of_ble_eq_true rfl)⟩, (Nat.le_of_ble_eq_true rfl)⟩ ki_X4_isPartWord ks_X4_isPartWord rfl rfl (am_tab tk_X4_readPart 54 rfl) rfl ?_
            refine am_if_eq (q := 115) (t := 140) (am_tab tk_X4_readPart 55 rfl) (by decide) rfl (fun h112 => ?_) (fun h112 => ?_)
            · have hw : wof tk (kdS b E s) 0 11 = -1 := b10 h112
              refine am_aload_n (q := 141) rfl (am_tab tk_X4_readPart 69 rfl) rfl ?_
              refine am_getR (q := 144) (a := 27) (k := 4) (n := 13) (j := 1) (r := some (28)) (Ls_27 hX.1.1) (by decide) rfl (Lr_27_1 hX.1.1) (by decide) (Or.inl kf_X4_14) (am_tab tk_X4_readPart 70 rfl) rfl ?_
              refine am_aload_n (q := 145) rfl (am_tab tk_X4_readPart 71 rfl) rfl ?_
              refine am_iconst (q := 146) (n := 0) (by decide) (am_tab tk_X4_readPart 72 rfl) rfl ?_
              refine am_sipush (q := 149) (n := 9999) (by decide) rfl (am_tab tk_X4_readPart 73 rfl) rfl ?_
              refine am_callVr (q := 152) (me2 := M_X4_readNumber) (b := 27) (kb := 4) (nb := 13) (As := [am_i 0, am_i 9999]) (rest := [am_r 28]) (c_numX hX 0 9999) ⟨rfl, rfl⟩ (Ls_27 hX.1.1) (by decide) ⟨Or.inl km_X4_111, kc_X4_readNumber, kn_X4, kd_X4_readNumber, ⟨by show 1 + 1 ≤ 6 * 0 + 3; omega, by show 8 + (4 + 11) + 120 ≤ 60 * (6 * 0 + 4); omega⟩, ⟨(Nat.le_of_ble_eq_true rfl), (Nat.le_of_ble_eq_true rfl)⟩, (Nat.le_of_ble_eq_true rfl)⟩ ki_X4_readNumber ks_X4_readNumber rfl (am_tab tk_X4_readPart 74 rfl) rfl ?_
              rintro r T8 ⟨v8, rfl, hX8, hG8, hv8⟩
              have hF8 : frw W_ps σ T8 := (frw.refl W_ps σ).trans hG8
              refine am_callVr (q := 155) (me2 := M_X5_add) (b := 28) (kb := 5) (nb := 2) (As := [am_i v8]) (rest := []) (c_addX hX8 v8 (1000 + vS b E s) (fun h => by rw [hv8 h]; exact kap_num (nu_l h))) ⟨rfl, rfl⟩ (Ls_28 hX8.1.1) (by decide) ⟨Or.inr km_X4_172, kc_X5_add, kn_X5, kd_X5_add, ⟨by show 0 + 1 ≤ 6 * 0 + 3; omega, by show 8 + (2 + 11) + 60 ≤ 60 * (6 * 0 + 4); omega⟩, ⟨(Nat.le_of_ble_eq_true rfl), (Nat.le_of_ble_eq_true rfl)⟩, (Nat.le_of_ble_eq_true rfl)⟩ ki_X5_add ks_X5_add rfl (am_tab tk_X4_readPart 75 rfl) rfl ?_
              rintro r T9 ⟨rfl, hX9, hG9⟩
              have hF9 : frw W_ps σ T9 := hF8.trans hG9
              refine am_vret rfl (Nat.le_of_ble_eq_true rfl) (Nat.le_of_ble_eq_true rfl) (am_tab tk_X4_readPart 76 rfl) ?_
              refine hQ _ _ ?_
              have e9 : partB b E tk none s = adS (1000 + vS b E s) (nuS b E 0 9999 s) := by unfold partB; rw [if_neg h8, if_neg (show ¬ (kdS b E s = 153 ∨ kdS b E s = 154) by omega), if_neg (fun h => h70 h.2), if_neg (fun h => h hw)]
              rw [e9]
              exact ⟨rfl, hX9, hF9⟩
            · have hw : ¬ wof tk (kdS b E s) 0 11 = -1 := fun h => h112 (if_pos h)
              have hwi := wof_in hw
              refine am_aload_n (q := 116) rfl (am_tab tk_X4_readPart 56 rfl) rfl ?_
              refine am_iconst (q := 117) (n := 1) (by decide) (am_tab tk_X4_readPart 57 rfl) rfl ?_
              refine am_iconst (q := 118) (n := 0) (by decide) (am_tab tk_X4_readPart 58 rfl) rfl ?_
              refine am_callVr (q := 121) (me2 := M_X4_pass) (b := 27) (kb := 4) (nb := 13) (As := [am_i 1, am_i 0]) (rest := []) (c_passT hX (by omega) 0) ⟨rfl, rfl⟩ (Ls_27 hX.1.1) (by decide) ⟨Or.inl km_X4_71, kc_X4_pass, kn_X4, kd_X4_pass, ⟨by show 0 + 1 ≤ 6 * 0 + 3; omega, by show 8 + (5 + 11) + 60 ≤ 60 * (6 * 0 + 4); omega⟩, ⟨(Nat.le_of_ble_eq_true rfl), (Nat.le_of_ble_eq_true rfl)⟩, (Nat.le_of_ble_eq_true rfl)⟩ ki_X4_pass ks_X4_pass rfl (am_tab tk_X4_readPart 59 rfl) rfl ?_
              rintro r T10 ⟨rfl, hX10, hG10⟩
              have hF10 : frw W_ps σ T10 := (frw.refl W_ps σ).trans hG10
              refine am_aload_n (q := 122) rfl (am_tab tk_X4_readPart 60 rfl) rfl ?_
              refine am_getR (q := 125) (a := 27) (k := 4) (n := 13) (j := 1) (r := some (28)) (Ls_27 hX10.1.1) (by decide) rfl (Lr_27_1 hX10.1.1) (by decide) (Or.inl kf_X4_14) (am_tab tk_X4_readPart 61 rfl) rfl ?_
              refine am_sipush (q := 128) (n := 10000) (by decide) rfl (am_tab tk_X4_readPart 62 rfl) rfl ?_
              refine am_iload_n (q := 129) rfl (am_tab tk_X4_readPart 63 rfl) rfl ?_
              refine am_iadd (q := 130) (by omega) (am_tab tk_X4_readPart 64 rfl) rfl ?_
              refine am_sipush (q := 133) (n := 128) (by decide) rfl (am_tab tk_X4_readPart 65 rfl) rfl ?_
              refine am_isub (q := 134) (by omega) (am_tab tk_X4_readPart 66 rfl) rfl ?_
              refine am_callVr (q := 137) (me2 := M_X5_add) (b := 28) (kb := 5) (nb := 2) (As := [am_i (((10000 + (kdS b E s)) - 128))]) (rest := []) (c_addX hX10 ((10000 + (kdS b E s)) - 128) (40 + wof tk (kdS b E s) 0 11) (fun _ => kap_wof hw)) ⟨rfl, rfl⟩ (Ls_28 hX10.1.1) (by decide) ⟨Or.inr km_X4_172, kc_X5_add, kn_X5, kd_X5_add, ⟨by show 0 + 1 ≤ 6 * 0 + 3; omega, by show 8 + (2 + 11) + 60 ≤ 60 * (6 * 0 + 4); omega⟩, ⟨(Nat.le_of_ble_eq_true rfl), (Nat.le_of_ble_eq_true rfl)⟩, (Nat.le_of_ble_eq_true rfl)⟩ ki_X5_add ks_X5_add rfl (am_tab tk_X4_readPart 67 rfl) rfl ?_
              rintro r T11 ⟨rfl, hX11, hG11⟩
              have hF11 : frw W_ps σ T11 := hF10.trans hG11
              refine am_goto (t := 155) (am_tab tk_X4_readPart 68 rfl) (by decide) ?_
              refine am_vret rfl (Nat.le_of_ble_eq_true rfl) (Nat.le_of_ble_eq_true rfl) (am_tab tk_X4_readPart 76 rfl) ?_
              refine hQ _ _ ?_
              have e9 : partB b E tk none s = adS (40 + wof tk (kdS b E s) 0 11) (npS s) := by unfold partB; rw [if_neg h8, if_neg (show ¬ (kdS b E s = 153 ∨ kdS b E s = 154) by omega), if_neg (fun h => h70 h.2), if_pos hw]
              rw [e9]
              exact ⟨rfl, hX11, hF11⟩
          · replace h70 := b01n h70
            refine am_aload_n (q := 74) rfl (am_tab tk_X4_readPart 36 rfl) rfl ?_
            refine am_callVr (q := 77) (me2 := M_X4_open) (b := 27) (kb := 4) (nb := 13) (As := []) (rest := []) (c_open0 hX (by omega) (by omega)) ⟨rfl, rfl⟩ (Ls_27 hX.1.1) (by decide) ⟨Or.inl km_X4_175, kc_X4_open, kn_X4, kd_X4_open, ⟨by show 1 + 1 ≤ 6 * 0 + 3; omega, by show 8 + (1 + 11) + 120 ≤ 60 * (6 * 0 + 4); omega⟩, ⟨(Nat.le_of_ble_eq_true rfl), (Nat.le_of_ble_eq_true rfl)⟩, (Nat.le_of_ble_eq_true rfl)⟩ ki_X4_open ks_X4_open rfl (am_tab tk_X4_readPart 37 rfl) rfl ?_
            rintro r T12 ⟨rfl, hX12, hG12⟩
            have hF12 : frw W_ps σ T12 := (frw.refl W_ps σ).trans hG12
            refine am_if_eq (q := 80) (t := 155) (am_tab tk_X4_readPart 38 rfl) (by decide) rfl (fun h77 => ?_) (fun h77 => ?_)
            · refine am_vret rfl (Nat.le_of_ble_eq_true rfl) (Nat.le_of_ble_eq_true rfl) (am_tab tk_X4_readPart 76 rfl) ?_
              refine hQ _ _ ?_
              have e9 : partB b E tk none s = ftS b E 4 s := by unfold partB; rw [if_neg h8, if_neg (show ¬ (kdS b E s = 153 ∨ kdS b E s = 154) by omega), if_pos (show kdS b E s = 148 ∧ tk = 2 from ⟨h63, h70⟩)]
              rw [e9]
              exact ⟨rfl, hX12, hF12⟩
            · exact absurd h77 (by decide)
      · refine am_aload_n (q := 34) rfl (am_tab tk_X4_readPart 16 rfl) rfl ?_
        refine am_iconst (q := 35) (n := 1) (by decide) (am_tab tk_X4_readPart 17 rfl) rfl ?_
        refine am_iconst (q := 36) (n := 0) (by decide) (am_tab tk_X4_readPart 18 rfl) rfl ?_
        refine am_callVr (q := 39) (me2 := M_X4_pass) (b := 27) (kb := 4) (nb := 13) (As := [am_i 1, am_i 0]) (rest := []) (c_passT hX (by omega) 0) ⟨rfl, rfl⟩ (Ls_27 hX.1.1) (by decide) ⟨Or.inl km_X4_71, kc_X4_pass, kn_X4, kd_X4_pass, ⟨by show 0 + 1 ≤ 6 * 0 + 3; omega, by show 8 + (5 + 11) + 60 ≤ 60 * (6 * 0 + 4); omega⟩, ⟨(Nat.le_of_ble_eq_true rfl), (Nat.le_of_ble_eq_true rfl)⟩, (Nat.le_of_ble_eq_true rfl)⟩ ki_X4_pass ks_X4_pass rfl (am_tab tk_X4_readPart 19 rfl) rfl ?_
        rintro r T13 ⟨rfl, hX13, hG13⟩
        have hF13 : frw W_ps σ T13 := (frw.refl W_ps σ).trans hG13
        refine am_aload_n (q := 40) rfl (am_tab tk_X4_readPart 20 rfl) rfl ?_
        refine am_iconst (q := 41) (n := 1) (by decide) (am_tab tk_X4_readPart 21 rfl) rfl ?_
        refine am_callVr (q := 44) (me2 := (M_X4_readSumsInside 0)) (b := 27) (kb := 4) (nb := 13) (As := [am_i 1]) (rest := []) (c_ins0_1 b E cv M tk T13 (npS s) hX13 (by rw [oS_np]; exact hn)) ⟨rfl, rfl⟩ (Ls_27 hX13.1.1) (by decide) ⟨Or.inl km_X4_185, kc_X4_readSumsInside, kn_X4, kd_X4_readSumsInside, ⟨by show 6 * 0 + 2 + 1 ≤ 6 * 0 + 3; omega, by show 8 + (2 + 11) + 60 * (6 * 0 + 3) ≤ 60 * (6 * 0 + 4); omega⟩, ⟨(Nat.le_of_ble_eq_true rfl), (Nat.le_of_ble_eq_true rfl)⟩, (Nat.le_of_ble_eq_true rfl)⟩ ki_X4_readSumsInside ks_X4_readSumsInside rfl (am_tab tk_X4_readPart 22 rfl) rfl ?_
        rintro r T14 ⟨rfl, hX14, hG14⟩
        have hF14 : frw W_ps σ T14 := hF13.trans hG14
        refine am_aload_n (q := 45) rfl (am_tab tk_X4_readPart 23 rfl) rfl ?_
        refine am_getR (q := 48) (a := 27) (k := 4) (n := 13) (j := 1) (r := some (28)) (Ls_27 hX14.1.1) (by decide) rfl (Lr_27_1 hX14.1.1) (by decide) (Or.inl kf_X4_14) (am_tab tk_X4_readPart 24 rfl) rfl ?_
        refine am_sipush (q := 51) (n := 20000) (by decide) rfl (am_tab tk_X4_readPart 25 rfl) rfl ?_
        refine am_iload_n (q := 52) rfl (am_tab tk_X4_readPart 26 rfl) rfl ?_
        refine am_iadd (q := 53) (by omega) (am_tab tk_X4_readPart 27 rfl) rfl ?_
        refine am_callVr (q := 56) (me2 := M_X5_add) (b := 28) (kb := 5) (nb := 2) (As := [am_i ((20000 + (kdS b E s)))]) (rest := []) (c_addX hX14 (20000 + (kdS b E s)) (if kdS b E s = 153 then 5 else 6) (fun _ => by rw [if_neg h23, h30]; decide)) ⟨rfl, rfl⟩ (Ls_28 hX14.1.1) (by decide) ⟨Or.inr km_X4_172, kc_X5_add, kn_X5, kd_X5_add, ⟨by show 0 + 1 ≤ 6 * 0 + 3; omega, by show 8 + (2 + 11) + 60 ≤ 60 * (6 * 0 + 4); omega⟩, ⟨(Nat.le_of_ble_eq_true rfl), (Nat.le_of_ble_eq_true rfl)⟩, (Nat.le_of_ble_eq_true rfl)⟩ ki_X5_add ks_X5_add rfl (am_tab tk_X4_readPart 28 rfl) rfl ?_
        rintro r T15 ⟨rfl, hX15, hG15⟩
        have hF15 : frw W_ps σ T15 := hF14.trans hG15
        refine am_goto (t := 155) (am_tab tk_X4_readPart 29 rfl) (by decide) ?_
        refine am_vret rfl (Nat.le_of_ble_eq_true rfl) (Nat.le_of_ble_eq_true rfl) (am_tab tk_X4_readPart 76 rfl) ?_
        refine hQ _ _ ?_
        have e9 : partB b E tk none s = adS (if kdS b E s = 153 then 5 else 6) (insB b E none true (npS s)) := by unfold partB; rw [if_neg h8, if_pos (show kdS b E s = 153 ∨ kdS b E s = 154 by omega)]
        rw [e9]
        exact ⟨rfl, hX15, hF15⟩
  · refine am_aload_n (q := 12) rfl (am_tab tk_X4_readPart 6 rfl) rfl ?_
    refine am_iconst (q := 13) (n := 0) (by decide) (am_tab tk_X4_readPart 7 rfl) rfl ?_
    refine am_callVr (q := 16) (me2 := (M_X4_readSumsInside 0)) (b := 27) (kb := 4) (nb := 13) (As := [am_i 0]) (rest := []) (c_ins0_0 b E cv M tk σ s hX hn) ⟨rfl, rfl⟩ (Ls_27 hX.1.1) (by decide) ⟨Or.inl km_X4_185, kc_X4_readSumsInside, kn_X4, kd_X4_readSumsInside, ⟨by show 6 * 0 + 2 + 1 ≤ 6 * 0 + 3; omega, by show 8 + (2 + 11) + 60 * (6 * 0 + 3) ≤ 60 * (6 * 0 + 4); omega⟩, ⟨(Nat.le_of_ble_eq_true rfl), (Nat.le_of_ble_eq_true rfl)⟩, (Nat.le_of_ble_eq_true rfl)⟩ ki_X4_readSumsInside ks_X4_readSumsInside rfl (am_tab tk_X4_readPart 8 rfl) rfl ?_
    rintro r T16 ⟨rfl, hX16, hG16⟩
    have hF16 : frw W_ps σ T16 := (frw.refl W_ps σ).trans hG16
    refine am_goto (t := 155) (am_tab tk_X4_readPart 9 rfl) (by decide) ?_
    refine am_vret rfl (Nat.le_of_ble_eq_true rfl) (Nat.le_of_ble_eq_true rfl) (am_tab tk_X4_readPart 76 rfl) ?_
    refine hQ _ _ ?_
    have e9 : partB b E tk none s = insB b E none false s := by unfold partB; rw [if_pos h8]
    rw [e9]
    exact ⟨rfl, hX16, hF16⟩
theorem c_partS (b : Nat → Int) (E : Nat) (cv : Nat → Int) (M : Nat) (tk : Int) (n : Nat) (P : SX → SX) (hP : RC b E cv M tk n (M_X4_readPart n) [] P) (hO : ∀ t, oS (P t) = oS t) (σ : am_H) (s : SX) (hX : RX b E cv M tk σ s) (hn : oS s + (((n + 1) : Nat) : Int) = 6)   : am_met (M_X4_readPart (n + 1)) [am_r 27] σ (fun r σ' => r = none ∧ RX b E cv M tk σ' (partB b E tk (some P) s) ∧ frw W_ps σ σ') := by
  refine am_qq (fun Q hQ => ?_)
  refine am_enter (show plainFor yX4_readPart = true by decide +kernel) rfl (Nat.le_of_ble_eq_true rfl) (fun _ _ _ => trivial) ?_
  have hn9 := hn
  refine am_aload_n (q := 1) rfl (am_tab tk_X4_readPart 0 rfl) rfl ?_
  refine am_getI (q := 4) (a := 27) (k := 4) (n := 13) (j := 4) (x := (kdS b E s)) (Ls_27 hX.1.1) (by decide) rfl hX.kd (by decide) (Or.inl kf_X4_45) (am_tab tk_X4_readPart 1 rfl) rfl ?_
  refine am_istore_n (q := 5) (Nat.le_of_ble_eq_true rfl) (ls2 := [(1, am_i ((kdS b E s))), (0, am_r 27)]) rfl (am_tab tk_X4_readPart 2 rfl) rfl ?_
  refine am_iload_n (q := 6) rfl (am_tab tk_X4_readPart 3 rfl) rfl ?_
  refine am_bipush (q := 8) (n := 40) (by decide) rfl (am_tab tk_X4_readPart 4 rfl) rfl ?_
  refine am_icmp_ne (q := 11) (t := 19) (am_tab tk_X4_readPart 5 rfl) (by decide) rfl (fun h8 => ?_) (fun h8 => ?_)
  · refine am_iload_n (q := 20) rfl (am_tab tk_X4_readPart 10 rfl) rfl ?_
    refine am_sipush (q := 23) (n := 153) (by decide) rfl (am_tab tk_X4_readPart 11 rfl) rfl ?_
    refine am_icmp_eq (q := 26) (t := 33) (am_tab tk_X4_readPart 12 rfl) (by decide) rfl (fun h23 => ?_) (fun h23 => ?_)
    · refine am_aload_n (q := 34) rfl (am_tab tk_X4_readPart 16 rfl) rfl ?_
      refine am_iconst (q := 35) (n := 1) (by decide) (am_tab tk_X4_readPart 17 rfl) rfl ?_
      refine am_iconst (q := 36) (n := 0) (by decide) (am_tab tk_X4_readPart 18 rfl) rfl ?_
      refine am_callVr (q := 39) (me2 := M_X4_pass) (b := 27) (kb := 4) (nb := 13) (As := [am_i 1, am_i 0]) (rest := []) (c_passT hX (by omega) 0) ⟨rfl, rfl⟩ (Ls_27 hX.1.1) (by decide) ⟨Or.inl km_X4_71, kc_X4_pass, kn_X4, kd_X4_pass, ⟨by show 0 + 1 ≤ 6 * (n + 1) + 3; omega, by show 8 + (5 + 11) + 60 ≤ 60 * (6 * (n + 1) + 4); omega⟩, ⟨(Nat.le_of_ble_eq_true rfl), (Nat.le_of_ble_eq_true rfl)⟩, (Nat.le_of_ble_eq_true rfl)⟩ ki_X4_pass ks_X4_pass rfl (am_tab tk_X4_readPart 19 rfl) rfl ?_
      rintro r T1 ⟨rfl, hX1, hG1⟩
      have hF1 : frw W_ps σ T1 := (frw.refl W_ps σ).trans hG1
      refine am_aload_n (q := 40) rfl (am_tab tk_X4_readPart 20 rfl) rfl ?_
      refine am_iconst (q := 41) (n := 1) (by decide) (am_tab tk_X4_readPart 21 rfl) rfl ?_
      refine am_callVr (q := 44) (me2 := (M_X4_readSumsInside (n + 1))) (b := 27) (kb := 4) (nb := 13) (As := [am_i 1]) (rest := []) (c_insS_1 b E cv M tk n P (c_readSum b E cv M tk n P hP hO) hO T1 (npS s) hX1 (by rw [oS_np]; exact hn)) ⟨rfl, rfl⟩ (Ls_27 hX1.1.1) (by decide) ⟨Or.inl km_X4_185, kc_X4_readSumsInside, kn_X4, kd_X4_readSumsInside, ⟨by show 6 * (n + 1) + 2 + 1 ≤ 6 * (n + 1) + 3; omega, by show 8 + (2 + 11) + 60 * (6 * (n + 1) + 3) ≤ 60 * (6 * (n + 1) + 4); omega⟩, ⟨(Nat.le_of_ble_eq_true rfl), (Nat.le_of_ble_eq_true rfl)⟩, (Nat.le_of_ble_eq_true rfl)⟩ ki_X4_readSumsInside ks_X4_readSumsInside rfl (am_tab tk_X4_readPart 22 rfl) rfl ?_
      rintro r T2 ⟨rfl, hX2, hG2⟩
      have hF2 : frw W_ps σ T2 := hF1.trans hG2
      refine am_aload_n (q := 45) rfl (am_tab tk_X4_readPart 23 rfl) rfl ?_
      refine am_getR (q := 48) (a := 27) (k := 4) (n := 13) (j := 1) (r := some (28)) (Ls_27 hX2.1.1) (by decide) rfl (Lr_27_1 hX2.1.1) (by decide) (Or.inl kf_X4_14) (am_tab tk_X4_readPart 24 rfl) rfl ?_
      refine am_sipush (q := 51) (n := 20000) (by decide) rfl (am_tab tk_X4_readPart 25 rfl) rfl ?_
      refine am_iload_n (q := 52) rfl (am_tab tk_X4_readPart 26 rfl) rfl ?_
      refine am_iadd (q := 53) (by omega) (am_tab tk_X4_readPart 27 rfl) rfl ?_
      refine am_callVr (q := 56) (me2 := M_X5_add) (b := 28) (kb := 5) (nb := 2) (As := [am_i ((20000 + (kdS b E s)))]) (rest := []) (c_addX hX2 (20000 + (kdS b E s)) (if kdS b E s = 153 then 5 else 6) (fun _ => by rw [if_pos h23, h23]; decide)) ⟨rfl, rfl⟩ (Ls_28 hX2.1.1) (by decide) ⟨Or.inr km_X4_172, kc_X5_add, kn_X5, kd_X5_add, ⟨by show 0 + 1 ≤ 6 * (n + 1) + 3; omega, by show 8 + (2 + 11) + 60 ≤ 60 * (6 * (n + 1) + 4); omega⟩, ⟨(Nat.le_of_ble_eq_true rfl), (Nat.le_of_ble_eq_true rfl)⟩, (Nat.le_of_ble_eq_true rfl)⟩ ki_X5_add ks_X5_add rfl (am_tab tk_X4_readPart 28 rfl) rfl ?_
      rintro r T3 ⟨rfl, hX3, hG3⟩
      have hF3 : frw W_ps σ T3 := hF2.trans hG3
      refine am_goto (t := 155) (am_tab tk_X4_readPart 29 rfl) (by decide) ?_
      refine am_vret rfl (Nat.le_of_ble_eq_true rfl) (Nat.le_of_ble_eq_true rfl) (am_tab tk_X4_readPart 76 rfl) ?_
      refine hQ _ _ ?_
      have e9 : partB b E tk (some P) s = adS (if kdS b E s = 153 then 5 else 6) (insB b E (some P) true (npS s)) := by unfold partB; rw [if_neg h8, if_pos (show kdS b E s = 153 ∨ kdS b E s = 154 by omega)]
      rw [e9]
      exact ⟨rfl, hX3, hF3⟩
    · refine am_iload_n (q := 27) rfl (am_tab tk_X4_readPart 13 rfl) rfl ?_
      refine am_sipush (q := 30) (n := 154) (by decide) rfl (am_tab tk_X4_readPart 14 rfl) rfl ?_
      refine am_icmp_ne (q := 33) (t := 59) (am_tab tk_X4_readPart 15 rfl) (by decide) rfl (fun h30 => ?_) (fun h30 => ?_)
      · refine am_iload_n (q := 60) rfl (am_tab tk_X4_readPart 30 rfl) rfl ?_
        refine am_sipush (q := 63) (n := 148) (by decide) rfl (am_tab tk_X4_readPart 31 rfl) rfl ?_
        refine am_icmp_ne (q := 66) (t := 107) (am_tab tk_X4_readPart 32 rfl) (by decide) rfl (fun h63 => ?_) (fun h63 => ?_)
        · refine am_aload_n (q := 108) rfl (am_tab tk_X4_readPart 52 rfl) rfl ?_
          refine am_iload_n (q := 109) rfl (am_tab tk_X4_readPart 53 rfl) rfl ?_
          refine am_callV0 (q := 112) (me2 := M_X4_isPartWord) (b := 27) (kb := 4) (nb := 13) (As := [am_i ((kdS b E s))]) (rest := []) (out := [am_i ((if wof tk (kdS b E s) 0 11 = -1 then 0 else 1))]) (c_isPartWord b E cv M tk s σ hX (kdS b E s)) ⟨rfl, rfl⟩ (Ls_27 hX.1.1) (by decide) ⟨Or.inl km_X4_188, kc_X4_isPartWord, kn_X4, kd_X4_isPartWord, ⟨by show 0 + 1 ≤ 6 * (n + 1) + 3; omega, by show 8 + (2 + 11) + 60 ≤ 60 * (6 * (n + 1) + 4); omega⟩, ⟨(Nat.le_of_ble_eq_true rfl), (Nat.le_of_ble_eq_true rfl)⟩, (Nat.le_of_ble_eq_true rfl)⟩ ki_X4_isPartWord ks_X4_isPartWord rfl rfl (am_tab tk_X4_readPart 54 rfl) rfl ?_
          refine am_if_eq (q := 115) (t := 140) (am_tab tk_X4_readPart 55 rfl) (by decide) rfl (fun h112 => ?_) (fun h112 => ?_)
          · have hw : wof tk (kdS b E s) 0 11 = -1 := b10 h112
            refine am_aload_n (q := 141) rfl (am_tab tk_X4_readPart 69 rfl) rfl ?_
            refine am_getR (q := 144) (a := 27) (k := 4) (n := 13) (j := 1) (r := some (28)) (Ls_27 hX.1.1) (by decide) rfl (Lr_27_1 hX.1.1) (by decide) (Or.inl kf_X4_14) (am_tab tk_X4_readPart 70 rfl) rfl ?_
            refine am_aload_n (q := 145) rfl (am_tab tk_X4_readPart 71 rfl) rfl ?_
            refine am_iconst (q := 146) (n := 0) (by decide) (am_tab tk_X4_readPart 72 rfl) rfl ?_
            refine am_sipush (q := 149) (n := 9999) (by decide) rfl (am_tab tk_X4_readPart 73 rfl) rfl ?_
            refine am_callVr (q := 152) (me2 := M_X4_readNumber) (b := 27) (kb := 4) (nb := 13) (As := [am_i 0, am_i 9999]) (rest := [am_r 28]) (c_numX hX 0 9999) ⟨rfl, rfl⟩ (Ls_27 hX.1.1) (by decide) ⟨Or.inl km_X4_111, kc_X4_readNumber, kn_X4, kd_X4_readNumber, ⟨by show 1 + 1 ≤ 6 * (n + 1) + 3; omega, by show 8 + (4 + 11) + 120 ≤ 60 * (6 * (n + 1) + 4); omega⟩, ⟨(Nat.le_of_ble_eq_true rfl), (Nat.le_of_ble_eq_true rfl)⟩, (Nat.le_of_ble_eq_true rfl)⟩ ki_X4_readNumber ks_X4_readNumber rfl (am_tab tk_X4_readPart 74 rfl) rfl ?_
            rintro r T4 ⟨v4, rfl, hX4, hG4, hv4⟩
            have hF4 : frw W_ps σ T4 := (frw.refl W_ps σ).trans hG4
            refine am_callVr (q := 155) (me2 := M_X5_add) (b := 28) (kb := 5) (nb := 2) (As := [am_i v4]) (rest := []) (c_addX hX4 v4 (1000 + vS b E s) (fun h => by rw [hv4 h]; exact kap_num (nu_l h))) ⟨rfl, rfl⟩ (Ls_28 hX4.1.1) (by decide) ⟨Or.inr km_X4_172, kc_X5_add, kn_X5, kd_X5_add, ⟨by show 0 + 1 ≤ 6 * (n + 1) + 3; omega, by show 8 + (2 + 11) + 60 ≤ 60 * (6 * (n + 1) + 4); omega⟩, ⟨(Nat.le_of_ble_eq_true rfl), (Nat.le_of_ble_eq_true rfl)⟩, (Nat.le_of_ble_eq_true rfl)⟩ ki_X5_add ks_X5_add rfl (am_tab tk_X4_readPart 75 rfl) rfl ?_
            rintro r T5 ⟨rfl, hX5, hG5⟩
            have hF5 : frw W_ps σ T5 := hF4.trans hG5
            refine am_vret rfl (Nat.le_of_ble_eq_true rfl) (Nat.le_of_ble_eq_true rfl) (am_tab tk_X4_readPart 76 rfl) ?_
            refine hQ _ _ ?_
            have e9 : partB b E tk (some P) s = adS (1000 + vS b E s) (nuS b E 0 9999 s) := by unfold partB; rw [if_neg h8, if_neg (show ¬ (kdS b E s = 153 ∨ kdS b E s = 154) by omega), if_neg (fun h => h63 h.1), if_neg (fun h => h hw)]
            rw [e9]
            exact ⟨rfl, hX5, hF5⟩
          · have hw : ¬ wof tk (kdS b E s) 0 11 = -1 := fun h => h112 (if_pos h)
            have hwi := wof_in hw
            refine am_aload_n (q := 116) rfl (am_tab tk_X4_readPart 56 rfl) rfl ?_
            refine am_iconst (q := 117) (n := 1) (by decide) (am_tab tk_X4_readPart 57 rfl) rfl ?_
            refine am_iconst (q := 118) (n := 0) (by decide) (am_tab tk_X4_readPart 58 rfl) rfl ?_
            refine am_callVr (q := 121) (me2 := M_X4_pass) (b := 27) (kb := 4) (nb := 13) (As := [am_i 1, am_i 0]) (rest := []) (c_passT hX (by omega) 0) ⟨rfl, rfl⟩ (Ls_27 hX.1.1) (by decide) ⟨Or.inl km_X4_71, kc_X4_pass, kn_X4, kd_X4_pass, ⟨by show 0 + 1 ≤ 6 * (n + 1) + 3; omega, by show 8 + (5 + 11) + 60 ≤ 60 * (6 * (n + 1) + 4); omega⟩, ⟨(Nat.le_of_ble_eq_true rfl), (Nat.le_of_ble_eq_true rfl)⟩, (Nat.le_of_ble_eq_true rfl)⟩ ki_X4_pass ks_X4_pass rfl (am_tab tk_X4_readPart 59 rfl) rfl ?_
            rintro r T6 ⟨rfl, hX6, hG6⟩
            have hF6 : frw W_ps σ T6 := (frw.refl W_ps σ).trans hG6
            refine am_aload_n (q := 122) rfl (am_tab tk_X4_readPart 60 rfl) rfl ?_
            refine am_getR (q := 125) (a := 27) (k := 4) (n := 13) (j := 1) (r := some (28)) (Ls_27 hX6.1.1) (by decide) rfl (Lr_27_1 hX6.1.1) (by decide) (Or.inl kf_X4_14) (am_tab tk_X4_readPart 61 rfl) rfl ?_
            refine am_sipush (q := 128) (n := 10000) (by decide) rfl (am_tab tk_X4_readPart 62 rfl) rfl ?_
            refine am_iload_n (q := 129) rfl (am_tab tk_X4_readPart 63 rfl) rfl ?_
            refine am_iadd (q := 130) (by omega) (am_tab tk_X4_readPart 64 rfl) rfl ?_
            refine am_sipush (q := 133) (n := 128) (by decide) rfl (am_tab tk_X4_readPart 65 rfl) rfl ?_
            refine am_isub (q := 134) (by omega) (am_tab tk_X4_readPart 66 rfl) rfl ?_
            refine am_callVr (q := 137) (me2 := M_X5_add) (b := 28) (kb := 5) (nb := 2) (As := [am_i (((10000 + (kdS b E s)) - 128))]) (rest := []) (c_addX hX6 ((10000 + (kdS b E s)) - 128) (40 + wof tk (kdS b E s) 0 11) (fun _ => kap_wof hw)) ⟨rfl, rfl⟩ (Ls_28 hX6.1.1) (by decide) ⟨Or.inr km_X4_172, kc_X5_add, kn_X5, kd_X5_add, ⟨by show 0 + 1 ≤ 6 * (n + 1) + 3; omega, by show 8 + (2 + 11) + 60 ≤ 60 * (6 * (n + 1) + 4); omega⟩, ⟨(Nat.le_of_ble_eq_true rfl), (Nat.le_of_ble_eq_true rfl)⟩, (Nat.le_of_ble_eq_true rfl)⟩ ki_X5_add ks_X5_add rfl (am_tab tk_X4_readPart 67 rfl) rfl ?_
            rintro r T7 ⟨rfl, hX7, hG7⟩
            have hF7 : frw W_ps σ T7 := hF6.trans hG7
            refine am_goto (t := 155) (am_tab tk_X4_readPart 68 rfl) (by decide) ?_
            refine am_vret rfl (Nat.le_of_ble_eq_true rfl) (Nat.le_of_ble_eq_true rfl) (am_tab tk_X4_readPart 76 rfl) ?_
            refine hQ _ _ ?_
            have e9 : partB b E tk (some P) s = adS (40 + wof tk (kdS b E s) 0 11) (npS s) := by unfold partB; rw [if_neg h8, if_neg (show ¬ (kdS b E s = 153 ∨ kdS b E s = 154) by omega), if_neg (fun h => h63 h.1), if_pos hw]
            rw [e9]
            exact ⟨rfl, hX7, hF7⟩
        · refine am_aload_n (q := 67) rfl (am_tab tk_X4_readPart 33 rfl) rfl ?_
          refine am_getI (q := 70) (a := 27) (k := 4) (n := 13) (j := 11) (x := (if tk = 2 then 1 else 0)) (Ls_27 hX.1.1) (by decide) rfl hX.flag (by decide) (Or.inl kf_X4_36) (am_tab tk_X4_readPart 34 rfl) rfl ?_
          refine am_if_eq (q := 73) (t := 107) (am_tab tk_X4_readPart 35 rfl) (by decide) rfl (fun h70 => ?_) (fun h70 => ?_)
          · replace h70 := b01z h70
            refine am_aload_n (q := 108) rfl (am_tab tk_X4_readPart 52 rfl) rfl ?_
            refine am_iload_n (q := 109) rfl (am_tab tk_X4_readPart 53 rfl) rfl ?_
            refine am_callV0 (q := 112) (me2 := M_X4_isPartWord) (b := 27) (kb := 4) (nb := 13) (As := [am_i ((kdS b E s))]) (rest := []) (out := [am_i ((if wof tk (kdS b E s) 0 11 = -1 then 0 else 1))]) (c_isPartWord b E cv M tk s σ hX (kdS b E s)) ⟨rfl, rfl⟩ (Ls_27 hX.1.1) (by decide) ⟨Or.inl km_X4_188, kc_X4_isPartWord, kn_X4, kd_X4_isPartWord, ⟨by show 0 + 1 ≤ 6 * (n + 1) + 3; omega, by show 8 + (2 + 11) + 60 ≤ 60 * (6 * (n + 1) + 4); omega⟩, ⟨(Nat.le_of_ble_eq_true rfl), (Nat.le_of_ble_eq_true rfl)⟩, (Nat.le_of_ble_eq_true rfl)⟩ ki_X4_isPartWord ks_X4_isPartWord rfl rfl (am_tab tk_X4_readPart 54 rfl) rfl ?_
            refine am_if_eq (q := 115) (t := 140) (am_tab tk_X4_readPart 55 rfl) (by decide) rfl (fun h112 => ?_) (fun h112 => ?_)
            · have hw : wof tk (kdS b E s) 0 11 = -1 := b10 h112
              refine am_aload_n (q := 141) rfl (am_tab tk_X4_readPart 69 rfl) rfl ?_
              refine am_getR (q := 144) (a := 27) (k := 4) (n := 13) (j := 1) (r := some (28)) (Ls_27 hX.1.1) (by decide) rfl (Lr_27_1 hX.1.1) (by decide) (Or.inl kf_X4_14) (am_tab tk_X4_readPart 70 rfl) rfl ?_
              refine am_aload_n (q := 145) rfl (am_tab tk_X4_readPart 71 rfl) rfl ?_
              refine am_iconst (q := 146) (n := 0) (by decide) (am_tab tk_X4_readPart 72 rfl) rfl ?_
              refine am_sipush (q := 149) (n := 9999) (by decide) rfl (am_tab tk_X4_readPart 73 rfl) rfl ?_
              refine am_callVr (q := 152) (me2 := M_X4_readNumber) (b := 27) (kb := 4) (nb := 13) (As := [am_i 0, am_i 9999]) (rest := [am_r 28]) (c_numX hX 0 9999) ⟨rfl, rfl⟩ (Ls_27 hX.1.1) (by decide) ⟨Or.inl km_X4_111, kc_X4_readNumber, kn_X4, kd_X4_readNumber, ⟨by show 1 + 1 ≤ 6 * (n + 1) + 3; omega, by show 8 + (4 + 11) + 120 ≤ 60 * (6 * (n + 1) + 4); omega⟩, ⟨(Nat.le_of_ble_eq_true rfl), (Nat.le_of_ble_eq_true rfl)⟩, (Nat.le_of_ble_eq_true rfl)⟩ ki_X4_readNumber ks_X4_readNumber rfl (am_tab tk_X4_readPart 74 rfl) rfl ?_
              rintro r T8 ⟨v8, rfl, hX8, hG8, hv8⟩
              have hF8 : frw W_ps σ T8 := (frw.refl W_ps σ).trans hG8
              refine am_callVr (q := 155) (me2 := M_X5_add) (b := 28) (kb := 5) (nb := 2) (As := [am_i v8]) (rest := []) (c_addX hX8 v8 (1000 + vS b E s) (fun h => by rw [hv8 h]; exact kap_num (nu_l h))) ⟨rfl, rfl⟩ (Ls_28 hX8.1.1) (by decide) ⟨Or.inr km_X4_172, kc_X5_add, kn_X5, kd_X5_add, ⟨by show 0 + 1 ≤ 6 * (n + 1) + 3; omega, by show 8 + (2 + 11) + 60 ≤ 60 * (6 * (n + 1) + 4); omega⟩, ⟨(Nat.le_of_ble_eq_true rfl), (Nat.le_of_ble_eq_true rfl)⟩, (Nat.le_of_ble_eq_true rfl)⟩ ki_X5_add ks_X5_add rfl (am_tab tk_X4_readPart 75 rfl) rfl ?_
              rintro r T9 ⟨rfl, hX9, hG9⟩
              have hF9 : frw W_ps σ T9 := hF8.trans hG9
              refine am_vret rfl (Nat.le_of_ble_eq_true rfl) (Nat.le_of_ble_eq_true rfl) (am_tab tk_X4_readPart 76 rfl) ?_
              refine hQ _ _ ?_
              have e9 : partB b E tk (some P) s = adS (1000 + vS b E s) (nuS b E 0 9999 s) := by unfold partB; rw [if_neg h8, if_neg (show ¬ (kdS b E s = 153 ∨ kdS b E s = 154) by omega), if_neg (fun h => h70 h.2), if_neg (fun h => h hw)]
              rw [e9]
              exact ⟨rfl, hX9, hF9⟩
            · have hw : ¬ wof tk (kdS b E s) 0 11 = -1 := fun h => h112 (if_pos h)
              have hwi := wof_in hw
              refine am_aload_n (q := 116) rfl (am_tab tk_X4_readPart 56 rfl) rfl ?_
              refine am_iconst (q := 117) (n := 1) (by decide) (am_tab tk_X4_readPart 57 rfl) rfl ?_
              refine am_iconst (q := 118) (n := 0) (by decide) (am_tab tk_X4_readPart 58 rfl) rfl ?_
              refine am_callVr (q := 121) (me2 := M_X4_pass) (b := 27) (kb := 4) (nb := 13) (As := [am_i 1, am_i 0]) (rest := []) (c_passT hX (by omega) 0) ⟨rfl, rfl⟩ (Ls_27 hX.1.1) (by decide) ⟨Or.inl km_X4_71, kc_X4_pass, kn_X4, kd_X4_pass, ⟨by show 0 + 1 ≤ 6 * (n + 1) + 3; omega, by show 8 + (5 + 11) + 60 ≤ 60 * (6 * (n + 1) + 4); omega⟩, ⟨(Nat.le_of_ble_eq_true rfl), (Nat.le_of_ble_eq_true rfl)⟩, (Nat.le_of_ble_eq_true rfl)⟩ ki_X4_pass ks_X4_pass rfl (am_tab tk_X4_readPart 59 rfl) rfl ?_
              rintro r T10 ⟨rfl, hX10, hG10⟩
              have hF10 : frw W_ps σ T10 := (frw.refl W_ps σ).trans hG10
              refine am_aload_n (q := 122) rfl (am_tab tk_X4_readPart 60 rfl) rfl ?_
              refine am_getR (q := 125) (a := 27) (k := 4) (n := 13) (j := 1) (r := some (28)) (Ls_27 hX10.1.1) (by decide) rfl (Lr_27_1 hX10.1.1) (by decide) (Or.inl kf_X4_14) (am_tab tk_X4_readPart 61 rfl) rfl ?_
              refine am_sipush (q := 128) (n := 10000) (by decide) rfl (am_tab tk_X4_readPart 62 rfl) rfl ?_
              refine am_iload_n (q := 129) rfl (am_tab tk_X4_readPart 63 rfl) rfl ?_
              refine am_iadd (q := 130) (by omega) (am_tab tk_X4_readPart 64 rfl) rfl ?_
              refine am_sipush (q := 133) (n := 128) (by decide) rfl (am_tab tk_X4_readPart 65 rfl) rfl ?_
              refine am_isub (q := 134) (by omega) (am_tab tk_X4_readPart 66 rfl) rfl ?_
              refine am_callVr (q := 137) (me2 := M_X5_add) (b := 28) (kb := 5) (nb := 2) (As := [am_i (((10000 + (kdS b E s)) - 128))]) (rest := []) (c_addX hX10 ((10000 + (kdS b E s)) - 128) (40 + wof tk (kdS b E s) 0 11) (fun _ => kap_wof hw)) ⟨rfl, rfl⟩ (Ls_28 hX10.1.1) (by decide) ⟨Or.inr km_X4_172, kc_X5_add, kn_X5, kd_X5_add, ⟨by show 0 + 1 ≤ 6 * (n + 1) + 3; omega, by show 8 + (2 + 11) + 60 ≤ 60 * (6 * (n + 1) + 4); omega⟩, ⟨(Nat.le_of_ble_eq_true rfl), (Nat.le_of_ble_eq_true rfl)⟩, (Nat.le_of_ble_eq_true rfl)⟩ ki_X5_add ks_X5_add rfl (am_tab tk_X4_readPart 67 rfl) rfl ?_
              rintro r T11 ⟨rfl, hX11, hG11⟩
              have hF11 : frw W_ps σ T11 := hF10.trans hG11
              refine am_goto (t := 155) (am_tab tk_X4_readPart 68 rfl) (by decide) ?_
              refine am_vret rfl (Nat.le_of_ble_eq_true rfl) (Nat.le_of_ble_eq_true rfl) (am_tab tk_X4_readPart 76 rfl) ?_
              refine hQ _ _ ?_
              have e9 : partB b E tk (some P) s = adS (40 + wof tk (kdS b E s) 0 11) (npS s) := by unfold partB; rw [if_neg h8, if_neg (show ¬ (kdS b E s = 153 ∨ kdS b E s = 154) by omega), if_neg (fun h => h70 h.2), if_pos hw]
              rw [e9]
              exact ⟨rfl, hX11, hF11⟩
          · replace h70 := b01n h70
            refine am_aload_n (q := 74) rfl (am_tab tk_X4_readPart 36 rfl) rfl ?_
            refine am_callVr (q := 77) (me2 := M_X4_open) (b := 27) (kb := 4) (nb := 13) (As := []) (rest := []) (c_open1 hX (by omega) (by omega)) ⟨rfl, rfl⟩ (Ls_27 hX.1.1) (by decide) ⟨Or.inl km_X4_175, kc_X4_open, kn_X4, kd_X4_open, ⟨by show 1 + 1 ≤ 6 * (n + 1) + 3; omega, by show 8 + (1 + 11) + 120 ≤ 60 * (6 * (n + 1) + 4); omega⟩, ⟨(Nat.le_of_ble_eq_true rfl), (Nat.le_of_ble_eq_true rfl)⟩, (Nat.le_of_ble_eq_true rfl)⟩ ki_X4_open ks_X4_open rfl (am_tab tk_X4_readPart 37 rfl) rfl ?_
            rintro r T12 ⟨rfl, hX12, hG12⟩
            have hF12 : frw W_ps σ T12 := (frw.refl W_ps σ).trans hG12
            refine am_if_eq (q := 80) (t := 155) (am_tab tk_X4_readPart 38 rfl) (by decide) rfl (fun h77 => ?_) (fun h77 => ?_)
            · exact absurd h77 (by decide)
            · refine am_aload_n (q := 81) rfl (am_tab tk_X4_readPart 39 rfl) rfl ?_
              refine am_callVr (q := 84) (me2 := (M_X4_readPart n)) (b := 27) (kb := 4) (nb := 13) (As := []) (rest := []) (hP T12 (ocS 1 (npS s)) hX12 (by rw [oS_oc, oS_np]; omega)) ⟨rfl, rfl⟩ (Ls_27 hX12.1.1) (by decide) ⟨Or.inl km_X4_179, kc_X4_readPart, kn_X4, kd_X4_readPart, ⟨by show 6 * n + 3 + 1 ≤ 6 * (n + 1) + 3; omega, by show 8 + (2 + 11) + 60 * (6 * n + 4) ≤ 60 * (6 * (n + 1) + 4); omega⟩, ⟨(Nat.le_of_ble_eq_true rfl), (Nat.le_of_ble_eq_true rfl)⟩, (Nat.le_of_ble_eq_true rfl)⟩ ki_X4_readPart ks_X4_readPart rfl (am_tab tk_X4_readPart 40 rfl) rfl ?_
              rintro r T13 ⟨rfl, hX13, hG13⟩
              have hF13 : frw W_ps σ T13 := hF12.trans hG13
              refine am_aload_n (q := 85) rfl (am_tab tk_X4_readPart 41 rfl) rfl ?_
              refine am_getR (q := 88) (a := 27) (k := 4) (n := 13) (j := 1) (r := some (28)) (Ls_27 hX13.1.1) (by decide) rfl (Lr_27_1 hX13.1.1) (by decide) (Or.inl kf_X4_14) (am_tab tk_X4_readPart 42 rfl) rfl ?_
              refine am_sipush (q := 91) (n := 20148) (by decide) rfl (am_tab tk_X4_readPart 43 rfl) rfl ?_
              refine am_callVr (q := 94) (me2 := M_X5_add) (b := 28) (kb := 5) (nb := 2) (As := [am_i 20148]) (rest := []) (c_addX hX13 20148 60 (fun _ => by decide)) ⟨rfl, rfl⟩ (Ls_28 hX13.1.1) (by decide) ⟨Or.inr km_X4_172, kc_X5_add, kn_X5, kd_X5_add, ⟨by show 0 + 1 ≤ 6 * (n + 1) + 3; omega, by show 8 + (2 + 11) + 60 ≤ 60 * (6 * (n + 1) + 4); omega⟩, ⟨(Nat.le_of_ble_eq_true rfl), (Nat.le_of_ble_eq_true rfl)⟩, (Nat.le_of_ble_eq_true rfl)⟩ ki_X5_add ks_X5_add rfl (am_tab tk_X4_readPart 44 rfl) rfl ?_
              rintro r T14 ⟨rfl, hX14, hG14⟩
              have hF14 : frw W_ps σ T14 := hF13.trans hG14
              have ho9 := hX14.op
              refine am_aload_n (q := 95) rfl (am_tab tk_X4_readPart 45 rfl) rfl ?_
              refine am_dup (q := 96) rfl (am_tab tk_X4_readPart 46 rfl) rfl ?_
              refine am_getI (q := 99) (a := 27) (k := 4) (n := 13) (j := 7) (x := (T14.2.1 27 7)) (Ls_27 hX14.1.1) (by decide) rfl rfl (by decide) (Or.inl kf_X4_84) (am_tab tk_X4_readPart 47 rfl) rfl ?_
              refine am_iconst (q := 100) (n := 1) (by decide) (am_tab tk_X4_readPart 48 rfl) rfl ?_
              refine am_isub (q := 101) (by omega) (am_tab tk_X4_readPart 49 rfl) rfl ?_
              refine am_putI (q := 104) (k := 4) (n := 13) (j := 7) (Ls_27 hX14.1.1) (by decide) rfl (by decide) (Or.inl ⟨kf_X4_84, rfl⟩) (am_tab tk_X4_readPart 50 rfl) rfl ?_
              refine am_goto (t := 155) (am_tab tk_X4_readPart 51 rfl) (by decide) ?_
              refine am_vret rfl (Nat.le_of_ble_eq_true rfl) (Nat.le_of_ble_eq_true rfl) (am_tab tk_X4_readPart 76 rfl) ?_
              refine hQ _ _ ?_
              have e9 : partB b E tk (some P) s = ocS (-1) (adS 60 (P (ocS 1 (npS s)))) := by unfold partB; rw [if_neg h8, if_neg (show ¬ (kdS b E s = 153 ∨ kdS b E s = 154) by omega), if_pos (show kdS b E s = 148 ∧ tk = 2 from ⟨h63, h70⟩)]
              rw [e9]
              exact ⟨rfl, hX14.cl (by rw [oS_ad, hO, oS_oc, oS_np]; have := hX.op; omega), hF14.setN (by unfold W_ps; omega)⟩
      · refine am_aload_n (q := 34) rfl (am_tab tk_X4_readPart 16 rfl) rfl ?_
        refine am_iconst (q := 35) (n := 1) (by decide) (am_tab tk_X4_readPart 17 rfl) rfl ?_
        refine am_iconst (q := 36) (n := 0) (by decide) (am_tab tk_X4_readPart 18 rfl) rfl ?_
        refine am_callVr (q := 39) (me2 := M_X4_pass) (b := 27) (kb := 4) (nb := 13) (As := [am_i 1, am_i 0]) (rest := []) (c_passT hX (by omega) 0) ⟨rfl, rfl⟩ (Ls_27 hX.1.1) (by decide) ⟨Or.inl km_X4_71, kc_X4_pass, kn_X4, kd_X4_pass, ⟨by show 0 + 1 ≤ 6 * (n + 1) + 3; omega, by show 8 + (5 + 11) + 60 ≤ 60 * (6 * (n + 1) + 4); omega⟩, ⟨(Nat.le_of_ble_eq_true rfl), (Nat.le_of_ble_eq_true rfl)⟩, (Nat.le_of_ble_eq_true rfl)⟩ ki_X4_pass ks_X4_pass rfl (am_tab tk_X4_readPart 19 rfl) rfl ?_
        rintro r T15 ⟨rfl, hX15, hG15⟩
        have hF15 : frw W_ps σ T15 := (frw.refl W_ps σ).trans hG15
        refine am_aload_n (q := 40) rfl (am_tab tk_X4_readPart 20 rfl) rfl ?_
        refine am_iconst (q := 41) (n := 1) (by decide) (am_tab tk_X4_readPart 21 rfl) rfl ?_
        refine am_callVr (q := 44) (me2 := (M_X4_readSumsInside (n + 1))) (b := 27) (kb := 4) (nb := 13) (As := [am_i 1]) (rest := []) (c_insS_1 b E cv M tk n P (c_readSum b E cv M tk n P hP hO) hO T15 (npS s) hX15 (by rw [oS_np]; exact hn)) ⟨rfl, rfl⟩ (Ls_27 hX15.1.1) (by decide) ⟨Or.inl km_X4_185, kc_X4_readSumsInside, kn_X4, kd_X4_readSumsInside, ⟨by show 6 * (n + 1) + 2 + 1 ≤ 6 * (n + 1) + 3; omega, by show 8 + (2 + 11) + 60 * (6 * (n + 1) + 3) ≤ 60 * (6 * (n + 1) + 4); omega⟩, ⟨(Nat.le_of_ble_eq_true rfl), (Nat.le_of_ble_eq_true rfl)⟩, (Nat.le_of_ble_eq_true rfl)⟩ ki_X4_readSumsInside ks_X4_readSumsInside rfl (am_tab tk_X4_readPart 22 rfl) rfl ?_
        rintro r T16 ⟨rfl, hX16, hG16⟩
        have hF16 : frw W_ps σ T16 := hF15.trans hG16
        refine am_aload_n (q := 45) rfl (am_tab tk_X4_readPart 23 rfl) rfl ?_
        refine am_getR (q := 48) (a := 27) (k := 4) (n := 13) (j := 1) (r := some (28)) (Ls_27 hX16.1.1) (by decide) rfl (Lr_27_1 hX16.1.1) (by decide) (Or.inl kf_X4_14) (am_tab tk_X4_readPart 24 rfl) rfl ?_
        refine am_sipush (q := 51) (n := 20000) (by decide) rfl (am_tab tk_X4_readPart 25 rfl) rfl ?_
        refine am_iload_n (q := 52) rfl (am_tab tk_X4_readPart 26 rfl) rfl ?_
        refine am_iadd (q := 53) (by omega) (am_tab tk_X4_readPart 27 rfl) rfl ?_
        refine am_callVr (q := 56) (me2 := M_X5_add) (b := 28) (kb := 5) (nb := 2) (As := [am_i ((20000 + (kdS b E s)))]) (rest := []) (c_addX hX16 (20000 + (kdS b E s)) (if kdS b E s = 153 then 5 else 6) (fun _ => by rw [if_neg h23, h30]; decide)) ⟨rfl, rfl⟩ (Ls_28 hX16.1.1) (by decide) ⟨Or.inr km_X4_172, kc_X5_add, kn_X5, kd_X5_add, ⟨by show 0 + 1 ≤ 6 * (n + 1) + 3; omega, by show 8 + (2 + 11) + 60 ≤ 60 * (6 * (n + 1) + 4); omega⟩, ⟨(Nat.le_of_ble_eq_true rfl), (Nat.le_of_ble_eq_true rfl)⟩, (Nat.le_of_ble_eq_true rfl)⟩ ki_X5_add ks_X5_add rfl (am_tab tk_X4_readPart 28 rfl) rfl ?_
        rintro r T17 ⟨rfl, hX17, hG17⟩
        have hF17 : frw W_ps σ T17 := hF16.trans hG17
        refine am_goto (t := 155) (am_tab tk_X4_readPart 29 rfl) (by decide) ?_
        refine am_vret rfl (Nat.le_of_ble_eq_true rfl) (Nat.le_of_ble_eq_true rfl) (am_tab tk_X4_readPart 76 rfl) ?_
        refine hQ _ _ ?_
        have e9 : partB b E tk (some P) s = adS (if kdS b E s = 153 then 5 else 6) (insB b E (some P) true (npS s)) := by unfold partB; rw [if_neg h8, if_pos (show kdS b E s = 153 ∨ kdS b E s = 154 by omega)]
        rw [e9]
        exact ⟨rfl, hX17, hF17⟩
  · refine am_aload_n (q := 12) rfl (am_tab tk_X4_readPart 6 rfl) rfl ?_
    refine am_iconst (q := 13) (n := 0) (by decide) (am_tab tk_X4_readPart 7 rfl) rfl ?_
    refine am_callVr (q := 16) (me2 := (M_X4_readSumsInside (n + 1))) (b := 27) (kb := 4) (nb := 13) (As := [am_i 0]) (rest := []) (c_insS_0 b E cv M tk n P (c_readSum b E cv M tk n P hP hO) hO σ s hX hn) ⟨rfl, rfl⟩ (Ls_27 hX.1.1) (by decide) ⟨Or.inl km_X4_185, kc_X4_readSumsInside, kn_X4, kd_X4_readSumsInside, ⟨by show 6 * (n + 1) + 2 + 1 ≤ 6 * (n + 1) + 3; omega, by show 8 + (2 + 11) + 60 * (6 * (n + 1) + 3) ≤ 60 * (6 * (n + 1) + 4); omega⟩, ⟨(Nat.le_of_ble_eq_true rfl), (Nat.le_of_ble_eq_true rfl)⟩, (Nat.le_of_ble_eq_true rfl)⟩ ki_X4_readSumsInside ks_X4_readSumsInside rfl (am_tab tk_X4_readPart 8 rfl) rfl ?_
    rintro r T18 ⟨rfl, hX18, hG18⟩
    have hF18 : frw W_ps σ T18 := (frw.refl W_ps σ).trans hG18
    refine am_goto (t := 155) (am_tab tk_X4_readPart 9 rfl) (by decide) ?_
    refine am_vret rfl (Nat.le_of_ble_eq_true rfl) (Nat.le_of_ble_eq_true rfl) (am_tab tk_X4_readPart 76 rfl) ?_
    refine hQ _ _ ?_
    have e9 : partB b E tk (some P) s = insB b E (some P) false s := by unfold partB; rw [if_pos h8]
    rw [e9]
    exact ⟨rfl, hX18, hF18⟩
theorem RC_part (b : Nat → Int) (E : Nat) (cv : Nat → Int) (M : Nat) (tk : Int) : ∀ n, RC b E cv M tk n (M_X4_readPart n) [] (partX b E tk n)
  | 0 => c_part0 b E cv M tk
  | n + 1 => c_partS b E cv M tk n (partX b E tk n) (RC_part b E cv M tk n) (oS_partX b E tk n)
theorem RC_sum (b : Nat → Int) (E : Nat) (cv : Nat → Int) (M : Nat) (tk : Int) (n : Nat) : RC b E cv M tk n (M_X4_readSum n) [] (sumB b E (partX b E tk n)) := c_readSum b E cv M tk n (partX b E tk n) (RC_part b E cv M tk n) (oS_partX b E tk n)
