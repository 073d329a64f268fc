/-- the ranges of the half in which a town is told, also behind one that was none -/
def LRG (S : am_H) : Prop := (∀ p : Nat, p < 8 → (0 ≤ S.2.1 87 p ∧ S.2.1 87 p ≤ 99) ∧ (0 ≤ S.2.1 88 p ∧ S.2.1 88 p ≤ 99) ∧ (0 ≤ S.2.1 89 p ∧ S.2.1 89 p < 256)) ∧ ∀ k : Nat, k < 8 → 0 ≤ S.2.1 91 k ∧ S.2.1 91 k ≤ (if k % 2 = 0 then 90 else 30)
theorem LRG.c {S T : am_H} (h : LRG S) (e : ∀ a j, (87 ≤ a ∧ a ≤ 89) ∨ a = 91 → T.2.1 a j = S.2.1 a j) : LRG T := by
  refine ⟨fun p hp => ?_, fun k hk => ?_⟩
  · rw [e 87 p (by omega), e 88 p (by omega), e 89 p (by omega)]; exact h.1 p hp
  · rw [e 91 k (by omega)]; exact h.2 k hk
theorem LRG_st {b : Nat → Int} {E : Nat} {S : am_H} {i : Nat} (hTW : TWI S i) (h : LRG S) (hl : (stR b E S i).isLeft = true) : LRG (stG b E S i) := by
  obtain ⟨hN, hM, hR, hK, hY, hC, h51⟩ := hTW
  by_cases k0 : zK b E i = 129
  · have eR : stR b E S i = peF b E S (zP b E i : Int) (i + 1) := by unfold stR; rw [if_pos k0]
    have eG : stG b E S i = peH b E S (i + 1) := by unfold stG; rw [if_pos k0]
    rw [eR] at hl
    rw [eG]
    have hf := peF_full hl
    unfold peF at hl
    rw [if_neg hf] at hl
    have v1 := nu_r hl
    have v2 := nu_r (akF_l (nuF_l hl))
    obtain ⟨n, hn⟩ := Int.eq_ofNat_of_zero_le hN.1
    unfold peH
    rw [hn, show ((n : Int)).toNat = n by omega]
    refine ⟨fun p hp => ?_, fun k hk => ?_⟩
    · have hp0 := h.1 p hp
      simp (disch := omega) only [set_nn]
      by_cases g : p = n
      · subst g
        simp (disch := omega) only [set_eq, set_nn]
        refine ⟨?_, ?_, by decide⟩
        · omega
        · omega
      · simp (disch := omega) only [set_nn]
        exact hp0
    · simp (disch := omega) only [set_nn]
      exact h.2 k hk
  by_cases k1 : zK b E i = 132
  · have eG : stG b E S i = toH b E S (i + 1) := by unfold stG; rw [if_neg k0, if_pos k1]
    rw [eG]
    exact h.c (fun a j ha => by unfold toH; simp (disch := omega) only [set_nn])
  by_cases k2 : zK b E i = 134
  · have eR : stR b E S i = rmF b E S (zP b E i : Int) (i + 1) := by unfold stR; rw [if_neg k0, if_neg k1, if_pos k2]
    have eG : stG b E S i = rmH b E S (i + 1) := by unfold stG; rw [if_neg k0, if_neg k1, if_pos k2]
    rw [eR] at hl
    rw [eG]
    have h2 := rmF_two hl
    have r1 : 0 ≤ rmB b E S (i + 1) ∧ rmB b E S (i + 1) < S.2.1 85 0 := ph_p (by omega) h2
    have r2 : 0 ≤ rmA b E S (i + 1) ∧ rmA b E S (i + 1) < S.2.1 85 0 := ph_p (by omega) (phF_l h2)
    obtain ⟨x, hx⟩ := Int.eq_ofNat_of_zero_le r1.1
    obtain ⟨y, hy⟩ := Int.eq_ofNat_of_zero_le r2.1
    unfold rmH
    rw [hx, hy, show ((y : Int)).toNat = y by omega]
    refine ⟨fun p hp => ?_, fun k hk => ?_⟩
    · have hp0 := h.1 p hp
      simp (disch := omega) only [set_nn]
      by_cases g : p = y
      · subst g
        simp (disch := omega) only [set_eq]
        exact ⟨hp0.1, hp0.2.1, orr hp0.2.2 (by omega)⟩
      · simp (disch := omega) only [set_nn]
        exact hp0
    · simp (disch := omega) only [set_nn]
      exact h.2 k hk
  by_cases k3 : zK b E i = 135
  · have eR : stR b E S i = frF b E S (zP b E i : Int) (i + 1) := by unfold stR; rw [if_neg k0, if_neg k1, if_neg k2, if_pos k3]
    have eG : stG b E S i = frH b E S (i + 1) := by unfold stG; rw [if_neg k0, if_neg k1, if_neg k2, if_pos k3]
    rw [eR] at hl
    rw [eG]
    have hf := frF_full hl
    unfold frF at hl
    rw [if_neg hf] at hl
    have v1 := nu_r hl
    have v2 : 1 ≤ zV b E (i + 1) ∧ zV b E (i + 1) ≤ S.2.1 85 4 := nu_r (q := .inl (i + 1)) (akF_l (nuF_l hl))
    obtain ⟨n, hn⟩ := Int.eq_ofNat_of_zero_le hK.1
    unfold frH
    rw [hn, show (2 * (n : Int)).toNat = 2 * n by omega, show (2 * (n : Int) + 1).toNat = 2 * n + 1 by omega]
    refine ⟨fun p hp => ?_, fun k hk => ?_⟩
    · simp (disch := omega) only [set_nn]
      exact h.1 p hp
    · simp (disch := omega) only [set_nn]
      by_cases g : k = 2 * n + 1
      · subst g
        rw [set_eq, if_neg (by omega)]
        omega
      · rw [set_nn (by omega)]
        by_cases g2 : k = 2 * n
        · subst g2
          rw [set_eq, if_pos (by omega)]
          omega
        · rw [set_nn (by omega)]
          exact h.2 k hk
  refine h.c (fun a j ha => ?_)
  unfold stG
  rw [if_neg k0, if_neg k1, if_neg k2, if_neg k3]
  split
  · unfold cdH; rw [set_nn (by omega), set_nn (by omega), setA_nn (by omega), set_nn (by omega)]
  · split
    · unfold cdH; rw [set_nn (by omega), set_nn (by omega), setA_nn (by omega), set_nn (by omega)]
    · split
      · exact set_nn (by omega)
      · exact set_nn (by omega)
theorem LRG.t {S T : am_H} (h : LRG S) (hF : frw W_t S T) : LRG T := h.c (fun a j ha => tE hF a j (by omega))
set_option maxRecDepth 100000 in
theorem c_statementTold9 (b : Nat → Int) (E i : Nat) (S : am_H) (hZ : ZS b E i S)  (h2 : S.2.1 55 2 = (zP b E i : Int)) (hiz : i ≤ zP b E i) (hTW : TWI S i) (hRM : RM b E) : am_met M_X10_statementTold [am_r 55] S (fun r σ' => r = none ∧ ZZ b E σ' (stF b E S i) ∧ iZ b E (stF b E S i) ∧ frw W_tx S σ' ∧ ((stF b E S i).isLeft = true → frw W_t (stH b E S i) σ') ∧ (LRG S → LRG σ')) := by
  refine am_qq (fun Q hQ => ?_)
  refine am_enter (show plainFor yX10_statementTold = true by decide +kernel) rfl (Nat.le_of_ble_eq_true rfl) (fun _ _ _ => trivial) ?_
  have hL := hZ.1
  have hTW0 := hTW
  obtain ⟨hN, hM, hR, hK, hY, hC, h51⟩ := hTW
  have hzp := zP_rng b E i
  have hzq := zP_rng b E (i + 1)
  have hE := hZ.2.2.1.2.2.1
  refine am_aload_n (q := 1) rfl (am_tab tk_X10_statementTold 0 rfl) rfl ?_
  refine am_getI (q := 4) (a := 55) (k := 10) (n := 108) (j := 2) (x := (zP b E i : Int)) (Ls_55 hL) (by decide) rfl h2 (by decide) (Or.inl kf_X10_254) (am_tab tk_X10_statementTold 1 rfl) rfl ?_
  refine am_istore_n (q := 5) (by decide) (ls2 := [(1, am_i ((zP b E i : Int))), (0, am_r 55)]) rfl (am_tab tk_X10_statementTold 2 rfl) rfl ?_
  by_cases full : S.2.1 55 51 = 70
  · refine am_aload_n (q := 6) rfl (am_tab tk_X10_statementTold 3 rfl) rfl ?_
    refine am_getI (q := 9) (a := 55) (k := 10) (n := 108) (j := 51) (x := (S.2.1 55 51)) (Ls_55 hL) (by decide) rfl rfl (by decide) (Or.inl kf_X10_354) (am_tab tk_X10_statementTold 4 rfl) rfl ?_
    refine am_bipush (q := 11) (n := 70) (by decide) rfl (am_tab tk_X10_statementTold 5 rfl) rfl ?_
    refine am_icmp_ne (q := 14) (t := 21) (am_tab tk_X10_statementTold 6 rfl) (by decide) rfl (fun h11 => ?_) (fun h11 => ?_)
    · exact absurd full h11
    · refine am_aload_n (q := 15) rfl (am_tab tk_X10_statementTold 7 rfl) rfl ?_
      refine am_iconst (q := 16) (n := 5) (by decide) (am_tab tk_X10_statementTold 8 rfl) rfl ?_
      refine am_iload_n (q := 17) rfl (am_tab tk_X10_statementTold 9 rfl) rfl ?_
      refine am_callV0 (q := 20) (me2 := M_X10_fail) (b := 55) (kb := 10) (nb := 108) (As := [am_i 5, am_i ((zP b E i : Int))]) (rest := []) (out := []) (c_fail0 S hL 5 (zP b E i : Int) hZ.2.2.2.1) ⟨rfl, rfl⟩ (Ls_55 hL) (by decide) ⟨Or.inl km_X10_278, kc_X10_fail, kn_X10, kd_X10_fail, ⟨(Nat.le_of_ble_eq_true rfl), (Nat.le_of_ble_eq_true rfl)⟩, ⟨(Nat.le_of_ble_eq_true rfl), (Nat.le_of_ble_eq_true rfl)⟩, (Nat.le_of_ble_eq_true rfl)⟩ ki_X10_fail ks_X10_fail rfl rfl (am_tab tk_X10_statementTold 10 rfl) rfl ?_
      refine am_vret rfl (Nat.le_of_ble_eq_true rfl) (Nat.le_of_ble_eq_true rfl) (am_tab tk_X10_statementTold 11 rfl) ?_
      refine hQ _ _ ?_
      have hd : stF b E S i = .inr (5, (zP b E i : Int)) := by unfold stF; rw [if_pos full]
      have hF : frw W_sc S (am_setN (am_setN S 55 5 5) 55 6 (zP b E i : Int)) := ((frw.refl W_sc S).setN (by unfold W_sc; omega)).setN (by unfold W_sc; omega)
      rw [hd]
      exact ⟨rfl, ZB_of hZ.1 hZ.2.1 hF hZ.2.2.1 rfl (show ¬ (5 : Int) = 0 by decide) rfl (by have := hZ.2.2.2.2.2.1; show 0 ≤ S.2.1 55 2 ∧ S.2.1 55 2 ≤ _; omega), trivial, (W_sc_t hF).mono (fun _ _ h => Or.inl (Or.inl h)), fun h => absurd (show false = true from h) (by decide), fun h => h.c (fun a j ha => tE (W_sc_t hF) a j (by omega))⟩
  · refine am_aload_n (q := 6) rfl (am_tab tk_X10_statementTold 3 rfl) rfl ?_
    refine am_getI (q := 9) (a := 55) (k := 10) (n := 108) (j := 51) (x := (S.2.1 55 51)) (Ls_55 hL) (by decide) rfl rfl (by decide) (Or.inl kf_X10_354) (am_tab tk_X10_statementTold 4 rfl) rfl ?_
    refine am_bipush (q := 11) (n := 70) (by decide) rfl (am_tab tk_X10_statementTold 5 rfl) rfl ?_
    refine am_icmp_ne (q := 14) (t := 21) (am_tab tk_X10_statementTold 6 rfl) (by decide) rfl (fun h11 => ?_) (fun h11 => ?_)
    · have L186 : ∀ (n186 : Nat) (p : Nat ⊕ (Int × Int)) (T : am_H), 0 < n186 → stR b E S i = p → ZZ b E T p → iZ b E p → (p.isLeft = true → frw W_t (stG b E S i) T) → frw W_tw S T → (LRG S → LRG T) → am_wp M_X10_statementTold Q 0 0 186 [(0, am_r 55), (1, am_i ((zP b E i : Int)))] [] T := by
        intro n186
        induction n186 with
        | zero => intro p T hn186; exact absurd hn186 (Nat.not_lt_zero _)
        | succ n186 ih186 =>
          intro p T hn186 hp hZp hip hG hW hLR
          refine am_aload_n (q := 187) rfl (am_tab tk_X10_statementTold 94 rfl) rfl ?_
          refine am_bipush (q := 189) (n := 59) (by decide) rfl (am_tab tk_X10_statementTold 95 rfl) rfl ?_
          refine am_callVr (q := 192) (me2 := M_X10_asksSign) (b := 55) (kb := 10) (nb := 108) (As := [am_i 59]) (rest := []) (c_asksSignZ hZp 59 (by decide)) ⟨rfl, rfl⟩ (Ls_55 hZp.L) (by decide) ⟨Or.inl km_X10_325, kc_X10_asksSign, kn_X10, kd_X10_asksSign, ⟨(Nat.le_of_ble_eq_true rfl), (Nat.le_of_ble_eq_true rfl)⟩, ⟨(Nat.le_of_ble_eq_true rfl), (Nat.le_of_ble_eq_true rfl)⟩, (Nat.le_of_ble_eq_true rfl)⟩ ki_X10_asksSign ks_X10_asksSign rfl (am_tab tk_X10_statementTold 96 rfl) rfl ?_
          rintro r T5 ⟨rfl, hZ5, hF5⟩
          refine am_st (st2 := []) rfl ?_
          refine am_aload_n (q := 193) rfl (am_tab tk_X10_statementTold 97 rfl) rfl ?_
          refine am_dup (q := 194) rfl (am_tab tk_X10_statementTold 98 rfl) rfl ?_
          refine am_getI (q := 197) (a := 55) (k := 10) (n := 108) (j := 51) (x := (S.2.1 55 51)) (Ls_55 hZ5.L) (by decide) rfl ((hF5.2.2 55 51 (by unfold W_sc; omega)).trans (hW.2.2 55 51 (by unfold W_tw W_t W_p W_sc W_q; omega))) (by decide) (Or.inl kf_X10_354) (am_tab tk_X10_statementTold 99 rfl) rfl ?_
          refine am_iconst (q := 198) (n := 1) (by decide) (am_tab tk_X10_statementTold 100 rfl) rfl ?_
          refine am_iadd (q := 199) (by omega) (am_tab tk_X10_statementTold 101 rfl) rfl ?_
          refine am_putI (q := 202) (k := 10) (n := 108) (j := 51) (Ls_55 hZ5.L) (by decide) rfl (by decide) (Or.inl ⟨kf_X10_354, rfl⟩) (am_tab tk_X10_statementTold 102 rfl) rfl ?_
          refine am_vret rfl (Nat.le_of_ble_eq_true rfl) (Nat.le_of_ble_eq_true rfl) (am_tab tk_X10_statementTold 103 rfl) ?_
          refine hQ _ _ ?_
          have hd : stF b E S i = sgF b E 59 p := by unfold stF; rw [if_neg full, hp]
          rw [hd]
          refine ⟨rfl, hZ5.st ((frw.refl W_st T5).setN (by unfold W_st; omega)), sgF_i (by decide) hip, ?_, fun h => ?_, fun h => ?_⟩
          · exact ((hW.trans (W_t_tw (W_sc_t hF5))).mono (fun _ _ h => Or.inl h)).setN (Or.inr ⟨rfl, rfl⟩)
          · exact ((hG (sgF_l h)).trans (W_sc_t hF5)).both 55 51 _
          · exact ((hLR h).t (W_sc_t hF5)).c (fun a j ha => set_nn (by omega))
      refine am_aload_n (q := 22) rfl (am_tab tk_X10_statementTold 12 rfl) rfl ?_
      refine am_aload_n (q := 23) rfl (am_tab tk_X10_statementTold 13 rfl) rfl ?_
      refine am_getR (q := 26) (a := 55) (k := 10) (n := 108) (j := 12) (r := some (59)) (Ls_55 hL) (by decide) rfl (Lr_55_12 hL) (by decide) (Or.inl kf_X10_24) (am_tab tk_X10_statementTold 14 rfl) rfl ?_
      by_cases k0 : zK b E i = 129
      · refine am_callVr (q := 29) (me2 := M_X10_takes) (b := 55) (kb := 10) (nb := 108) (As := [am_r 59]) (rest := []) (c_takesY b E i S hZ 59 1 (by decide) (by omega)) ⟨rfl, rfl⟩ (Ls_55 hL) (by decide) ⟨Or.inl km_X10_275, kc_X10_takes, kn_X10, kd_X10_takes, ⟨(Nat.le_of_ble_eq_true rfl), (Nat.le_of_ble_eq_true rfl)⟩, ⟨(Nat.le_of_ble_eq_true rfl), (Nat.le_of_ble_eq_true rfl)⟩, (Nat.le_of_ble_eq_true rfl)⟩ ki_X10_takes ks_X10_takes rfl (am_tab tk_X10_statementTold 15 rfl) rfl ?_
        rintro r T1 ⟨rfl, hZ1, hF0⟩
        have hF1 : frw W_sc S T1 := hF0
        have hT1 := W_sc_t hF1
        have hi1 : i + 1 ≤ zP b E (i + 1) := zP_on (by omega) hiz
        refine am_st (st2 := [am_i 1]) rfl ?_
        refine am_if_eq (q := 32) (t := 40) (am_tab tk_X10_statementTold 16 rfl) (by decide) rfl (fun h29 => ?_) (fun h29 => ?_)
        · exact absurd h29 (by decide)
        · refine am_aload_n (q := 33) rfl (am_tab tk_X10_statementTold 17 rfl) rfl ?_
          refine am_iload_n (q := 34) rfl (am_tab tk_X10_statementTold 18 rfl) rfl ?_
          refine am_callVr (q := 37) (me2 := M_X10_personTold) (b := 55) (kb := 10) (nb := 108) (As := [am_i ((zP b E i : Int))]) (rest := []) (c_X10_personTold b E (i + 1) T1 hZ1 (zP b E i : Int) (by rw [tE hT1 85 0 (by omega)]; omega)) ⟨rfl, rfl⟩ (Ls_55 hZ1.1) (by decide) ⟨Or.inl km_X10_357, kc_X10_personTold, kn_X10, kd_X10_personTold, ⟨(Nat.le_of_ble_eq_true rfl), (Nat.le_of_ble_eq_true rfl)⟩, ⟨(Nat.le_of_ble_eq_true rfl), (Nat.le_of_ble_eq_true rfl)⟩, (Nat.le_of_ble_eq_true rfl)⟩ ki_X10_personTold ks_X10_personTold rfl (am_tab tk_X10_statementTold 19 rfl) rfl ?_
          rintro r T2 ⟨rfl, hZ2, hF2⟩
          rw [peF_t hT1] at hZ2 hF2
          refine am_st (st2 := []) rfl ?_
          refine am_goto (t := 186) (am_tab tk_X10_statementTold 20 rfl) (by decide) ?_
          have eR : stR b E S i = peF b E S (zP b E i : Int) (i + 1) := by unfold stR; rw [if_pos k0]
          have eG : stG b E S i = peH b E S (i + 1) := by unfold stG; rw [if_pos k0]
          have hB2 := brF_t hT1 (peH_t hT1 (i + 1)) (fun h => peH_tw (by have := peF_full h; omega)) (W_sc_t hF2)
          rw [← eR] at hZ2 hB2
          rw [← eG] at hB2
          have hLg : LRG S → LRG T2 := fun h => by
            by_cases hl : (stR b E S i).isLeft = true
            · exact (LRG_st hTW0 h hl).t (hB2.1 hl)
            · rw [eR] at hl
              rw [if_neg hl] at hF2
              exact h.c (fun a j ha => by rw [hF2.2.2 a j (by unfold W_sc; omega), tE hT1 a j (by omega)])
          refine am_less (by intro q hq; simp only [List.mem_cons, List.not_mem_nil, or_false] at hq; rcases hq with rfl | rfl <;> simp) (L186 (_ + 1) (stR b E S i) T2 (by exact Nat.lt_succ_self _) rfl hZ2 (by rw [eR]; exact peF_i hi1) hB2.1 hB2.2 hLg)
      · refine am_callVr (q := 29) (me2 := M_X10_takes) (b := 55) (kb := 10) (nb := 108) (As := [am_r 59]) (rest := []) (c_takesN b E i S hZ 59 1 (by decide) (by omega)) ⟨rfl, rfl⟩ (Ls_55 hL) (by decide) ⟨Or.inl km_X10_275, kc_X10_takes, kn_X10, kd_X10_takes, ⟨(Nat.le_of_ble_eq_true rfl), (Nat.le_of_ble_eq_true rfl)⟩, ⟨(Nat.le_of_ble_eq_true rfl), (Nat.le_of_ble_eq_true rfl)⟩, (Nat.le_of_ble_eq_true rfl)⟩ ki_X10_takes ks_X10_takes rfl (am_tab tk_X10_statementTold 15 rfl) rfl ?_
        rintro r τ ⟨rfl, hτ⟩
        rw [hτ]
        refine am_st (st2 := [am_i 0]) rfl ?_
        refine am_if_eq (q := 32) (t := 40) (am_tab tk_X10_statementTold 16 rfl) (by decide) rfl (fun h29 => ?_) (fun h29 => ?_)
        · refine am_aload_n (q := 41) rfl (am_tab tk_X10_statementTold 21 rfl) rfl ?_
          refine am_aload_n (q := 42) rfl (am_tab tk_X10_statementTold 22 rfl) rfl ?_
          refine am_getR (q := 45) (a := 55) (k := 10) (n := 108) (j := 15) (r := some (62)) (Ls_55 hL) (by decide) rfl (Lr_55_15 hL) (by decide) (Or.inl kf_X10_33) (am_tab tk_X10_statementTold 23 rfl) rfl ?_
          by_cases k1 : zK b E i = 132
          · refine am_callVr (q := 48) (me2 := M_X10_takes) (b := 55) (kb := 10) (nb := 108) (As := [am_r 62]) (rest := []) (c_takesY b E i (am_setN S 55 2 (zP b E i : Int)) hZ.look 62 4 (by decide) (by omega)) ⟨rfl, rfl⟩ (Ls_55 hL) (by decide) ⟨Or.inl km_X10_275, kc_X10_takes, kn_X10, kd_X10_takes, ⟨(Nat.le_of_ble_eq_true rfl), (Nat.le_of_ble_eq_true rfl)⟩, ⟨(Nat.le_of_ble_eq_true rfl), (Nat.le_of_ble_eq_true rfl)⟩, (Nat.le_of_ble_eq_true rfl)⟩ ki_X10_takes ks_X10_takes rfl (am_tab tk_X10_statementTold 24 rfl) rfl ?_
            rintro r T1 ⟨rfl, hZ1, hF0⟩
            have hF1 : frw W_sc S T1 := ((frw.refl W_sc S).setN (by unfold W_sc; omega)).trans hF0
            have hT1 := W_sc_t hF1
            have hi1 : i + 1 ≤ zP b E (i + 1) := zP_on (by omega) hiz
            refine am_st (st2 := [am_i 1]) rfl ?_
            refine am_if_eq (q := 51) (t := 59) (am_tab tk_X10_statementTold 25 rfl) (by decide) rfl (fun h48 => ?_) (fun h48 => ?_)
            · exact absurd h48 (by decide)
            · refine am_aload_n (q := 52) rfl (am_tab tk_X10_statementTold 26 rfl) rfl ?_
              refine am_iload_n (q := 53) rfl (am_tab tk_X10_statementTold 27 rfl) rfl ?_
              refine am_callVr (q := 56) (me2 := M_X10_isToldOff) (b := 55) (kb := 10) (nb := 108) (As := [am_i ((zP b E i : Int))]) (rest := []) (c_X10_isToldOff b E (i + 1) T1 hZ1 (zP b E i : Int) (by rw [tE hT1 85 0 (by omega)]; omega) (by rw [tE hT1 85 1 (by omega)]; omega) (by rw [tE hT1 85 4 (by omega)]; omega)) ⟨rfl, rfl⟩ (Ls_55 hZ1.1) (by decide) ⟨Or.inl km_X10_360, kc_X10_isToldOff, kn_X10, kd_X10_isToldOff, ⟨(Nat.le_of_ble_eq_true rfl), (Nat.le_of_ble_eq_true rfl)⟩, ⟨(Nat.le_of_ble_eq_true rfl), (Nat.le_of_ble_eq_true rfl)⟩, (Nat.le_of_ble_eq_true rfl)⟩ ki_X10_isToldOff ks_X10_isToldOff rfl (am_tab tk_X10_statementTold 28 rfl) rfl ?_
              rintro r T2 ⟨rfl, hZ2, hF2⟩
              rw [toF_t hT1] at hZ2 hF2
              refine am_st (st2 := []) rfl ?_
              refine am_goto (t := 186) (am_tab tk_X10_statementTold 29 rfl) (by decide) ?_
              have eR : stR b E S i = toF b E S (zP b E i : Int) (i + 1) := by unfold stR; rw [if_neg k0, if_pos k1]
              have eG : stG b E S i = toH b E S (i + 1) := by unfold stG; rw [if_neg k0, if_pos k1]
              have hB2 := brF_t hT1 (toH_t hT1 (i + 1)) (fun _ => toH_tw) (W_sc_t hF2)
              rw [← eR] at hZ2 hB2
              rw [← eG] at hB2
              have hLg : LRG S → LRG T2 := fun h => by
                by_cases hl : (stR b E S i).isLeft = true
                · exact (LRG_st hTW0 h hl).t (hB2.1 hl)
                · rw [eR] at hl
                  rw [if_neg hl] at hF2
                  exact h.c (fun a j ha => by rw [hF2.2.2 a j (by unfold W_sc; omega), tE hT1 a j (by omega)])
              refine am_less (by intro q hq; simp only [List.mem_cons, List.not_mem_nil, or_false] at hq; rcases hq with rfl | rfl <;> simp) (L186 (_ + 1) (stR b E S i) T2 (by exact Nat.lt_succ_self _) rfl hZ2 (by rw [eR]; exact toF_i hi1) hB2.1 hB2.2 hLg)
          · refine am_callVr (q := 48) (me2 := M_X10_takes) (b := 55) (kb := 10) (nb := 108) (As := [am_r 62]) (rest := []) (c_takesN b E i (am_setN S 55 2 (zP b E i : Int)) hZ.look 62 4 (by decide) (by omega)) ⟨rfl, rfl⟩ (Ls_55 hL) (by decide) ⟨Or.inl km_X10_275, kc_X10_takes, kn_X10, kd_X10_takes, ⟨(Nat.le_of_ble_eq_true rfl), (Nat.le_of_ble_eq_true rfl)⟩, ⟨(Nat.le_of_ble_eq_true rfl), (Nat.le_of_ble_eq_true rfl)⟩, (Nat.le_of_ble_eq_true rfl)⟩ ki_X10_takes ks_X10_takes rfl (am_tab tk_X10_statementTold 24 rfl) rfl ?_
            rintro r τ ⟨rfl, hτ⟩
            rw [hτ, am_setN_N]
            refine am_st (st2 := [am_i 0]) rfl ?_
            refine am_if_eq (q := 51) (t := 59) (am_tab tk_X10_statementTold 25 rfl) (by decide) rfl (fun h48 => ?_) (fun h48 => ?_)
            · refine am_aload_n (q := 60) rfl (am_tab tk_X10_statementTold 30 rfl) rfl ?_
              refine am_aload_n (q := 61) rfl (am_tab tk_X10_statementTold 31 rfl) rfl ?_
              refine am_getR (q := 64) (a := 55) (k := 10) (n := 108) (j := 17) (r := some (64)) (Ls_55 hL) (by decide) rfl (Lr_55_17 hL) (by decide) (Or.inl kf_X10_39) (am_tab tk_X10_statementTold 32 rfl) rfl ?_
              by_cases k2 : zK b E i = 134
              · refine am_callVr (q := 67) (me2 := M_X10_takes) (b := 55) (kb := 10) (nb := 108) (As := [am_r 64]) (rest := []) (c_takesY b E i (am_setN S 55 2 (zP b E i : Int)) hZ.look 64 6 (by decide) (by omega)) ⟨rfl, rfl⟩ (Ls_55 hL) (by decide) ⟨Or.inl km_X10_275, kc_X10_takes, kn_X10, kd_X10_takes, ⟨(Nat.le_of_ble_eq_true rfl), (Nat.le_of_ble_eq_true rfl)⟩, ⟨(Nat.le_of_ble_eq_true rfl), (Nat.le_of_ble_eq_true rfl)⟩, (Nat.le_of_ble_eq_true rfl)⟩ ki_X10_takes ks_X10_takes rfl (am_tab tk_X10_statementTold 33 rfl) rfl ?_
                rintro r T1 ⟨rfl, hZ1, hF0⟩
                have hF1 : frw W_sc S T1 := ((frw.refl W_sc S).setN (by unfold W_sc; omega)).trans hF0
                have hT1 := W_sc_t hF1
                have hi1 : i + 1 ≤ zP b E (i + 1) := zP_on (by omega) hiz
                refine am_st (st2 := [am_i 1]) rfl ?_
                refine am_if_eq (q := 70) (t := 78) (am_tab tk_X10_statementTold 34 rfl) (by decide) rfl (fun h67 => ?_) (fun h67 => ?_)
                · exact absurd h67 (by decide)
                · refine am_aload_n (q := 71) rfl (am_tab tk_X10_statementTold 35 rfl) rfl ?_
                  refine am_iload_n (q := 72) rfl (am_tab tk_X10_statementTold 36 rfl) rfl ?_
                  refine am_callVr (q := 75) (me2 := M_X10_remindsTold) (b := 55) (kb := 10) (nb := 108) (As := [am_i ((zP b E i : Int))]) (rest := []) (c_X10_remindsTold b E (i + 1) T1 hZ1 (zP b E i : Int) (by rw [tE hT1 85 0 (by omega)]; omega) (by rw [tE hT1 85 2 (by omega)]; omega)) ⟨rfl, rfl⟩ (Ls_55 hZ1.1) (by decide) ⟨Or.inl km_X10_363, kc_X10_remindsTold, kn_X10, kd_X10_remindsTold, ⟨(Nat.le_of_ble_eq_true rfl), (Nat.le_of_ble_eq_true rfl)⟩, ⟨(Nat.le_of_ble_eq_true rfl), (Nat.le_of_ble_eq_true rfl)⟩, (Nat.le_of_ble_eq_true rfl)⟩ ki_X10_remindsTold ks_X10_remindsTold rfl (am_tab tk_X10_statementTold 37 rfl) rfl ?_
                  rintro r T2 ⟨rfl, hZ2, hF2⟩
                  rw [rmF_t hT1] at hZ2 hF2
                  refine am_st (st2 := []) rfl ?_
                  refine am_goto (t := 186) (am_tab tk_X10_statementTold 38 rfl) (by decide) ?_
                  have eR : stR b E S i = rmF b E S (zP b E i : Int) (i + 1) := by unfold stR; rw [if_neg k0, if_neg k1, if_pos k2]
                  have eG : stG b E S i = rmH b E S (i + 1) := by unfold stG; rw [if_neg k0, if_neg k1, if_pos k2]
                  have hB2 := brF_t hT1 (rmH_t hT1 (i + 1)) (fun h => rmH_tw (phF_rng (phF_l (rmF_two h)) (by omega))) (W_sc_t hF2)
                  rw [← eR] at hZ2 hB2
                  rw [← eG] at hB2
                  have hLg : LRG S → LRG T2 := fun h => by
                    by_cases hl : (stR b E S i).isLeft = true
                    · exact (LRG_st hTW0 h hl).t (hB2.1 hl)
                    · rw [eR] at hl
                      rw [if_neg hl] at hF2
                      exact h.c (fun a j ha => by rw [hF2.2.2 a j (by unfold W_sc; omega), tE hT1 a j (by omega)])
                  refine am_less (by intro q hq; simp only [List.mem_cons, List.not_mem_nil, or_false] at hq; rcases hq with rfl | rfl <;> simp) (L186 (_ + 1) (stR b E S i) T2 (by exact Nat.lt_succ_self _) rfl hZ2 (by rw [eR]; exact rmF_i hi1) hB2.1 hB2.2 hLg)
              · refine am_callVr (q := 67) (me2 := M_X10_takes) (b := 55) (kb := 10) (nb := 108) (As := [am_r 64]) (rest := []) (c_takesN b E i (am_setN S 55 2 (zP b E i : Int)) hZ.look 64 6 (by decide) (by omega)) ⟨rfl, rfl⟩ (Ls_55 hL) (by decide) ⟨Or.inl km_X10_275, kc_X10_takes, kn_X10, kd_X10_takes, ⟨(Nat.le_of_ble_eq_true rfl), (Nat.le_of_ble_eq_true rfl)⟩, ⟨(Nat.le_of_ble_eq_true rfl), (Nat.le_of_ble_eq_true rfl)⟩, (Nat.le_of_ble_eq_true rfl)⟩ ki_X10_takes ks_X10_takes rfl (am_tab tk_X10_statementTold 33 rfl) rfl ?_
                rintro r τ ⟨rfl, hτ⟩
                rw [hτ, am_setN_N]
                refine am_st (st2 := [am_i 0]) rfl ?_
                refine am_if_eq (q := 70) (t := 78) (am_tab tk_X10_statementTold 34 rfl) (by decide) rfl (fun h67 => ?_) (fun h67 => ?_)
                · refine am_aload_n (q := 79) rfl (am_tab tk_X10_statementTold 39 rfl) rfl ?_
                  refine am_aload_n (q := 80) rfl (am_tab tk_X10_statementTold 40 rfl) rfl ?_
                  refine am_getR (q := 83) (a := 55) (k := 10) (n := 108) (j := 18) (r := some (65)) (Ls_55 hL) (by decide) rfl (Lr_55_18 hL) (by decide) (Or.inl kf_X10_42) (am_tab tk_X10_statementTold 41 rfl) rfl ?_
                  by_cases k3 : zK b E i = 135
                  · refine am_callVr (q := 86) (me2 := M_X10_takes) (b := 55) (kb := 10) (nb := 108) (As := [am_r 65]) (rest := []) (c_takesY b E i (am_setN S 55 2 (zP b E i : Int)) hZ.look 65 7 (by decide) (by omega)) ⟨rfl, rfl⟩ (Ls_55 hL) (by decide) ⟨Or.inl km_X10_275, kc_X10_takes, kn_X10, kd_X10_takes, ⟨(Nat.le_of_ble_eq_true rfl), (Nat.le_of_ble_eq_true rfl)⟩, ⟨(Nat.le_of_ble_eq_true rfl), (Nat.le_of_ble_eq_true rfl)⟩, (Nat.le_of_ble_eq_true rfl)⟩ ki_X10_takes ks_X10_takes rfl (am_tab tk_X10_statementTold 42 rfl) rfl ?_
                    rintro r T1 ⟨rfl, hZ1, hF0⟩
                    have hF1 : frw W_sc S T1 := ((frw.refl W_sc S).setN (by unfold W_sc; omega)).trans hF0
                    have hT1 := W_sc_t hF1
                    have hi1 : i + 1 ≤ zP b E (i + 1) := zP_on (by omega) hiz
                    refine am_st (st2 := [am_i 1]) rfl ?_
                    refine am_if_eq (q := 89) (t := 97) (am_tab tk_X10_statementTold 43 rfl) (by decide) rfl (fun h86 => ?_) (fun h86 => ?_)
                    · exact absurd h86 (by decide)
                    · refine am_aload_n (q := 90) rfl (am_tab tk_X10_statementTold 44 rfl) rfl ?_
                      refine am_iload_n (q := 91) rfl (am_tab tk_X10_statementTold 45 rfl) rfl ?_
                      refine am_callVr (q := 94) (me2 := M_X10_frostTold) (b := 55) (kb := 10) (nb := 108) (As := [am_i ((zP b E i : Int))]) (rest := []) (c_X10_frostTold b E (i + 1) T1 hZ1 (zP b E i : Int) (by rw [tE hT1 85 3 (by omega)]; omega) (by rw [tE hT1 85 4 (by omega)]; omega)) ⟨rfl, rfl⟩ (Ls_55 hZ1.1) (by decide) ⟨Or.inl km_X10_366, kc_X10_frostTold, kn_X10, kd_X10_frostTold, ⟨(Nat.le_of_ble_eq_true rfl), (Nat.le_of_ble_eq_true rfl)⟩, ⟨(Nat.le_of_ble_eq_true rfl), (Nat.le_of_ble_eq_true rfl)⟩, (Nat.le_of_ble_eq_true rfl)⟩ ki_X10_frostTold ks_X10_frostTold rfl (am_tab tk_X10_statementTold 46 rfl) rfl ?_
                      rintro r T2 ⟨rfl, hZ2, hF2⟩
                      rw [frF_t hT1] at hZ2 hF2
                      refine am_st (st2 := []) rfl ?_
                      refine am_goto (t := 186) (am_tab tk_X10_statementTold 47 rfl) (by decide) ?_
                      have eR : stR b E S i = frF b E S (zP b E i : Int) (i + 1) := by unfold stR; rw [if_neg k0, if_neg k1, if_neg k2, if_pos k3]
                      have eG : stG b E S i = frH b E S (i + 1) := by unfold stG; rw [if_neg k0, if_neg k1, if_neg k2, if_pos k3]
                      have hB2 := brF_t hT1 (frH_t hT1 (i + 1)) (fun h => frH_tw (by have := frF_full h; omega)) (W_sc_t hF2)
                      rw [← eR] at hZ2 hB2
                      rw [← eG] at hB2
                      have hLg : LRG S → LRG T2 := fun h => by
                        by_cases hl : (stR b E S i).isLeft = true
                        · exact (LRG_st hTW0 h hl).t (hB2.1 hl)
                        · rw [eR] at hl
                          rw [if_neg hl] at hF2
                          exact h.c (fun a j ha => by rw [hF2.2.2 a j (by unfold W_sc; omega), tE hT1 a j (by omega)])
                      refine am_less (by intro q hq; simp only [List.mem_cons, List.not_mem_nil, or_false] at hq; rcases hq with rfl | rfl <;> simp) (L186 (_ + 1) (stR b E S i) T2 (by exact Nat.lt_succ_self _) rfl hZ2 (by rw [eR]; exact frF_i hi1) hB2.1 hB2.2 hLg)
                  · refine am_callVr (q := 86) (me2 := M_X10_takes) (b := 55) (kb := 10) (nb := 108) (As := [am_r 65]) (rest := []) (c_takesN b E i (am_setN S 55 2 (zP b E i : Int)) hZ.look 65 7 (by decide) (by omega)) ⟨rfl, rfl⟩ (Ls_55 hL) (by decide) ⟨Or.inl km_X10_275, kc_X10_takes, kn_X10, kd_X10_takes, ⟨(Nat.le_of_ble_eq_true rfl), (Nat.le_of_ble_eq_true rfl)⟩, ⟨(Nat.le_of_ble_eq_true rfl), (Nat.le_of_ble_eq_true rfl)⟩, (Nat.le_of_ble_eq_true rfl)⟩ ki_X10_takes ks_X10_takes rfl (am_tab tk_X10_statementTold 42 rfl) rfl ?_
                    rintro r τ ⟨rfl, hτ⟩
                    rw [hτ, am_setN_N]
                    refine am_st (st2 := [am_i 0]) rfl ?_
                    refine am_if_eq (q := 89) (t := 97) (am_tab tk_X10_statementTold 43 rfl) (by decide) rfl (fun h86 => ?_) (fun h86 => ?_)
                    · refine am_aload_n (q := 98) rfl (am_tab tk_X10_statementTold 48 rfl) rfl ?_
                      refine am_aload_n (q := 99) rfl (am_tab tk_X10_statementTold 49 rfl) rfl ?_
                      refine am_getR (q := 102) (a := 55) (k := 10) (n := 108) (j := 20) (r := some (67)) (Ls_55 hL) (by decide) rfl (Lr_55_20 hL) (by decide) (Or.inl kf_X10_48) (am_tab tk_X10_statementTold 50 rfl) rfl ?_
                      by_cases k4 : zK b E i = 137
                      · refine am_callVr (q := 105) (me2 := M_X10_takes) (b := 55) (kb := 10) (nb := 108) (As := [am_r 67]) (rest := []) (c_takesY b E i (am_setN S 55 2 (zP b E i : Int)) hZ.look 67 9 (by decide) (by omega)) ⟨rfl, rfl⟩ (Ls_55 hL) (by decide) ⟨Or.inl km_X10_275, kc_X10_takes, kn_X10, kd_X10_takes, ⟨(Nat.le_of_ble_eq_true rfl), (Nat.le_of_ble_eq_true rfl)⟩, ⟨(Nat.le_of_ble_eq_true rfl), (Nat.le_of_ble_eq_true rfl)⟩, (Nat.le_of_ble_eq_true rfl)⟩ ki_X10_takes ks_X10_takes rfl (am_tab tk_X10_statementTold 51 rfl) rfl ?_
                        rintro r T1 ⟨rfl, hZ1, hF0⟩
                        have hF1 : frw W_sc S T1 := ((frw.refl W_sc S).setN (by unfold W_sc; omega)).trans hF0
                        have hT1 := W_sc_t hF1
                        have hi1 : i + 1 ≤ zP b E (i + 1) := zP_on (by omega) hiz
                        refine am_st (st2 := [am_i 1]) rfl ?_
                        refine am_if_eq (q := 108) (t := 117) (am_tab tk_X10_statementTold 52 rfl) (by decide) rfl (fun h105 => ?_) (fun h105 => ?_)
                        · exact absurd h105 (by decide)
                        · refine am_aload_n (q := 109) rfl (am_tab tk_X10_statementTold 53 rfl) rfl ?_
                          refine am_iconst (q := 110) (n := 0) (by decide) (am_tab tk_X10_statementTold 54 rfl) rfl ?_
                          refine am_iload_n (q := 111) rfl (am_tab tk_X10_statementTold 55 rfl) rfl ?_
                          refine am_callVr (q := 114) (me2 := M_X10_codesTold) (b := 55) (kb := 10) (nb := 108) (As := [am_i 0, am_i ((zP b E i : Int))]) (rest := []) (c_X10_codesTold b E (i + 1) T1 hZ1 0 (zP b E i : Int) hi1 (by decide) (by rw [tE50 hT1]; omega)) ⟨rfl, rfl⟩ (Ls_55 hZ1.1) (by decide) ⟨Or.inl km_X10_369, kc_X10_codesTold, kn_X10, kd_X10_codesTold, ⟨(Nat.le_of_ble_eq_true rfl), (Nat.le_of_ble_eq_true rfl)⟩, ⟨(Nat.le_of_ble_eq_true rfl), (Nat.le_of_ble_eq_true rfl)⟩, (Nat.le_of_ble_eq_true rfl)⟩ ki_X10_codesTold ks_X10_codesTold rfl (am_tab tk_X10_statementTold 56 rfl) rfl ?_
                          rintro r T2 ⟨rfl, hZ2, hI2, _, hF2⟩
                          rw [cdF_t hT1] at hZ2 hI2 hF2
                          refine am_st (st2 := []) rfl ?_
                          refine am_goto (t := 186) (am_tab tk_X10_statementTold 57 rfl) (by decide) ?_
                          have eR : stR b E S i = cdF b E S 0 (zP b E i : Int) (i + 1) := by unfold stR; rw [if_neg k0, if_neg k1, if_neg k2, if_neg k3, if_pos k4]
                          have eG : stG b E S i = cdH S 0 (cdC b E 0 (i + 1)) := by unfold stG; rw [if_neg k0, if_neg k1, if_neg k2, if_neg k3, if_pos k4]
                          have hB2 := brF_t hT1 (cdH_t hT1 0 (cdC b E 0 (i + 1))) (fun h => cdH_tw (by decide) (by omega) (by obtain ⟨j, hj, hj2⟩ := hRM.cd h; rw [hj] at hI2; have hj3 : j ≤ zP b E j := hI2; have := zP_rng b E j; omega)) hF2
                          rw [← eR] at hZ2 hB2
                          rw [← eG] at hB2
                          have hLg : LRG S → LRG T2 := fun h => by
                            by_cases hl : (stR b E S i).isLeft = true
                            · exact (LRG_st hTW0 h hl).t (hB2.1 hl)
                            · rw [eR] at hl
                              rw [if_neg hl] at hF2
                              exact h.c (fun a j ha => by rw [hF2.2.2 a j (by unfold W_t W_p W_sc W_q; omega), tE hT1 a j (by omega)])
                          refine am_less (by intro q hq; simp only [List.mem_cons, List.not_mem_nil, or_false] at hq; rcases hq with rfl | rfl <;> simp) (L186 (_ + 1) (stR b E S i) T2 (by exact Nat.lt_succ_self _) rfl hZ2 (by rw [eR]; exact hI2) hB2.1 hB2.2 hLg)
                      · refine am_callVr (q := 105) (me2 := M_X10_takes) (b := 55) (kb := 10) (nb := 108) (As := [am_r 67]) (rest := []) (c_takesN b E i (am_setN S 55 2 (zP b E i : Int)) hZ.look 67 9 (by decide) (by omega)) ⟨rfl, rfl⟩ (Ls_55 hL) (by decide) ⟨Or.inl km_X10_275, kc_X10_takes, kn_X10, kd_X10_takes, ⟨(Nat.le_of_ble_eq_true rfl), (Nat.le_of_ble_eq_true rfl)⟩, ⟨(Nat.le_of_ble_eq_true rfl), (Nat.le_of_ble_eq_true rfl)⟩, (Nat.le_of_ble_eq_true rfl)⟩ ki_X10_takes ks_X10_takes rfl (am_tab tk_X10_statementTold 51 rfl) rfl ?_
                        rintro r τ ⟨rfl, hτ⟩
                        rw [hτ, am_setN_N]
                        refine am_st (st2 := [am_i 0]) rfl ?_
                        refine am_if_eq (q := 108) (t := 117) (am_tab tk_X10_statementTold 52 rfl) (by decide) rfl (fun h105 => ?_) (fun h105 => ?_)
                        · refine am_aload_n (q := 118) rfl (am_tab tk_X10_statementTold 58 rfl) rfl ?_
                          refine am_aload_n (q := 119) rfl (am_tab tk_X10_statementTold 59 rfl) rfl ?_
                          refine am_getR (q := 122) (a := 55) (k := 10) (n := 108) (j := 21) (r := some (68)) (Ls_55 hL) (by decide) rfl (Lr_55_21 hL) (by decide) (Or.inl kf_X10_51) (am_tab tk_X10_statementTold 60 rfl) rfl ?_
                          by_cases k5 : zK b E i = 138
                          · refine am_callVr (q := 125) (me2 := M_X10_takes) (b := 55) (kb := 10) (nb := 108) (As := [am_r 68]) (rest := []) (c_takesY b E i (am_setN S 55 2 (zP b E i : Int)) hZ.look 68 10 (by decide) (by omega)) ⟨rfl, rfl⟩ (Ls_55 hL) (by decide) ⟨Or.inl km_X10_275, kc_X10_takes, kn_X10, kd_X10_takes, ⟨(Nat.le_of_ble_eq_true rfl), (Nat.le_of_ble_eq_true rfl)⟩, ⟨(Nat.le_of_ble_eq_true rfl), (Nat.le_of_ble_eq_true rfl)⟩, (Nat.le_of_ble_eq_true rfl)⟩ ki_X10_takes ks_X10_takes rfl (am_tab tk_X10_statementTold 61 rfl) rfl ?_
                            rintro r T1 ⟨rfl, hZ1, hF0⟩
                            have hF1 : frw W_sc S T1 := ((frw.refl W_sc S).setN (by unfold W_sc; omega)).trans hF0
                            have hT1 := W_sc_t hF1
                            have hi1 : i + 1 ≤ zP b E (i + 1) := zP_on (by omega) hiz
                            refine am_st (st2 := [am_i 1]) rfl ?_
                            refine am_if_eq (q := 128) (t := 137) (am_tab tk_X10_statementTold 62 rfl) (by decide) rfl (fun h125 => ?_) (fun h125 => ?_)
                            · exact absurd h125 (by decide)
                            · refine am_aload_n (q := 129) rfl (am_tab tk_X10_statementTold 63 rfl) rfl ?_
                              refine am_iconst (q := 130) (n := 1) (by decide) (am_tab tk_X10_statementTold 64 rfl) rfl ?_
                              refine am_iload_n (q := 131) rfl (am_tab tk_X10_statementTold 65 rfl) rfl ?_
                              refine am_callVr (q := 134) (me2 := M_X10_codesTold) (b := 55) (kb := 10) (nb := 108) (As := [am_i 1, am_i ((zP b E i : Int))]) (rest := []) (c_X10_codesTold b E (i + 1) T1 hZ1 1 (zP b E i : Int) hi1 (by decide) (by rw [tE50 hT1]; omega)) ⟨rfl, rfl⟩ (Ls_55 hZ1.1) (by decide) ⟨Or.inl km_X10_369, kc_X10_codesTold, kn_X10, kd_X10_codesTold, ⟨(Nat.le_of_ble_eq_true rfl), (Nat.le_of_ble_eq_true rfl)⟩, ⟨(Nat.le_of_ble_eq_true rfl), (Nat.le_of_ble_eq_true rfl)⟩, (Nat.le_of_ble_eq_true rfl)⟩ ki_X10_codesTold ks_X10_codesTold rfl (am_tab tk_X10_statementTold 66 rfl) rfl ?_
                              rintro r T2 ⟨rfl, hZ2, hI2, _, hF2⟩
                              rw [cdF_t hT1] at hZ2 hI2 hF2
                              refine am_st (st2 := []) rfl ?_
                              refine am_goto (t := 186) (am_tab tk_X10_statementTold 67 rfl) (by decide) ?_
                              have eR : stR b E S i = cdF b E S 1 (zP b E i : Int) (i + 1) := by unfold stR; rw [if_neg k0, if_neg k1, if_neg k2, if_neg k3, if_neg k4, if_pos k5]
                              have eG : stG b E S i = cdH S 1 (cdC b E 1 (i + 1)) := by unfold stG; rw [if_neg k0, if_neg k1, if_neg k2, if_neg k3, if_neg k4, if_pos k5]
                              have hB2 := brF_t hT1 (cdH_t hT1 1 (cdC b E 1 (i + 1))) (fun h => cdH_tw (by decide) (by omega) (by obtain ⟨j, hj, hj2⟩ := hRM.cd h; rw [hj] at hI2; have hj3 : j ≤ zP b E j := hI2; have := zP_rng b E j; omega)) hF2
                              rw [← eR] at hZ2 hB2
                              rw [← eG] at hB2
                              have hLg : LRG S → LRG T2 := fun h => by
                                by_cases hl : (stR b E S i).isLeft = true
                                · exact (LRG_st hTW0 h hl).t (hB2.1 hl)
                                · rw [eR] at hl
                                  rw [if_neg hl] at hF2
                                  exact h.c (fun a j ha => by rw [hF2.2.2 a j (by unfold W_t W_p W_sc W_q; omega), tE hT1 a j (by omega)])
                              refine am_less (by intro q hq; simp only [List.mem_cons, List.not_mem_nil, or_false] at hq; rcases hq with rfl | rfl <;> simp) (L186 (_ + 1) (stR b E S i) T2 (by exact Nat.lt_succ_self _) rfl hZ2 (by rw [eR]; exact hI2) hB2.1 hB2.2 hLg)
                          · refine am_callVr (q := 125) (me2 := M_X10_takes) (b := 55) (kb := 10) (nb := 108) (As := [am_r 68]) (rest := []) (c_takesN b E i (am_setN S 55 2 (zP b E i : Int)) hZ.look 68 10 (by decide) (by omega)) ⟨rfl, rfl⟩ (Ls_55 hL) (by decide) ⟨Or.inl km_X10_275, kc_X10_takes, kn_X10, kd_X10_takes, ⟨(Nat.le_of_ble_eq_true rfl), (Nat.le_of_ble_eq_true rfl)⟩, ⟨(Nat.le_of_ble_eq_true rfl), (Nat.le_of_ble_eq_true rfl)⟩, (Nat.le_of_ble_eq_true rfl)⟩ ki_X10_takes ks_X10_takes rfl (am_tab tk_X10_statementTold 61 rfl) rfl ?_
                            rintro r τ ⟨rfl, hτ⟩
                            rw [hτ, am_setN_N]
                            refine am_st (st2 := [am_i 0]) rfl ?_
                            refine am_if_eq (q := 128) (t := 137) (am_tab tk_X10_statementTold 62 rfl) (by decide) rfl (fun h125 => ?_) (fun h125 => ?_)
                            · refine am_aload_n (q := 138) rfl (am_tab tk_X10_statementTold 68 rfl) rfl ?_
                              refine am_aload_n (q := 139) rfl (am_tab tk_X10_statementTold 69 rfl) rfl ?_
                              refine am_getR (q := 142) (a := 55) (k := 10) (n := 108) (j := 22) (r := some (69)) (Ls_55 hL) (by decide) rfl (Lr_55_22 hL) (by decide) (Or.inl kf_X10_54) (am_tab tk_X10_statementTold 70 rfl) rfl ?_
                              by_cases k6 : zK b E i = 139
                              · refine am_callVr (q := 145) (me2 := M_X10_takes) (b := 55) (kb := 10) (nb := 108) (As := [am_r 69]) (rest := []) (c_takesY b E i (am_setN S 55 2 (zP b E i : Int)) hZ.look 69 11 (by decide) (by omega)) ⟨rfl, rfl⟩ (Ls_55 hL) (by decide) ⟨Or.inl km_X10_275, kc_X10_takes, kn_X10, kd_X10_takes, ⟨(Nat.le_of_ble_eq_true rfl), (Nat.le_of_ble_eq_true rfl)⟩, ⟨(Nat.le_of_ble_eq_true rfl), (Nat.le_of_ble_eq_true rfl)⟩, (Nat.le_of_ble_eq_true rfl)⟩ ki_X10_takes ks_X10_takes rfl (am_tab tk_X10_statementTold 71 rfl) rfl ?_
                                rintro r T1 ⟨rfl, hZ1, hF0⟩
                                have hF1 : frw W_sc S T1 := ((frw.refl W_sc S).setN (by unfold W_sc; omega)).trans hF0
                                have hT1 := W_sc_t hF1
                                have hi1 : i + 1 ≤ zP b E (i + 1) := zP_on (by omega) hiz
                                refine am_st (st2 := [am_i 1]) rfl ?_
                                refine am_if_eq (q := 148) (t := 164) (am_tab tk_X10_statementTold 72 rfl) (by decide) rfl (fun h145 => ?_) (fun h145 => ?_)
                                · exact absurd h145 (by decide)
                                · refine am_aload_n (q := 149) rfl (am_tab tk_X10_statementTold 73 rfl) rfl ?_
                                  refine am_getR (q := 152) (a := 55) (k := 10) (n := 108) (j := 46) (r := some (92)) (Ls_55 hZ1.1) (by decide) rfl (Lr_55_46 hZ1.1) (by decide) (Or.inl kf_X10_124) (am_tab tk_X10_statementTold 74 rfl) rfl ?_
                                  refine am_iconst (q := 153) (n := 0) (by decide) (am_tab tk_X10_statementTold 75 rfl) rfl ?_
                                  refine am_aload_n (q := 154) rfl (am_tab tk_X10_statementTold 76 rfl) rfl ?_
                                  refine am_iconst (q := 155) (n := 0) (by decide) (am_tab tk_X10_statementTold 77 rfl) rfl ?_
                                  refine am_bipush (q := 157) (n := 100) (by decide) rfl (am_tab tk_X10_statementTold 78 rfl) rfl ?_
                                  refine am_callVr (q := 160) (me2 := M_X10_number) (b := 55) (kb := 10) (nb := 108) (As := [am_i 0, am_i 100]) (rest := [am_i 0, am_r 92]) (c_numberZ (show ZZ b E T1 (.inl (i + 1)) from hZ1) 0 100 (by decide) (by decide)) ⟨rfl, rfl⟩ (Ls_55 hZ1.1) (by decide) ⟨Or.inl km_X10_321, kc_X10_number, kn_X10, kd_X10_number, ⟨(Nat.le_of_ble_eq_true rfl), (Nat.le_of_ble_eq_true rfl)⟩, ⟨(Nat.le_of_ble_eq_true rfl), (Nat.le_of_ble_eq_true rfl)⟩, (Nat.le_of_ble_eq_true rfl)⟩ ki_X10_number ks_X10_number rfl (am_tab tk_X10_statementTold 79 rfl) rfl ?_
                                  rintro r T2 ⟨v, rfl, hvr, hZ2, hF2, hv⟩
                                  refine am_st (st2 := [am_i v, am_i 0, am_r 92]) rfl ?_
                                  refine am_iast (q := 161) (a := 92) (n := 4) (Ls_92 hZ2.L) (by omega) (by omega) (am_tab tk_X10_statementTold 80 rfl) rfl ?_
                                  refine am_goto (t := 186) (am_tab tk_X10_statementTold 81 rfl) (by decide) ?_
                                  have eR : stR b E S i = nuF b E 0 100 (.inl (i + 1)) := by unfold stR; rw [if_neg k0, if_neg k1, if_neg k2, if_neg k3, if_neg k4, if_neg k5, if_pos k6]
                                  have eG : stG b E S i = am_setN S 92 0 (zV b E (i + 1)) := by unfold stG; rw [if_neg k0, if_neg k1, if_neg k2, if_neg k3, if_neg k4, if_neg k5, if_pos k6]
                                  have hT2 := hT1.trans (W_sc_t hF2)
                                  have hZ3 := hZ2.st ((frw.refl W_st T2).setN (a := 92) (j := 0) (x := v) (by unfold W_st; omega))
                                  have hG : (stR b E S i).isLeft = true → frw W_t (stG b E S i) (am_setN T2 92 0 v) := by
                                    intro h
                                    rw [eR] at h
                                    rw [eG, ← show v = zV b E (i + 1) from (hv h).1]
                                    exact hT2.both 92 0 v
                                  rw [← eR] at hZ3
                                  have hLg : LRG S → LRG (am_setN T2 92 0 v) := fun h => by
                                    exact h.c (fun a j ha => by rw [set_nn (by omega)]; exact tE hT2 a j (by omega))
                                  refine am_less (by intro q hq; simp only [List.mem_cons, List.not_mem_nil, or_false] at hq; rcases hq with rfl | rfl <;> simp) (L186 (_ + 1) (stR b E S i) (am_setN T2 92 0 v) (by exact Nat.lt_succ_self _) rfl hZ3 (by rw [eR]; exact nuF_i (show iZ b E (.inl (i + 1)) from hi1)) hG ((W_t_tw hT2).setN (by unfold W_tw; omega)) hLg)
                              · refine am_callVr (q := 145) (me2 := M_X10_takes) (b := 55) (kb := 10) (nb := 108) (As := [am_r 69]) (rest := []) (c_takesN b E i (am_setN S 55 2 (zP b E i : Int)) hZ.look 69 11 (by decide) (by omega)) ⟨rfl, rfl⟩ (Ls_55 hL) (by decide) ⟨Or.inl km_X10_275, kc_X10_takes, kn_X10, kd_X10_takes, ⟨(Nat.le_of_ble_eq_true rfl), (Nat.le_of_ble_eq_true rfl)⟩, ⟨(Nat.le_of_ble_eq_true rfl), (Nat.le_of_ble_eq_true rfl)⟩, (Nat.le_of_ble_eq_true rfl)⟩ ki_X10_takes ks_X10_takes rfl (am_tab tk_X10_statementTold 71 rfl) rfl ?_
                                rintro r τ ⟨rfl, hτ⟩
                                rw [hτ, am_setN_N]
                                refine am_st (st2 := [am_i 0]) rfl ?_
                                refine am_if_eq (q := 148) (t := 164) (am_tab tk_X10_statementTold 72 rfl) (by decide) rfl (fun h145 => ?_) (fun h145 => ?_)
                                · refine am_aload_n (q := 165) rfl (am_tab tk_X10_statementTold 82 rfl) rfl ?_
                                  refine am_aload_n (q := 166) rfl (am_tab tk_X10_statementTold 83 rfl) rfl ?_
                                  refine am_getR (q := 169) (a := 55) (k := 10) (n := 108) (j := 23) (r := some (70)) (Ls_55 hL) (by decide) rfl (Lr_55_23 hL) (by decide) (Or.inl kf_X10_57) (am_tab tk_X10_statementTold 84 rfl) rfl ?_
                                  refine am_callVr (q := 172) (me2 := M_X10_asks) (b := 55) (kb := 10) (nb := 108) (As := [am_r 70]) (rest := []) (c_asksZ (show ZZ b E (am_setN S 55 2 (zP b E i : Int)) (.inl i) from hZ.look) 70 12 (by decide)) ⟨rfl, rfl⟩ (Ls_55 hL) (by decide) ⟨Or.inl km_X10_317, kc_X10_asks, kn_X10, kd_X10_asks, ⟨(Nat.le_of_ble_eq_true rfl), (Nat.le_of_ble_eq_true rfl)⟩, ⟨(Nat.le_of_ble_eq_true rfl), (Nat.le_of_ble_eq_true rfl)⟩, (Nat.le_of_ble_eq_true rfl)⟩ ki_X10_asks ks_X10_asks rfl (am_tab tk_X10_statementTold 85 rfl) rfl ?_
                                  rintro r T1 ⟨rfl, hZ1, hF0⟩
                                  have hF1 : frw W_sc S T1 := ((frw.refl W_sc S).setN (by unfold W_sc; omega)).trans hF0
                                  have hT1 := W_sc_t hF1
                                  refine am_st (st2 := []) rfl ?_
                                  refine am_aload_n (q := 173) rfl (am_tab tk_X10_statementTold 86 rfl) rfl ?_
                                  refine am_getR (q := 176) (a := 55) (k := 10) (n := 108) (j := 46) (r := some (92)) (Ls_55 hZ1.L) (by decide) rfl (Lr_55_46 hZ1.L) (by decide) (Or.inl kf_X10_124) (am_tab tk_X10_statementTold 87 rfl) rfl ?_
                                  refine am_iconst (q := 177) (n := 1) (by decide) (am_tab tk_X10_statementTold 88 rfl) rfl ?_
                                  refine am_aload_n (q := 178) rfl (am_tab tk_X10_statementTold 89 rfl) rfl ?_
                                  refine am_iconst (q := 179) (n := 0) (by decide) (am_tab tk_X10_statementTold 90 rfl) rfl ?_
                                  refine am_sipush (q := 182) (n := 1000) (by decide) rfl (am_tab tk_X10_statementTold 91 rfl) rfl ?_
                                  refine am_callVr (q := 185) (me2 := M_X10_number) (b := 55) (kb := 10) (nb := 108) (As := [am_i 0, am_i 1000]) (rest := [am_i 1, am_r 92]) (c_numberZ hZ1 0 1000 (by decide) (by decide)) ⟨rfl, rfl⟩ (Ls_55 hZ1.L) (by decide) ⟨Or.inl km_X10_321, kc_X10_number, kn_X10, kd_X10_number, ⟨(Nat.le_of_ble_eq_true rfl), (Nat.le_of_ble_eq_true rfl)⟩, ⟨(Nat.le_of_ble_eq_true rfl), (Nat.le_of_ble_eq_true rfl)⟩, (Nat.le_of_ble_eq_true rfl)⟩ ki_X10_number ks_X10_number rfl (am_tab tk_X10_statementTold 92 rfl) rfl ?_
                                  rintro r T2 ⟨v, rfl, hvr, hZ2, hF2, hv⟩
                                  refine am_st (st2 := [am_i v, am_i 1, am_r 92]) rfl ?_
                                  refine am_iast (q := 186) (a := 92) (n := 4) (Ls_92 hZ2.L) (by omega) (by omega) (am_tab tk_X10_statementTold 93 rfl) rfl ?_
                                  have eR : stR b E S i = nuF b E 0 1000 (akF b E 12 (.inl i)) := by unfold stR; rw [if_neg k0, if_neg k1, if_neg k2, if_neg k3, if_neg k4, if_neg k5, if_neg k6]
                                  have eG : stG b E S i = am_setN S 92 1 (vZ b E (akF b E 12 (.inl i))) := by unfold stG; rw [if_neg k0, if_neg k1, if_neg k2, if_neg k3, if_neg k4, if_neg k5, if_neg k6]
                                  have hT2 := hT1.trans (W_sc_t hF2)
                                  have hZ3 := hZ2.st ((frw.refl W_st T2).setN (a := 92) (j := 1) (x := v) (by unfold W_st; omega))
                                  have hG : (stR b E S i).isLeft = true → frw W_t (stG b E S i) (am_setN T2 92 1 v) := by
                                    intro h
                                    rw [eR] at h
                                    rw [eG, ← show v = vZ b E (akF b E 12 (.inl i)) from (hv h).1]
                                    exact hT2.both 92 1 v
                                  rw [← eR] at hZ3
                                  have hLg : LRG S → LRG (am_setN T2 92 1 v) := fun h => by
                                    exact h.c (fun a j ha => by rw [set_nn (by omega)]; exact tE hT2 a j (by omega))
                                  refine am_less (by intro q hq; simp only [List.mem_cons, List.not_mem_nil, or_false] at hq; rcases hq with rfl | rfl <;> simp) (L186 (_ + 1) (stR b E S i) (am_setN T2 92 1 v) (by exact Nat.lt_succ_self _) rfl hZ3 (by rw [eR]; exact nuF_i (akF_i (show iZ b E (.inl i) from hiz))) hG ((W_t_tw hT2).setN (by unfold W_tw; omega)) hLg)
                                · exact absurd h145 (by decide)
                            · exact absurd h125 (by decide)
                        · exact absurd h105 (by decide)
                    · exact absurd h86 (by decide)
                · exact absurd h67 (by decide)
            · exact absurd h48 (by decide)
        · exact absurd h29 (by decide)
    · exact absurd h11 full
