abbrev HC1 (σ : am_H) : Prop := (1 ≤ (256 * σ.2.1 56 0) + σ.2.1 56 1 ∧ (256 * σ.2.1 56 0) + σ.2.1 56 1 ≤ 999) ∧ σ.2.1 56 2 ≤ σ.2.1 85 9 ∧ ¬ (σ.2.1 56 2 = 0 ∧ 1 < (256 * σ.2.1 56 0) + σ.2.1 56 1) ∧ σ.2.1 56 3 ≤ σ.2.1 56 2 ∧ coT σ ≤ 999999
theorem hdC_iff {σ : am_H} : hdC σ = true ↔ HC1 σ ∧ anyB (hdB σ) (pN σ) = false := by
  unfold hdC HC1
  rw [Bool.and_eq_true, decide_eq_true_eq, Bool.not_eq_true']
theorem iiC_iff {σ : am_H} {n : Int} : iiC σ n = true ↔ (¬ σ.2.1 55 52 = 0 ∧ (sF σ : Int) + 3 ≤ n ∧ σ.2.1 56 (n - 1).toNat = ckN (fun i => σ.2.1 56 i) (n - 1).toNat) ∧ (HC1 σ ∧ anyB (hdB σ) (pN σ) = false) ∧ asC σ (sF σ) (n - 1) 0 = true ∧ asC σ (sF2 σ) (n - 1) (σ.2.1 56 2) = true ∧ (sF2 σ : Int) + 2 + 2 * σ.2.1 56 (sF2 σ) = n := by
  unfold iiC
  rw [Bool.and_eq_true, Bool.and_eq_true, Bool.and_eq_true, Bool.and_eq_true, decide_eq_true_eq, decide_eq_true_eq, hdC_iff]
  exact ⟨fun h => ⟨h.1.1.1.1, h.1.1.1.2, h.1.1.2, h.1.2, h.2⟩, fun h => ⟨⟨⟨⟨h.1, h.2.1⟩, h.2.2.1⟩, h.2.2.2.1⟩, h.2.2.2.2⟩⟩
def W_pp (a j : Nat) : Prop := a = 38 ∨ (a = 37 ∧ j = 4)
/-- so many people of an image have been read -/
def PPL (σ S T : am_H) (k : Nat) : Prop := frw W_pp S T ∧ (∀ p : Nat, T.2.1 38 p = if p < k then σ.2.1 56 (7 + 2 * p) else S.2.1 38 p) ∧ (0 ≤ T.2.1 37 4 ∧ T.2.1 37 4 < 256) ∧ ∀ p : Nat, p < 8 → tb (T.2.1 37 4) p = if p < k then σ.2.1 56 (8 + 2 * p) else 0
theorem PPL.on {σ S T : am_H} {k : Nat} (h : PPL σ S T k) (hk : k < 8) (hd : σ.2.1 56 (8 + 2 * k) = 0 ∨ σ.2.1 56 (8 + 2 * k) = 1) : PPL σ S (am_setN (am_setN T 38 k (σ.2.1 56 (7 + 2 * k))) 37 4 (ao_or (T.2.1 37 4) (ao_shl (σ.2.1 56 (8 + 2 * k)) (k : Int)))) (k + 1) := by
  obtain ⟨h1, h2, h3, h4⟩ := h
  have ho := or_sh h3 hd hk
  refine ⟨(h1.setN (Or.inl rfl)).setN (Or.inr ⟨rfl, rfl⟩), fun p => ?_, ?_, fun p hp => ?_⟩
  · rw [set_nn (by omega)]
    by_cases g : p = k
    · rw [g, set_eq, if_pos (by omega)]
    · rw [set_nn (by omega), h2 p]
      by_cases g2 : p < k
      · rw [if_pos g2, if_pos (by omega)]
      · rw [if_neg g2, if_neg (by omega)]
  · rw [set_eq]; exact ho.1
  · rw [set_eq, ho.2 p hp, h4 p hp]
    by_cases g : p = k
    · subst g
      rw [if_neg (show ¬ p < p by omega), if_pos (show p < p + 1 by omega)]
      rcases hd with h | h <;> rw [h] <;> simp
    · rw [if_neg (fun z => g z.1)]
      by_cases g2 : p < k
      · rw [if_pos g2, if_pos (by omega)]
      · rw [if_neg g2, if_neg (by omega)]
/-- a list of an image, read -/
def RDL (σ S : am_H) (a F : Nat) (le n : Int) (r : Option am_V) (T : am_H) : Prop := ((asC σ F (n - 1) le = true ∧ r = some (am_i ((F : Int) + 1 + 2 * σ.2.1 56 F)) ∧ ∀ d : Nat, d < 91 → T.2.1 a d = tkF σ F (σ.2.1 56 F).toNat d) ∨ (asC σ F (n - 1) le = false ∧ r = some (am_i (-1)))) ∧ frw (fun x _ => x = a) S T
theorem asC_f {σ : am_H} {F : Nat} {n le : Int} (h : ¬ ((F : Int) < n ∧ σ.2.1 56 F ≤ 30 ∧ ((F : Int) + 1) + (2 * σ.2.1 56 F) ≤ n)) : asC σ F n le = false := by
  unfold asC
  rw [decide_eq_false h, Bool.false_and]
theorem asC_b {σ : am_H} {F k : Nat} {n le : Int} (hk : k < (σ.2.1 56 F).toNat) (h : asB σ F le k = true) : asC σ F n le = false := by
  unfold asC
  rw [anyB_t h hk, Bool.not_true, Bool.and_false]
theorem asC_t {σ : am_H} {F : Nat} {n le : Int} (h : (F : Int) < n ∧ σ.2.1 56 F ≤ 30 ∧ ((F : Int) + 1) + (2 * σ.2.1 56 F) ≤ n) (hb : anyB (asB σ F le) (σ.2.1 56 F).toNat = false) : asC σ F n le = true := by
  unfold asC
  rw [decide_eq_true h, hb]
  rfl
theorem asB_t {σ : am_H} {F k : Nat} {le : Int} (h : ¬ ((1 ≤ aD σ F k ∧ aD σ F k ≤ σ.2.1 85 9) ∧ le < aD σ F k ∧ (0 ≤ aP σ F k ∧ aP σ F k ≤ σ.2.1 85 5 - 1) ∧ aLast σ F k < aV σ F k)) : asB σ F le k = true := decide_eq_true h
theorem asB_f {σ : am_H} {F k : Nat} {le : Int} (h : (1 ≤ aD σ F k ∧ aD σ F k ≤ σ.2.1 85 9) ∧ le < aD σ F k ∧ (0 ≤ aP σ F k ∧ aP σ F k ≤ σ.2.1 85 5 - 1) ∧ aLast σ F k < aV σ F k) : asB σ F le k = false := decide_eq_false (fun z => z h)
theorem c_checkOf_2 (σ : am_H) (hL : lay σ) (n : Nat) (hn : n ≤ 1600) (hf : ∀ i, i < n → 0 ≤ σ.2.1 2 i ∧ σ.2.1 2 i ≤ 255) : am_met M_X3_checkOf [am_r 2, am_i ((n : Int))] σ (fun r σ' => r = some (am_i (ckN (fun i => σ.2.1 2 i) n)) ∧ σ' = σ) := by
  refine am_qq (fun Q hQ => ?_)
  refine am_enter (show plainFor yX3_checkOf = true by decide +kernel) rfl (Nat.le_of_ble_eq_true rfl) (fun _ _ _ => trivial) ?_
  refine am_sipush (q := 3) (n := 239) (by decide) rfl (am_tab tk_X3_checkOf 0 rfl) rfl ?_
  refine am_istore_n (q := 4) (by decide) (ls2 := [(2, am_i 239), (0, am_r 2), (1, am_i ((n : Int)))]) rfl (am_tab tk_X3_checkOf 1 rfl) rfl ?_
  refine am_iconst (q := 5) (n := 0) (by decide) (am_tab tk_X3_checkOf 2 rfl) rfl ?_
  refine am_istore_n (q := 6) (by decide) (ls2 := [(3, am_i 0), (2, am_i 239), (0, am_r 2), (1, am_i ((n : Int)))]) rfl (am_tab tk_X3_checkOf 3 rfl) rfl ?_
  have L6 : ∀ (n6 : Nat) (i : Nat), n - i < n6 → i ≤ n → am_wp M_X3_checkOf Q 0 0 6 [(3, am_i ((i : Int))), (2, am_i (ckN (fun i => σ.2.1 2 i) i)), (0, am_r 2), (1, am_i ((n : Int)))] [] σ := by
    intro n6
    induction n6 with
    | zero => intro i hn6; exact absurd hn6 (Nat.not_lt_zero _)
    | succ n6 ih6 =>
      intro i hn6 hi
      have hc := ckN_rng (f := fun i => σ.2.1 2 i) i (fun k hk => hf k (by omega))
      have hx : i < n → 0 ≤ σ.2.1 2 i ∧ σ.2.1 2 i ≤ 255 := fun h => hf i h
      refine am_iload_n (q := 7) rfl (am_tab tk_X3_checkOf 4 rfl) rfl ?_
      refine am_iload_n (q := 8) rfl (am_tab tk_X3_checkOf 5 rfl) rfl ?_
      refine am_icmp_ge (q := 11) (t := 35) (am_tab tk_X3_checkOf 6 rfl) (by decide) rfl (fun h8 => ?_) (fun h8 => ?_)
      · refine am_iload_n (q := 36) rfl (am_tab tk_X3_checkOf 23 rfl) rfl ?_
        refine am_iret (Or.inl rfl) (Nat.le_of_ble_eq_true rfl) (Nat.le_of_ble_eq_true rfl) (am_tab tk_X3_checkOf 24 rfl) ?_
        refine hQ _ _ ?_
        rw [show i = n by omega]
        exact ⟨rfl, rfl⟩
      · refine am_iload_n (q := 12) rfl (am_tab tk_X3_checkOf 7 rfl) rfl ?_
        refine am_aload_n (q := 13) rfl (am_tab tk_X3_checkOf 8 rfl) rfl ?_
        refine am_alen (q := 14) (a := 2) (k := 11) (n := 1600) (Ls_2 hL) (by decide) (by decide) (am_tab tk_X3_checkOf 9 rfl) rfl ?_
        refine am_icmp_ge (q := 17) (t := 35) (am_tab tk_X3_checkOf 10 rfl) (by decide) rfl (fun h14 => ?_) (fun h14 => ?_)
        · exact absurd h14 (by omega)
        · refine am_iconst (q := 18) (n := 3) (by decide) (am_tab tk_X3_checkOf 11 rfl) rfl ?_
          refine am_iload_n (q := 19) rfl (am_tab tk_X3_checkOf 12 rfl) rfl ?_
          refine am_imul (q := 20) (by omega) (am_tab tk_X3_checkOf 13 rfl) rfl ?_
          refine am_aload_n (q := 21) rfl (am_tab tk_X3_checkOf 14 rfl) rfl ?_
          refine am_iload_n (q := 22) rfl (am_tab tk_X3_checkOf 15 rfl) rfl ?_
          refine am_iald (q := 23) (a := 2) (n := 1600) (x := (σ.2.1 2 i)) (Ls_2 hL) (by omega) (by omega) (by rw [show Int.toNat (i : Int) = i by omega]) (am_tab tk_X3_checkOf 16 rfl) rfl ?_
          refine am_iadd (q := 24) (by omega) (am_tab tk_X3_checkOf 17 rfl) rfl ?_
          refine am_sipush (q := 27) (n := 251) (by decide) rfl (am_tab tk_X3_checkOf 18 rfl) rfl ?_
          refine am_irem (q := 28) (by omega) (by omega) (am_tab tk_X3_checkOf 19 rfl) rfl ?_
          refine am_istore_n (q := 29) (by decide) (ls2 := [(2, am_i ((Int.tmod ((3 * (ckN (fun i => σ.2.1 2 i) i)) + (σ.2.1 2 i)) 251))), (3, am_i ((i : Int))), (0, am_r 2), (1, am_i ((n : Int)))]) rfl (am_tab tk_X3_checkOf 20 rfl) rfl ?_
          refine am_iinc (q := 32) rfl (by omega) (by decide) (ls2 := [(3, am_i (((i : Int) + 1))), (2, am_i ((Int.tmod ((3 * (ckN (fun i => σ.2.1 2 i) i)) + (σ.2.1 2 i)) 251))), (0, am_r 2), (1, am_i ((n : Int)))]) rfl (am_tab tk_X3_checkOf 21 rfl) rfl ?_
          refine am_goto (t := 6) (am_tab tk_X3_checkOf 22 rfl) (by decide) ?_
          exact am_less (by intro q hq; simp only [List.mem_cons, List.not_mem_nil, or_false] at hq; rcases hq with rfl | rfl | rfl | rfl <;> simp [ckN]) (ih6 (i + 1) (by omega) (by omega))
  refine am_less (by intro q hq; simp only [List.mem_cons, List.not_mem_nil, or_false] at hq; rcases hq with rfl | rfl | rfl | rfl <;> simp [ckN]) (L6 (_ + 1) 0 (by exact Nat.lt_succ_self _) (by omega))
set_option maxRecDepth 100000 in
theorem c_readHead_3 (σ S : am_H) (hL : lay S) (hb : ∀ j, S.2.1 2 j = σ.2.1 56 j) (hTR : TPR σ) (hG : GD σ) (hTW : TWr 3 S σ)   : am_met M_X3_readHead [am_r 2, am_r 3, am_r 37] S (fun r σ' => r = some (am_i (if HC1 σ then 1 else 0)) ∧ σ' = am_setN (am_setN (am_setN (am_setN S 37 0 ((σ.2.1 56 0 * 256) + σ.2.1 56 1)) 37 1 (σ.2.1 56 2)) 37 2 (σ.2.1 56 3)) 37 3 (((σ.2.1 56 4 * 65536) + (σ.2.1 56 5 * 256)) + σ.2.1 56 6)) := by
  refine am_qq (fun Q hQ => ?_)
  refine am_enter (show plainFor yX3_readHead = true by decide +kernel) rfl (Nat.le_of_ble_eq_true rfl) (fun _ _ _ => trivial) ?_
  have b0 := hTR.2 0 (by decide)
  have b1 := hTR.2 1 (by decide)
  have b2 := hTR.2 2 (by decide)
  have b3 := hTR.2 3 (by decide)
  have b4 := hTR.2 4 (by decide)
  have b5 := hTR.2 5 (by decide)
  have b6 := hTR.2 6 (by decide)
  refine am_aload_n (q := 1) rfl (am_tab tk_X3_readHead 0 rfl) rfl ?_
  refine am_aload_n (q := 2) rfl (am_tab tk_X3_readHead 1 rfl) rfl ?_
  refine am_iconst (q := 3) (n := 0) (by decide) (am_tab tk_X3_readHead 2 rfl) rfl ?_
  refine am_iald (q := 4) (a := 2) (n := 1600) (x := (σ.2.1 56 0)) (Ls_2 hL) (by omega) (by omega) (hb 0) (am_tab tk_X3_readHead 3 rfl) rfl ?_
  refine am_sipush (q := 7) (n := 256) (by decide) rfl (am_tab tk_X3_readHead 4 rfl) rfl ?_
  refine am_imul (q := 8) (by omega) (am_tab tk_X3_readHead 5 rfl) rfl ?_
  refine am_aload_n (q := 9) rfl (am_tab tk_X3_readHead 6 rfl) rfl ?_
  refine am_iconst (q := 10) (n := 1) (by decide) (am_tab tk_X3_readHead 7 rfl) rfl ?_
  refine am_iald (q := 11) (a := 2) (n := 1600) (x := (σ.2.1 56 1)) (Ls_2 hL) (by omega) (by omega) (hb 1) (am_tab tk_X3_readHead 8 rfl) rfl ?_
  refine am_iadd (q := 12) (by omega) (am_tab tk_X3_readHead 9 rfl) rfl ?_
  refine am_putI (q := 15) (k := 1) (n := 11) (j := 0) (Ls_37 hL) (by decide) rfl (by decide) (Or.inr (Or.inl ⟨kf_X3_19, rfl⟩)) (am_tab tk_X3_readHead 10 rfl) rfl ?_
  refine am_aload_n (q := 16) rfl (am_tab tk_X3_readHead 11 rfl) rfl ?_
  refine am_aload_n (q := 17) rfl (am_tab tk_X3_readHead 12 rfl) rfl ?_
  refine am_iconst (q := 18) (n := 2) (by decide) (am_tab tk_X3_readHead 13 rfl) rfl ?_
  refine am_iald (q := 19) (a := 2) (n := 1600) (x := (σ.2.1 56 2)) (Ls_2 hL) (by omega) (by omega) (hb 2) (am_tab tk_X3_readHead 14 rfl) rfl ?_
  refine am_putI (q := 22) (k := 1) (n := 11) (j := 1) (Ls_37 hL) (by decide) rfl (by decide) (Or.inr (Or.inl ⟨kf_X3_28, rfl⟩)) (am_tab tk_X3_readHead 15 rfl) rfl ?_
  refine am_aload_n (q := 23) rfl (am_tab tk_X3_readHead 16 rfl) rfl ?_
  refine am_aload_n (q := 24) rfl (am_tab tk_X3_readHead 17 rfl) rfl ?_
  refine am_iconst (q := 25) (n := 3) (by decide) (am_tab tk_X3_readHead 18 rfl) rfl ?_
  refine am_iald (q := 26) (a := 2) (n := 1600) (x := (σ.2.1 56 3)) (Ls_2 hL) (by omega) (by omega) (hb 3) (am_tab tk_X3_readHead 19 rfl) rfl ?_
  refine am_putI (q := 29) (k := 1) (n := 11) (j := 2) (Ls_37 hL) (by decide) rfl (by decide) (Or.inr (Or.inl ⟨kf_X3_31, rfl⟩)) (am_tab tk_X3_readHead 20 rfl) rfl ?_
  refine am_aload_n (q := 30) rfl (am_tab tk_X3_readHead 21 rfl) rfl ?_
  refine am_aload_n (q := 31) rfl (am_tab tk_X3_readHead 22 rfl) rfl ?_
  refine am_iconst (q := 32) (n := 4) (by decide) (am_tab tk_X3_readHead 23 rfl) rfl ?_
  refine am_iald (q := 33) (a := 2) (n := 1600) (x := (σ.2.1 56 4)) (Ls_2 hL) (by omega) (by omega) (hb 4) (am_tab tk_X3_readHead 24 rfl) rfl ?_
  refine am_ldc (q := 35) (n := 65536) (by decide) kk_X3_37 (am_tab tk_X3_readHead 25 rfl) rfl ?_
  refine am_imul (q := 36) (by omega) (am_tab tk_X3_readHead 26 rfl) rfl ?_
  refine am_aload_n (q := 37) rfl (am_tab tk_X3_readHead 27 rfl) rfl ?_
  refine am_iconst (q := 38) (n := 5) (by decide) (am_tab tk_X3_readHead 28 rfl) rfl ?_
  refine am_iald (q := 39) (a := 2) (n := 1600) (x := (σ.2.1 56 5)) (Ls_2 hL) (by omega) (by omega) (hb 5) (am_tab tk_X3_readHead 29 rfl) rfl ?_
  refine am_sipush (q := 42) (n := 256) (by decide) rfl (am_tab tk_X3_readHead 30 rfl) rfl ?_
  refine am_imul (q := 43) (by omega) (am_tab tk_X3_readHead 31 rfl) rfl ?_
  refine am_iadd (q := 44) (by omega) (am_tab tk_X3_readHead 32 rfl) rfl ?_
  refine am_aload_n (q := 45) rfl (am_tab tk_X3_readHead 33 rfl) rfl ?_
  refine am_bipush (q := 47) (n := 6) (by decide) rfl (am_tab tk_X3_readHead 34 rfl) rfl ?_
  refine am_iald (q := 48) (a := 2) (n := 1600) (x := (σ.2.1 56 6)) (Ls_2 hL) (by omega) (by omega) (hb 6) (am_tab tk_X3_readHead 35 rfl) rfl ?_
  refine am_iadd (q := 49) (by omega) (am_tab tk_X3_readHead 36 rfl) rfl ?_
  refine am_putI (q := 52) (k := 1) (n := 11) (j := 3) (Ls_37 hL) (by decide) rfl (by decide) (Or.inr (Or.inl ⟨kf_X3_34, rfl⟩)) (am_tab tk_X3_readHead 37 rfl) rfl ?_
  refine am_aload_n (q := 53) rfl (am_tab tk_X3_readHead 38 rfl) rfl ?_
  refine am_getI (q := 56) (a := 37) (k := 1) (n := 11) (j := 1) (x := (σ.2.1 56 2)) (Ls_37 hL) (by decide) rfl rfl (by decide) (Or.inr kf_X3_28) (am_tab tk_X3_readHead 39 rfl) rfl ?_
  refine am_aload_n (q := 57) rfl (am_tab tk_X3_readHead 40 rfl) rfl ?_
  refine am_getI (q := 60) (a := 3) (k := 8) (n := 17) (j := 0) (x := (σ.2.1 85 9)) (Ls_3 hL) (by decide) rfl hTW.days (by decide) (Or.inr kf_X3_98) (am_tab tk_X3_readHead 41 rfl) rfl ?_
  refine am_icmp_gt (q := 63) (t := 83) (am_tab tk_X3_readHead 42 rfl) (by decide) rfl (fun h60 => ?_) (fun h60 => ?_)
  · refine am_iconst (q := 84) (n := 0) (by decide) (am_tab tk_X3_readHead 53 rfl) rfl ?_
    refine am_istore_n (q := 85) (by decide) (ls2 := [(3, am_i 0), (0, am_r 2), (1, am_r 3), (2, am_r 37)]) rfl (am_tab tk_X3_readHead 54 rfl) rfl ?_
    refine am_aload_n (q := 86) rfl (am_tab tk_X3_readHead 55 rfl) rfl ?_
    refine am_getI (q := 89) (a := 37) (k := 1) (n := 11) (j := 0) (x := (((σ.2.1 56 0) * 256) + (σ.2.1 56 1))) (Ls_37 hL) (by decide) rfl rfl (by decide) (Or.inr kf_X3_19) (am_tab tk_X3_readHead 56 rfl) rfl ?_
    refine am_iconst (q := 90) (n := 1) (by decide) (am_tab tk_X3_readHead 57 rfl) rfl ?_
    refine am_icmp_lt (q := 93) (t := 131) (am_tab tk_X3_readHead 58 rfl) (by decide) rfl (fun h90 => ?_) (fun h90 => ?_)
    · refine am_iconst (q := 132) (n := 0) (by decide) (am_tab tk_X3_readHead 76 rfl) rfl ?_
      refine am_iret (Or.inr ⟨rfl, by first | exact Or.inl rfl | exact Or.inr rfl | omega⟩) (Nat.le_of_ble_eq_true rfl) (Nat.le_of_ble_eq_true rfl) (am_tab tk_X3_readHead 77 rfl) ?_
      refine hQ _ _ ?_
      refine ⟨congrArg (fun z => some (am_i z)) ?_, rfl⟩
      unfold HC1 coT
      first | (rw [if_pos (by omega)]; done) | (rw [if_neg (by omega)]; done)
    · refine am_aload_n (q := 94) rfl (am_tab tk_X3_readHead 59 rfl) rfl ?_
      refine am_getI (q := 97) (a := 37) (k := 1) (n := 11) (j := 0) (x := (((σ.2.1 56 0) * 256) + (σ.2.1 56 1))) (Ls_37 hL) (by decide) rfl rfl (by decide) (Or.inr kf_X3_19) (am_tab tk_X3_readHead 60 rfl) rfl ?_
      refine am_sipush (q := 100) (n := 999) (by decide) rfl (am_tab tk_X3_readHead 61 rfl) rfl ?_
      refine am_icmp_gt (q := 103) (t := 131) (am_tab tk_X3_readHead 62 rfl) (by decide) rfl (fun h100 => ?_) (fun h100 => ?_)
      · refine am_iconst (q := 132) (n := 0) (by decide) (am_tab tk_X3_readHead 76 rfl) rfl ?_
        refine am_iret (Or.inr ⟨rfl, by first | exact Or.inl rfl | exact Or.inr rfl | omega⟩) (Nat.le_of_ble_eq_true rfl) (Nat.le_of_ble_eq_true rfl) (am_tab tk_X3_readHead 77 rfl) ?_
        refine hQ _ _ ?_
        refine ⟨congrArg (fun z => some (am_i z)) ?_, rfl⟩
        unfold HC1 coT
        first | (rw [if_pos (by omega)]; done) | (rw [if_neg (by omega)]; done)
      · refine am_iload_n (q := 104) rfl (am_tab tk_X3_readHead 63 rfl) rfl ?_
        refine am_if_eq (q := 107) (t := 131) (am_tab tk_X3_readHead 64 rfl) (by decide) rfl (fun h104 => ?_) (fun h104 => ?_)
        · refine am_iconst (q := 132) (n := 0) (by decide) (am_tab tk_X3_readHead 76 rfl) rfl ?_
          refine am_iret (Or.inr ⟨rfl, by first | exact Or.inl rfl | exact Or.inr rfl | omega⟩) (Nat.le_of_ble_eq_true rfl) (Nat.le_of_ble_eq_true rfl) (am_tab tk_X3_readHead 77 rfl) ?_
          refine hQ _ _ ?_
          refine ⟨congrArg (fun z => some (am_i z)) ?_, rfl⟩
          unfold HC1 coT
          first | (rw [if_pos (by omega)]; done) | (rw [if_neg (by omega)]; done)
        · exact absurd h104 (by decide)
  · refine am_aload_n (q := 64) rfl (am_tab tk_X3_readHead 43 rfl) rfl ?_
    refine am_getI (q := 67) (a := 37) (k := 1) (n := 11) (j := 1) (x := (σ.2.1 56 2)) (Ls_37 hL) (by decide) rfl rfl (by decide) (Or.inr kf_X3_28) (am_tab tk_X3_readHead 44 rfl) rfl ?_
    refine am_iconst (q := 68) (n := 1) (by decide) (am_tab tk_X3_readHead 45 rfl) rfl ?_
    refine am_icmp_ge (q := 71) (t := 79) (am_tab tk_X3_readHead 46 rfl) (by decide) rfl (fun h68 => ?_) (fun h68 => ?_)
    · refine am_iconst (q := 80) (n := 1) (by decide) (am_tab tk_X3_readHead 51 rfl) rfl ?_
      refine am_goto (t := 84) (am_tab tk_X3_readHead 52 rfl) (by decide) ?_
      refine am_istore_n (q := 85) (by decide) (ls2 := [(3, am_i 1), (0, am_r 2), (1, am_r 3), (2, am_r 37)]) rfl (am_tab tk_X3_readHead 54 rfl) rfl ?_
      refine am_aload_n (q := 86) rfl (am_tab tk_X3_readHead 55 rfl) rfl ?_
      refine am_getI (q := 89) (a := 37) (k := 1) (n := 11) (j := 0) (x := (((σ.2.1 56 0) * 256) + (σ.2.1 56 1))) (Ls_37 hL) (by decide) rfl rfl (by decide) (Or.inr kf_X3_19) (am_tab tk_X3_readHead 56 rfl) rfl ?_
      refine am_iconst (q := 90) (n := 1) (by decide) (am_tab tk_X3_readHead 57 rfl) rfl ?_
      refine am_icmp_lt (q := 93) (t := 131) (am_tab tk_X3_readHead 58 rfl) (by decide) rfl (fun h90 => ?_) (fun h90 => ?_)
      · refine am_iconst (q := 132) (n := 0) (by decide) (am_tab tk_X3_readHead 76 rfl) rfl ?_
        refine am_iret (Or.inr ⟨rfl, by first | exact Or.inl rfl | exact Or.inr rfl | omega⟩) (Nat.le_of_ble_eq_true rfl) (Nat.le_of_ble_eq_true rfl) (am_tab tk_X3_readHead 77 rfl) ?_
        refine hQ _ _ ?_
        refine ⟨congrArg (fun z => some (am_i z)) ?_, rfl⟩
        unfold HC1 coT
        first | (rw [if_pos (by omega)]; done) | (rw [if_neg (by omega)]; done)
      · refine am_aload_n (q := 94) rfl (am_tab tk_X3_readHead 59 rfl) rfl ?_
        refine am_getI (q := 97) (a := 37) (k := 1) (n := 11) (j := 0) (x := (((σ.2.1 56 0) * 256) + (σ.2.1 56 1))) (Ls_37 hL) (by decide) rfl rfl (by decide) (Or.inr kf_X3_19) (am_tab tk_X3_readHead 60 rfl) rfl ?_
        refine am_sipush (q := 100) (n := 999) (by decide) rfl (am_tab tk_X3_readHead 61 rfl) rfl ?_
        refine am_icmp_gt (q := 103) (t := 131) (am_tab tk_X3_readHead 62 rfl) (by decide) rfl (fun h100 => ?_) (fun h100 => ?_)
        · refine am_iconst (q := 132) (n := 0) (by decide) (am_tab tk_X3_readHead 76 rfl) rfl ?_
          refine am_iret (Or.inr ⟨rfl, by first | exact Or.inl rfl | exact Or.inr rfl | omega⟩) (Nat.le_of_ble_eq_true rfl) (Nat.le_of_ble_eq_true rfl) (am_tab tk_X3_readHead 77 rfl) ?_
          refine hQ _ _ ?_
          refine ⟨congrArg (fun z => some (am_i z)) ?_, rfl⟩
          unfold HC1 coT
          first | (rw [if_pos (by omega)]; done) | (rw [if_neg (by omega)]; done)
        · refine am_iload_n (q := 104) rfl (am_tab tk_X3_readHead 63 rfl) rfl ?_
          refine am_if_eq (q := 107) (t := 131) (am_tab tk_X3_readHead 64 rfl) (by decide) rfl (fun h104 => ?_) (fun h104 => ?_)
          · exact absurd h104 (by decide)
          · refine am_aload_n (q := 108) rfl (am_tab tk_X3_readHead 65 rfl) rfl ?_
            refine am_getI (q := 111) (a := 37) (k := 1) (n := 11) (j := 2) (x := (σ.2.1 56 3)) (Ls_37 hL) (by decide) rfl rfl (by decide) (Or.inr kf_X3_31) (am_tab tk_X3_readHead 66 rfl) rfl ?_
            refine am_aload_n (q := 112) rfl (am_tab tk_X3_readHead 67 rfl) rfl ?_
            refine am_getI (q := 115) (a := 37) (k := 1) (n := 11) (j := 1) (x := (σ.2.1 56 2)) (Ls_37 hL) (by decide) rfl rfl (by decide) (Or.inr kf_X3_28) (am_tab tk_X3_readHead 68 rfl) rfl ?_
            refine am_icmp_gt (q := 118) (t := 131) (am_tab tk_X3_readHead 69 rfl) (by decide) rfl (fun h115 => ?_) (fun h115 => ?_)
            · refine am_iconst (q := 132) (n := 0) (by decide) (am_tab tk_X3_readHead 76 rfl) rfl ?_
              refine am_iret (Or.inr ⟨rfl, by first | exact Or.inl rfl | exact Or.inr rfl | omega⟩) (Nat.le_of_ble_eq_true rfl) (Nat.le_of_ble_eq_true rfl) (am_tab tk_X3_readHead 77 rfl) ?_
              refine hQ _ _ ?_
              refine ⟨congrArg (fun z => some (am_i z)) ?_, rfl⟩
              unfold HC1 coT
              first | (rw [if_pos (by omega)]; done) | (rw [if_neg (by omega)]; done)
            · refine am_aload_n (q := 119) rfl (am_tab tk_X3_readHead 70 rfl) rfl ?_
              refine am_getI (q := 122) (a := 37) (k := 1) (n := 11) (j := 3) (x := ((((σ.2.1 56 4) * 65536) + ((σ.2.1 56 5) * 256)) + (σ.2.1 56 6))) (Ls_37 hL) (by decide) rfl rfl (by decide) (Or.inr kf_X3_34) (am_tab tk_X3_readHead 71 rfl) rfl ?_
              refine am_ldc (q := 124) (n := 999999) (by decide) kk_X3_101 (am_tab tk_X3_readHead 72 rfl) rfl ?_
              refine am_icmp_gt (q := 127) (t := 131) (am_tab tk_X3_readHead 73 rfl) (by decide) rfl (fun h124 => ?_) (fun h124 => ?_)
              · refine am_iconst (q := 132) (n := 0) (by decide) (am_tab tk_X3_readHead 76 rfl) rfl ?_
                refine am_iret (Or.inr ⟨rfl, by first | exact Or.inl rfl | exact Or.inr rfl | omega⟩) (Nat.le_of_ble_eq_true rfl) (Nat.le_of_ble_eq_true rfl) (am_tab tk_X3_readHead 77 rfl) ?_
                refine hQ _ _ ?_
                refine ⟨congrArg (fun z => some (am_i z)) ?_, rfl⟩
                unfold HC1 coT
                first | (rw [if_pos (by omega)]; done) | (rw [if_neg (by omega)]; done)
              · refine am_iconst (q := 128) (n := 1) (by decide) (am_tab tk_X3_readHead 74 rfl) rfl ?_
                refine am_goto (t := 132) (am_tab tk_X3_readHead 75 rfl) (by decide) ?_
                refine am_iret (Or.inr ⟨rfl, by first | exact Or.inl rfl | exact Or.inr rfl | omega⟩) (Nat.le_of_ble_eq_true rfl) (Nat.le_of_ble_eq_true rfl) (am_tab tk_X3_readHead 77 rfl) ?_
                refine hQ _ _ ?_
                refine ⟨congrArg (fun z => some (am_i z)) ?_, rfl⟩
                unfold HC1 coT
                first | (rw [if_pos (by omega)]; done) | (rw [if_neg (by omega)]; done)
    · refine am_aload_n (q := 72) rfl (am_tab tk_X3_readHead 47 rfl) rfl ?_
      refine am_getI (q := 75) (a := 37) (k := 1) (n := 11) (j := 0) (x := (((σ.2.1 56 0) * 256) + (σ.2.1 56 1))) (Ls_37 hL) (by decide) rfl rfl (by decide) (Or.inr kf_X3_19) (am_tab tk_X3_readHead 48 rfl) rfl ?_
      refine am_iconst (q := 76) (n := 1) (by decide) (am_tab tk_X3_readHead 49 rfl) rfl ?_
      refine am_icmp_ne (q := 79) (t := 83) (am_tab tk_X3_readHead 50 rfl) (by decide) rfl (fun h76 => ?_) (fun h76 => ?_)
      · refine am_iconst (q := 84) (n := 0) (by decide) (am_tab tk_X3_readHead 53 rfl) rfl ?_
        refine am_istore_n (q := 85) (by decide) (ls2 := [(3, am_i 0), (0, am_r 2), (1, am_r 3), (2, am_r 37)]) rfl (am_tab tk_X3_readHead 54 rfl) rfl ?_
        refine am_aload_n (q := 86) rfl (am_tab tk_X3_readHead 55 rfl) rfl ?_
        refine am_getI (q := 89) (a := 37) (k := 1) (n := 11) (j := 0) (x := (((σ.2.1 56 0) * 256) + (σ.2.1 56 1))) (Ls_37 hL) (by decide) rfl rfl (by decide) (Or.inr kf_X3_19) (am_tab tk_X3_readHead 56 rfl) rfl ?_
        refine am_iconst (q := 90) (n := 1) (by decide) (am_tab tk_X3_readHead 57 rfl) rfl ?_
        refine am_icmp_lt (q := 93) (t := 131) (am_tab tk_X3_readHead 58 rfl) (by decide) rfl (fun h90 => ?_) (fun h90 => ?_)
        · refine am_iconst (q := 132) (n := 0) (by decide) (am_tab tk_X3_readHead 76 rfl) rfl ?_
          refine am_iret (Or.inr ⟨rfl, by first | exact Or.inl rfl | exact Or.inr rfl | omega⟩) (Nat.le_of_ble_eq_true rfl) (Nat.le_of_ble_eq_true rfl) (am_tab tk_X3_readHead 77 rfl) ?_
          refine hQ _ _ ?_
          refine ⟨congrArg (fun z => some (am_i z)) ?_, rfl⟩
          unfold HC1 coT
          first | (rw [if_pos (by omega)]; done) | (rw [if_neg (by omega)]; done)
        · refine am_aload_n (q := 94) rfl (am_tab tk_X3_readHead 59 rfl) rfl ?_
          refine am_getI (q := 97) (a := 37) (k := 1) (n := 11) (j := 0) (x := (((σ.2.1 56 0) * 256) + (σ.2.1 56 1))) (Ls_37 hL) (by decide) rfl rfl (by decide) (Or.inr kf_X3_19) (am_tab tk_X3_readHead 60 rfl) rfl ?_
          refine am_sipush (q := 100) (n := 999) (by decide) rfl (am_tab tk_X3_readHead 61 rfl) rfl ?_
          refine am_icmp_gt (q := 103) (t := 131) (am_tab tk_X3_readHead 62 rfl) (by decide) rfl (fun h100 => ?_) (fun h100 => ?_)
          · refine am_iconst (q := 132) (n := 0) (by decide) (am_tab tk_X3_readHead 76 rfl) rfl ?_
            refine am_iret (Or.inr ⟨rfl, by first | exact Or.inl rfl | exact Or.inr rfl | omega⟩) (Nat.le_of_ble_eq_true rfl) (Nat.le_of_ble_eq_true rfl) (am_tab tk_X3_readHead 77 rfl) ?_
            refine hQ _ _ ?_
            refine ⟨congrArg (fun z => some (am_i z)) ?_, rfl⟩
            unfold HC1 coT
            first | (rw [if_pos (by omega)]; done) | (rw [if_neg (by omega)]; done)
          · refine am_iload_n (q := 104) rfl (am_tab tk_X3_readHead 63 rfl) rfl ?_
            refine am_if_eq (q := 107) (t := 131) (am_tab tk_X3_readHead 64 rfl) (by decide) rfl (fun h104 => ?_) (fun h104 => ?_)
            · refine am_iconst (q := 132) (n := 0) (by decide) (am_tab tk_X3_readHead 76 rfl) rfl ?_
              refine am_iret (Or.inr ⟨rfl, by first | exact Or.inl rfl | exact Or.inr rfl | omega⟩) (Nat.le_of_ble_eq_true rfl) (Nat.le_of_ble_eq_true rfl) (am_tab tk_X3_readHead 77 rfl) ?_
              refine hQ _ _ ?_
              refine ⟨congrArg (fun z => some (am_i z)) ?_, rfl⟩
              unfold HC1 coT
              first | (rw [if_pos (by omega)]; done) | (rw [if_neg (by omega)]; done)
            · exact absurd h104 (by decide)
      · refine am_iconst (q := 80) (n := 1) (by decide) (am_tab tk_X3_readHead 51 rfl) rfl ?_
        refine am_goto (t := 84) (am_tab tk_X3_readHead 52 rfl) (by decide) ?_
        refine am_istore_n (q := 85) (by decide) (ls2 := [(3, am_i 1), (0, am_r 2), (1, am_r 3), (2, am_r 37)]) rfl (am_tab tk_X3_readHead 54 rfl) rfl ?_
        refine am_aload_n (q := 86) rfl (am_tab tk_X3_readHead 55 rfl) rfl ?_
        refine am_getI (q := 89) (a := 37) (k := 1) (n := 11) (j := 0) (x := (((σ.2.1 56 0) * 256) + (σ.2.1 56 1))) (Ls_37 hL) (by decide) rfl rfl (by decide) (Or.inr kf_X3_19) (am_tab tk_X3_readHead 56 rfl) rfl ?_
        refine am_iconst (q := 90) (n := 1) (by decide) (am_tab tk_X3_readHead 57 rfl) rfl ?_
        refine am_icmp_lt (q := 93) (t := 131) (am_tab tk_X3_readHead 58 rfl) (by decide) rfl (fun h90 => ?_) (fun h90 => ?_)
        · refine am_iconst (q := 132) (n := 0) (by decide) (am_tab tk_X3_readHead 76 rfl) rfl ?_
          refine am_iret (Or.inr ⟨rfl, by first | exact Or.inl rfl | exact Or.inr rfl | omega⟩) (Nat.le_of_ble_eq_true rfl) (Nat.le_of_ble_eq_true rfl) (am_tab tk_X3_readHead 77 rfl) ?_
          refine hQ _ _ ?_
          refine ⟨congrArg (fun z => some (am_i z)) ?_, rfl⟩
          unfold HC1 coT
          first | (rw [if_pos (by omega)]; done) | (rw [if_neg (by omega)]; done)
        · refine am_aload_n (q := 94) rfl (am_tab tk_X3_readHead 59 rfl) rfl ?_
          refine am_getI (q := 97) (a := 37) (k := 1) (n := 11) (j := 0) (x := (((σ.2.1 56 0) * 256) + (σ.2.1 56 1))) (Ls_37 hL) (by decide) rfl rfl (by decide) (Or.inr kf_X3_19) (am_tab tk_X3_readHead 60 rfl) rfl ?_
          refine am_sipush (q := 100) (n := 999) (by decide) rfl (am_tab tk_X3_readHead 61 rfl) rfl ?_
          refine am_icmp_gt (q := 103) (t := 131) (am_tab tk_X3_readHead 62 rfl) (by decide) rfl (fun h100 => ?_) (fun h100 => ?_)
          · refine am_iconst (q := 132) (n := 0) (by decide) (am_tab tk_X3_readHead 76 rfl) rfl ?_
            refine am_iret (Or.inr ⟨rfl, by first | exact Or.inl rfl | exact Or.inr rfl | omega⟩) (Nat.le_of_ble_eq_true rfl) (Nat.le_of_ble_eq_true rfl) (am_tab tk_X3_readHead 77 rfl) ?_
            refine hQ _ _ ?_
            refine ⟨congrArg (fun z => some (am_i z)) ?_, rfl⟩
            unfold HC1 coT
            first | (rw [if_pos (by omega)]; done) | (rw [if_neg (by omega)]; done)
          · refine am_iload_n (q := 104) rfl (am_tab tk_X3_readHead 63 rfl) rfl ?_
            refine am_if_eq (q := 107) (t := 131) (am_tab tk_X3_readHead 64 rfl) (by decide) rfl (fun h104 => ?_) (fun h104 => ?_)
            · exact absurd h104 (by decide)
            · refine am_aload_n (q := 108) rfl (am_tab tk_X3_readHead 65 rfl) rfl ?_
              refine am_getI (q := 111) (a := 37) (k := 1) (n := 11) (j := 2) (x := (σ.2.1 56 3)) (Ls_37 hL) (by decide) rfl rfl (by decide) (Or.inr kf_X3_31) (am_tab tk_X3_readHead 66 rfl) rfl ?_
              refine am_aload_n (q := 112) rfl (am_tab tk_X3_readHead 67 rfl) rfl ?_
              refine am_getI (q := 115) (a := 37) (k := 1) (n := 11) (j := 1) (x := (σ.2.1 56 2)) (Ls_37 hL) (by decide) rfl rfl (by decide) (Or.inr kf_X3_28) (am_tab tk_X3_readHead 68 rfl) rfl ?_
              refine am_icmp_gt (q := 118) (t := 131) (am_tab tk_X3_readHead 69 rfl) (by decide) rfl (fun h115 => ?_) (fun h115 => ?_)
              · refine am_iconst (q := 132) (n := 0) (by decide) (am_tab tk_X3_readHead 76 rfl) rfl ?_
                refine am_iret (Or.inr ⟨rfl, by first | exact Or.inl rfl | exact Or.inr rfl | omega⟩) (Nat.le_of_ble_eq_true rfl) (Nat.le_of_ble_eq_true rfl) (am_tab tk_X3_readHead 77 rfl) ?_
                refine hQ _ _ ?_
                refine ⟨congrArg (fun z => some (am_i z)) ?_, rfl⟩
                unfold HC1 coT
                first | (rw [if_pos (by omega)]; done) | (rw [if_neg (by omega)]; done)
              · refine am_aload_n (q := 119) rfl (am_tab tk_X3_readHead 70 rfl) rfl ?_
                refine am_getI (q := 122) (a := 37) (k := 1) (n := 11) (j := 3) (x := ((((σ.2.1 56 4) * 65536) + ((σ.2.1 56 5) * 256)) + (σ.2.1 56 6))) (Ls_37 hL) (by decide) rfl rfl (by decide) (Or.inr kf_X3_34) (am_tab tk_X3_readHead 71 rfl) rfl ?_
                refine am_ldc (q := 124) (n := 999999) (by decide) kk_X3_101 (am_tab tk_X3_readHead 72 rfl) rfl ?_
                refine am_icmp_gt (q := 127) (t := 131) (am_tab tk_X3_readHead 73 rfl) (by decide) rfl (fun h124 => ?_) (fun h124 => ?_)
                · refine am_iconst (q := 132) (n := 0) (by decide) (am_tab tk_X3_readHead 76 rfl) rfl ?_
                  refine am_iret (Or.inr ⟨rfl, by first | exact Or.inl rfl | exact Or.inr rfl | omega⟩) (Nat.le_of_ble_eq_true rfl) (Nat.le_of_ble_eq_true rfl) (am_tab tk_X3_readHead 77 rfl) ?_
                  refine hQ _ _ ?_
                  refine ⟨congrArg (fun z => some (am_i z)) ?_, rfl⟩
                  unfold HC1 coT
                  first | (rw [if_pos (by omega)]; done) | (rw [if_neg (by omega)]; done)
                · refine am_iconst (q := 128) (n := 1) (by decide) (am_tab tk_X3_readHead 74 rfl) rfl ?_
                  refine am_goto (t := 132) (am_tab tk_X3_readHead 75 rfl) (by decide) ?_
                  refine am_iret (Or.inr ⟨rfl, by first | exact Or.inl rfl | exact Or.inr rfl | omega⟩) (Nat.le_of_ble_eq_true rfl) (Nat.le_of_ble_eq_true rfl) (am_tab tk_X3_readHead 77 rfl) ?_
                  refine hQ _ _ ?_
                  refine ⟨congrArg (fun z => some (am_i z)) ?_, rfl⟩
                  unfold HC1 coT
                  first | (rw [if_pos (by omega)]; done) | (rw [if_neg (by omega)]; done)
set_option maxRecDepth 100000 in
theorem c_readPeople_3 (σ S : am_H) (hL : lay S) (hb : ∀ j, S.2.1 2 j = σ.2.1 56 j) (hTR : TPR σ) (hG : GD σ) (hTW : TWr 3 S σ)  (h374 : S.2.1 37 4 = 0) : am_met M_X3_readPeople [am_r 2, am_r 3, am_r 37] S (fun r σ' => ((anyB (hdB σ) (pN σ) = false ∧ r = some (am_i 1) ∧ PPL σ S σ' (pN σ)) ∨ (anyB (hdB σ) (pN σ) = true ∧ r = some (am_i 0))) ∧ frw W_pp S σ') := by
  refine am_qq (fun Q hQ => ?_)
  refine am_enter (show plainFor yX3_readPeople = true by decide +kernel) rfl (Nat.le_of_ble_eq_true rfl) (fun _ _ _ => trivial) ?_
  have h8 := pN_8 hG.R
  have hNe := pN_eq hG.R
  refine am_iconst (q := 1) (n := 0) (by decide) (am_tab tk_X3_readPeople 0 rfl) rfl ?_
  refine am_istore_n (q := 2) (by decide) (ls2 := [(3, am_i 0), (0, am_r 2), (1, am_r 3), (2, am_r 37)]) rfl (am_tab tk_X3_readPeople 1 rfl) rfl ?_
  have L2 : ∀ (n2 : Nat) (k : Nat) (T : am_H), pN σ - k < n2 → k ≤ pN σ → anyB (hdB σ) k = false → PPL σ S T k → am_wp M_X3_readPeople Q 0 0 2 [(0, am_r 2), (1, am_r 3), (2, am_r 37), (3, am_i ((k : Int)))] [] T := by
    intro n2
    induction n2 with
    | zero => intro k T hn2; exact absurd hn2 (Nat.not_lt_zero _)
    | succ n2 ih2 =>
      intro k T hn2 hk hB hP
      have hLT : lay T := hP.1.L hL
      have hTWT : TWr 3 T σ := hTW.fr hP.1 (by unfold W_pp; omega)
      have hbT : ∀ j, T.2.1 2 j = σ.2.1 56 j := fun j => (hP.1.2.2 2 j (by unfold W_pp; omega)).trans (hb j)
      have b7 : k < 8 → 0 ≤ σ.2.1 56 (7 + 2 * k) ∧ σ.2.1 56 (7 + 2 * k) ≤ 255 := fun z => hTR.2 _ (by omega)
      have b8 : k < 8 → 0 ≤ σ.2.1 56 (8 + 2 * k) ∧ σ.2.1 56 (8 + 2 * k) ≤ 255 := fun z => hTR.2 _ (by omega)
      refine am_iload_n (q := 3) rfl (am_tab tk_X3_readPeople 2 rfl) rfl ?_
      refine am_aload_n (q := 4) rfl (am_tab tk_X3_readPeople 3 rfl) rfl ?_
      refine am_getI (q := 7) (a := 3) (k := 8) (n := 17) (j := 2) (x := (σ.2.1 85 5)) (Ls_3 hLT) (by decide) rfl hTWT.people (by decide) (Or.inr kf_X3_38) (am_tab tk_X3_readPeople 4 rfl) rfl ?_
      refine am_icmp_ge (q := 10) (t := 74) (am_tab tk_X3_readPeople 5 rfl) (by decide) rfl (fun h7 => ?_) (fun h7 => ?_)
      · refine am_iconst (q := 75) (n := 1) (by decide) (am_tab tk_X3_readPeople 48 rfl) rfl ?_
        refine am_iret (Or.inr ⟨rfl, by first | exact Or.inl rfl | exact Or.inr rfl | omega⟩) (Nat.le_of_ble_eq_true rfl) (Nat.le_of_ble_eq_true rfl) (am_tab tk_X3_readPeople 49 rfl) ?_
        refine hQ _ _ ?_
        have ek : k = pN σ := by omega
        rw [ek] at hB hP
        exact ⟨Or.inl ⟨hB, rfl, hP⟩, hP.1⟩
      · have hkp : k < pN σ := by omega
        refine am_aload_n (q := 11) rfl (am_tab tk_X3_readPeople 6 rfl) rfl ?_
        refine am_getR (q := 14) (a := 37) (k := 1) (n := 11) (j := 5) (r := some (38)) (Ls_37 hLT) (by decide) rfl (Lr_37_5 hLT) (by decide) (Or.inr kf_X3_43) (am_tab tk_X3_readPeople 7 rfl) rfl ?_
        refine am_iload_n (q := 15) rfl (am_tab tk_X3_readPeople 8 rfl) rfl ?_
        refine am_aload_n (q := 16) rfl (am_tab tk_X3_readPeople 9 rfl) rfl ?_
        refine am_bipush (q := 18) (n := 7) (by decide) rfl (am_tab tk_X3_readPeople 10 rfl) rfl ?_
        refine am_iconst (q := 19) (n := 2) (by decide) (am_tab tk_X3_readPeople 11 rfl) rfl ?_
        refine am_iload_n (q := 20) rfl (am_tab tk_X3_readPeople 12 rfl) rfl ?_
        refine am_imul (q := 21) (by omega) (am_tab tk_X3_readPeople 13 rfl) rfl ?_
        refine am_iadd (q := 22) (by omega) (am_tab tk_X3_readPeople 14 rfl) rfl ?_
        refine am_iald (q := 23) (a := 2) (n := 1600) (x := (σ.2.1 56 (7 + 2 * k))) (Ls_2 hLT) (by omega) (by omega) (by rw [show Int.toNat (7 + (2 * (k : Int))) = 7 + 2 * k by omega]; exact hbT _) (am_tab tk_X3_readPeople 15 rfl) rfl ?_
        refine am_iast (q := 24) (a := 38) (n := 8) (Ls_38 hLT) (by omega) (by omega) (am_tab tk_X3_readPeople 16 rfl) rfl ?_
        refine am_aload_n (q := 25) rfl (am_tab tk_X3_readPeople 17 rfl) rfl ?_
        refine am_bipush (q := 27) (n := 7) (by decide) rfl (am_tab tk_X3_readPeople 18 rfl) rfl ?_
        refine am_iconst (q := 28) (n := 2) (by decide) (am_tab tk_X3_readPeople 19 rfl) rfl ?_
        refine am_iload_n (q := 29) rfl (am_tab tk_X3_readPeople 20 rfl) rfl ?_
        refine am_imul (q := 30) (by omega) (am_tab tk_X3_readPeople 21 rfl) rfl ?_
        refine am_iadd (q := 31) (by omega) (am_tab tk_X3_readPeople 22 rfl) rfl ?_
        refine am_iconst (q := 32) (n := 1) (by decide) (am_tab tk_X3_readPeople 23 rfl) rfl ?_
        refine am_iadd (q := 33) (by omega) (am_tab tk_X3_readPeople 24 rfl) rfl ?_
        refine am_iald (q := 34) (a := 2) (n := 1600) (x := (σ.2.1 56 (8 + 2 * k))) (Ls_2 hLT) (by omega) (by omega) (by rw [show Int.toNat ((7 + (2 * (k : Int))) + 1) = 8 + 2 * k by omega]; exact hbT _) (am_tab tk_X3_readPeople 25 rfl) rfl ?_
        refine am_istore (q := 36) (by decide) (ls2 := [(4, am_i ((σ.2.1 56 (8 + 2 * k)))), (0, am_r 2), (1, am_r 3), (2, am_r 37), (3, am_i ((k : Int)))]) rfl (am_tab tk_X3_readPeople 26 rfl) rfl ?_
        refine am_aload_n (q := 37) rfl (am_tab tk_X3_readPeople 27 rfl) rfl ?_
        refine am_getR (q := 40) (a := 37) (k := 1) (n := 11) (j := 5) (r := some (38)) (Ls_37 hLT) (by decide) rfl (Lr_37_5 hLT) (by decide) (Or.inr kf_X3_43) (am_tab tk_X3_readPeople 28 rfl) rfl ?_
        refine am_iload_n (q := 41) rfl (am_tab tk_X3_readPeople 29 rfl) rfl ?_
        refine am_iald (q := 42) (a := 38) (n := 8) (x := (σ.2.1 56 (7 + 2 * k))) (Ls_38 hLT) (by omega) (by omega) set_eq (am_tab tk_X3_readPeople 30 rfl) rfl ?_
        refine am_bipush (q := 44) (n := 99) (by decide) rfl (am_tab tk_X3_readPeople 31 rfl) rfl ?_
        refine am_icmp_gt (q := 47) (t := 53) (am_tab tk_X3_readPeople 32 rfl) (by decide) rfl (fun h44 => ?_) (fun h44 => ?_)
        · refine am_iconst (q := 54) (n := 0) (by decide) (am_tab tk_X3_readPeople 36 rfl) rfl ?_
          refine am_iret (Or.inr ⟨rfl, by first | exact Or.inl rfl | exact Or.inr rfl | omega⟩) (Nat.le_of_ble_eq_true rfl) (Nat.le_of_ble_eq_true rfl) (am_tab tk_X3_readPeople 37 rfl) ?_
          refine hQ _ _ ?_
          have hbk : hdB σ k = true := decide_eq_true (by omega)
          exact ⟨Or.inr ⟨by rw [anyB_t hbk hkp], rfl⟩, hP.1.setN (Or.inl rfl)⟩
        · refine am_iload (q := 49) rfl (am_tab tk_X3_readPeople 33 rfl) rfl ?_
          refine am_iconst (q := 50) (n := 1) (by decide) (am_tab tk_X3_readPeople 34 rfl) rfl ?_
          refine am_icmp_le (q := 53) (t := 55) (am_tab tk_X3_readPeople 35 rfl) (by decide) rfl (fun h50 => ?_) (fun h50 => ?_)
          · refine am_aload_n (q := 56) rfl (am_tab tk_X3_readPeople 38 rfl) rfl ?_
            refine am_dup (q := 57) rfl (am_tab tk_X3_readPeople 39 rfl) rfl ?_
            refine am_getI (q := 60) (a := 37) (k := 1) (n := 11) (j := 4) (x := (T.2.1 37 4)) (Ls_37 hLT) (by decide) rfl rfl (by decide) (Or.inr kf_X3_46) (am_tab tk_X3_readPeople 40 rfl) rfl ?_
            refine am_iload (q := 62) rfl (am_tab tk_X3_readPeople 41 rfl) rfl ?_
            refine am_iload_n (q := 63) rfl (am_tab tk_X3_readPeople 42 rfl) rfl ?_
            refine am_ishl (q := 64) (am_tab tk_X3_readPeople 43 rfl) rfl ?_
            refine am_ior (q := 65) (am_tab tk_X3_readPeople 44 rfl) rfl ?_
            refine am_putI (q := 68) (k := 1) (n := 11) (j := 4) (Ls_37 hLT) (by decide) rfl (by decide) (Or.inr (Or.inl ⟨kf_X3_46, rfl⟩)) (am_tab tk_X3_readPeople 45 rfl) rfl ?_
            refine am_iinc (q := 71) rfl (by omega) (by decide) (ls2 := [(3, am_i (((k : Int) + 1))), (4, am_i ((σ.2.1 56 (8 + 2 * k)))), (0, am_r 2), (1, am_r 3), (2, am_r 37)]) rfl (am_tab tk_X3_readPeople 46 rfl) rfl ?_
            refine am_goto (t := 2) (am_tab tk_X3_readPeople 47 rfl) (by decide) ?_
            have hbk : hdB σ k = false := decide_eq_false (fun z => z ⟨by omega, by omega⟩)
            have hB2 : anyB (hdB σ) (k + 1) = false := by show (anyB (hdB σ) k || hdB σ k) = false; rw [hB, hbk]; rfl
            have hP2 := hP.on (by omega) (show σ.2.1 56 (8 + 2 * k) = 0 ∨ σ.2.1 56 (8 + 2 * k) = 1 by omega)
            exact am_less (by intro q hq; simp only [List.mem_cons, List.not_mem_nil, or_false] at hq; rcases hq with rfl | rfl | rfl | rfl <;> simp) (ih2 (k + 1) (am_setN (am_setN T 38 (Int.toNat (k : Int)) (σ.2.1 56 (7 + 2 * k))) 37 4 (ao_or (T.2.1 37 4) (ao_shl (σ.2.1 56 (8 + 2 * k)) (k : Int)))) (by omega) (by omega) hB2 hP2)
          · refine am_iconst (q := 54) (n := 0) (by decide) (am_tab tk_X3_readPeople 36 rfl) rfl ?_
            refine am_iret (Or.inr ⟨rfl, by first | exact Or.inl rfl | exact Or.inr rfl | omega⟩) (Nat.le_of_ble_eq_true rfl) (Nat.le_of_ble_eq_true rfl) (am_tab tk_X3_readPeople 37 rfl) ?_
            refine hQ _ _ ?_
            have hbk : hdB σ k = true := decide_eq_true (by omega)
            exact ⟨Or.inr ⟨by rw [anyB_t hbk hkp], rfl⟩, hP.1.setN (Or.inl rfl)⟩
  refine am_less (by intro q hq; simp only [List.mem_cons, List.not_mem_nil, or_false] at hq; rcases hq with rfl | rfl | rfl | rfl <;> simp) (L2 (_ + 1) 0 S (by exact Nat.lt_succ_self _) (Nat.zero_le _) rfl ⟨frw.refl _ S, fun p => (if_neg (Nat.not_lt_zero p)).symm, (by omega), fun p hp => by rw [h374, tb0]; exact (if_neg (Nat.not_lt_zero p)).symm⟩)
set_option maxRecDepth 100000 in
theorem c_readList_3_39 (σ S : am_H) (hL : lay S) (hb : ∀ j, S.2.1 2 j = σ.2.1 56 j) (hTR : TPR σ) (hG : GD σ) (hTW : TWr 3 S σ) (le n : Int) (F : Nat) (hn : S.2.1 1 1 = n) (hnr : 0 ≤ n ∧ n ≤ 1600) (hle : 0 ≤ le ∧ le ≤ 255) (hF0 : F ≤ 100000) (hz : ∀ d : Nat, d < 91 → S.2.1 39 d = 0) : am_met M_X3_readList [am_r 1, am_i ((F : Int)), am_r 3, am_r 39, am_i ((le + 1))] S (fun r σ' => RDL σ S 39 F le n r σ') := by
  refine am_qq (fun Q hQ => ?_)
  refine am_enter (show plainFor yX3_readList = true by decide +kernel) rfl (Nat.le_of_ble_eq_true rfl) (fun _ _ _ => trivial) ?_
  have hY := hG.R.Y
  have hN := hG.R.P
  have bF : F < 1600 → 0 ≤ σ.2.1 56 F ∧ σ.2.1 56 F ≤ 255 := fun z => hTR.2 F z
  have hTWT := hTW
  refine am_aload_n (q := 1) rfl (am_tab tk_X3_readList 0 rfl) rfl ?_
  refine am_getI (q := 4) (a := 1) (k := 6) (n := 2) (j := 1) (x := n) (Ls_1 hL) (by decide) rfl hn (by decide) (Or.inr kf_X3_71) (am_tab tk_X3_readList 1 rfl) rfl ?_
  refine am_iconst (q := 5) (n := 1) (by decide) (am_tab tk_X3_readList 2 rfl) rfl ?_
  refine am_isub (q := 6) (by omega) (am_tab tk_X3_readList 3 rfl) rfl ?_
  refine am_istore (q := 8) (by decide) (ls2 := [(5, am_i ((n - 1))), (0, am_r 1), (1, am_i ((F : Int))), (2, am_r 3), (3, am_r 39), (4, am_i ((le + 1)))]) rfl (am_tab tk_X3_readList 4 rfl) rfl ?_
  refine am_iload_n (q := 9) rfl (am_tab tk_X3_readList 5 rfl) rfl ?_
  refine am_if_lt (q := 12) (t := 18) (am_tab tk_X3_readList 6 rfl) (by decide) rfl (fun h9 => ?_) (fun h9 => ?_)
  · refine am_iconst (q := 19) (n := (-1)) (by decide) (am_tab tk_X3_readList 10 rfl) rfl ?_
    refine am_iret (Or.inl rfl) (Nat.le_of_ble_eq_true rfl) (Nat.le_of_ble_eq_true rfl) (am_tab tk_X3_readList 11 rfl) ?_
    refine hQ _ _ ?_
    exact ⟨Or.inr ⟨asC_f (by omega), rfl⟩, frw.refl _ S⟩
  · refine am_iload_n (q := 13) rfl (am_tab tk_X3_readList 7 rfl) rfl ?_
    refine am_iload (q := 15) rfl (am_tab tk_X3_readList 8 rfl) rfl ?_
    refine am_icmp_lt (q := 18) (t := 20) (am_tab tk_X3_readList 9 rfl) (by decide) rfl (fun h15 => ?_) (fun h15 => ?_)
    · refine am_aload_n (q := 21) rfl (am_tab tk_X3_readList 12 rfl) rfl ?_
      refine am_getR (q := 24) (a := 1) (k := 6) (n := 2) (j := 0) (r := some (2)) (Ls_1 hL) (by decide) rfl (Lr_1_0 hL) (by decide) (Or.inr kf_X3_76) (am_tab tk_X3_readList 13 rfl) rfl ?_
      refine am_iload_n (q := 25) rfl (am_tab tk_X3_readList 14 rfl) rfl ?_
      refine am_iald (q := 26) (a := 2) (n := 1600) (x := (σ.2.1 56 F)) (Ls_2 hL) (by omega) (by omega) (by rw [show Int.toNat (F : Int) = F by omega]; exact hb _) (am_tab tk_X3_readList 15 rfl) rfl ?_
      refine am_istore (q := 28) (by decide) (ls2 := [(6, am_i ((σ.2.1 56 F))), (5, am_i ((n - 1))), (0, am_r 1), (1, am_i ((F : Int))), (2, am_r 3), (3, am_r 39), (4, am_i ((le + 1)))]) rfl (am_tab tk_X3_readList 16 rfl) rfl ?_
      refine am_iload (q := 30) rfl (am_tab tk_X3_readList 17 rfl) rfl ?_
      refine am_bipush (q := 32) (n := 30) (by decide) rfl (am_tab tk_X3_readList 18 rfl) rfl ?_
      refine am_icmp_gt (q := 35) (t := 48) (am_tab tk_X3_readList 19 rfl) (by decide) rfl (fun h32 => ?_) (fun h32 => ?_)
      · refine am_iconst (q := 49) (n := (-1)) (by decide) (am_tab tk_X3_readList 29 rfl) rfl ?_
        refine am_iret (Or.inl rfl) (Nat.le_of_ble_eq_true rfl) (Nat.le_of_ble_eq_true rfl) (am_tab tk_X3_readList 30 rfl) ?_
        refine hQ _ _ ?_
        exact ⟨Or.inr ⟨asC_f (by omega), rfl⟩, frw.refl _ S⟩
      · refine am_iload_n (q := 36) rfl (am_tab tk_X3_readList 20 rfl) rfl ?_
        refine am_iconst (q := 37) (n := 1) (by decide) (am_tab tk_X3_readList 21 rfl) rfl ?_
        refine am_iadd (q := 38) (by omega) (am_tab tk_X3_readList 22 rfl) rfl ?_
        refine am_iconst (q := 39) (n := 2) (by decide) (am_tab tk_X3_readList 23 rfl) rfl ?_
        refine am_iload (q := 41) rfl (am_tab tk_X3_readList 24 rfl) rfl ?_
        refine am_imul (q := 42) (by omega) (am_tab tk_X3_readList 25 rfl) rfl ?_
        refine am_iadd (q := 43) (by omega) (am_tab tk_X3_readList 26 rfl) rfl ?_
        refine am_iload (q := 45) rfl (am_tab tk_X3_readList 27 rfl) rfl ?_
        refine am_icmp_le (q := 48) (t := 50) (am_tab tk_X3_readList 28 rfl) (by decide) rfl (fun h45 => ?_) (fun h45 => ?_)
        · refine am_iconst (q := 51) (n := (-1)) (by decide) (am_tab tk_X3_readList 31 rfl) rfl ?_
          refine am_istore (q := 53) (by decide) (ls2 := [(7, am_i ((-1))), (6, am_i ((σ.2.1 56 F))), (5, am_i ((n - 1))), (0, am_r 1), (1, am_i ((F : Int))), (2, am_r 3), (3, am_r 39), (4, am_i ((le + 1)))]) rfl (am_tab tk_X3_readList 32 rfl) rfl ?_
          refine am_iconst (q := 54) (n := 0) (by decide) (am_tab tk_X3_readList 33 rfl) rfl ?_
          refine am_istore (q := 56) (by decide) (ls2 := [(8, am_i 0), (7, am_i ((-1))), (6, am_i ((σ.2.1 56 F))), (5, am_i ((n - 1))), (0, am_r 1), (1, am_i ((F : Int))), (2, am_r 3), (3, am_r 39), (4, am_i ((le + 1)))]) rfl (am_tab tk_X3_readList 34 rfl) rfl ?_
          have L56 : ∀ (n56 : Nat) (k : Nat) (T : am_H), (σ.2.1 56 F).toNat - k < n56 → k ≤ (σ.2.1 56 F).toNat → anyB (asB σ F le) k = false → frw (fun x _ => x = 39) S T → (∀ d : Nat, d < 91 → T.2.1 39 d = tkF σ F k d) → am_wp M_X3_readList Q 0 0 56 [(0, am_r 1), (1, am_i ((F : Int))), (2, am_r 3), (3, am_r 39), (4, am_i ((le + 1))), (5, am_i ((n - 1))), (6, am_i ((σ.2.1 56 F))), (7, am_i ((aLast σ F k))), (8, am_i ((k : Int)))] [] T := by
            intro n56
            induction n56 with
            | zero => intro k T hn56; exact absurd hn56 (Nat.not_lt_zero _)
            | succ n56 ih56 =>
              intro k T hn56 hk hB hF hV
              have hLT : lay T := hF.L hL
              have hTWT : TWr 3 T σ := hTW.fr hF (by omega)
              have hbT : ∀ j, T.2.1 2 j = σ.2.1 56 j := fun j => (hF.2.2 2 j (by omega)).trans (hb j)
              have bD : F + 1 + 2 * k < 1600 → 0 ≤ aD σ F k ∧ aD σ F k ≤ 255 := fun z => hTR.2 _ z
              have bP : F + 2 + 2 * k < 1600 → 0 ≤ aP σ F k ∧ aP σ F k ≤ 255 := fun z => hTR.2 _ z
              refine am_iload (q := 58) rfl (am_tab tk_X3_readList 35 rfl) rfl ?_
              refine am_iload (q := 60) rfl (am_tab tk_X3_readList 36 rfl) rfl ?_
              refine am_icmp_ge (q := 63) (t := 158) (am_tab tk_X3_readList 37 rfl) (by decide) rfl (fun h60 => ?_) (fun h60 => ?_)
              · refine am_iload_n (q := 159) rfl (am_tab tk_X3_readList 95 rfl) rfl ?_
                refine am_iconst (q := 160) (n := 1) (by decide) (am_tab tk_X3_readList 96 rfl) rfl ?_
                refine am_iadd (q := 161) (by omega) (am_tab tk_X3_readList 97 rfl) rfl ?_
                refine am_iconst (q := 162) (n := 2) (by decide) (am_tab tk_X3_readList 98 rfl) rfl ?_
                refine am_iload (q := 164) rfl (am_tab tk_X3_readList 99 rfl) rfl ?_
                refine am_imul (q := 165) (by omega) (am_tab tk_X3_readList 100 rfl) rfl ?_
                refine am_iadd (q := 166) (by omega) (am_tab tk_X3_readList 101 rfl) rfl ?_
                refine am_iret (Or.inl rfl) (Nat.le_of_ble_eq_true rfl) (Nat.le_of_ble_eq_true rfl) (am_tab tk_X3_readList 102 rfl) ?_
                refine hQ _ _ ?_
                have ek : k = (σ.2.1 56 F).toNat := by omega
                rw [ek] at hB hV
                exact ⟨Or.inl ⟨asC_t (by omega) hB, congrArg (fun z => some (am_i z)) (by omega), hV⟩, hF⟩
              · refine am_aload_n (q := 64) rfl (am_tab tk_X3_readList 38 rfl) rfl ?_
                refine am_getR (q := 67) (a := 1) (k := 6) (n := 2) (j := 0) (r := some (2)) (Ls_1 hLT) (by decide) rfl (Lr_1_0 hLT) (by decide) (Or.inr kf_X3_76) (am_tab tk_X3_readList 39 rfl) rfl ?_
                refine am_iload_n (q := 68) rfl (am_tab tk_X3_readList 40 rfl) rfl ?_
                refine am_iconst (q := 69) (n := 1) (by decide) (am_tab tk_X3_readList 41 rfl) rfl ?_
                refine am_iadd (q := 70) (by omega) (am_tab tk_X3_readList 42 rfl) rfl ?_
                refine am_iconst (q := 71) (n := 2) (by decide) (am_tab tk_X3_readList 43 rfl) rfl ?_
                refine am_iload (q := 73) rfl (am_tab tk_X3_readList 44 rfl) rfl ?_
                refine am_imul (q := 74) (by omega) (am_tab tk_X3_readList 45 rfl) rfl ?_
                refine am_iadd (q := 75) (by omega) (am_tab tk_X3_readList 46 rfl) rfl ?_
                refine am_iald (q := 76) (a := 2) (n := 1600) (x := (aD σ F k)) (Ls_2 hLT) (by omega) (by omega) (by rw [show Int.toNat (((F : Int) + 1) + (2 * (k : Int))) = F + 1 + 2 * k by omega]; exact hbT _) (am_tab tk_X3_readList 47 rfl) rfl ?_
                refine am_istore (q := 78) (by decide) (ls2 := [(9, am_i ((aD σ F k))), (0, am_r 1), (1, am_i ((F : Int))), (2, am_r 3), (3, am_r 39), (4, am_i ((le + 1))), (5, am_i ((n - 1))), (6, am_i ((σ.2.1 56 F))), (7, am_i ((aLast σ F k))), (8, am_i ((k : Int)))]) rfl (am_tab tk_X3_readList 48 rfl) rfl ?_
                refine am_aload_n (q := 79) rfl (am_tab tk_X3_readList 49 rfl) rfl ?_
                refine am_getR (q := 82) (a := 1) (k := 6) (n := 2) (j := 0) (r := some (2)) (Ls_1 hLT) (by decide) rfl (Lr_1_0 hLT) (by decide) (Or.inr kf_X3_76) (am_tab tk_X3_readList 50 rfl) rfl ?_
                refine am_iload_n (q := 83) rfl (am_tab tk_X3_readList 51 rfl) rfl ?_
                refine am_iconst (q := 84) (n := 2) (by decide) (am_tab tk_X3_readList 52 rfl) rfl ?_
                refine am_iadd (q := 85) (by omega) (am_tab tk_X3_readList 53 rfl) rfl ?_
                refine am_iconst (q := 86) (n := 2) (by decide) (am_tab tk_X3_readList 54 rfl) rfl ?_
                refine am_iload (q := 88) rfl (am_tab tk_X3_readList 55 rfl) rfl ?_
                refine am_imul (q := 89) (by omega) (am_tab tk_X3_readList 56 rfl) rfl ?_
                refine am_iadd (q := 90) (by omega) (am_tab tk_X3_readList 57 rfl) rfl ?_
                refine am_iald (q := 91) (a := 2) (n := 1600) (x := (aP σ F k)) (Ls_2 hLT) (by omega) (by omega) (by rw [show Int.toNat (((F : Int) + 2) + (2 * (k : Int))) = F + 2 + 2 * k by omega]; exact hbT _) (am_tab tk_X3_readList 58 rfl) rfl ?_
                refine am_istore (q := 93) (by decide) (ls2 := [(10, am_i ((aP σ F k))), (9, am_i ((aD σ F k))), (0, am_r 1), (1, am_i ((F : Int))), (2, am_r 3), (3, am_r 39), (4, am_i ((le + 1))), (5, am_i ((n - 1))), (6, am_i ((σ.2.1 56 F))), (7, am_i ((aLast σ F k))), (8, am_i ((k : Int)))]) rfl (am_tab tk_X3_readList 59 rfl) rfl ?_
                refine am_iload (q := 95) rfl (am_tab tk_X3_readList 60 rfl) rfl ?_
                refine am_bipush (q := 97) (n := 8) (by decide) rfl (am_tab tk_X3_readList 61 rfl) rfl ?_
                refine am_imul (q := 98) (by omega) (am_tab tk_X3_readList 62 rfl) rfl ?_
                refine am_iload (q := 100) rfl (am_tab tk_X3_readList 63 rfl) rfl ?_
                refine am_iadd (q := 101) (by omega) (am_tab tk_X3_readList 64 rfl) rfl ?_
                refine am_istore (q := 103) (by decide) (ls2 := [(11, am_i ((((aD σ F k) * 8) + (aP σ F k)))), (10, am_i ((aP σ F k))), (9, am_i ((aD σ F k))), (0, am_r 1), (1, am_i ((F : Int))), (2, am_r 3), (3, am_r 39), (4, am_i ((le + 1))), (5, am_i ((n - 1))), (6, am_i ((σ.2.1 56 F))), (7, am_i ((aLast σ F k))), (8, am_i ((k : Int)))]) rfl (am_tab tk_X3_readList 65 rfl) rfl ?_
                refine am_iload (q := 105) rfl (am_tab tk_X3_readList 66 rfl) rfl ?_
                refine am_iload (q := 107) rfl (am_tab tk_X3_readList 67 rfl) rfl ?_
                refine am_icmp_lt (q := 110) (t := 135) (am_tab tk_X3_readList 68 rfl) (by decide) rfl (fun h107 => ?_) (fun h107 => ?_)
                · refine am_iconst (q := 136) (n := (-1)) (by decide) (am_tab tk_X3_readList 80 rfl) rfl ?_
                  refine am_iret (Or.inl rfl) (Nat.le_of_ble_eq_true rfl) (Nat.le_of_ble_eq_true rfl) (am_tab tk_X3_readList 81 rfl) ?_
                  refine hQ _ _ ?_
                  exact ⟨Or.inr ⟨asC_b (k := k) (by omega) (asB_t (by unfold aV; omega)), rfl⟩, hF⟩
                · refine am_iload (q := 112) rfl (am_tab tk_X3_readList 69 rfl) rfl ?_
                  refine am_aload_n (q := 113) rfl (am_tab tk_X3_readList 70 rfl) rfl ?_
                  refine am_getI (q := 116) (a := 3) (k := 8) (n := 17) (j := 0) (x := (σ.2.1 85 9)) (Ls_3 hLT) (by decide) rfl (hTWT.days) (by decide) (Or.inr kf_X3_98) (am_tab tk_X3_readList 71 rfl) rfl ?_
                  refine am_icmp_gt (q := 119) (t := 135) (am_tab tk_X3_readList 72 rfl) (by decide) rfl (fun h116 => ?_) (fun h116 => ?_)
                  · refine am_iconst (q := 136) (n := (-1)) (by decide) (am_tab tk_X3_readList 80 rfl) rfl ?_
                    refine am_iret (Or.inl rfl) (Nat.le_of_ble_eq_true rfl) (Nat.le_of_ble_eq_true rfl) (am_tab tk_X3_readList 81 rfl) ?_
                    refine hQ _ _ ?_
                    exact ⟨Or.inr ⟨asC_b (k := k) (by omega) (asB_t (by unfold aV; omega)), rfl⟩, hF⟩
                  · refine am_iload (q := 121) rfl (am_tab tk_X3_readList 73 rfl) rfl ?_
                    refine am_aload_n (q := 122) rfl (am_tab tk_X3_readList 74 rfl) rfl ?_
                    refine am_getI (q := 125) (a := 3) (k := 8) (n := 17) (j := 2) (x := (σ.2.1 85 5)) (Ls_3 hLT) (by decide) rfl (hTWT.people) (by decide) (Or.inr kf_X3_38) (am_tab tk_X3_readList 75 rfl) rfl ?_
                    refine am_icmp_ge (q := 128) (t := 135) (am_tab tk_X3_readList 76 rfl) (by decide) rfl (fun h125 => ?_) (fun h125 => ?_)
                    · refine am_iconst (q := 136) (n := (-1)) (by decide) (am_tab tk_X3_readList 80 rfl) rfl ?_
                      refine am_iret (Or.inl rfl) (Nat.le_of_ble_eq_true rfl) (Nat.le_of_ble_eq_true rfl) (am_tab tk_X3_readList 81 rfl) ?_
                      refine hQ _ _ ?_
                      exact ⟨Or.inr ⟨asC_b (k := k) (by omega) (asB_t (by unfold aV; omega)), rfl⟩, hF⟩
                    · refine am_iload (q := 130) rfl (am_tab tk_X3_readList 77 rfl) rfl ?_
                      refine am_iload (q := 132) rfl (am_tab tk_X3_readList 78 rfl) rfl ?_
                      refine am_icmp_gt (q := 135) (t := 137) (am_tab tk_X3_readList 79 rfl) (by decide) rfl (fun h132 => ?_) (fun h132 => ?_)
                      · refine am_aload_n (q := 138) rfl (am_tab tk_X3_readList 82 rfl) rfl ?_
                        refine am_iload (q := 140) rfl (am_tab tk_X3_readList 83 rfl) rfl ?_
                        refine am_dup2 (q := 141) rfl rfl (am_tab tk_X3_readList 84 rfl) rfl ?_
                        refine am_iald (q := 142) (a := 39) (n := 91) (x := (T.2.1 39 (Int.toNat (aD σ F k)))) (Ls_39 hLT) (by omega) (by omega) rfl (am_tab tk_X3_readList 85 rfl) rfl ?_
                        refine am_iconst (q := 143) (n := 1) (by decide) (am_tab tk_X3_readList 86 rfl) rfl ?_
                        refine am_iload (q := 145) rfl (am_tab tk_X3_readList 87 rfl) rfl ?_
                        refine am_ishl (q := 146) (am_tab tk_X3_readList 88 rfl) rfl ?_
                        refine am_ior (q := 147) (am_tab tk_X3_readList 89 rfl) rfl ?_
                        refine am_iast (q := 148) (a := 39) (n := 91) (Ls_39 hLT) (by omega) (by omega) (am_tab tk_X3_readList 90 rfl) rfl ?_
                        refine am_iload (q := 150) rfl (am_tab tk_X3_readList 91 rfl) rfl ?_
                        refine am_istore (q := 152) (by decide) (ls2 := [(7, am_i ((((aD σ F k) * 8) + (aP σ F k)))), (11, am_i ((((aD σ F k) * 8) + (aP σ F k)))), (10, am_i ((aP σ F k))), (9, am_i ((aD σ F k))), (0, am_r 1), (1, am_i ((F : Int))), (2, am_r 3), (3, am_r 39), (4, am_i ((le + 1))), (5, am_i ((n - 1))), (6, am_i ((σ.2.1 56 F))), (8, am_i ((k : Int)))]) rfl (am_tab tk_X3_readList 92 rfl) rfl ?_
                        refine am_iinc (q := 155) rfl (by omega) (by decide) (ls2 := [(8, am_i (((k : Int) + 1))), (7, am_i ((((aD σ F k) * 8) + (aP σ F k)))), (11, am_i ((((aD σ F k) * 8) + (aP σ F k)))), (10, am_i ((aP σ F k))), (9, am_i ((aD σ F k))), (0, am_r 1), (1, am_i ((F : Int))), (2, am_r 3), (3, am_r 39), (4, am_i ((le + 1))), (5, am_i ((n - 1))), (6, am_i ((σ.2.1 56 F)))]) rfl (am_tab tk_X3_readList 93 rfl) rfl ?_
                        refine am_goto (t := 56) (am_tab tk_X3_readList 94 rfl) (by decide) ?_
                        have hbk : asB σ F le k = false := asB_f (by unfold aV; omega)
                        have hB2 : anyB (asB σ F le) (k + 1) = false := by show (anyB (asB σ F le) k || asB σ F le k) = false; rw [hB, hbk]; rfl
                        have hV2 : ∀ d : Nat, d < 91 → (am_setN T 39 (Int.toNat (aD σ F k)) (ao_or (T.2.1 39 (Int.toNat (aD σ F k))) (ao_shl 1 (aP σ F k)))).2.1 39 d = tkF σ F (k + 1) d := fun d hd => by
                          show _ = if (d : Int) = aD σ F k then ao_or (tkF σ F k d) (ao_shl 1 (aP σ F k)) else tkF σ F k d
                          by_cases g : (d : Int) = aD σ F k
                          · rw [if_pos g, ← hV d hd, show d = (aD σ F k).toNat by omega]; exact set_eq
                          · rw [if_neg g, ← hV d hd]; exact set_nn (by omega)
                        have he : aLast σ F (k + 1) = (((aD σ F k) * 8) + (aP σ F k)) := by show 8 * aD σ F k + aP σ F k = _; omega
                        exact am_less (by intro q hq; simp only [List.mem_cons, List.not_mem_nil, or_false] at hq; rcases hq with rfl | rfl | rfl | rfl | rfl | rfl | rfl | rfl | rfl <;> simp [he]) (ih56 (k + 1) (am_setN T 39 (Int.toNat (aD σ F k)) (ao_or (T.2.1 39 (Int.toNat (aD σ F k))) (ao_shl 1 (aP σ F k)))) (by omega) (by omega) hB2 (hF.setN rfl) hV2)
                      · refine am_iconst (q := 136) (n := (-1)) (by decide) (am_tab tk_X3_readList 80 rfl) rfl ?_
                        refine am_iret (Or.inl rfl) (Nat.le_of_ble_eq_true rfl) (Nat.le_of_ble_eq_true rfl) (am_tab tk_X3_readList 81 rfl) ?_
                        refine hQ _ _ ?_
                        exact ⟨Or.inr ⟨asC_b (k := k) (by omega) (asB_t (by unfold aV; omega)), rfl⟩, hF⟩
          refine am_less (by intro q hq; simp only [List.mem_cons, List.not_mem_nil, or_false] at hq; rcases hq with rfl | rfl | rfl | rfl | rfl | rfl | rfl | rfl | rfl <;> simp [aLast]) (L56 (_ + 1) 0 S (by exact Nat.lt_succ_self _) (Nat.zero_le _) rfl (frw.refl _ S) hz)
        · refine am_iconst (q := 49) (n := (-1)) (by decide) (am_tab tk_X3_readList 29 rfl) rfl ?_
          refine am_iret (Or.inl rfl) (Nat.le_of_ble_eq_true rfl) (Nat.le_of_ble_eq_true rfl) (am_tab tk_X3_readList 30 rfl) ?_
          refine hQ _ _ ?_
          exact ⟨Or.inr ⟨asC_f (by omega), rfl⟩, frw.refl _ S⟩
    · refine am_iconst (q := 19) (n := (-1)) (by decide) (am_tab tk_X3_readList 10 rfl) rfl ?_
      refine am_iret (Or.inl rfl) (Nat.le_of_ble_eq_true rfl) (Nat.le_of_ble_eq_true rfl) (am_tab tk_X3_readList 11 rfl) ?_
      refine hQ _ _ ?_
      exact ⟨Or.inr ⟨asC_f (by omega), rfl⟩, frw.refl _ S⟩
set_option maxRecDepth 100000 in
theorem c_readList_3_40 (σ S : am_H) (hL : lay S) (hb : ∀ j, S.2.1 2 j = σ.2.1 56 j) (hTR : TPR σ) (hG : GD σ) (hTW : TWr 3 S σ) (le n : Int) (F : Nat) (hn : S.2.1 1 1 = n) (hnr : 0 ≤ n ∧ n ≤ 1600) (hle : 0 ≤ le ∧ le ≤ 255) (hF0 : F ≤ 100000) (hz : ∀ d : Nat, d < 91 → S.2.1 40 d = 0) : am_met M_X3_readList [am_r 1, am_i ((F : Int)), am_r 3, am_r 40, am_i ((le + 1))] S (fun r σ' => RDL σ S 40 F le n r σ') := by
  refine am_qq (fun Q hQ => ?_)
  refine am_enter (show plainFor yX3_readList = true by decide +kernel) rfl (Nat.le_of_ble_eq_true rfl) (fun _ _ _ => trivial) ?_
  have hY := hG.R.Y
  have hN := hG.R.P
  have bF : F < 1600 → 0 ≤ σ.2.1 56 F ∧ σ.2.1 56 F ≤ 255 := fun z => hTR.2 F z
  have hTWT := hTW
  refine am_aload_n (q := 1) rfl (am_tab tk_X3_readList 0 rfl) rfl ?_
  refine am_getI (q := 4) (a := 1) (k := 6) (n := 2) (j := 1) (x := n) (Ls_1 hL) (by decide) rfl hn (by decide) (Or.inr kf_X3_71) (am_tab tk_X3_readList 1 rfl) rfl ?_
  refine am_iconst (q := 5) (n := 1) (by decide) (am_tab tk_X3_readList 2 rfl) rfl ?_
  refine am_isub (q := 6) (by omega) (am_tab tk_X3_readList 3 rfl) rfl ?_
  refine am_istore (q := 8) (by decide) (ls2 := [(5, am_i ((n - 1))), (0, am_r 1), (1, am_i ((F : Int))), (2, am_r 3), (3, am_r 40), (4, am_i ((le + 1)))]) rfl (am_tab tk_X3_readList 4 rfl) rfl ?_
  refine am_iload_n (q := 9) rfl (am_tab tk_X3_readList 5 rfl) rfl ?_
  refine am_if_lt (q := 12) (t := 18) (am_tab tk_X3_readList 6 rfl) (by decide) rfl (fun h9 => ?_) (fun h9 => ?_)
  · refine am_iconst (q := 19) (n := (-1)) (by decide) (am_tab tk_X3_readList 10 rfl) rfl ?_
    refine am_iret (Or.inl rfl) (Nat.le_of_ble_eq_true rfl) (Nat.le_of_ble_eq_true rfl) (am_tab tk_X3_readList 11 rfl) ?_
    refine hQ _ _ ?_
    exact ⟨Or.inr ⟨asC_f (by omega), rfl⟩, frw.refl _ S⟩
  · refine am_iload_n (q := 13) rfl (am_tab tk_X3_readList 7 rfl) rfl ?_
    refine am_iload (q := 15) rfl (am_tab tk_X3_readList 8 rfl) rfl ?_
    refine am_icmp_lt (q := 18) (t := 20) (am_tab tk_X3_readList 9 rfl) (by decide) rfl (fun h15 => ?_) (fun h15 => ?_)
    · refine am_aload_n (q := 21) rfl (am_tab tk_X3_readList 12 rfl) rfl ?_
      refine am_getR (q := 24) (a := 1) (k := 6) (n := 2) (j := 0) (r := some (2)) (Ls_1 hL) (by decide) rfl (Lr_1_0 hL) (by decide) (Or.inr kf_X3_76) (am_tab tk_X3_readList 13 rfl) rfl ?_
      refine am_iload_n (q := 25) rfl (am_tab tk_X3_readList 14 rfl) rfl ?_
      refine am_iald (q := 26) (a := 2) (n := 1600) (x := (σ.2.1 56 F)) (Ls_2 hL) (by omega) (by omega) (by rw [show Int.toNat (F : Int) = F by omega]; exact hb _) (am_tab tk_X3_readList 15 rfl) rfl ?_
      refine am_istore (q := 28) (by decide) (ls2 := [(6, am_i ((σ.2.1 56 F))), (5, am_i ((n - 1))), (0, am_r 1), (1, am_i ((F : Int))), (2, am_r 3), (3, am_r 40), (4, am_i ((le + 1)))]) rfl (am_tab tk_X3_readList 16 rfl) rfl ?_
      refine am_iload (q := 30) rfl (am_tab tk_X3_readList 17 rfl) rfl ?_
      refine am_bipush (q := 32) (n := 30) (by decide) rfl (am_tab tk_X3_readList 18 rfl) rfl ?_
      refine am_icmp_gt (q := 35) (t := 48) (am_tab tk_X3_readList 19 rfl) (by decide) rfl (fun h32 => ?_) (fun h32 => ?_)
      · refine am_iconst (q := 49) (n := (-1)) (by decide) (am_tab tk_X3_readList 29 rfl) rfl ?_
        refine am_iret (Or.inl rfl) (Nat.le_of_ble_eq_true rfl) (Nat.le_of_ble_eq_true rfl) (am_tab tk_X3_readList 30 rfl) ?_
        refine hQ _ _ ?_
        exact ⟨Or.inr ⟨asC_f (by omega), rfl⟩, frw.refl _ S⟩
      · refine am_iload_n (q := 36) rfl (am_tab tk_X3_readList 20 rfl) rfl ?_
        refine am_iconst (q := 37) (n := 1) (by decide) (am_tab tk_X3_readList 21 rfl) rfl ?_
        refine am_iadd (q := 38) (by omega) (am_tab tk_X3_readList 22 rfl) rfl ?_
        refine am_iconst (q := 39) (n := 2) (by decide) (am_tab tk_X3_readList 23 rfl) rfl ?_
        refine am_iload (q := 41) rfl (am_tab tk_X3_readList 24 rfl) rfl ?_
        refine am_imul (q := 42) (by omega) (am_tab tk_X3_readList 25 rfl) rfl ?_
        refine am_iadd (q := 43) (by omega) (am_tab tk_X3_readList 26 rfl) rfl ?_
        refine am_iload (q := 45) rfl (am_tab tk_X3_readList 27 rfl) rfl ?_
        refine am_icmp_le (q := 48) (t := 50) (am_tab tk_X3_readList 28 rfl) (by decide) rfl (fun h45 => ?_) (fun h45 => ?_)
        · refine am_iconst (q := 51) (n := (-1)) (by decide) (am_tab tk_X3_readList 31 rfl) rfl ?_
          refine am_istore (q := 53) (by decide) (ls2 := [(7, am_i ((-1))), (6, am_i ((σ.2.1 56 F))), (5, am_i ((n - 1))), (0, am_r 1), (1, am_i ((F : Int))), (2, am_r 3), (3, am_r 40), (4, am_i ((le + 1)))]) rfl (am_tab tk_X3_readList 32 rfl) rfl ?_
          refine am_iconst (q := 54) (n := 0) (by decide) (am_tab tk_X3_readList 33 rfl) rfl ?_
          refine am_istore (q := 56) (by decide) (ls2 := [(8, am_i 0), (7, am_i ((-1))), (6, am_i ((σ.2.1 56 F))), (5, am_i ((n - 1))), (0, am_r 1), (1, am_i ((F : Int))), (2, am_r 3), (3, am_r 40), (4, am_i ((le + 1)))]) rfl (am_tab tk_X3_readList 34 rfl) rfl ?_
          have L56 : ∀ (n56 : Nat) (k : Nat) (T : am_H), (σ.2.1 56 F).toNat - k < n56 → k ≤ (σ.2.1 56 F).toNat → anyB (asB σ F le) k = false → frw (fun x _ => x = 40) S T → (∀ d : Nat, d < 91 → T.2.1 40 d = tkF σ F k d) → am_wp M_X3_readList Q 0 0 56 [(0, am_r 1), (1, am_i ((F : Int))), (2, am_r 3), (3, am_r 40), (4, am_i ((le + 1))), (5, am_i ((n - 1))), (6, am_i ((σ.2.1 56 F))), (7, am_i ((aLast σ F k))), (8, am_i ((k : Int)))] [] T := by
            intro n56
            induction n56 with
            | zero => intro k T hn56; exact absurd hn56 (Nat.not_lt_zero _)
            | succ n56 ih56 =>
              intro k T hn56 hk hB hF hV
              have hLT : lay T := hF.L hL
              have hTWT : TWr 3 T σ := hTW.fr hF (by omega)
              have hbT : ∀ j, T.2.1 2 j = σ.2.1 56 j := fun j => (hF.2.2 2 j (by omega)).trans (hb j)
              have bD : F + 1 + 2 * k < 1600 → 0 ≤ aD σ F k ∧ aD σ F k ≤ 255 := fun z => hTR.2 _ z
              have bP : F + 2 + 2 * k < 1600 → 0 ≤ aP σ F k ∧ aP σ F k ≤ 255 := fun z => hTR.2 _ z
              refine am_iload (q := 58) rfl (am_tab tk_X3_readList 35 rfl) rfl ?_
              refine am_iload (q := 60) rfl (am_tab tk_X3_readList 36 rfl) rfl ?_
              refine am_icmp_ge (q := 63) (t := 158) (am_tab tk_X3_readList 37 rfl) (by decide) rfl (fun h60 => ?_) (fun h60 => ?_)
              · refine am_iload_n (q := 159) rfl (am_tab tk_X3_readList 95 rfl) rfl ?_
                refine am_iconst (q := 160) (n := 1) (by decide) (am_tab tk_X3_readList 96 rfl) rfl ?_
                refine am_iadd (q := 161) (by omega) (am_tab tk_X3_readList 97 rfl) rfl ?_
                refine am_iconst (q := 162) (n := 2) (by decide) (am_tab tk_X3_readList 98 rfl) rfl ?_
                refine am_iload (q := 164) rfl (am_tab tk_X3_readList 99 rfl) rfl ?_
                refine am_imul (q := 165) (by omega) (am_tab tk_X3_readList 100 rfl) rfl ?_
                refine am_iadd (q := 166) (by omega) (am_tab tk_X3_readList 101 rfl) rfl ?_
                refine am_iret (Or.inl rfl) (Nat.le_of_ble_eq_true rfl) (Nat.le_of_ble_eq_true rfl) (am_tab tk_X3_readList 102 rfl) ?_
                refine hQ _ _ ?_
                have ek : k = (σ.2.1 56 F).toNat := by omega
                rw [ek] at hB hV
                exact ⟨Or.inl ⟨asC_t (by omega) hB, congrArg (fun z => some (am_i z)) (by omega), hV⟩, hF⟩
              · refine am_aload_n (q := 64) rfl (am_tab tk_X3_readList 38 rfl) rfl ?_
                refine am_getR (q := 67) (a := 1) (k := 6) (n := 2) (j := 0) (r := some (2)) (Ls_1 hLT) (by decide) rfl (Lr_1_0 hLT) (by decide) (Or.inr kf_X3_76) (am_tab tk_X3_readList 39 rfl) rfl ?_
                refine am_iload_n (q := 68) rfl (am_tab tk_X3_readList 40 rfl) rfl ?_
                refine am_iconst (q := 69) (n := 1) (by decide) (am_tab tk_X3_readList 41 rfl) rfl ?_
                refine am_iadd (q := 70) (by omega) (am_tab tk_X3_readList 42 rfl) rfl ?_
                refine am_iconst (q := 71) (n := 2) (by decide) (am_tab tk_X3_readList 43 rfl) rfl ?_
                refine am_iload (q := 73) rfl (am_tab tk_X3_readList 44 rfl) rfl ?_
                refine am_imul (q := 74) (by omega) (am_tab tk_X3_readList 45 rfl) rfl ?_
                refine am_iadd (q := 75) (by omega) (am_tab tk_X3_readList 46 rfl) rfl ?_
                refine am_iald (q := 76) (a := 2) (n := 1600) (x := (aD σ F k)) (Ls_2 hLT) (by omega) (by omega) (by rw [show Int.toNat (((F : Int) + 1) + (2 * (k : Int))) = F + 1 + 2 * k by omega]; exact hbT _) (am_tab tk_X3_readList 47 rfl) rfl ?_
                refine am_istore (q := 78) (by decide) (ls2 := [(9, am_i ((aD σ F k))), (0, am_r 1), (1, am_i ((F : Int))), (2, am_r 3), (3, am_r 40), (4, am_i ((le + 1))), (5, am_i ((n - 1))), (6, am_i ((σ.2.1 56 F))), (7, am_i ((aLast σ F k))), (8, am_i ((k : Int)))]) rfl (am_tab tk_X3_readList 48 rfl) rfl ?_
                refine am_aload_n (q := 79) rfl (am_tab tk_X3_readList 49 rfl) rfl ?_
                refine am_getR (q := 82) (a := 1) (k := 6) (n := 2) (j := 0) (r := some (2)) (Ls_1 hLT) (by decide) rfl (Lr_1_0 hLT) (by decide) (Or.inr kf_X3_76) (am_tab tk_X3_readList 50 rfl) rfl ?_
                refine am_iload_n (q := 83) rfl (am_tab tk_X3_readList 51 rfl) rfl ?_
                refine am_iconst (q := 84) (n := 2) (by decide) (am_tab tk_X3_readList 52 rfl) rfl ?_
                refine am_iadd (q := 85) (by omega) (am_tab tk_X3_readList 53 rfl) rfl ?_
                refine am_iconst (q := 86) (n := 2) (by decide) (am_tab tk_X3_readList 54 rfl) rfl ?_
                refine am_iload (q := 88) rfl (am_tab tk_X3_readList 55 rfl) rfl ?_
                refine am_imul (q := 89) (by omega) (am_tab tk_X3_readList 56 rfl) rfl ?_
                refine am_iadd (q := 90) (by omega) (am_tab tk_X3_readList 57 rfl) rfl ?_
                refine am_iald (q := 91) (a := 2) (n := 1600) (x := (aP σ F k)) (Ls_2 hLT) (by omega) (by omega) (by rw [show Int.toNat (((F : Int) + 2) + (2 * (k : Int))) = F + 2 + 2 * k by omega]; exact hbT _) (am_tab tk_X3_readList 58 rfl) rfl ?_
                refine am_istore (q := 93) (by decide) (ls2 := [(10, am_i ((aP σ F k))), (9, am_i ((aD σ F k))), (0, am_r 1), (1, am_i ((F : Int))), (2, am_r 3), (3, am_r 40), (4, am_i ((le + 1))), (5, am_i ((n - 1))), (6, am_i ((σ.2.1 56 F))), (7, am_i ((aLast σ F k))), (8, am_i ((k : Int)))]) rfl (am_tab tk_X3_readList 59 rfl) rfl ?_
                refine am_iload (q := 95) rfl (am_tab tk_X3_readList 60 rfl) rfl ?_
                refine am_bipush (q := 97) (n := 8) (by decide) rfl (am_tab tk_X3_readList 61 rfl) rfl ?_
                refine am_imul (q := 98) (by omega) (am_tab tk_X3_readList 62 rfl) rfl ?_
                refine am_iload (q := 100) rfl (am_tab tk_X3_readList 63 rfl) rfl ?_
                refine am_iadd (q := 101) (by omega) (am_tab tk_X3_readList 64 rfl) rfl ?_
                refine am_istore (q := 103) (by decide) (ls2 := [(11, am_i ((((aD σ F k) * 8) + (aP σ F k)))), (10, am_i ((aP σ F k))), (9, am_i ((aD σ F k))), (0, am_r 1), (1, am_i ((F : Int))), (2, am_r 3), (3, am_r 40), (4, am_i ((le + 1))), (5, am_i ((n - 1))), (6, am_i ((σ.2.1 56 F))), (7, am_i ((aLast σ F k))), (8, am_i ((k : Int)))]) rfl (am_tab tk_X3_readList 65 rfl) rfl ?_
                refine am_iload (q := 105) rfl (am_tab tk_X3_readList 66 rfl) rfl ?_
                refine am_iload (q := 107) rfl (am_tab tk_X3_readList 67 rfl) rfl ?_
                refine am_icmp_lt (q := 110) (t := 135) (am_tab tk_X3_readList 68 rfl) (by decide) rfl (fun h107 => ?_) (fun h107 => ?_)
                · refine am_iconst (q := 136) (n := (-1)) (by decide) (am_tab tk_X3_readList 80 rfl) rfl ?_
                  refine am_iret (Or.inl rfl) (Nat.le_of_ble_eq_true rfl) (Nat.le_of_ble_eq_true rfl) (am_tab tk_X3_readList 81 rfl) ?_
                  refine hQ _ _ ?_
                  exact ⟨Or.inr ⟨asC_b (k := k) (by omega) (asB_t (by unfold aV; omega)), rfl⟩, hF⟩
                · refine am_iload (q := 112) rfl (am_tab tk_X3_readList 69 rfl) rfl ?_
                  refine am_aload_n (q := 113) rfl (am_tab tk_X3_readList 70 rfl) rfl ?_
                  refine am_getI (q := 116) (a := 3) (k := 8) (n := 17) (j := 0) (x := (σ.2.1 85 9)) (Ls_3 hLT) (by decide) rfl (hTWT.days) (by decide) (Or.inr kf_X3_98) (am_tab tk_X3_readList 71 rfl) rfl ?_
                  refine am_icmp_gt (q := 119) (t := 135) (am_tab tk_X3_readList 72 rfl) (by decide) rfl (fun h116 => ?_) (fun h116 => ?_)
                  · refine am_iconst (q := 136) (n := (-1)) (by decide) (am_tab tk_X3_readList 80 rfl) rfl ?_
                    refine am_iret (Or.inl rfl) (Nat.le_of_ble_eq_true rfl) (Nat.le_of_ble_eq_true rfl) (am_tab tk_X3_readList 81 rfl) ?_
                    refine hQ _ _ ?_
                    exact ⟨Or.inr ⟨asC_b (k := k) (by omega) (asB_t (by unfold aV; omega)), rfl⟩, hF⟩
                  · refine am_iload (q := 121) rfl (am_tab tk_X3_readList 73 rfl) rfl ?_
                    refine am_aload_n (q := 122) rfl (am_tab tk_X3_readList 74 rfl) rfl ?_
                    refine am_getI (q := 125) (a := 3) (k := 8) (n := 17) (j := 2) (x := (σ.2.1 85 5)) (Ls_3 hLT) (by decide) rfl (hTWT.people) (by decide) (Or.inr kf_X3_38) (am_tab tk_X3_readList 75 rfl) rfl ?_
                    refine am_icmp_ge (q := 128) (t := 135) (am_tab tk_X3_readList 76 rfl) (by decide) rfl (fun h125 => ?_) (fun h125 => ?_)
                    · refine am_iconst (q := 136) (n := (-1)) (by decide) (am_tab tk_X3_readList 80 rfl) rfl ?_
                      refine am_iret (Or.inl rfl) (Nat.le_of_ble_eq_true rfl) (Nat.le_of_ble_eq_true rfl) (am_tab tk_X3_readList 81 rfl) ?_
                      refine hQ _ _ ?_
                      exact ⟨Or.inr ⟨asC_b (k := k) (by omega) (asB_t (by unfold aV; omega)), rfl⟩, hF⟩
                    · refine am_iload (q := 130) rfl (am_tab tk_X3_readList 77 rfl) rfl ?_
                      refine am_iload (q := 132) rfl (am_tab tk_X3_readList 78 rfl) rfl ?_
                      refine am_icmp_gt (q := 135) (t := 137) (am_tab tk_X3_readList 79 rfl) (by decide) rfl (fun h132 => ?_) (fun h132 => ?_)
                      · refine am_aload_n (q := 138) rfl (am_tab tk_X3_readList 82 rfl) rfl ?_
                        refine am_iload (q := 140) rfl (am_tab tk_X3_readList 83 rfl) rfl ?_
                        refine am_dup2 (q := 141) rfl rfl (am_tab tk_X3_readList 84 rfl) rfl ?_
                        refine am_iald (q := 142) (a := 40) (n := 91) (x := (T.2.1 40 (Int.toNat (aD σ F k)))) (Ls_40 hLT) (by omega) (by omega) rfl (am_tab tk_X3_readList 85 rfl) rfl ?_
                        refine am_iconst (q := 143) (n := 1) (by decide) (am_tab tk_X3_readList 86 rfl) rfl ?_
                        refine am_iload (q := 145) rfl (am_tab tk_X3_readList 87 rfl) rfl ?_
                        refine am_ishl (q := 146) (am_tab tk_X3_readList 88 rfl) rfl ?_
                        refine am_ior (q := 147) (am_tab tk_X3_readList 89 rfl) rfl ?_
                        refine am_iast (q := 148) (a := 40) (n := 91) (Ls_40 hLT) (by omega) (by omega) (am_tab tk_X3_readList 90 rfl) rfl ?_
                        refine am_iload (q := 150) rfl (am_tab tk_X3_readList 91 rfl) rfl ?_
                        refine am_istore (q := 152) (by decide) (ls2 := [(7, am_i ((((aD σ F k) * 8) + (aP σ F k)))), (11, am_i ((((aD σ F k) * 8) + (aP σ F k)))), (10, am_i ((aP σ F k))), (9, am_i ((aD σ F k))), (0, am_r 1), (1, am_i ((F : Int))), (2, am_r 3), (3, am_r 40), (4, am_i ((le + 1))), (5, am_i ((n - 1))), (6, am_i ((σ.2.1 56 F))), (8, am_i ((k : Int)))]) rfl (am_tab tk_X3_readList 92 rfl) rfl ?_
                        refine am_iinc (q := 155) rfl (by omega) (by decide) (ls2 := [(8, am_i (((k : Int) + 1))), (7, am_i ((((aD σ F k) * 8) + (aP σ F k)))), (11, am_i ((((aD σ F k) * 8) + (aP σ F k)))), (10, am_i ((aP σ F k))), (9, am_i ((aD σ F k))), (0, am_r 1), (1, am_i ((F : Int))), (2, am_r 3), (3, am_r 40), (4, am_i ((le + 1))), (5, am_i ((n - 1))), (6, am_i ((σ.2.1 56 F)))]) rfl (am_tab tk_X3_readList 93 rfl) rfl ?_
                        refine am_goto (t := 56) (am_tab tk_X3_readList 94 rfl) (by decide) ?_
                        have hbk : asB σ F le k = false := asB_f (by unfold aV; omega)
                        have hB2 : anyB (asB σ F le) (k + 1) = false := by show (anyB (asB σ F le) k || asB σ F le k) = false; rw [hB, hbk]; rfl
                        have hV2 : ∀ d : Nat, d < 91 → (am_setN T 40 (Int.toNat (aD σ F k)) (ao_or (T.2.1 40 (Int.toNat (aD σ F k))) (ao_shl 1 (aP σ F k)))).2.1 40 d = tkF σ F (k + 1) d := fun d hd => by
                          show _ = if (d : Int) = aD σ F k then ao_or (tkF σ F k d) (ao_shl 1 (aP σ F k)) else tkF σ F k d
                          by_cases g : (d : Int) = aD σ F k
                          · rw [if_pos g, ← hV d hd, show d = (aD σ F k).toNat by omega]; exact set_eq
                          · rw [if_neg g, ← hV d hd]; exact set_nn (by omega)
                        have he : aLast σ F (k + 1) = (((aD σ F k) * 8) + (aP σ F k)) := by show 8 * aD σ F k + aP σ F k = _; omega
                        exact am_less (by intro q hq; simp only [List.mem_cons, List.not_mem_nil, or_false] at hq; rcases hq with rfl | rfl | rfl | rfl | rfl | rfl | rfl | rfl | rfl <;> simp [he]) (ih56 (k + 1) (am_setN T 40 (Int.toNat (aD σ F k)) (ao_or (T.2.1 40 (Int.toNat (aD σ F k))) (ao_shl 1 (aP σ F k)))) (by omega) (by omega) hB2 (hF.setN rfl) hV2)
                      · refine am_iconst (q := 136) (n := (-1)) (by decide) (am_tab tk_X3_readList 80 rfl) rfl ?_
                        refine am_iret (Or.inl rfl) (Nat.le_of_ble_eq_true rfl) (Nat.le_of_ble_eq_true rfl) (am_tab tk_X3_readList 81 rfl) ?_
                        refine hQ _ _ ?_
                        exact ⟨Or.inr ⟨asC_b (k := k) (by omega) (asB_t (by unfold aV; omega)), rfl⟩, hF⟩
          refine am_less (by intro q hq; simp only [List.mem_cons, List.not_mem_nil, or_false] at hq; rcases hq with rfl | rfl | rfl | rfl | rfl | rfl | rfl | rfl | rfl <;> simp [aLast]) (L56 (_ + 1) 0 S (by exact Nat.lt_succ_self _) (Nat.zero_le _) rfl (frw.refl _ S) hz)
        · refine am_iconst (q := 49) (n := (-1)) (by decide) (am_tab tk_X3_readList 29 rfl) rfl ?_
          refine am_iret (Or.inl rfl) (Nat.le_of_ble_eq_true rfl) (Nat.le_of_ble_eq_true rfl) (am_tab tk_X3_readList 30 rfl) ?_
          refine hQ _ _ ?_
          exact ⟨Or.inr ⟨asC_f (by omega), rfl⟩, frw.refl _ S⟩
    · refine am_iconst (q := 19) (n := (-1)) (by decide) (am_tab tk_X3_readList 10 rfl) rfl ?_
      refine am_iret (Or.inl rfl) (Nat.le_of_ble_eq_true rfl) (Nat.le_of_ble_eq_true rfl) (am_tab tk_X3_readList 11 rfl) ?_
      refine hQ _ _ ?_
      exact ⟨Or.inr ⟨asC_f (by omega), rfl⟩, frw.refl _ S⟩
set_option maxRecDepth 100000 in
theorem c_readHead_15 (σ S : am_H) (hL : lay S) (hb : ∀ j, S.2.1 2 j = σ.2.1 56 j) (hTR : TPR σ) (hG : GD σ) (hTW : TWr 15 S σ)   : am_met M_X3_readHead [am_r 2, am_r 15, am_r 37] S (fun r σ' => r = some (am_i (if HC1 σ then 1 else 0)) ∧ σ' = am_setN (am_setN (am_setN (am_setN S 37 0 ((σ.2.1 56 0 * 256) + σ.2.1 56 1)) 37 1 (σ.2.1 56 2)) 37 2 (σ.2.1 56 3)) 37 3 (((σ.2.1 56 4 * 65536) + (σ.2.1 56 5 * 256)) + σ.2.1 56 6)) := by
  refine am_qq (fun Q hQ => ?_)
  refine am_enter (show plainFor yX3_readHead = true by decide +kernel) rfl (Nat.le_of_ble_eq_true rfl) (fun _ _ _ => trivial) ?_
  have b0 := hTR.2 0 (by decide)
  have b1 := hTR.2 1 (by decide)
  have b2 := hTR.2 2 (by decide)
  have b3 := hTR.2 3 (by decide)
  have b4 := hTR.2 4 (by decide)
  have b5 := hTR.2 5 (by decide)
  have b6 := hTR.2 6 (by decide)
  refine am_aload_n (q := 1) rfl (am_tab tk_X3_readHead 0 rfl) rfl ?_
  refine am_aload_n (q := 2) rfl (am_tab tk_X3_readHead 1 rfl) rfl ?_
  refine am_iconst (q := 3) (n := 0) (by decide) (am_tab tk_X3_readHead 2 rfl) rfl ?_
  refine am_iald (q := 4) (a := 2) (n := 1600) (x := (σ.2.1 56 0)) (Ls_2 hL) (by omega) (by omega) (hb 0) (am_tab tk_X3_readHead 3 rfl) rfl ?_
  refine am_sipush (q := 7) (n := 256) (by decide) rfl (am_tab tk_X3_readHead 4 rfl) rfl ?_
  refine am_imul (q := 8) (by omega) (am_tab tk_X3_readHead 5 rfl) rfl ?_
  refine am_aload_n (q := 9) rfl (am_tab tk_X3_readHead 6 rfl) rfl ?_
  refine am_iconst (q := 10) (n := 1) (by decide) (am_tab tk_X3_readHead 7 rfl) rfl ?_
  refine am_iald (q := 11) (a := 2) (n := 1600) (x := (σ.2.1 56 1)) (Ls_2 hL) (by omega) (by omega) (hb 1) (am_tab tk_X3_readHead 8 rfl) rfl ?_
  refine am_iadd (q := 12) (by omega) (am_tab tk_X3_readHead 9 rfl) rfl ?_
  refine am_putI (q := 15) (k := 1) (n := 11) (j := 0) (Ls_37 hL) (by decide) rfl (by decide) (Or.inr (Or.inl ⟨kf_X3_19, rfl⟩)) (am_tab tk_X3_readHead 10 rfl) rfl ?_
  refine am_aload_n (q := 16) rfl (am_tab tk_X3_readHead 11 rfl) rfl ?_
  refine am_aload_n (q := 17) rfl (am_tab tk_X3_readHead 12 rfl) rfl ?_
  refine am_iconst (q := 18) (n := 2) (by decide) (am_tab tk_X3_readHead 13 rfl) rfl ?_
  refine am_iald (q := 19) (a := 2) (n := 1600) (x := (σ.2.1 56 2)) (Ls_2 hL) (by omega) (by omega) (hb 2) (am_tab tk_X3_readHead 14 rfl) rfl ?_
  refine am_putI (q := 22) (k := 1) (n := 11) (j := 1) (Ls_37 hL) (by decide) rfl (by decide) (Or.inr (Or.inl ⟨kf_X3_28, rfl⟩)) (am_tab tk_X3_readHead 15 rfl) rfl ?_
  refine am_aload_n (q := 23) rfl (am_tab tk_X3_readHead 16 rfl) rfl ?_
  refine am_aload_n (q := 24) rfl (am_tab tk_X3_readHead 17 rfl) rfl ?_
  refine am_iconst (q := 25) (n := 3) (by decide) (am_tab tk_X3_readHead 18 rfl) rfl ?_
  refine am_iald (q := 26) (a := 2) (n := 1600) (x := (σ.2.1 56 3)) (Ls_2 hL) (by omega) (by omega) (hb 3) (am_tab tk_X3_readHead 19 rfl) rfl ?_
  refine am_putI (q := 29) (k := 1) (n := 11) (j := 2) (Ls_37 hL) (by decide) rfl (by decide) (Or.inr (Or.inl ⟨kf_X3_31, rfl⟩)) (am_tab tk_X3_readHead 20 rfl) rfl ?_
  refine am_aload_n (q := 30) rfl (am_tab tk_X3_readHead 21 rfl) rfl ?_
  refine am_aload_n (q := 31) rfl (am_tab tk_X3_readHead 22 rfl) rfl ?_
  refine am_iconst (q := 32) (n := 4) (by decide) (am_tab tk_X3_readHead 23 rfl) rfl ?_
  refine am_iald (q := 33) (a := 2) (n := 1600) (x := (σ.2.1 56 4)) (Ls_2 hL) (by omega) (by omega) (hb 4) (am_tab tk_X3_readHead 24 rfl) rfl ?_
  refine am_ldc (q := 35) (n := 65536) (by decide) kk_X3_37 (am_tab tk_X3_readHead 25 rfl) rfl ?_
  refine am_imul (q := 36) (by omega) (am_tab tk_X3_readHead 26 rfl) rfl ?_
  refine am_aload_n (q := 37) rfl (am_tab tk_X3_readHead 27 rfl) rfl ?_
  refine am_iconst (q := 38) (n := 5) (by decide) (am_tab tk_X3_readHead 28 rfl) rfl ?_
  refine am_iald (q := 39) (a := 2) (n := 1600) (x := (σ.2.1 56 5)) (Ls_2 hL) (by omega) (by omega) (hb 5) (am_tab tk_X3_readHead 29 rfl) rfl ?_
  refine am_sipush (q := 42) (n := 256) (by decide) rfl (am_tab tk_X3_readHead 30 rfl) rfl ?_
  refine am_imul (q := 43) (by omega) (am_tab tk_X3_readHead 31 rfl) rfl ?_
  refine am_iadd (q := 44) (by omega) (am_tab tk_X3_readHead 32 rfl) rfl ?_
  refine am_aload_n (q := 45) rfl (am_tab tk_X3_readHead 33 rfl) rfl ?_
  refine am_bipush (q := 47) (n := 6) (by decide) rfl (am_tab tk_X3_readHead 34 rfl) rfl ?_
  refine am_iald (q := 48) (a := 2) (n := 1600) (x := (σ.2.1 56 6)) (Ls_2 hL) (by omega) (by omega) (hb 6) (am_tab tk_X3_readHead 35 rfl) rfl ?_
  refine am_iadd (q := 49) (by omega) (am_tab tk_X3_readHead 36 rfl) rfl ?_
  refine am_putI (q := 52) (k := 1) (n := 11) (j := 3) (Ls_37 hL) (by decide) rfl (by decide) (Or.inr (Or.inl ⟨kf_X3_34, rfl⟩)) (am_tab tk_X3_readHead 37 rfl) rfl ?_
  refine am_aload_n (q := 53) rfl (am_tab tk_X3_readHead 38 rfl) rfl ?_
  refine am_getI (q := 56) (a := 37) (k := 1) (n := 11) (j := 1) (x := (σ.2.1 56 2)) (Ls_37 hL) (by decide) rfl rfl (by decide) (Or.inr kf_X3_28) (am_tab tk_X3_readHead 39 rfl) rfl ?_
  refine am_aload_n (q := 57) rfl (am_tab tk_X3_readHead 40 rfl) rfl ?_
  refine am_getI (q := 60) (a := 15) (k := 8) (n := 17) (j := 0) (x := (σ.2.1 85 9)) (Ls_15 hL) (by decide) rfl hTW.days (by decide) (Or.inr kf_X3_98) (am_tab tk_X3_readHead 41 rfl) rfl ?_
  refine am_icmp_gt (q := 63) (t := 83) (am_tab tk_X3_readHead 42 rfl) (by decide) rfl (fun h60 => ?_) (fun h60 => ?_)
  · refine am_iconst (q := 84) (n := 0) (by decide) (am_tab tk_X3_readHead 53 rfl) rfl ?_
    refine am_istore_n (q := 85) (by decide) (ls2 := [(3, am_i 0), (0, am_r 2), (1, am_r 15), (2, am_r 37)]) rfl (am_tab tk_X3_readHead 54 rfl) rfl ?_
    refine am_aload_n (q := 86) rfl (am_tab tk_X3_readHead 55 rfl) rfl ?_
    refine am_getI (q := 89) (a := 37) (k := 1) (n := 11) (j := 0) (x := (((σ.2.1 56 0) * 256) + (σ.2.1 56 1))) (Ls_37 hL) (by decide) rfl rfl (by decide) (Or.inr kf_X3_19) (am_tab tk_X3_readHead 56 rfl) rfl ?_
    refine am_iconst (q := 90) (n := 1) (by decide) (am_tab tk_X3_readHead 57 rfl) rfl ?_
    refine am_icmp_lt (q := 93) (t := 131) (am_tab tk_X3_readHead 58 rfl) (by decide) rfl (fun h90 => ?_) (fun h90 => ?_)
    · refine am_iconst (q := 132) (n := 0) (by decide) (am_tab tk_X3_readHead 76 rfl) rfl ?_
      refine am_iret (Or.inr ⟨rfl, by first | exact Or.inl rfl | exact Or.inr rfl | omega⟩) (Nat.le_of_ble_eq_true rfl) (Nat.le_of_ble_eq_true rfl) (am_tab tk_X3_readHead 77 rfl) ?_
      refine hQ _ _ ?_
      refine ⟨congrArg (fun z => some (am_i z)) ?_, rfl⟩
      unfold HC1 coT
      first | (rw [if_pos (by omega)]; done) | (rw [if_neg (by omega)]; done)
    · refine am_aload_n (q := 94) rfl (am_tab tk_X3_readHead 59 rfl) rfl ?_
      refine am_getI (q := 97) (a := 37) (k := 1) (n := 11) (j := 0) (x := (((σ.2.1 56 0) * 256) + (σ.2.1 56 1))) (Ls_37 hL) (by decide) rfl rfl (by decide) (Or.inr kf_X3_19) (am_tab tk_X3_readHead 60 rfl) rfl ?_
      refine am_sipush (q := 100) (n := 999) (by decide) rfl (am_tab tk_X3_readHead 61 rfl) rfl ?_
      refine am_icmp_gt (q := 103) (t := 131) (am_tab tk_X3_readHead 62 rfl) (by decide) rfl (fun h100 => ?_) (fun h100 => ?_)
      · refine am_iconst (q := 132) (n := 0) (by decide) (am_tab tk_X3_readHead 76 rfl) rfl ?_
        refine am_iret (Or.inr ⟨rfl, by first | exact Or.inl rfl | exact Or.inr rfl | omega⟩) (Nat.le_of_ble_eq_true rfl) (Nat.le_of_ble_eq_true rfl) (am_tab tk_X3_readHead 77 rfl) ?_
        refine hQ _ _ ?_
        refine ⟨congrArg (fun z => some (am_i z)) ?_, rfl⟩
        unfold HC1 coT
        first | (rw [if_pos (by omega)]; done) | (rw [if_neg (by omega)]; done)
      · refine am_iload_n (q := 104) rfl (am_tab tk_X3_readHead 63 rfl) rfl ?_
        refine am_if_eq (q := 107) (t := 131) (am_tab tk_X3_readHead 64 rfl) (by decide) rfl (fun h104 => ?_) (fun h104 => ?_)
        · refine am_iconst (q := 132) (n := 0) (by decide) (am_tab tk_X3_readHead 76 rfl) rfl ?_
          refine am_iret (Or.inr ⟨rfl, by first | exact Or.inl rfl | exact Or.inr rfl | omega⟩) (Nat.le_of_ble_eq_true rfl) (Nat.le_of_ble_eq_true rfl) (am_tab tk_X3_readHead 77 rfl) ?_
          refine hQ _ _ ?_
          refine ⟨congrArg (fun z => some (am_i z)) ?_, rfl⟩
          unfold HC1 coT
          first | (rw [if_pos (by omega)]; done) | (rw [if_neg (by omega)]; done)
        · exact absurd h104 (by decide)
  · refine am_aload_n (q := 64) rfl (am_tab tk_X3_readHead 43 rfl) rfl ?_
    refine am_getI (q := 67) (a := 37) (k := 1) (n := 11) (j := 1) (x := (σ.2.1 56 2)) (Ls_37 hL) (by decide) rfl rfl (by decide) (Or.inr kf_X3_28) (am_tab tk_X3_readHead 44 rfl) rfl ?_
    refine am_iconst (q := 68) (n := 1) (by decide) (am_tab tk_X3_readHead 45 rfl) rfl ?_
    refine am_icmp_ge (q := 71) (t := 79) (am_tab tk_X3_readHead 46 rfl) (by decide) rfl (fun h68 => ?_) (fun h68 => ?_)
    · refine am_iconst (q := 80) (n := 1) (by decide) (am_tab tk_X3_readHead 51 rfl) rfl ?_
      refine am_goto (t := 84) (am_tab tk_X3_readHead 52 rfl) (by decide) ?_
      refine am_istore_n (q := 85) (by decide) (ls2 := [(3, am_i 1), (0, am_r 2), (1, am_r 15), (2, am_r 37)]) rfl (am_tab tk_X3_readHead 54 rfl) rfl ?_
      refine am_aload_n (q := 86) rfl (am_tab tk_X3_readHead 55 rfl) rfl ?_
      refine am_getI (q := 89) (a := 37) (k := 1) (n := 11) (j := 0) (x := (((σ.2.1 56 0) * 256) + (σ.2.1 56 1))) (Ls_37 hL) (by decide) rfl rfl (by decide) (Or.inr kf_X3_19) (am_tab tk_X3_readHead 56 rfl) rfl ?_
      refine am_iconst (q := 90) (n := 1) (by decide) (am_tab tk_X3_readHead 57 rfl) rfl ?_
      refine am_icmp_lt (q := 93) (t := 131) (am_tab tk_X3_readHead 58 rfl) (by decide) rfl (fun h90 => ?_) (fun h90 => ?_)
      · refine am_iconst (q := 132) (n := 0) (by decide) (am_tab tk_X3_readHead 76 rfl) rfl ?_
        refine am_iret (Or.inr ⟨rfl, by first | exact Or.inl rfl | exact Or.inr rfl | omega⟩) (Nat.le_of_ble_eq_true rfl) (Nat.le_of_ble_eq_true rfl) (am_tab tk_X3_readHead 77 rfl) ?_
        refine hQ _ _ ?_
        refine ⟨congrArg (fun z => some (am_i z)) ?_, rfl⟩
        unfold HC1 coT
        first | (rw [if_pos (by omega)]; done) | (rw [if_neg (by omega)]; done)
      · refine am_aload_n (q := 94) rfl (am_tab tk_X3_readHead 59 rfl) rfl ?_
        refine am_getI (q := 97) (a := 37) (k := 1) (n := 11) (j := 0) (x := (((σ.2.1 56 0) * 256) + (σ.2.1 56 1))) (Ls_37 hL) (by decide) rfl rfl (by decide) (Or.inr kf_X3_19) (am_tab tk_X3_readHead 60 rfl) rfl ?_
        refine am_sipush (q := 100) (n := 999) (by decide) rfl (am_tab tk_X3_readHead 61 rfl) rfl ?_
        refine am_icmp_gt (q := 103) (t := 131) (am_tab tk_X3_readHead 62 rfl) (by decide) rfl (fun h100 => ?_) (fun h100 => ?_)
        · refine am_iconst (q := 132) (n := 0) (by decide) (am_tab tk_X3_readHead 76 rfl) rfl ?_
          refine am_iret (Or.inr ⟨rfl, by first | exact Or.inl rfl | exact Or.inr rfl | omega⟩) (Nat.le_of_ble_eq_true rfl) (Nat.le_of_ble_eq_true rfl) (am_tab tk_X3_readHead 77 rfl) ?_
          refine hQ _ _ ?_
          refine ⟨congrArg (fun z => some (am_i z)) ?_, rfl⟩
          unfold HC1 coT
          first | (rw [if_pos (by omega)]; done) | (rw [if_neg (by omega)]; done)
        · refine am_iload_n (q := 104) rfl (am_tab tk_X3_readHead 63 rfl) rfl ?_
          refine am_if_eq (q := 107) (t := 131) (am_tab tk_X3_readHead 64 rfl) (by decide) rfl (fun h104 => ?_) (fun h104 => ?_)
          · exact absurd h104 (by decide)
          · refine am_aload_n (q := 108) rfl (am_tab tk_X3_readHead 65 rfl) rfl ?_
            refine am_getI (q := 111) (a := 37) (k := 1) (n := 11) (j := 2) (x := (σ.2.1 56 3)) (Ls_37 hL) (by decide) rfl rfl (by decide) (Or.inr kf_X3_31) (am_tab tk_X3_readHead 66 rfl) rfl ?_
            refine am_aload_n (q := 112) rfl (am_tab tk_X3_readHead 67 rfl) rfl ?_
            refine am_getI (q := 115) (a := 37) (k := 1) (n := 11) (j := 1) (x := (σ.2.1 56 2)) (Ls_37 hL) (by decide) rfl rfl (by decide) (Or.inr kf_X3_28) (am_tab tk_X3_readHead 68 rfl) rfl ?_
            refine am_icmp_gt (q := 118) (t := 131) (am_tab tk_X3_readHead 69 rfl) (by decide) rfl (fun h115 => ?_) (fun h115 => ?_)
            · refine am_iconst (q := 132) (n := 0) (by decide) (am_tab tk_X3_readHead 76 rfl) rfl ?_
              refine am_iret (Or.inr ⟨rfl, by first | exact Or.inl rfl | exact Or.inr rfl | omega⟩) (Nat.le_of_ble_eq_true rfl) (Nat.le_of_ble_eq_true rfl) (am_tab tk_X3_readHead 77 rfl) ?_
              refine hQ _ _ ?_
              refine ⟨congrArg (fun z => some (am_i z)) ?_, rfl⟩
              unfold HC1 coT
              first | (rw [if_pos (by omega)]; done) | (rw [if_neg (by omega)]; done)
            · refine am_aload_n (q := 119) rfl (am_tab tk_X3_readHead 70 rfl) rfl ?_
              refine am_getI (q := 122) (a := 37) (k := 1) (n := 11) (j := 3) (x := ((((σ.2.1 56 4) * 65536) + ((σ.2.1 56 5) * 256)) + (σ.2.1 56 6))) (Ls_37 hL) (by decide) rfl rfl (by decide) (Or.inr kf_X3_34) (am_tab tk_X3_readHead 71 rfl) rfl ?_
              refine am_ldc (q := 124) (n := 999999) (by decide) kk_X3_101 (am_tab tk_X3_readHead 72 rfl) rfl ?_
              refine am_icmp_gt (q := 127) (t := 131) (am_tab tk_X3_readHead 73 rfl) (by decide) rfl (fun h124 => ?_) (fun h124 => ?_)
              · refine am_iconst (q := 132) (n := 0) (by decide) (am_tab tk_X3_readHead 76 rfl) rfl ?_
                refine am_iret (Or.inr ⟨rfl, by first | exact Or.inl rfl | exact Or.inr rfl | omega⟩) (Nat.le_of_ble_eq_true rfl) (Nat.le_of_ble_eq_true rfl) (am_tab tk_X3_readHead 77 rfl) ?_
                refine hQ _ _ ?_
                refine ⟨congrArg (fun z => some (am_i z)) ?_, rfl⟩
                unfold HC1 coT
                first | (rw [if_pos (by omega)]; done) | (rw [if_neg (by omega)]; done)
              · refine am_iconst (q := 128) (n := 1) (by decide) (am_tab tk_X3_readHead 74 rfl) rfl ?_
                refine am_goto (t := 132) (am_tab tk_X3_readHead 75 rfl) (by decide) ?_
                refine am_iret (Or.inr ⟨rfl, by first | exact Or.inl rfl | exact Or.inr rfl | omega⟩) (Nat.le_of_ble_eq_true rfl) (Nat.le_of_ble_eq_true rfl) (am_tab tk_X3_readHead 77 rfl) ?_
                refine hQ _ _ ?_
                refine ⟨congrArg (fun z => some (am_i z)) ?_, rfl⟩
                unfold HC1 coT
                first | (rw [if_pos (by omega)]; done) | (rw [if_neg (by omega)]; done)
    · refine am_aload_n (q := 72) rfl (am_tab tk_X3_readHead 47 rfl) rfl ?_
      refine am_getI (q := 75) (a := 37) (k := 1) (n := 11) (j := 0) (x := (((σ.2.1 56 0) * 256) + (σ.2.1 56 1))) (Ls_37 hL) (by decide) rfl rfl (by decide) (Or.inr kf_X3_19) (am_tab tk_X3_readHead 48 rfl) rfl ?_
      refine am_iconst (q := 76) (n := 1) (by decide) (am_tab tk_X3_readHead 49 rfl) rfl ?_
      refine am_icmp_ne (q := 79) (t := 83) (am_tab tk_X3_readHead 50 rfl) (by decide) rfl (fun h76 => ?_) (fun h76 => ?_)
      · refine am_iconst (q := 84) (n := 0) (by decide) (am_tab tk_X3_readHead 53 rfl) rfl ?_
        refine am_istore_n (q := 85) (by decide) (ls2 := [(3, am_i 0), (0, am_r 2), (1, am_r 15), (2, am_r 37)]) rfl (am_tab tk_X3_readHead 54 rfl) rfl ?_
        refine am_aload_n (q := 86) rfl (am_tab tk_X3_readHead 55 rfl) rfl ?_
        refine am_getI (q := 89) (a := 37) (k := 1) (n := 11) (j := 0) (x := (((σ.2.1 56 0) * 256) + (σ.2.1 56 1))) (Ls_37 hL) (by decide) rfl rfl (by decide) (Or.inr kf_X3_19) (am_tab tk_X3_readHead 56 rfl) rfl ?_
        refine am_iconst (q := 90) (n := 1) (by decide) (am_tab tk_X3_readHead 57 rfl) rfl ?_
        refine am_icmp_lt (q := 93) (t := 131) (am_tab tk_X3_readHead 58 rfl) (by decide) rfl (fun h90 => ?_) (fun h90 => ?_)
        · refine am_iconst (q := 132) (n := 0) (by decide) (am_tab tk_X3_readHead 76 rfl) rfl ?_
          refine am_iret (Or.inr ⟨rfl, by first | exact Or.inl rfl | exact Or.inr rfl | omega⟩) (Nat.le_of_ble_eq_true rfl) (Nat.le_of_ble_eq_true rfl) (am_tab tk_X3_readHead 77 rfl) ?_
          refine hQ _ _ ?_
          refine ⟨congrArg (fun z => some (am_i z)) ?_, rfl⟩
          unfold HC1 coT
          first | (rw [if_pos (by omega)]; done) | (rw [if_neg (by omega)]; done)
        · refine am_aload_n (q := 94) rfl (am_tab tk_X3_readHead 59 rfl) rfl ?_
          refine am_getI (q := 97) (a := 37) (k := 1) (n := 11) (j := 0) (x := (((σ.2.1 56 0) * 256) + (σ.2.1 56 1))) (Ls_37 hL) (by decide) rfl rfl (by decide) (Or.inr kf_X3_19) (am_tab tk_X3_readHead 60 rfl) rfl ?_
          refine am_sipush (q := 100) (n := 999) (by decide) rfl (am_tab tk_X3_readHead 61 rfl) rfl ?_
          refine am_icmp_gt (q := 103) (t := 131) (am_tab tk_X3_readHead 62 rfl) (by decide) rfl (fun h100 => ?_) (fun h100 => ?_)
          · refine am_iconst (q := 132) (n := 0) (by decide) (am_tab tk_X3_readHead 76 rfl) rfl ?_
            refine am_iret (Or.inr ⟨rfl, by first | exact Or.inl rfl | exact Or.inr rfl | omega⟩) (Nat.le_of_ble_eq_true rfl) (Nat.le_of_ble_eq_true rfl) (am_tab tk_X3_readHead 77 rfl) ?_
            refine hQ _ _ ?_
            refine ⟨congrArg (fun z => some (am_i z)) ?_, rfl⟩
            unfold HC1 coT
            first | (rw [if_pos (by omega)]; done) | (rw [if_neg (by omega)]; done)
          · refine am_iload_n (q := 104) rfl (am_tab tk_X3_readHead 63 rfl) rfl ?_
            refine am_if_eq (q := 107) (t := 131) (am_tab tk_X3_readHead 64 rfl) (by decide) rfl (fun h104 => ?_) (fun h104 => ?_)
            · refine am_iconst (q := 132) (n := 0) (by decide) (am_tab tk_X3_readHead 76 rfl) rfl ?_
              refine am_iret (Or.inr ⟨rfl, by first | exact Or.inl rfl | exact Or.inr rfl | omega⟩) (Nat.le_of_ble_eq_true rfl) (Nat.le_of_ble_eq_true rfl) (am_tab tk_X3_readHead 77 rfl) ?_
              refine hQ _ _ ?_
              refine ⟨congrArg (fun z => some (am_i z)) ?_, rfl⟩
              unfold HC1 coT
              first | (rw [if_pos (by omega)]; done) | (rw [if_neg (by omega)]; done)
            · exact absurd h104 (by decide)
      · refine am_iconst (q := 80) (n := 1) (by decide) (am_tab tk_X3_readHead 51 rfl) rfl ?_
        refine am_goto (t := 84) (am_tab tk_X3_readHead 52 rfl) (by decide) ?_
        refine am_istore_n (q := 85) (by decide) (ls2 := [(3, am_i 1), (0, am_r 2), (1, am_r 15), (2, am_r 37)]) rfl (am_tab tk_X3_readHead 54 rfl) rfl ?_
        refine am_aload_n (q := 86) rfl (am_tab tk_X3_readHead 55 rfl) rfl ?_
        refine am_getI (q := 89) (a := 37) (k := 1) (n := 11) (j := 0) (x := (((σ.2.1 56 0) * 256) + (σ.2.1 56 1))) (Ls_37 hL) (by decide) rfl rfl (by decide) (Or.inr kf_X3_19) (am_tab tk_X3_readHead 56 rfl) rfl ?_
        refine am_iconst (q := 90) (n := 1) (by decide) (am_tab tk_X3_readHead 57 rfl) rfl ?_
        refine am_icmp_lt (q := 93) (t := 131) (am_tab tk_X3_readHead 58 rfl) (by decide) rfl (fun h90 => ?_) (fun h90 => ?_)
        · refine am_iconst (q := 132) (n := 0) (by decide) (am_tab tk_X3_readHead 76 rfl) rfl ?_
          refine am_iret (Or.inr ⟨rfl, by first | exact Or.inl rfl | exact Or.inr rfl | omega⟩) (Nat.le_of_ble_eq_true rfl) (Nat.le_of_ble_eq_true rfl) (am_tab tk_X3_readHead 77 rfl) ?_
          refine hQ _ _ ?_
          refine ⟨congrArg (fun z => some (am_i z)) ?_, rfl⟩
          unfold HC1 coT
          first | (rw [if_pos (by omega)]; done) | (rw [if_neg (by omega)]; done)
        · refine am_aload_n (q := 94) rfl (am_tab tk_X3_readHead 59 rfl) rfl ?_
          refine am_getI (q := 97) (a := 37) (k := 1) (n := 11) (j := 0) (x := (((σ.2.1 56 0) * 256) + (σ.2.1 56 1))) (Ls_37 hL) (by decide) rfl rfl (by decide) (Or.inr kf_X3_19) (am_tab tk_X3_readHead 60 rfl) rfl ?_
          refine am_sipush (q := 100) (n := 999) (by decide) rfl (am_tab tk_X3_readHead 61 rfl) rfl ?_
          refine am_icmp_gt (q := 103) (t := 131) (am_tab tk_X3_readHead 62 rfl) (by decide) rfl (fun h100 => ?_) (fun h100 => ?_)
          · refine am_iconst (q := 132) (n := 0) (by decide) (am_tab tk_X3_readHead 76 rfl) rfl ?_
            refine am_iret (Or.inr ⟨rfl, by first | exact Or.inl rfl | exact Or.inr rfl | omega⟩) (Nat.le_of_ble_eq_true rfl) (Nat.le_of_ble_eq_true rfl) (am_tab tk_X3_readHead 77 rfl) ?_
            refine hQ _ _ ?_
            refine ⟨congrArg (fun z => some (am_i z)) ?_, rfl⟩
            unfold HC1 coT
            first | (rw [if_pos (by omega)]; done) | (rw [if_neg (by omega)]; done)
          · refine am_iload_n (q := 104) rfl (am_tab tk_X3_readHead 63 rfl) rfl ?_
            refine am_if_eq (q := 107) (t := 131) (am_tab tk_X3_readHead 64 rfl) (by decide) rfl (fun h104 => ?_) (fun h104 => ?_)
            · exact absurd h104 (by decide)
            · refine am_aload_n (q := 108) rfl (am_tab tk_X3_readHead 65 rfl) rfl ?_
              refine am_getI (q := 111) (a := 37) (k := 1) (n := 11) (j := 2) (x := (σ.2.1 56 3)) (Ls_37 hL) (by decide) rfl rfl (by decide) (Or.inr kf_X3_31) (am_tab tk_X3_readHead 66 rfl) rfl ?_
              refine am_aload_n (q := 112) rfl (am_tab tk_X3_readHead 67 rfl) rfl ?_
              refine am_getI (q := 115) (a := 37) (k := 1) (n := 11) (j := 1) (x := (σ.2.1 56 2)) (Ls_37 hL) (by decide) rfl rfl (by decide) (Or.inr kf_X3_28) (am_tab tk_X3_readHead 68 rfl) rfl ?_
              refine am_icmp_gt (q := 118) (t := 131) (am_tab tk_X3_readHead 69 rfl) (by decide) rfl (fun h115 => ?_) (fun h115 => ?_)
              · refine am_iconst (q := 132) (n := 0) (by decide) (am_tab tk_X3_readHead 76 rfl) rfl ?_
                refine am_iret (Or.inr ⟨rfl, by first | exact Or.inl rfl | exact Or.inr rfl | omega⟩) (Nat.le_of_ble_eq_true rfl) (Nat.le_of_ble_eq_true rfl) (am_tab tk_X3_readHead 77 rfl) ?_
                refine hQ _ _ ?_
                refine ⟨congrArg (fun z => some (am_i z)) ?_, rfl⟩
                unfold HC1 coT
                first | (rw [if_pos (by omega)]; done) | (rw [if_neg (by omega)]; done)
              · refine am_aload_n (q := 119) rfl (am_tab tk_X3_readHead 70 rfl) rfl ?_
                refine am_getI (q := 122) (a := 37) (k := 1) (n := 11) (j := 3) (x := ((((σ.2.1 56 4) * 65536) + ((σ.2.1 56 5) * 256)) + (σ.2.1 56 6))) (Ls_37 hL) (by decide) rfl rfl (by decide) (Or.inr kf_X3_34) (am_tab tk_X3_readHead 71 rfl) rfl ?_
                refine am_ldc (q := 124) (n := 999999) (by decide) kk_X3_101 (am_tab tk_X3_readHead 72 rfl) rfl ?_
                refine am_icmp_gt (q := 127) (t := 131) (am_tab tk_X3_readHead 73 rfl) (by decide) rfl (fun h124 => ?_) (fun h124 => ?_)
                · refine am_iconst (q := 132) (n := 0) (by decide) (am_tab tk_X3_readHead 76 rfl) rfl ?_
                  refine am_iret (Or.inr ⟨rfl, by first | exact Or.inl rfl | exact Or.inr rfl | omega⟩) (Nat.le_of_ble_eq_true rfl) (Nat.le_of_ble_eq_true rfl) (am_tab tk_X3_readHead 77 rfl) ?_
                  refine hQ _ _ ?_
                  refine ⟨congrArg (fun z => some (am_i z)) ?_, rfl⟩
                  unfold HC1 coT
                  first | (rw [if_pos (by omega)]; done) | (rw [if_neg (by omega)]; done)
                · refine am_iconst (q := 128) (n := 1) (by decide) (am_tab tk_X3_readHead 74 rfl) rfl ?_
                  refine am_goto (t := 132) (am_tab tk_X3_readHead 75 rfl) (by decide) ?_
                  refine am_iret (Or.inr ⟨rfl, by first | exact Or.inl rfl | exact Or.inr rfl | omega⟩) (Nat.le_of_ble_eq_true rfl) (Nat.le_of_ble_eq_true rfl) (am_tab tk_X3_readHead 77 rfl) ?_
                  refine hQ _ _ ?_
                  refine ⟨congrArg (fun z => some (am_i z)) ?_, rfl⟩
                  unfold HC1 coT
                  first | (rw [if_pos (by omega)]; done) | (rw [if_neg (by omega)]; done)
set_option maxRecDepth 100000 in
theorem c_readPeople_15 (σ S : am_H) (hL : lay S) (hb : ∀ j, S.2.1 2 j = σ.2.1 56 j) (hTR : TPR σ) (hG : GD σ) (hTW : TWr 15 S σ)  (h374 : S.2.1 37 4 = 0) : am_met M_X3_readPeople [am_r 2, am_r 15, am_r 37] S (fun r σ' => ((anyB (hdB σ) (pN σ) = false ∧ r = some (am_i 1) ∧ PPL σ S σ' (pN σ)) ∨ (anyB (hdB σ) (pN σ) = true ∧ r = some (am_i 0))) ∧ frw W_pp S σ') := by
  refine am_qq (fun Q hQ => ?_)
  refine am_enter (show plainFor yX3_readPeople = true by decide +kernel) rfl (Nat.le_of_ble_eq_true rfl) (fun _ _ _ => trivial) ?_
  have h8 := pN_8 hG.R
  have hNe := pN_eq hG.R
  refine am_iconst (q := 1) (n := 0) (by decide) (am_tab tk_X3_readPeople 0 rfl) rfl ?_
  refine am_istore_n (q := 2) (by decide) (ls2 := [(3, am_i 0), (0, am_r 2), (1, am_r 15), (2, am_r 37)]) rfl (am_tab tk_X3_readPeople 1 rfl) rfl ?_
  have L2 : ∀ (n2 : Nat) (k : Nat) (T : am_H), pN σ - k < n2 → k ≤ pN σ → anyB (hdB σ) k = false → PPL σ S T k → am_wp M_X3_readPeople Q 0 0 2 [(0, am_r 2), (1, am_r 15), (2, am_r 37), (3, am_i ((k : Int)))] [] T := by
    intro n2
    induction n2 with
    | zero => intro k T hn2; exact absurd hn2 (Nat.not_lt_zero _)
    | succ n2 ih2 =>
      intro k T hn2 hk hB hP
      have hLT : lay T := hP.1.L hL
      have hTWT : TWr 15 T σ := hTW.fr hP.1 (by unfold W_pp; omega)
      have hbT : ∀ j, T.2.1 2 j = σ.2.1 56 j := fun j => (hP.1.2.2 2 j (by unfold W_pp; omega)).trans (hb j)
      have b7 : k < 8 → 0 ≤ σ.2.1 56 (7 + 2 * k) ∧ σ.2.1 56 (7 + 2 * k) ≤ 255 := fun z => hTR.2 _ (by omega)
      have b8 : k < 8 → 0 ≤ σ.2.1 56 (8 + 2 * k) ∧ σ.2.1 56 (8 + 2 * k) ≤ 255 := fun z => hTR.2 _ (by omega)
      refine am_iload_n (q := 3) rfl (am_tab tk_X3_readPeople 2 rfl) rfl ?_
      refine am_aload_n (q := 4) rfl (am_tab tk_X3_readPeople 3 rfl) rfl ?_
      refine am_getI (q := 7) (a := 15) (k := 8) (n := 17) (j := 2) (x := (σ.2.1 85 5)) (Ls_15 hLT) (by decide) rfl hTWT.people (by decide) (Or.inr kf_X3_38) (am_tab tk_X3_readPeople 4 rfl) rfl ?_
      refine am_icmp_ge (q := 10) (t := 74) (am_tab tk_X3_readPeople 5 rfl) (by decide) rfl (fun h7 => ?_) (fun h7 => ?_)
      · refine am_iconst (q := 75) (n := 1) (by decide) (am_tab tk_X3_readPeople 48 rfl) rfl ?_
        refine am_iret (Or.inr ⟨rfl, by first | exact Or.inl rfl | exact Or.inr rfl | omega⟩) (Nat.le_of_ble_eq_true rfl) (Nat.le_of_ble_eq_true rfl) (am_tab tk_X3_readPeople 49 rfl) ?_
        refine hQ _ _ ?_
        have ek : k = pN σ := by omega
        rw [ek] at hB hP
        exact ⟨Or.inl ⟨hB, rfl, hP⟩, hP.1⟩
      · have hkp : k < pN σ := by omega
        refine am_aload_n (q := 11) rfl (am_tab tk_X3_readPeople 6 rfl) rfl ?_
        refine am_getR (q := 14) (a := 37) (k := 1) (n := 11) (j := 5) (r := some (38)) (Ls_37 hLT) (by decide) rfl (Lr_37_5 hLT) (by decide) (Or.inr kf_X3_43) (am_tab tk_X3_readPeople 7 rfl) rfl ?_
        refine am_iload_n (q := 15) rfl (am_tab tk_X3_readPeople 8 rfl) rfl ?_
        refine am_aload_n (q := 16) rfl (am_tab tk_X3_readPeople 9 rfl) rfl ?_
        refine am_bipush (q := 18) (n := 7) (by decide) rfl (am_tab tk_X3_readPeople 10 rfl) rfl ?_
        refine am_iconst (q := 19) (n := 2) (by decide) (am_tab tk_X3_readPeople 11 rfl) rfl ?_
        refine am_iload_n (q := 20) rfl (am_tab tk_X3_readPeople 12 rfl) rfl ?_
        refine am_imul (q := 21) (by omega) (am_tab tk_X3_readPeople 13 rfl) rfl ?_
        refine am_iadd (q := 22) (by omega) (am_tab tk_X3_readPeople 14 rfl) rfl ?_
        refine am_iald (q := 23) (a := 2) (n := 1600) (x := (σ.2.1 56 (7 + 2 * k))) (Ls_2 hLT) (by omega) (by omega) (by rw [show Int.toNat (7 + (2 * (k : Int))) = 7 + 2 * k by omega]; exact hbT _) (am_tab tk_X3_readPeople 15 rfl) rfl ?_
        refine am_iast (q := 24) (a := 38) (n := 8) (Ls_38 hLT) (by omega) (by omega) (am_tab tk_X3_readPeople 16 rfl) rfl ?_
        refine am_aload_n (q := 25) rfl (am_tab tk_X3_readPeople 17 rfl) rfl ?_
        refine am_bipush (q := 27) (n := 7) (by decide) rfl (am_tab tk_X3_readPeople 18 rfl) rfl ?_
        refine am_iconst (q := 28) (n := 2) (by decide) (am_tab tk_X3_readPeople 19 rfl) rfl ?_
        refine am_iload_n (q := 29) rfl (am_tab tk_X3_readPeople 20 rfl) rfl ?_
        refine am_imul (q := 30) (by omega) (am_tab tk_X3_readPeople 21 rfl) rfl ?_
        refine am_iadd (q := 31) (by omega) (am_tab tk_X3_readPeople 22 rfl) rfl ?_
        refine am_iconst (q := 32) (n := 1) (by decide) (am_tab tk_X3_readPeople 23 rfl) rfl ?_
        refine am_iadd (q := 33) (by omega) (am_tab tk_X3_readPeople 24 rfl) rfl ?_
        refine am_iald (q := 34) (a := 2) (n := 1600) (x := (σ.2.1 56 (8 + 2 * k))) (Ls_2 hLT) (by omega) (by omega) (by rw [show Int.toNat ((7 + (2 * (k : Int))) + 1) = 8 + 2 * k by omega]; exact hbT _) (am_tab tk_X3_readPeople 25 rfl) rfl ?_
        refine am_istore (q := 36) (by decide) (ls2 := [(4, am_i ((σ.2.1 56 (8 + 2 * k)))), (0, am_r 2), (1, am_r 15), (2, am_r 37), (3, am_i ((k : Int)))]) rfl (am_tab tk_X3_readPeople 26 rfl) rfl ?_
        refine am_aload_n (q := 37) rfl (am_tab tk_X3_readPeople 27 rfl) rfl ?_
        refine am_getR (q := 40) (a := 37) (k := 1) (n := 11) (j := 5) (r := some (38)) (Ls_37 hLT) (by decide) rfl (Lr_37_5 hLT) (by decide) (Or.inr kf_X3_43) (am_tab tk_X3_readPeople 28 rfl) rfl ?_
        refine am_iload_n (q := 41) rfl (am_tab tk_X3_readPeople 29 rfl) rfl ?_
        refine am_iald (q := 42) (a := 38) (n := 8) (x := (σ.2.1 56 (7 + 2 * k))) (Ls_38 hLT) (by omega) (by omega) set_eq (am_tab tk_X3_readPeople 30 rfl) rfl ?_
        refine am_bipush (q := 44) (n := 99) (by decide) rfl (am_tab tk_X3_readPeople 31 rfl) rfl ?_
        refine am_icmp_gt (q := 47) (t := 53) (am_tab tk_X3_readPeople 32 rfl) (by decide) rfl (fun h44 => ?_) (fun h44 => ?_)
        · refine am_iconst (q := 54) (n := 0) (by decide) (am_tab tk_X3_readPeople 36 rfl) rfl ?_
          refine am_iret (Or.inr ⟨rfl, by first | exact Or.inl rfl | exact Or.inr rfl | omega⟩) (Nat.le_of_ble_eq_true rfl) (Nat.le_of_ble_eq_true rfl) (am_tab tk_X3_readPeople 37 rfl) ?_
          refine hQ _ _ ?_
          have hbk : hdB σ k = true := decide_eq_true (by omega)
          exact ⟨Or.inr ⟨by rw [anyB_t hbk hkp], rfl⟩, hP.1.setN (Or.inl rfl)⟩
        · refine am_iload (q := 49) rfl (am_tab tk_X3_readPeople 33 rfl) rfl ?_
          refine am_iconst (q := 50) (n := 1) (by decide) (am_tab tk_X3_readPeople 34 rfl) rfl ?_
          refine am_icmp_le (q := 53) (t := 55) (am_tab tk_X3_readPeople 35 rfl) (by decide) rfl (fun h50 => ?_) (fun h50 => ?_)
          · refine am_aload_n (q := 56) rfl (am_tab tk_X3_readPeople 38 rfl) rfl ?_
            refine am_dup (q := 57) rfl (am_tab tk_X3_readPeople 39 rfl) rfl ?_
            refine am_getI (q := 60) (a := 37) (k := 1) (n := 11) (j := 4) (x := (T.2.1 37 4)) (Ls_37 hLT) (by decide) rfl rfl (by decide) (Or.inr kf_X3_46) (am_tab tk_X3_readPeople 40 rfl) rfl ?_
            refine am_iload (q := 62) rfl (am_tab tk_X3_readPeople 41 rfl) rfl ?_
            refine am_iload_n (q := 63) rfl (am_tab tk_X3_readPeople 42 rfl) rfl ?_
            refine am_ishl (q := 64) (am_tab tk_X3_readPeople 43 rfl) rfl ?_
            refine am_ior (q := 65) (am_tab tk_X3_readPeople 44 rfl) rfl ?_
            refine am_putI (q := 68) (k := 1) (n := 11) (j := 4) (Ls_37 hLT) (by decide) rfl (by decide) (Or.inr (Or.inl ⟨kf_X3_46, rfl⟩)) (am_tab tk_X3_readPeople 45 rfl) rfl ?_
            refine am_iinc (q := 71) rfl (by omega) (by decide) (ls2 := [(3, am_i (((k : Int) + 1))), (4, am_i ((σ.2.1 56 (8 + 2 * k)))), (0, am_r 2), (1, am_r 15), (2, am_r 37)]) rfl (am_tab tk_X3_readPeople 46 rfl) rfl ?_
            refine am_goto (t := 2) (am_tab tk_X3_readPeople 47 rfl) (by decide) ?_
            have hbk : hdB σ k = false := decide_eq_false (fun z => z ⟨by omega, by omega⟩)
            have hB2 : anyB (hdB σ) (k + 1) = false := by show (anyB (hdB σ) k || hdB σ k) = false; rw [hB, hbk]; rfl
            have hP2 := hP.on (by omega) (show σ.2.1 56 (8 + 2 * k) = 0 ∨ σ.2.1 56 (8 + 2 * k) = 1 by omega)
            exact am_less (by intro q hq; simp only [List.mem_cons, List.not_mem_nil, or_false] at hq; rcases hq with rfl | rfl | rfl | rfl <;> simp) (ih2 (k + 1) (am_setN (am_setN T 38 (Int.toNat (k : Int)) (σ.2.1 56 (7 + 2 * k))) 37 4 (ao_or (T.2.1 37 4) (ao_shl (σ.2.1 56 (8 + 2 * k)) (k : Int)))) (by omega) (by omega) hB2 hP2)
          · refine am_iconst (q := 54) (n := 0) (by decide) (am_tab tk_X3_readPeople 36 rfl) rfl ?_
            refine am_iret (Or.inr ⟨rfl, by first | exact Or.inl rfl | exact Or.inr rfl | omega⟩) (Nat.le_of_ble_eq_true rfl) (Nat.le_of_ble_eq_true rfl) (am_tab tk_X3_readPeople 37 rfl) ?_
            refine hQ _ _ ?_
            have hbk : hdB σ k = true := decide_eq_true (by omega)
            exact ⟨Or.inr ⟨by rw [anyB_t hbk hkp], rfl⟩, hP.1.setN (Or.inl rfl)⟩
  refine am_less (by intro q hq; simp only [List.mem_cons, List.not_mem_nil, or_false] at hq; rcases hq with rfl | rfl | rfl | rfl <;> simp) (L2 (_ + 1) 0 S (by exact Nat.lt_succ_self _) (Nat.zero_le _) rfl ⟨frw.refl _ S, fun p => (if_neg (Nat.not_lt_zero p)).symm, (by omega), fun p hp => by rw [h374, tb0]; exact (if_neg (Nat.not_lt_zero p)).symm⟩)
set_option maxRecDepth 100000 in
theorem c_readList_15_39 (σ S : am_H) (hL : lay S) (hb : ∀ j, S.2.1 2 j = σ.2.1 56 j) (hTR : TPR σ) (hG : GD σ) (hTW : TWr 15 S σ) (le n : Int) (F : Nat) (hn : S.2.1 1 1 = n) (hnr : 0 ≤ n ∧ n ≤ 1600) (hle : 0 ≤ le ∧ le ≤ 255) (hF0 : F ≤ 100000) (hz : ∀ d : Nat, d < 91 → S.2.1 39 d = 0) : am_met M_X3_readList [am_r 1, am_i ((F : Int)), am_r 15, am_r 39, am_i ((le + 1))] S (fun r σ' => RDL σ S 39 F le n r σ') := by
  refine am_qq (fun Q hQ => ?_)
  refine am_enter (show plainFor yX3_readList = true by decide +kernel) rfl (Nat.le_of_ble_eq_true rfl) (fun _ _ _ => trivial) ?_
  have hY := hG.R.Y
  have hN := hG.R.P
  have bF : F < 1600 → 0 ≤ σ.2.1 56 F ∧ σ.2.1 56 F ≤ 255 := fun z => hTR.2 F z
  have hTWT := hTW
  refine am_aload_n (q := 1) rfl (am_tab tk_X3_readList 0 rfl) rfl ?_
  refine am_getI (q := 4) (a := 1) (k := 6) (n := 2) (j := 1) (x := n) (Ls_1 hL) (by decide) rfl hn (by decide) (Or.inr kf_X3_71) (am_tab tk_X3_readList 1 rfl) rfl ?_
  refine am_iconst (q := 5) (n := 1) (by decide) (am_tab tk_X3_readList 2 rfl) rfl ?_
  refine am_isub (q := 6) (by omega) (am_tab tk_X3_readList 3 rfl) rfl ?_
  refine am_istore (q := 8) (by decide) (ls2 := [(5, am_i ((n - 1))), (0, am_r 1), (1, am_i ((F : Int))), (2, am_r 15), (3, am_r 39), (4, am_i ((le + 1)))]) rfl (am_tab tk_X3_readList 4 rfl) rfl ?_
  refine am_iload_n (q := 9) rfl (am_tab tk_X3_readList 5 rfl) rfl ?_
  refine am_if_lt (q := 12) (t := 18) (am_tab tk_X3_readList 6 rfl) (by decide) rfl (fun h9 => ?_) (fun h9 => ?_)
  · refine am_iconst (q := 19) (n := (-1)) (by decide) (am_tab tk_X3_readList 10 rfl) rfl ?_
    refine am_iret (Or.inl rfl) (Nat.le_of_ble_eq_true rfl) (Nat.le_of_ble_eq_true rfl) (am_tab tk_X3_readList 11 rfl) ?_
    refine hQ _ _ ?_
    exact ⟨Or.inr ⟨asC_f (by omega), rfl⟩, frw.refl _ S⟩
  · refine am_iload_n (q := 13) rfl (am_tab tk_X3_readList 7 rfl) rfl ?_
    refine am_iload (q := 15) rfl (am_tab tk_X3_readList 8 rfl) rfl ?_
    refine am_icmp_lt (q := 18) (t := 20) (am_tab tk_X3_readList 9 rfl) (by decide) rfl (fun h15 => ?_) (fun h15 => ?_)
    · refine am_aload_n (q := 21) rfl (am_tab tk_X3_readList 12 rfl) rfl ?_
      refine am_getR (q := 24) (a := 1) (k := 6) (n := 2) (j := 0) (r := some (2)) (Ls_1 hL) (by decide) rfl (Lr_1_0 hL) (by decide) (Or.inr kf_X3_76) (am_tab tk_X3_readList 13 rfl) rfl ?_
      refine am_iload_n (q := 25) rfl (am_tab tk_X3_readList 14 rfl) rfl ?_
      refine am_iald (q := 26) (a := 2) (n := 1600) (x := (σ.2.1 56 F)) (Ls_2 hL) (by omega) (by omega) (by rw [show Int.toNat (F : Int) = F by omega]; exact hb _) (am_tab tk_X3_readList 15 rfl) rfl ?_
      refine am_istore (q := 28) (by decide) (ls2 := [(6, am_i ((σ.2.1 56 F))), (5, am_i ((n - 1))), (0, am_r 1), (1, am_i ((F : Int))), (2, am_r 15), (3, am_r 39), (4, am_i ((le + 1)))]) rfl (am_tab tk_X3_readList 16 rfl) rfl ?_
      refine am_iload (q := 30) rfl (am_tab tk_X3_readList 17 rfl) rfl ?_
      refine am_bipush (q := 32) (n := 30) (by decide) rfl (am_tab tk_X3_readList 18 rfl) rfl ?_
      refine am_icmp_gt (q := 35) (t := 48) (am_tab tk_X3_readList 19 rfl) (by decide) rfl (fun h32 => ?_) (fun h32 => ?_)
      · refine am_iconst (q := 49) (n := (-1)) (by decide) (am_tab tk_X3_readList 29 rfl) rfl ?_
        refine am_iret (Or.inl rfl) (Nat.le_of_ble_eq_true rfl) (Nat.le_of_ble_eq_true rfl) (am_tab tk_X3_readList 30 rfl) ?_
        refine hQ _ _ ?_
        exact ⟨Or.inr ⟨asC_f (by omega), rfl⟩, frw.refl _ S⟩
      · refine am_iload_n (q := 36) rfl (am_tab tk_X3_readList 20 rfl) rfl ?_
        refine am_iconst (q := 37) (n := 1) (by decide) (am_tab tk_X3_readList 21 rfl) rfl ?_
        refine am_iadd (q := 38) (by omega) (am_tab tk_X3_readList 22 rfl) rfl ?_
        refine am_iconst (q := 39) (n := 2) (by decide) (am_tab tk_X3_readList 23 rfl) rfl ?_
        refine am_iload (q := 41) rfl (am_tab tk_X3_readList 24 rfl) rfl ?_
        refine am_imul (q := 42) (by omega) (am_tab tk_X3_readList 25 rfl) rfl ?_
        refine am_iadd (q := 43) (by omega) (am_tab tk_X3_readList 26 rfl) rfl ?_
        refine am_iload (q := 45) rfl (am_tab tk_X3_readList 27 rfl) rfl ?_
        refine am_icmp_le (q := 48) (t := 50) (am_tab tk_X3_readList 28 rfl) (by decide) rfl (fun h45 => ?_) (fun h45 => ?_)
        · refine am_iconst (q := 51) (n := (-1)) (by decide) (am_tab tk_X3_readList 31 rfl) rfl ?_
          refine am_istore (q := 53) (by decide) (ls2 := [(7, am_i ((-1))), (6, am_i ((σ.2.1 56 F))), (5, am_i ((n - 1))), (0, am_r 1), (1, am_i ((F : Int))), (2, am_r 15), (3, am_r 39), (4, am_i ((le + 1)))]) rfl (am_tab tk_X3_readList 32 rfl) rfl ?_
          refine am_iconst (q := 54) (n := 0) (by decide) (am_tab tk_X3_readList 33 rfl) rfl ?_
          refine am_istore (q := 56) (by decide) (ls2 := [(8, am_i 0), (7, am_i ((-1))), (6, am_i ((σ.2.1 56 F))), (5, am_i ((n - 1))), (0, am_r 1), (1, am_i ((F : Int))), (2, am_r 15), (3, am_r 39), (4, am_i ((le + 1)))]) rfl (am_tab tk_X3_readList 34 rfl) rfl ?_
          have L56 : ∀ (n56 : Nat) (k : Nat) (T : am_H), (σ.2.1 56 F).toNat - k < n56 → k ≤ (σ.2.1 56 F).toNat → anyB (asB σ F le) k = false → frw (fun x _ => x = 39) S T → (∀ d : Nat, d < 91 → T.2.1 39 d = tkF σ F k d) → am_wp M_X3_readList Q 0 0 56 [(0, am_r 1), (1, am_i ((F : Int))), (2, am_r 15), (3, am_r 39), (4, am_i ((le + 1))), (5, am_i ((n - 1))), (6, am_i ((σ.2.1 56 F))), (7, am_i ((aLast σ F k))), (8, am_i ((k : Int)))] [] T := by
            intro n56
            induction n56 with
            | zero => intro k T hn56; exact absurd hn56 (Nat.not_lt_zero _)
            | succ n56 ih56 =>
              intro k T hn56 hk hB hF hV
              have hLT : lay T := hF.L hL
              have hTWT : TWr 15 T σ := hTW.fr hF (by omega)
              have hbT : ∀ j, T.2.1 2 j = σ.2.1 56 j := fun j => (hF.2.2 2 j (by omega)).trans (hb j)
              have bD : F + 1 + 2 * k < 1600 → 0 ≤ aD σ F k ∧ aD σ F k ≤ 255 := fun z => hTR.2 _ z
              have bP : F + 2 + 2 * k < 1600 → 0 ≤ aP σ F k ∧ aP σ F k ≤ 255 := fun z => hTR.2 _ z
              refine am_iload (q := 58) rfl (am_tab tk_X3_readList 35 rfl) rfl ?_
              refine am_iload (q := 60) rfl (am_tab tk_X3_readList 36 rfl) rfl ?_
              refine am_icmp_ge (q := 63) (t := 158) (am_tab tk_X3_readList 37 rfl) (by decide) rfl (fun h60 => ?_) (fun h60 => ?_)
              · refine am_iload_n (q := 159) rfl (am_tab tk_X3_readList 95 rfl) rfl ?_
                refine am_iconst (q := 160) (n := 1) (by decide) (am_tab tk_X3_readList 96 rfl) rfl ?_
                refine am_iadd (q := 161) (by omega) (am_tab tk_X3_readList 97 rfl) rfl ?_
                refine am_iconst (q := 162) (n := 2) (by decide) (am_tab tk_X3_readList 98 rfl) rfl ?_
                refine am_iload (q := 164) rfl (am_tab tk_X3_readList 99 rfl) rfl ?_
                refine am_imul (q := 165) (by omega) (am_tab tk_X3_readList 100 rfl) rfl ?_
                refine am_iadd (q := 166) (by omega) (am_tab tk_X3_readList 101 rfl) rfl ?_
                refine am_iret (Or.inl rfl) (Nat.le_of_ble_eq_true rfl) (Nat.le_of_ble_eq_true rfl) (am_tab tk_X3_readList 102 rfl) ?_
                refine hQ _ _ ?_
                have ek : k = (σ.2.1 56 F).toNat := by omega
                rw [ek] at hB hV
                exact ⟨Or.inl ⟨asC_t (by omega) hB, congrArg (fun z => some (am_i z)) (by omega), hV⟩, hF⟩
              · refine am_aload_n (q := 64) rfl (am_tab tk_X3_readList 38 rfl) rfl ?_
                refine am_getR (q := 67) (a := 1) (k := 6) (n := 2) (j := 0) (r := some (2)) (Ls_1 hLT) (by decide) rfl (Lr_1_0 hLT) (by decide) (Or.inr kf_X3_76) (am_tab tk_X3_readList 39 rfl) rfl ?_
                refine am_iload_n (q := 68) rfl (am_tab tk_X3_readList 40 rfl) rfl ?_
                refine am_iconst (q := 69) (n := 1) (by decide) (am_tab tk_X3_readList 41 rfl) rfl ?_
                refine am_iadd (q := 70) (by omega) (am_tab tk_X3_readList 42 rfl) rfl ?_
                refine am_iconst (q := 71) (n := 2) (by decide) (am_tab tk_X3_readList 43 rfl) rfl ?_
                refine am_iload (q := 73) rfl (am_tab tk_X3_readList 44 rfl) rfl ?_
                refine am_imul (q := 74) (by omega) (am_tab tk_X3_readList 45 rfl) rfl ?_
                refine am_iadd (q := 75) (by omega) (am_tab tk_X3_readList 46 rfl) rfl ?_
                refine am_iald (q := 76) (a := 2) (n := 1600) (x := (aD σ F k)) (Ls_2 hLT) (by omega) (by omega) (by rw [show Int.toNat (((F : Int) + 1) + (2 * (k : Int))) = F + 1 + 2 * k by omega]; exact hbT _) (am_tab tk_X3_readList 47 rfl) rfl ?_
                refine am_istore (q := 78) (by decide) (ls2 := [(9, am_i ((aD σ F k))), (0, am_r 1), (1, am_i ((F : Int))), (2, am_r 15), (3, am_r 39), (4, am_i ((le + 1))), (5, am_i ((n - 1))), (6, am_i ((σ.2.1 56 F))), (7, am_i ((aLast σ F k))), (8, am_i ((k : Int)))]) rfl (am_tab tk_X3_readList 48 rfl) rfl ?_
                refine am_aload_n (q := 79) rfl (am_tab tk_X3_readList 49 rfl) rfl ?_
                refine am_getR (q := 82) (a := 1) (k := 6) (n := 2) (j := 0) (r := some (2)) (Ls_1 hLT) (by decide) rfl (Lr_1_0 hLT) (by decide) (Or.inr kf_X3_76) (am_tab tk_X3_readList 50 rfl) rfl ?_
                refine am_iload_n (q := 83) rfl (am_tab tk_X3_readList 51 rfl) rfl ?_
                refine am_iconst (q := 84) (n := 2) (by decide) (am_tab tk_X3_readList 52 rfl) rfl ?_
                refine am_iadd (q := 85) (by omega) (am_tab tk_X3_readList 53 rfl) rfl ?_
                refine am_iconst (q := 86) (n := 2) (by decide) (am_tab tk_X3_readList 54 rfl) rfl ?_
                refine am_iload (q := 88) rfl (am_tab tk_X3_readList 55 rfl) rfl ?_
                refine am_imul (q := 89) (by omega) (am_tab tk_X3_readList 56 rfl) rfl ?_
                refine am_iadd (q := 90) (by omega) (am_tab tk_X3_readList 57 rfl) rfl ?_
                refine am_iald (q := 91) (a := 2) (n := 1600) (x := (aP σ F k)) (Ls_2 hLT) (by omega) (by omega) (by rw [show Int.toNat (((F : Int) + 2) + (2 * (k : Int))) = F + 2 + 2 * k by omega]; exact hbT _) (am_tab tk_X3_readList 58 rfl) rfl ?_
                refine am_istore (q := 93) (by decide) (ls2 := [(10, am_i ((aP σ F k))), (9, am_i ((aD σ F k))), (0, am_r 1), (1, am_i ((F : Int))), (2, am_r 15), (3, am_r 39), (4, am_i ((le + 1))), (5, am_i ((n - 1))), (6, am_i ((σ.2.1 56 F))), (7, am_i ((aLast σ F k))), (8, am_i ((k : Int)))]) rfl (am_tab tk_X3_readList 59 rfl) rfl ?_
                refine am_iload (q := 95) rfl (am_tab tk_X3_readList 60 rfl) rfl ?_
                refine am_bipush (q := 97) (n := 8) (by decide) rfl (am_tab tk_X3_readList 61 rfl) rfl ?_
                refine am_imul (q := 98) (by omega) (am_tab tk_X3_readList 62 rfl) rfl ?_
                refine am_iload (q := 100) rfl (am_tab tk_X3_readList 63 rfl) rfl ?_
                refine am_iadd (q := 101) (by omega) (am_tab tk_X3_readList 64 rfl) rfl ?_
                refine am_istore (q := 103) (by decide) (ls2 := [(11, am_i ((((aD σ F k) * 8) + (aP σ F k)))), (10, am_i ((aP σ F k))), (9, am_i ((aD σ F k))), (0, am_r 1), (1, am_i ((F : Int))), (2, am_r 15), (3, am_r 39), (4, am_i ((le + 1))), (5, am_i ((n - 1))), (6, am_i ((σ.2.1 56 F))), (7, am_i ((aLast σ F k))), (8, am_i ((k : Int)))]) rfl (am_tab tk_X3_readList 65 rfl) rfl ?_
                refine am_iload (q := 105) rfl (am_tab tk_X3_readList 66 rfl) rfl ?_
                refine am_iload (q := 107) rfl (am_tab tk_X3_readList 67 rfl) rfl ?_
                refine am_icmp_lt (q := 110) (t := 135) (am_tab tk_X3_readList 68 rfl) (by decide) rfl (fun h107 => ?_) (fun h107 => ?_)
                · refine am_iconst (q := 136) (n := (-1)) (by decide) (am_tab tk_X3_readList 80 rfl) rfl ?_
                  refine am_iret (Or.inl rfl) (Nat.le_of_ble_eq_true rfl) (Nat.le_of_ble_eq_true rfl) (am_tab tk_X3_readList 81 rfl) ?_
                  refine hQ _ _ ?_
                  exact ⟨Or.inr ⟨asC_b (k := k) (by omega) (asB_t (by unfold aV; omega)), rfl⟩, hF⟩
                · refine am_iload (q := 112) rfl (am_tab tk_X3_readList 69 rfl) rfl ?_
                  refine am_aload_n (q := 113) rfl (am_tab tk_X3_readList 70 rfl) rfl ?_
                  refine am_getI (q := 116) (a := 15) (k := 8) (n := 17) (j := 0) (x := (σ.2.1 85 9)) (Ls_15 hLT) (by decide) rfl (hTWT.days) (by decide) (Or.inr kf_X3_98) (am_tab tk_X3_readList 71 rfl) rfl ?_
                  refine am_icmp_gt (q := 119) (t := 135) (am_tab tk_X3_readList 72 rfl) (by decide) rfl (fun h116 => ?_) (fun h116 => ?_)
                  · refine am_iconst (q := 136) (n := (-1)) (by decide) (am_tab tk_X3_readList 80 rfl) rfl ?_
                    refine am_iret (Or.inl rfl) (Nat.le_of_ble_eq_true rfl) (Nat.le_of_ble_eq_true rfl) (am_tab tk_X3_readList 81 rfl) ?_
                    refine hQ _ _ ?_
                    exact ⟨Or.inr ⟨asC_b (k := k) (by omega) (asB_t (by unfold aV; omega)), rfl⟩, hF⟩
                  · refine am_iload (q := 121) rfl (am_tab tk_X3_readList 73 rfl) rfl ?_
                    refine am_aload_n (q := 122) rfl (am_tab tk_X3_readList 74 rfl) rfl ?_
                    refine am_getI (q := 125) (a := 15) (k := 8) (n := 17) (j := 2) (x := (σ.2.1 85 5)) (Ls_15 hLT) (by decide) rfl (hTWT.people) (by decide) (Or.inr kf_X3_38) (am_tab tk_X3_readList 75 rfl) rfl ?_
                    refine am_icmp_ge (q := 128) (t := 135) (am_tab tk_X3_readList 76 rfl) (by decide) rfl (fun h125 => ?_) (fun h125 => ?_)
                    · refine am_iconst (q := 136) (n := (-1)) (by decide) (am_tab tk_X3_readList 80 rfl) rfl ?_
                      refine am_iret (Or.inl rfl) (Nat.le_of_ble_eq_true rfl) (Nat.le_of_ble_eq_true rfl) (am_tab tk_X3_readList 81 rfl) ?_
                      refine hQ _ _ ?_
                      exact ⟨Or.inr ⟨asC_b (k := k) (by omega) (asB_t (by unfold aV; omega)), rfl⟩, hF⟩
                    · refine am_iload (q := 130) rfl (am_tab tk_X3_readList 77 rfl) rfl ?_
                      refine am_iload (q := 132) rfl (am_tab tk_X3_readList 78 rfl) rfl ?_
                      refine am_icmp_gt (q := 135) (t := 137) (am_tab tk_X3_readList 79 rfl) (by decide) rfl (fun h132 => ?_) (fun h132 => ?_)
                      · refine am_aload_n (q := 138) rfl (am_tab tk_X3_readList 82 rfl) rfl ?_
                        refine am_iload (q := 140) rfl (am_tab tk_X3_readList 83 rfl) rfl ?_
                        refine am_dup2 (q := 141) rfl rfl (am_tab tk_X3_readList 84 rfl) rfl ?_
                        refine am_iald (q := 142) (a := 39) (n := 91) (x := (T.2.1 39 (Int.toNat (aD σ F k)))) (Ls_39 hLT) (by omega) (by omega) rfl (am_tab tk_X3_readList 85 rfl) rfl ?_
                        refine am_iconst (q := 143) (n := 1) (by decide) (am_tab tk_X3_readList 86 rfl) rfl ?_
                        refine am_iload (q := 145) rfl (am_tab tk_X3_readList 87 rfl) rfl ?_
                        refine am_ishl (q := 146) (am_tab tk_X3_readList 88 rfl) rfl ?_
                        refine am_ior (q := 147) (am_tab tk_X3_readList 89 rfl) rfl ?_
                        refine am_iast (q := 148) (a := 39) (n := 91) (Ls_39 hLT) (by omega) (by omega) (am_tab tk_X3_readList 90 rfl) rfl ?_
                        refine am_iload (q := 150) rfl (am_tab tk_X3_readList 91 rfl) rfl ?_
                        refine am_istore (q := 152) (by decide) (ls2 := [(7, am_i ((((aD σ F k) * 8) + (aP σ F k)))), (11, am_i ((((aD σ F k) * 8) + (aP σ F k)))), (10, am_i ((aP σ F k))), (9, am_i ((aD σ F k))), (0, am_r 1), (1, am_i ((F : Int))), (2, am_r 15), (3, am_r 39), (4, am_i ((le + 1))), (5, am_i ((n - 1))), (6, am_i ((σ.2.1 56 F))), (8, am_i ((k : Int)))]) rfl (am_tab tk_X3_readList 92 rfl) rfl ?_
                        refine am_iinc (q := 155) rfl (by omega) (by decide) (ls2 := [(8, am_i (((k : Int) + 1))), (7, am_i ((((aD σ F k) * 8) + (aP σ F k)))), (11, am_i ((((aD σ F k) * 8) + (aP σ F k)))), (10, am_i ((aP σ F k))), (9, am_i ((aD σ F k))), (0, am_r 1), (1, am_i ((F : Int))), (2, am_r 15), (3, am_r 39), (4, am_i ((le + 1))), (5, am_i ((n - 1))), (6, am_i ((σ.2.1 56 F)))]) rfl (am_tab tk_X3_readList 93 rfl) rfl ?_
                        refine am_goto (t := 56) (am_tab tk_X3_readList 94 rfl) (by decide) ?_
                        have hbk : asB σ F le k = false := asB_f (by unfold aV; omega)
                        have hB2 : anyB (asB σ F le) (k + 1) = false := by show (anyB (asB σ F le) k || asB σ F le k) = false; rw [hB, hbk]; rfl
                        have hV2 : ∀ d : Nat, d < 91 → (am_setN T 39 (Int.toNat (aD σ F k)) (ao_or (T.2.1 39 (Int.toNat (aD σ F k))) (ao_shl 1 (aP σ F k)))).2.1 39 d = tkF σ F (k + 1) d := fun d hd => by
                          show _ = if (d : Int) = aD σ F k then ao_or (tkF σ F k d) (ao_shl 1 (aP σ F k)) else tkF σ F k d
                          by_cases g : (d : Int) = aD σ F k
                          · rw [if_pos g, ← hV d hd, show d = (aD σ F k).toNat by omega]; exact set_eq
                          · rw [if_neg g, ← hV d hd]; exact set_nn (by omega)
                        have he : aLast σ F (k + 1) = (((aD σ F k) * 8) + (aP σ F k)) := by show 8 * aD σ F k + aP σ F k = _; omega
                        exact am_less (by intro q hq; simp only [List.mem_cons, List.not_mem_nil, or_false] at hq; rcases hq with rfl | rfl | rfl | rfl | rfl | rfl | rfl | rfl | rfl <;> simp [he]) (ih56 (k + 1) (am_setN T 39 (Int.toNat (aD σ F k)) (ao_or (T.2.1 39 (Int.toNat (aD σ F k))) (ao_shl 1 (aP σ F k)))) (by omega) (by omega) hB2 (hF.setN rfl) hV2)
                      · refine am_iconst (q := 136) (n := (-1)) (by decide) (am_tab tk_X3_readList 80 rfl) rfl ?_
                        refine am_iret (Or.inl rfl) (Nat.le_of_ble_eq_true rfl) (Nat.le_of_ble_eq_true rfl) (am_tab tk_X3_readList 81 rfl) ?_
                        refine hQ _ _ ?_
                        exact ⟨Or.inr ⟨asC_b (k := k) (by omega) (asB_t (by unfold aV; omega)), rfl⟩, hF⟩
          refine am_less (by intro q hq; simp only [List.mem_cons, List.not_mem_nil, or_false] at hq; rcases hq with rfl | rfl | rfl | rfl | rfl | rfl | rfl | rfl | rfl <;> simp [aLast]) (L56 (_ + 1) 0 S (by exact Nat.lt_succ_self _) (Nat.zero_le _) rfl (frw.refl _ S) hz)
        · refine am_iconst (q := 49) (n := (-1)) (by decide) (am_tab tk_X3_readList 29 rfl) rfl ?_
          refine am_iret (Or.inl rfl) (Nat.le_of_ble_eq_true rfl) (Nat.le_of_ble_eq_true rfl) (am_tab tk_X3_readList 30 rfl) ?_
          refine hQ _ _ ?_
          exact ⟨Or.inr ⟨asC_f (by omega), rfl⟩, frw.refl _ S⟩
    · refine am_iconst (q := 19) (n := (-1)) (by decide) (am_tab tk_X3_readList 10 rfl) rfl ?_
      refine am_iret (Or.inl rfl) (Nat.le_of_ble_eq_true rfl) (Nat.le_of_ble_eq_true rfl) (am_tab tk_X3_readList 11 rfl) ?_
      refine hQ _ _ ?_
      exact ⟨Or.inr ⟨asC_f (by omega), rfl⟩, frw.refl _ S⟩
set_option maxRecDepth 100000 in
theorem c_readList_15_40 (σ S : am_H) (hL : lay S) (hb : ∀ j, S.2.1 2 j = σ.2.1 56 j) (hTR : TPR σ) (hG : GD σ) (hTW : TWr 15 S σ) (le n : Int) (F : Nat) (hn : S.2.1 1 1 = n) (hnr : 0 ≤ n ∧ n ≤ 1600) (hle : 0 ≤ le ∧ le ≤ 255) (hF0 : F ≤ 100000) (hz : ∀ d : Nat, d < 91 → S.2.1 40 d = 0) : am_met M_X3_readList [am_r 1, am_i ((F : Int)), am_r 15, am_r 40, am_i ((le + 1))] S (fun r σ' => RDL σ S 40 F le n r σ') := by
  refine am_qq (fun Q hQ => ?_)
  refine am_enter (show plainFor yX3_readList = true by decide +kernel) rfl (Nat.le_of_ble_eq_true rfl) (fun _ _ _ => trivial) ?_
  have hY := hG.R.Y
  have hN := hG.R.P
  have bF : F < 1600 → 0 ≤ σ.2.1 56 F ∧ σ.2.1 56 F ≤ 255 := fun z => hTR.2 F z
  have hTWT := hTW
  refine am_aload_n (q := 1) rfl (am_tab tk_X3_readList 0 rfl) rfl ?_
  refine am_getI (q := 4) (a := 1) (k := 6) (n := 2) (j := 1) (x := n) (Ls_1 hL) (by decide) rfl hn (by decide) (Or.inr kf_X3_71) (am_tab tk_X3_readList 1 rfl) rfl ?_
  refine am_iconst (q := 5) (n := 1) (by decide) (am_tab tk_X3_readList 2 rfl) rfl ?_
  refine am_isub (q := 6) (by omega) (am_tab tk_X3_readList 3 rfl) rfl ?_
  refine am_istore (q := 8) (by decide) (ls2 := [(5, am_i ((n - 1))), (0, am_r 1), (1, am_i ((F : Int))), (2, am_r 15), (3, am_r 40), (4, am_i ((le + 1)))]) rfl (am_tab tk_X3_readList 4 rfl) rfl ?_
  refine am_iload_n (q := 9) rfl (am_tab tk_X3_readList 5 rfl) rfl ?_
  refine am_if_lt (q := 12) (t := 18) (am_tab tk_X3_readList 6 rfl) (by decide) rfl (fun h9 => ?_) (fun h9 => ?_)
  · refine am_iconst (q := 19) (n := (-1)) (by decide) (am_tab tk_X3_readList 10 rfl) rfl ?_
    refine am_iret (Or.inl rfl) (Nat.le_of_ble_eq_true rfl) (Nat.le_of_ble_eq_true rfl) (am_tab tk_X3_readList 11 rfl) ?_
    refine hQ _ _ ?_
    exact ⟨Or.inr ⟨asC_f (by omega), rfl⟩, frw.refl _ S⟩
  · refine am_iload_n (q := 13) rfl (am_tab tk_X3_readList 7 rfl) rfl ?_
    refine am_iload (q := 15) rfl (am_tab tk_X3_readList 8 rfl) rfl ?_
    refine am_icmp_lt (q := 18) (t := 20) (am_tab tk_X3_readList 9 rfl) (by decide) rfl (fun h15 => ?_) (fun h15 => ?_)
    · refine am_aload_n (q := 21) rfl (am_tab tk_X3_readList 12 rfl) rfl ?_
      refine am_getR (q := 24) (a := 1) (k := 6) (n := 2) (j := 0) (r := some (2)) (Ls_1 hL) (by decide) rfl (Lr_1_0 hL) (by decide) (Or.inr kf_X3_76) (am_tab tk_X3_readList 13 rfl) rfl ?_
      refine am_iload_n (q := 25) rfl (am_tab tk_X3_readList 14 rfl) rfl ?_
      refine am_iald (q := 26) (a := 2) (n := 1600) (x := (σ.2.1 56 F)) (Ls_2 hL) (by omega) (by omega) (by rw [show Int.toNat (F : Int) = F by omega]; exact hb _) (am_tab tk_X3_readList 15 rfl) rfl ?_
      refine am_istore (q := 28) (by decide) (ls2 := [(6, am_i ((σ.2.1 56 F))), (5, am_i ((n - 1))), (0, am_r 1), (1, am_i ((F : Int))), (2, am_r 15), (3, am_r 40), (4, am_i ((le + 1)))]) rfl (am_tab tk_X3_readList 16 rfl) rfl ?_
      refine am_iload (q := 30) rfl (am_tab tk_X3_readList 17 rfl) rfl ?_
      refine am_bipush (q := 32) (n := 30) (by decide) rfl (am_tab tk_X3_readList 18 rfl) rfl ?_
      refine am_icmp_gt (q := 35) (t := 48) (am_tab tk_X3_readList 19 rfl) (by decide) rfl (fun h32 => ?_) (fun h32 => ?_)
      · refine am_iconst (q := 49) (n := (-1)) (by decide) (am_tab tk_X3_readList 29 rfl) rfl ?_
        refine am_iret (Or.inl rfl) (Nat.le_of_ble_eq_true rfl) (Nat.le_of_ble_eq_true rfl) (am_tab tk_X3_readList 30 rfl) ?_
        refine hQ _ _ ?_
        exact ⟨Or.inr ⟨asC_f (by omega), rfl⟩, frw.refl _ S⟩
      · refine am_iload_n (q := 36) rfl (am_tab tk_X3_readList 20 rfl) rfl ?_
        refine am_iconst (q := 37) (n := 1) (by decide) (am_tab tk_X3_readList 21 rfl) rfl ?_
        refine am_iadd (q := 38) (by omega) (am_tab tk_X3_readList 22 rfl) rfl ?_
        refine am_iconst (q := 39) (n := 2) (by decide) (am_tab tk_X3_readList 23 rfl) rfl ?_
        refine am_iload (q := 41) rfl (am_tab tk_X3_readList 24 rfl) rfl ?_
        refine am_imul (q := 42) (by omega) (am_tab tk_X3_readList 25 rfl) rfl ?_
        refine am_iadd (q := 43) (by omega) (am_tab tk_X3_readList 26 rfl) rfl ?_
        refine am_iload (q := 45) rfl (am_tab tk_X3_readList 27 rfl) rfl ?_
        refine am_icmp_le (q := 48) (t := 50) (am_tab tk_X3_readList 28 rfl) (by decide) rfl (fun h45 => ?_) (fun h45 => ?_)
        · refine am_iconst (q := 51) (n := (-1)) (by decide) (am_tab tk_X3_readList 31 rfl) rfl ?_
          refine am_istore (q := 53) (by decide) (ls2 := [(7, am_i ((-1))), (6, am_i ((σ.2.1 56 F))), (5, am_i ((n - 1))), (0, am_r 1), (1, am_i ((F : Int))), (2, am_r 15), (3, am_r 40), (4, am_i ((le + 1)))]) rfl (am_tab tk_X3_readList 32 rfl) rfl ?_
          refine am_iconst (q := 54) (n := 0) (by decide) (am_tab tk_X3_readList 33 rfl) rfl ?_
          refine am_istore (q := 56) (by decide) (ls2 := [(8, am_i 0), (7, am_i ((-1))), (6, am_i ((σ.2.1 56 F))), (5, am_i ((n - 1))), (0, am_r 1), (1, am_i ((F : Int))), (2, am_r 15), (3, am_r 40), (4, am_i ((le + 1)))]) rfl (am_tab tk_X3_readList 34 rfl) rfl ?_
          have L56 : ∀ (n56 : Nat) (k : Nat) (T : am_H), (σ.2.1 56 F).toNat - k < n56 → k ≤ (σ.2.1 56 F).toNat → anyB (asB σ F le) k = false → frw (fun x _ => x = 40) S T → (∀ d : Nat, d < 91 → T.2.1 40 d = tkF σ F k d) → am_wp M_X3_readList Q 0 0 56 [(0, am_r 1), (1, am_i ((F : Int))), (2, am_r 15), (3, am_r 40), (4, am_i ((le + 1))), (5, am_i ((n - 1))), (6, am_i ((σ.2.1 56 F))), (7, am_i ((aLast σ F k))), (8, am_i ((k : Int)))] [] T := by
            intro n56
            induction n56 with
            | zero => intro k T hn56; exact absurd hn56 (Nat.not_lt_zero _)
            | succ n56 ih56 =>
              intro k T hn56 hk hB hF hV
              have hLT : lay T := hF.L hL
              have hTWT : TWr 15 T σ := hTW.fr hF (by omega)
              have hbT : ∀ j, T.2.1 2 j = σ.2.1 56 j := fun j => (hF.2.2 2 j (by omega)).trans (hb j)
              have bD : F + 1 + 2 * k < 1600 → 0 ≤ aD σ F k ∧ aD σ F k ≤ 255 := fun z => hTR.2 _ z
              have bP : F + 2 + 2 * k < 1600 → 0 ≤ aP σ F k ∧ aP σ F k ≤ 255 := fun z => hTR.2 _ z
              refine am_iload (q := 58) rfl (am_tab tk_X3_readList 35 rfl) rfl ?_
              refine am_iload (q := 60) rfl (am_tab tk_X3_readList 36 rfl) rfl ?_
              refine am_icmp_ge (q := 63) (t := 158) (am_tab tk_X3_readList 37 rfl) (by decide) rfl (fun h60 => ?_) (fun h60 => ?_)
              · refine am_iload_n (q := 159) rfl (am_tab tk_X3_readList 95 rfl) rfl ?_
                refine am_iconst (q := 160) (n := 1) (by decide) (am_tab tk_X3_readList 96 rfl) rfl ?_
                refine am_iadd (q := 161) (by omega) (am_tab tk_X3_readList 97 rfl) rfl ?_
                refine am_iconst (q := 162) (n := 2) (by decide) (am_tab tk_X3_readList 98 rfl) rfl ?_
                refine am_iload (q := 164) rfl (am_tab tk_X3_readList 99 rfl) rfl ?_
                refine am_imul (q := 165) (by omega) (am_tab tk_X3_readList 100 rfl) rfl ?_
                refine am_iadd (q := 166) (by omega) (am_tab tk_X3_readList 101 rfl) rfl ?_
                refine am_iret (Or.inl rfl) (Nat.le_of_ble_eq_true rfl) (Nat.le_of_ble_eq_true rfl) (am_tab tk_X3_readList 102 rfl) ?_
                refine hQ _ _ ?_
                have ek : k = (σ.2.1 56 F).toNat := by omega
                rw [ek] at hB hV
                exact ⟨Or.inl ⟨asC_t (by omega) hB, congrArg (fun z => some (am_i z)) (by omega), hV⟩, hF⟩
              · refine am_aload_n (q := 64) rfl (am_tab tk_X3_readList 38 rfl) rfl ?_
                refine am_getR (q := 67) (a := 1) (k := 6) (n := 2) (j := 0) (r := some (2)) (Ls_1 hLT) (by decide) rfl (Lr_1_0 hLT) (by decide) (Or.inr kf_X3_76) (am_tab tk_X3_readList 39 rfl) rfl ?_
                refine am_iload_n (q := 68) rfl (am_tab tk_X3_readList 40 rfl) rfl ?_
                refine am_iconst (q := 69) (n := 1) (by decide) (am_tab tk_X3_readList 41 rfl) rfl ?_
                refine am_iadd (q := 70) (by omega) (am_tab tk_X3_readList 42 rfl) rfl ?_
                refine am_iconst (q := 71) (n := 2) (by decide) (am_tab tk_X3_readList 43 rfl) rfl ?_
                refine am_iload (q := 73) rfl (am_tab tk_X3_readList 44 rfl) rfl ?_
                refine am_imul (q := 74) (by omega) (am_tab tk_X3_readList 45 rfl) rfl ?_
                refine am_iadd (q := 75) (by omega) (am_tab tk_X3_readList 46 rfl) rfl ?_
                refine am_iald (q := 76) (a := 2) (n := 1600) (x := (aD σ F k)) (Ls_2 hLT) (by omega) (by omega) (by rw [show Int.toNat (((F : Int) + 1) + (2 * (k : Int))) = F + 1 + 2 * k by omega]; exact hbT _) (am_tab tk_X3_readList 47 rfl) rfl ?_
                refine am_istore (q := 78) (by decide) (ls2 := [(9, am_i ((aD σ F k))), (0, am_r 1), (1, am_i ((F : Int))), (2, am_r 15), (3, am_r 40), (4, am_i ((le + 1))), (5, am_i ((n - 1))), (6, am_i ((σ.2.1 56 F))), (7, am_i ((aLast σ F k))), (8, am_i ((k : Int)))]) rfl (am_tab tk_X3_readList 48 rfl) rfl ?_
                refine am_aload_n (q := 79) rfl (am_tab tk_X3_readList 49 rfl) rfl ?_
                refine am_getR (q := 82) (a := 1) (k := 6) (n := 2) (j := 0) (r := some (2)) (Ls_1 hLT) (by decide) rfl (Lr_1_0 hLT) (by decide) (Or.inr kf_X3_76) (am_tab tk_X3_readList 50 rfl) rfl ?_
                refine am_iload_n (q := 83) rfl (am_tab tk_X3_readList 51 rfl) rfl ?_
                refine am_iconst (q := 84) (n := 2) (by decide) (am_tab tk_X3_readList 52 rfl) rfl ?_
                refine am_iadd (q := 85) (by omega) (am_tab tk_X3_readList 53 rfl) rfl ?_
                refine am_iconst (q := 86) (n := 2) (by decide) (am_tab tk_X3_readList 54 rfl) rfl ?_
                refine am_iload (q := 88) rfl (am_tab tk_X3_readList 55 rfl) rfl ?_
                refine am_imul (q := 89) (by omega) (am_tab tk_X3_readList 56 rfl) rfl ?_
                refine am_iadd (q := 90) (by omega) (am_tab tk_X3_readList 57 rfl) rfl ?_
                refine am_iald (q := 91) (a := 2) (n := 1600) (x := (aP σ F k)) (Ls_2 hLT) (by omega) (by omega) (by rw [show Int.toNat (((F : Int) + 2) + (2 * (k : Int))) = F + 2 + 2 * k by omega]; exact hbT _) (am_tab tk_X3_readList 58 rfl) rfl ?_
                refine am_istore (q := 93) (by decide) (ls2 := [(10, am_i ((aP σ F k))), (9, am_i ((aD σ F k))), (0, am_r 1), (1, am_i ((F : Int))), (2, am_r 15), (3, am_r 40), (4, am_i ((le + 1))), (5, am_i ((n - 1))), (6, am_i ((σ.2.1 56 F))), (7, am_i ((aLast σ F k))), (8, am_i ((k : Int)))]) rfl (am_tab tk_X3_readList 59 rfl) rfl ?_
                refine am_iload (q := 95) rfl (am_tab tk_X3_readList 60 rfl) rfl ?_
                refine am_bipush (q := 97) (n := 8) (by decide) rfl (am_tab tk_X3_readList 61 rfl) rfl ?_
                refine am_imul (q := 98) (by omega) (am_tab tk_X3_readList 62 rfl) rfl ?_
                refine am_iload (q := 100) rfl (am_tab tk_X3_readList 63 rfl) rfl ?_
                refine am_iadd (q := 101) (by omega) (am_tab tk_X3_readList 64 rfl) rfl ?_
                refine am_istore (q := 103) (by decide) (ls2 := [(11, am_i ((((aD σ F k) * 8) + (aP σ F k)))), (10, am_i ((aP σ F k))), (9, am_i ((aD σ F k))), (0, am_r 1), (1, am_i ((F : Int))), (2, am_r 15), (3, am_r 40), (4, am_i ((le + 1))), (5, am_i ((n - 1))), (6, am_i ((σ.2.1 56 F))), (7, am_i ((aLast σ F k))), (8, am_i ((k : Int)))]) rfl (am_tab tk_X3_readList 65 rfl) rfl ?_
                refine am_iload (q := 105) rfl (am_tab tk_X3_readList 66 rfl) rfl ?_
                refine am_iload (q := 107) rfl (am_tab tk_X3_readList 67 rfl) rfl ?_
                refine am_icmp_lt (q := 110) (t := 135) (am_tab tk_X3_readList 68 rfl) (by decide) rfl (fun h107 => ?_) (fun h107 => ?_)
                · refine am_iconst (q := 136) (n := (-1)) (by decide) (am_tab tk_X3_readList 80 rfl) rfl ?_
                  refine am_iret (Or.inl rfl) (Nat.le_of_ble_eq_true rfl) (Nat.le_of_ble_eq_true rfl) (am_tab tk_X3_readList 81 rfl) ?_
                  refine hQ _ _ ?_
                  exact ⟨Or.inr ⟨asC_b (k := k) (by omega) (asB_t (by unfold aV; omega)), rfl⟩, hF⟩
                · refine am_iload (q := 112) rfl (am_tab tk_X3_readList 69 rfl) rfl ?_
                  refine am_aload_n (q := 113) rfl (am_tab tk_X3_readList 70 rfl) rfl ?_
                  refine am_getI (q := 116) (a := 15) (k := 8) (n := 17) (j := 0) (x := (σ.2.1 85 9)) (Ls_15 hLT) (by decide) rfl (hTWT.days) (by decide) (Or.inr kf_X3_98) (am_tab tk_X3_readList 71 rfl) rfl ?_
                  refine am_icmp_gt (q := 119) (t := 135) (am_tab tk_X3_readList 72 rfl) (by decide) rfl (fun h116 => ?_) (fun h116 => ?_)
                  · refine am_iconst (q := 136) (n := (-1)) (by decide) (am_tab tk_X3_readList 80 rfl) rfl ?_
                    refine am_iret (Or.inl rfl) (Nat.le_of_ble_eq_true rfl) (Nat.le_of_ble_eq_true rfl) (am_tab tk_X3_readList 81 rfl) ?_
                    refine hQ _ _ ?_
                    exact ⟨Or.inr ⟨asC_b (k := k) (by omega) (asB_t (by unfold aV; omega)), rfl⟩, hF⟩
                  · refine am_iload (q := 121) rfl (am_tab tk_X3_readList 73 rfl) rfl ?_
                    refine am_aload_n (q := 122) rfl (am_tab tk_X3_readList 74 rfl) rfl ?_
                    refine am_getI (q := 125) (a := 15) (k := 8) (n := 17) (j := 2) (x := (σ.2.1 85 5)) (Ls_15 hLT) (by decide) rfl (hTWT.people) (by decide) (Or.inr kf_X3_38) (am_tab tk_X3_readList 75 rfl) rfl ?_
                    refine am_icmp_ge (q := 128) (t := 135) (am_tab tk_X3_readList 76 rfl) (by decide) rfl (fun h125 => ?_) (fun h125 => ?_)
                    · refine am_iconst (q := 136) (n := (-1)) (by decide) (am_tab tk_X3_readList 80 rfl) rfl ?_
                      refine am_iret (Or.inl rfl) (Nat.le_of_ble_eq_true rfl) (Nat.le_of_ble_eq_true rfl) (am_tab tk_X3_readList 81 rfl) ?_
                      refine hQ _ _ ?_
                      exact ⟨Or.inr ⟨asC_b (k := k) (by omega) (asB_t (by unfold aV; omega)), rfl⟩, hF⟩
                    · refine am_iload (q := 130) rfl (am_tab tk_X3_readList 77 rfl) rfl ?_
                      refine am_iload (q := 132) rfl (am_tab tk_X3_readList 78 rfl) rfl ?_
                      refine am_icmp_gt (q := 135) (t := 137) (am_tab tk_X3_readList 79 rfl) (by decide) rfl (fun h132 => ?_) (fun h132 => ?_)
                      · refine am_aload_n (q := 138) rfl (am_tab tk_X3_readList 82 rfl) rfl ?_
                        refine am_iload (q := 140) rfl (am_tab tk_X3_readList 83 rfl) rfl ?_
                        refine am_dup2 (q := 141) rfl rfl (am_tab tk_X3_readList 84 rfl) rfl ?_
                        refine am_iald (q := 142) (a := 40) (n := 91) (x := (T.2.1 40 (Int.toNat (aD σ F k)))) (Ls_40 hLT) (by omega) (by omega) rfl (am_tab tk_X3_readList 85 rfl) rfl ?_
                        refine am_iconst (q := 143) (n := 1) (by decide) (am_tab tk_X3_readList 86 rfl) rfl ?_
                        refine am_iload (q := 145) rfl (am_tab tk_X3_readList 87 rfl) rfl ?_
                        refine am_ishl (q := 146) (am_tab tk_X3_readList 88 rfl) rfl ?_
                        refine am_ior (q := 147) (am_tab tk_X3_readList 89 rfl) rfl ?_
                        refine am_iast (q := 148) (a := 40) (n := 91) (Ls_40 hLT) (by omega) (by omega) (am_tab tk_X3_readList 90 rfl) rfl ?_
                        refine am_iload (q := 150) rfl (am_tab tk_X3_readList 91 rfl) rfl ?_
                        refine am_istore (q := 152) (by decide) (ls2 := [(7, am_i ((((aD σ F k) * 8) + (aP σ F k)))), (11, am_i ((((aD σ F k) * 8) + (aP σ F k)))), (10, am_i ((aP σ F k))), (9, am_i ((aD σ F k))), (0, am_r 1), (1, am_i ((F : Int))), (2, am_r 15), (3, am_r 40), (4, am_i ((le + 1))), (5, am_i ((n - 1))), (6, am_i ((σ.2.1 56 F))), (8, am_i ((k : Int)))]) rfl (am_tab tk_X3_readList 92 rfl) rfl ?_
                        refine am_iinc (q := 155) rfl (by omega) (by decide) (ls2 := [(8, am_i (((k : Int) + 1))), (7, am_i ((((aD σ F k) * 8) + (aP σ F k)))), (11, am_i ((((aD σ F k) * 8) + (aP σ F k)))), (10, am_i ((aP σ F k))), (9, am_i ((aD σ F k))), (0, am_r 1), (1, am_i ((F : Int))), (2, am_r 15), (3, am_r 40), (4, am_i ((le + 1))), (5, am_i ((n - 1))), (6, am_i ((σ.2.1 56 F)))]) rfl (am_tab tk_X3_readList 93 rfl) rfl ?_
                        refine am_goto (t := 56) (am_tab tk_X3_readList 94 rfl) (by decide) ?_
                        have hbk : asB σ F le k = false := asB_f (by unfold aV; omega)
                        have hB2 : anyB (asB σ F le) (k + 1) = false := by show (anyB (asB σ F le) k || asB σ F le k) = false; rw [hB, hbk]; rfl
                        have hV2 : ∀ d : Nat, d < 91 → (am_setN T 40 (Int.toNat (aD σ F k)) (ao_or (T.2.1 40 (Int.toNat (aD σ F k))) (ao_shl 1 (aP σ F k)))).2.1 40 d = tkF σ F (k + 1) d := fun d hd => by
                          show _ = if (d : Int) = aD σ F k then ao_or (tkF σ F k d) (ao_shl 1 (aP σ F k)) else tkF σ F k d
                          by_cases g : (d : Int) = aD σ F k
                          · rw [if_pos g, ← hV d hd, show d = (aD σ F k).toNat by omega]; exact set_eq
                          · rw [if_neg g, ← hV d hd]; exact set_nn (by omega)
                        have he : aLast σ F (k + 1) = (((aD σ F k) * 8) + (aP σ F k)) := by show 8 * aD σ F k + aP σ F k = _; omega
                        exact am_less (by intro q hq; simp only [List.mem_cons, List.not_mem_nil, or_false] at hq; rcases hq with rfl | rfl | rfl | rfl | rfl | rfl | rfl | rfl | rfl <;> simp [he]) (ih56 (k + 1) (am_setN T 40 (Int.toNat (aD σ F k)) (ao_or (T.2.1 40 (Int.toNat (aD σ F k))) (ao_shl 1 (aP σ F k)))) (by omega) (by omega) hB2 (hF.setN rfl) hV2)
                      · refine am_iconst (q := 136) (n := (-1)) (by decide) (am_tab tk_X3_readList 80 rfl) rfl ?_
                        refine am_iret (Or.inl rfl) (Nat.le_of_ble_eq_true rfl) (Nat.le_of_ble_eq_true rfl) (am_tab tk_X3_readList 81 rfl) ?_
                        refine hQ _ _ ?_
                        exact ⟨Or.inr ⟨asC_b (k := k) (by omega) (asB_t (by unfold aV; omega)), rfl⟩, hF⟩
          refine am_less (by intro q hq; simp only [List.mem_cons, List.not_mem_nil, or_false] at hq; rcases hq with rfl | rfl | rfl | rfl | rfl | rfl | rfl | rfl | rfl <;> simp [aLast]) (L56 (_ + 1) 0 S (by exact Nat.lt_succ_self _) (Nat.zero_le _) rfl (frw.refl _ S) hz)
        · refine am_iconst (q := 49) (n := (-1)) (by decide) (am_tab tk_X3_readList 29 rfl) rfl ?_
          refine am_iret (Or.inl rfl) (Nat.le_of_ble_eq_true rfl) (Nat.le_of_ble_eq_true rfl) (am_tab tk_X3_readList 30 rfl) ?_
          refine hQ _ _ ?_
          exact ⟨Or.inr ⟨asC_f (by omega), rfl⟩, frw.refl _ S⟩
    · refine am_iconst (q := 19) (n := (-1)) (by decide) (am_tab tk_X3_readList 10 rfl) rfl ?_
      refine am_iret (Or.inl rfl) (Nat.le_of_ble_eq_true rfl) (Nat.le_of_ble_eq_true rfl) (am_tab tk_X3_readList 11 rfl) ?_
      refine hQ _ _ ?_
      exact ⟨Or.inr ⟨asC_f (by omega), rfl⟩, frw.refl _ S⟩
