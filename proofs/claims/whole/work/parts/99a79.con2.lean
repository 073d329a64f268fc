/-- behind the people nothing is told -/
def EXT (σ : am_H) : Prop := ∀ p : Nat, p < 8 → pN σ ≤ p → σ.2.1 96 (4 + p) = 0 ∧ σ.2.1 96 (12 + p) = 0
theorem on_lf {σ T : am_H} (h8 : pN σ ≤ 8) (hE : EXT σ) (h0 : T.2.1 37 0 = σ.2.1 56 0 * 256 + σ.2.1 56 1) (h1 : T.2.1 37 1 = σ.2.1 56 2) (h2 : T.2.1 37 2 = σ.2.1 56 3) (h3 : T.2.1 37 3 = σ.2.1 56 4 * 65536 + σ.2.1 56 5 * 256 + σ.2.1 56 6) (h4 : 0 ≤ T.2.1 37 4 ∧ T.2.1 37 4 < 256) (hd : ∀ p : Nat, p < 8 → tb (T.2.1 37 4) p = if p < pN σ then σ.2.1 56 (8 + 2 * p) else 0) (ha : ∀ p : Nat, p < 8 → T.2.1 38 p = if p < pN σ then σ.2.1 56 (7 + 2 * p) else 0) (ht : ∀ d : Nat, d < 91 → T.2.1 39 d = tkF σ (sF σ) (σ.2.1 56 (sF σ)).toNat d) (hb : ∀ d : Nat, d < 91 → T.2.1 40 d = tkF σ (sF2 σ) (σ.2.1 56 (sF2 σ)).toNat d) : LF0 37 T (onN σ) := by
  have hA : ∀ k, k < 20 → onN σ k = onA σ (pN σ) k := fun k hk => by
    unfold onN
    rw [if_neg (by omega), if_neg (by omega), if_neg (by omega)]
  refine ⟨⟨?_, ?_, ?_, ?_⟩, h4, fun p hp => ?_, fun p hp => ?_, fun d hd2 => ?_, fun d hd2 => ?_⟩
  · rw [h0, hA 0 (by decide)]
    show _ = (256 * σ.2.1 56 0) + σ.2.1 56 1
    omega
  · rw [h1, hA 1 (by decide)]; rfl
  · rw [h2, hA 2 (by decide)]; rfl
  · rw [h3, hA 3 (by decide)]
    show _ = coT σ
    unfold coT
    omega
  · rw [hd p hp, hA _ (by omega)]
    by_cases g : p < pN σ
    · rw [if_pos g]
      unfold onA
      rw [if_neg (by omega), if_neg (by omega), if_neg (by omega), if_neg (by omega), if_neg (by omega), if_pos (by omega), show 12 + p - 12 = p by omega]
    · rw [if_neg g]
      unfold onA
      rw [if_neg (by omega), if_neg (by omega), if_neg (by omega), if_neg (by omega), if_neg (by omega), if_neg (by omega)]
      exact (hE p hp (by omega)).2.symm
  · show T.2.1 38 p = _
    rw [ha p hp, hA _ (by omega)]
    by_cases g : p < pN σ
    · rw [if_pos g]
      unfold onA
      rw [if_neg (by omega), if_neg (by omega), if_neg (by omega), if_neg (by omega), if_pos (by omega), show 4 + p - 4 = p by omega]
    · rw [if_neg g]
      unfold onA
      rw [if_neg (by omega), if_neg (by omega), if_neg (by omega), if_neg (by omega), if_neg (by omega), if_neg (by omega)]
      exact (hE p hp (by omega)).1.symm
  · show T.2.1 39 d = _
    rw [ht d hd2]
    unfold onN
    rw [if_neg (by omega), if_neg (by omega), if_pos (by omega), show 20 + d - 20 = d by omega]
  · show T.2.1 40 d = _
    rw [hb d hd2]
    unfold onN
    rw [if_neg (by omega), if_pos (by omega), show 111 + d - 111 = d by omega]
theorem c_rlx {σ S : am_H} {t a F : Nat} {le x y : Int} {Q : Option am_V → am_H → Prop} (hx : x = (F : Int)) (hy : y = le + 1) (h : am_met M_X3_readList [am_r 1, am_i (F : Int), am_r t, am_r a, am_i (le + 1)] S Q) : am_met M_X3_readList [am_r 1, am_i x, am_r t, am_r a, am_i y] S Q := by
  rw [hx, hy]
  exact h
theorem c_chx {σ : am_H} {n : Nat} {x : Int} {Q : Option am_V → am_H → Prop} (hx : x = (n : Int)) (h : am_met M_X3_checkOf [am_r 2, am_i (n : Int)] σ Q) : am_met M_X3_checkOf [am_r 2, am_i x] σ Q := by
  rw [hx]
  exact h
def RIN (σ : am_H) (r : Option am_V) (T : am_H) : Prop := ((iiC σ (σ.2.1 55 1) = true ∧ r = some (am_i 1) ∧ LF0 37 T (onN σ) ∧ T.2.1 37 9 = 0 ∧ T.2.1 37 10 = 0) ∨ (iiC σ (σ.2.1 55 1) = false ∧ r = some (am_i 0))) ∧ frw (W_li 37) σ T
theorem ii_f {σ : am_H} {n : Int} (h : ¬ iiC σ n = true) : iiC σ n = false := by
  cases hz : iiC σ n with
  | true => exact absurd hz h
  | false => rfl
set_option maxRecDepth 100000 in
theorem c_readListN_3 (S : am_H) (hL : lay S) (n : Int) (hn : S.2.1 1 1 = n) (hnr : 0 ≤ n ∧ n ≤ 1600) (y : Int)  : am_met M_X3_readList [am_r 1, am_i ((-1)), am_r 3, am_r 40, am_i y] S (fun r σ' => r = some (am_i (-1)) ∧ σ' = S) := by
  refine am_qq (fun Q hQ => ?_)
  refine am_enter (show plainFor yX3_readList = true by decide +kernel) rfl (Nat.le_of_ble_eq_true rfl) (fun _ _ _ => trivial) ?_
  refine am_aload_n (q := 1) rfl (am_tab tk_X3_readList 0 rfl) rfl ?_
  refine am_getI (q := 4) (a := 1) (k := 6) (n := 2) (j := 1) (x := n) (Ls_1 hL) (by decide) rfl hn (by decide) (Or.inr kf_X3_71) (am_tab tk_X3_readList 1 rfl) rfl ?_
  refine am_iconst (q := 5) (n := 1) (by decide) (am_tab tk_X3_readList 2 rfl) rfl ?_
  refine am_isub (q := 6) (by omega) (am_tab tk_X3_readList 3 rfl) rfl ?_
  refine am_istore (q := 8) (by decide) (ls2 := [(5, am_i ((n - 1))), (0, am_r 1), (1, am_i ((-1))), (2, am_r 3), (3, am_r 40), (4, am_i y)]) rfl (am_tab tk_X3_readList 4 rfl) rfl ?_
  refine am_iload_n (q := 9) rfl (am_tab tk_X3_readList 5 rfl) rfl ?_
  refine am_if_lt (q := 12) (t := 18) (am_tab tk_X3_readList 6 rfl) (by decide) rfl (fun h9 => ?_) (fun h9 => ?_)
  · refine am_iconst (q := 19) (n := (-1)) (by decide) (am_tab tk_X3_readList 10 rfl) rfl ?_
    refine am_iret (Or.inl rfl) (Nat.le_of_ble_eq_true rfl) (Nat.le_of_ble_eq_true rfl) (am_tab tk_X3_readList 11 rfl) ?_
    refine hQ _ _ ?_
    exact ⟨rfl, rfl⟩
  · exact absurd h9 (by decide)
theorem as_cnt {σ : am_H} {F : Nat} {n le : Int} (h : asC σ F n le = true) : (F : Int) < n ∧ σ.2.1 56 F ≤ 30 ∧ ((F : Int) + 1) + (2 * σ.2.1 56 F) ≤ n := by
  by_cases g : (F : Int) < n ∧ σ.2.1 56 F ≤ 30 ∧ ((F : Int) + 1) + (2 * σ.2.1 56 F) ≤ n
  · exact g
  · rw [asC_f g] at h
    exact absurd h (by decide)
set_option maxRecDepth 100000 in
theorem c_readInto_3 (σ : am_H) (hC : CI 3 σ)  (hT11 : σ.2.1 1 1 = σ.2.1 55 1) (hTb : ∀ j, σ.2.1 2 j = σ.2.1 56 j) (hTR : TPR σ) (hE : EXT σ) (h52 : ¬ σ.2.1 55 52 = 0) : am_met M_X3_readInto [am_r 1, am_r 3, am_r 37] σ (fun r σ' => RIN σ r σ') := by
  refine am_qq (fun Q hQ => ?_)
  refine am_enter (show plainFor yX3_readInto = true by decide +kernel) rfl (Nat.le_of_ble_eq_true rfl) (fun _ _ _ => trivial) ?_
  have hL := hC.G.L
  have hN := hC.G.R.P
  have hNe := pN_eq hC.G.R
  have hb22 := hTR.2 2 (by decide)
  have hn0 := hTR.1
  have hcs := hTR.2 (sF σ) (by have := pN_8 hC.G.R; unfold sF; omega)
  have hsF : (sF σ : Int) = 7 + 2 * σ.2.1 85 5 := by unfold sF; omega
  have hsF2 : (sF2 σ : Int) = (sF σ : Int) + 1 + 2 * σ.2.1 56 (sF σ) := by unfold sF2; omega
  refine am_aload_n (q := 1) rfl (am_tab tk_X3_readInto 0 rfl) rfl ?_
  refine am_getI (q := 4) (a := 1) (k := 6) (n := 2) (j := 1) (x := (σ.2.1 55 1)) (Ls_1 hL) (by decide) rfl hT11 (by decide) (Or.inr kf_X3_71) (am_tab tk_X3_readInto 1 rfl) rfl ?_
  refine am_iconst (q := 5) (n := 1) (by decide) (am_tab tk_X3_readInto 2 rfl) rfl ?_
  refine am_isub (q := 6) (by omega) (am_tab tk_X3_readInto 3 rfl) rfl ?_
  refine am_istore_n (q := 7) (by decide) (ls2 := [(3, am_i (((σ.2.1 55 1) - 1))), (0, am_r 1), (1, am_r 3), (2, am_r 37)]) rfl (am_tab tk_X3_readInto 4 rfl) rfl ?_
  refine am_iload_n (q := 8) rfl (am_tab tk_X3_readInto 5 rfl) rfl ?_
  refine am_bipush (q := 10) (n := 7) (by decide) rfl (am_tab tk_X3_readInto 6 rfl) rfl ?_
  refine am_iconst (q := 11) (n := 2) (by decide) (am_tab tk_X3_readInto 7 rfl) rfl ?_
  refine am_aload_n (q := 12) rfl (am_tab tk_X3_readInto 8 rfl) rfl ?_
  refine am_getI (q := 15) (a := 3) (k := 8) (n := 17) (j := 2) (x := (σ.2.1 85 5)) (Ls_3 hL) (by decide) rfl hC.W.people (by decide) (Or.inr kf_X3_38) (am_tab tk_X3_readInto 9 rfl) rfl ?_
  refine am_imul (q := 16) (by omega) (am_tab tk_X3_readInto 10 rfl) rfl ?_
  refine am_iadd (q := 17) (by omega) (am_tab tk_X3_readInto 11 rfl) rfl ?_
  refine am_iconst (q := 18) (n := 2) (by decide) (am_tab tk_X3_readInto 12 rfl) rfl ?_
  refine am_iadd (q := 19) (by omega) (am_tab tk_X3_readInto 13 rfl) rfl ?_
  refine am_icmp_lt (q := 22) (t := 39) (am_tab tk_X3_readInto 14 rfl) (by decide) rfl (fun h19 => ?_) (fun h19 => ?_)
  · refine am_iconst (q := 40) (n := 0) (by decide) (am_tab tk_X3_readInto 24 rfl) rfl ?_
    refine am_iret (Or.inr ⟨rfl, by first | exact Or.inl rfl | exact Or.inr rfl | omega⟩) (Nat.le_of_ble_eq_true rfl) (Nat.le_of_ble_eq_true rfl) (am_tab tk_X3_readInto 25 rfl) ?_
    refine hQ _ _ ?_
    refine ⟨Or.inr ⟨ii_f (fun z => ?_), rfl⟩, frw.refl _ σ⟩
    obtain ⟨⟨_, g2, g3⟩, _⟩ := iiC_iff.mp z
    unfold sF at g2
    omega
  · refine am_aload_n (q := 23) rfl (am_tab tk_X3_readInto 15 rfl) rfl ?_
    refine am_getR (q := 26) (a := 1) (k := 6) (n := 2) (j := 0) (r := some (2)) (Ls_1 hL) (by decide) rfl (Lr_1_0 hL) (by decide) (Or.inr kf_X3_76) (am_tab tk_X3_readInto 16 rfl) rfl ?_
    refine am_iload_n (q := 27) rfl (am_tab tk_X3_readInto 17 rfl) rfl ?_
    refine am_iald (q := 28) (a := 2) (n := 1600) (x := (σ.2.1 2 (Int.toNat ((σ.2.1 55 1) - 1)))) (Ls_2 hL) (by omega) (by omega) rfl (am_tab tk_X3_readInto 18 rfl) rfl ?_
    refine am_aload_n (q := 29) rfl (am_tab tk_X3_readInto 19 rfl) rfl ?_
    refine am_getR (q := 32) (a := 1) (k := 6) (n := 2) (j := 0) (r := some (2)) (Ls_1 hL) (by decide) rfl (Lr_1_0 hL) (by decide) (Or.inr kf_X3_76) (am_tab tk_X3_readInto 20 rfl) rfl ?_
    refine am_iload_n (q := 33) rfl (am_tab tk_X3_readInto 21 rfl) rfl ?_
    refine am_callS0 (q := 36) (me2 := M_X3_checkOf) (As := [am_r 2, am_i (((σ.2.1 55 1) - 1))]) (rest := [am_i ((σ.2.1 2 (Int.toNat ((σ.2.1 55 1) - 1))))]) (out := [am_i ((ckN (fun i => σ.2.1 2 i) (σ.2.1 55 1 - 1).toNat)), am_i ((σ.2.1 2 (Int.toNat ((σ.2.1 55 1) - 1))))]) (c_chx (n := (σ.2.1 55 1 - 1).toNat) (by omega) (c_checkOf_2 σ hL (σ.2.1 55 1 - 1).toNat (by omega) (fun i hi => by rw [hTb]; exact hTR.2 i (by omega)))) ⟨rfl, rfl⟩ ⟨Or.inl km_X3_63, kc_X3_checkOf, kn_X3, kd_X3_checkOf, ⟨(Nat.le_of_ble_eq_true rfl), (Nat.le_of_ble_eq_true rfl)⟩, ⟨(Nat.le_of_ble_eq_true rfl), (Nat.le_of_ble_eq_true rfl)⟩, (Nat.le_of_ble_eq_true rfl)⟩ ki_X3_checkOf rfl rfl (am_tab tk_X3_readInto 22 rfl) rfl ?_
    refine am_icmp_eq (q := 39) (t := 41) (am_tab tk_X3_readInto 23 rfl) (by decide) rfl (fun h36 => ?_) (fun h36 => ?_)
    · have hck := h36
      refine am_aload_n (q := 42) rfl (am_tab tk_X3_readInto 26 rfl) rfl ?_
      refine am_aload_n (q := 43) rfl (am_tab tk_X3_readInto 27 rfl) rfl ?_
      refine am_callVr (q := 46) (me2 := M_X1_begin) (b := 37) (kb := 1) (nb := 11) (As := [am_r 3]) (rest := []) (c_begin_3_37 σ hL) ⟨rfl, rfl⟩ (Ls_37 hL) (by decide) ⟨Or.inr km_X3_77, kc_X1_begin, kn_X1, kd_X1_begin, ⟨(Nat.le_of_ble_eq_true rfl), (Nat.le_of_ble_eq_true rfl)⟩, ⟨(Nat.le_of_ble_eq_true rfl), (Nat.le_of_ble_eq_true rfl)⟩, (Nat.le_of_ble_eq_true rfl)⟩ ki_X1_begin ks_X1_begin rfl (am_tab tk_X3_readInto 28 rfl) rfl ?_
      rintro r T1 ⟨rfl, hLF1, hR1, hF1⟩
      have hL1 := hF1.L hL
      refine am_aload_n (q := 47) rfl (am_tab tk_X3_readInto 29 rfl) rfl ?_
      refine am_getR (q := 50) (a := 37) (k := 1) (n := 11) (j := 6) (r := some (39)) (Ls_37 hL1) (by decide) rfl (Lr_37_6 hL1) (by decide) (Or.inr kf_X3_53) (am_tab tk_X3_readInto 30 rfl) rfl ?_
      refine am_iconst (q := 51) (n := 0) (by decide) (am_tab tk_X3_readInto 31 rfl) rfl ?_
      refine am_callSr (q := 54) (me2 := M_J7_fill_53178) (As := [am_r 39, am_i 0]) (rest := []) (c_fill T1 39 91 0 (Ls_39 hL1) (by decide)) ⟨rfl, rfl⟩ ⟨Or.inl km_X3_81, kc_J7_fill_53178, kn_J7, kd_J7_fill_53178, ⟨(Nat.le_of_ble_eq_true rfl), (Nat.le_of_ble_eq_true rfl)⟩, ⟨(Nat.le_of_ble_eq_true rfl), (Nat.le_of_ble_eq_true rfl)⟩, (Nat.le_of_ble_eq_true rfl)⟩ ki_J7_fill_53178 rfl (am_tab tk_X3_readInto 32 rfl) rfl ?_
      rintro r T2 ⟨rfl, hT2b⟩
      have hdz : T1.2.1 37 4 = 0 := set_ext hLF1.2.1 (by decide) (fun p hp => by rw [hLF1.2.2.1 p hp, tb0]; unfold bgL; rw [if_neg (by omega), if_neg (by omega)])
      have hF2 : frw (W_li 37) σ T2 := by rw [hT2b]; exact hF1.setA (fun j => by unfold W_li; omega)
      have hL2 := hF2.L hL
      have hW2 : TWr 3 T2 σ := hC.W.fr hF2 (by unfold W_li; omega)
      have hb2 : ∀ j, T2.2.1 2 j = σ.2.1 56 j := fun j => (hF2.2.2 2 j (by unfold W_li; omega)).trans (hTb j)
      have h39 : ∀ d : Nat, d < 91 → T2.2.1 39 d = 0 := fun d hd => by rw [hT2b, setA_eq]; exact if_pos hd
      have z37 : ∀ a j, ¬ a = 39 → T2.2.1 a j = T1.2.1 a j := fun a j h => by rw [hT2b, setA_nn h]
      have h40 : ∀ d : Nat, d < 91 → T2.2.1 40 d = 0 := fun d hd => by rw [z37 40 d (by decide)]; exact (hLF1.2.2.2.2.2 d hd).trans (by unfold bgL; rw [if_neg (by omega), if_neg (by omega)])
      have h38 : ∀ p : Nat, p < 8 → T2.2.1 38 p = 0 := fun p hp => by rw [z37 38 p (by decide)]; exact (hLF1.2.2.2.1 p hp).trans (by unfold bgL; rw [if_neg (by omega), if_neg (by omega)])
      have h374 : T2.2.1 37 4 = 0 := by rw [z37 37 4 (by decide)]; exact hdz
      have h379 : T2.2.1 37 9 = 0 := (z37 37 9 (by decide)).trans hR1.1
      have h370 : T2.2.1 37 10 = 0 := (z37 37 10 (by decide)).trans hR1.2
      refine am_aload_n (q := 55) rfl (am_tab tk_X3_readInto 33 rfl) rfl ?_
      refine am_getR (q := 58) (a := 1) (k := 6) (n := 2) (j := 0) (r := some (2)) (Ls_1 hL2) (by decide) rfl (Lr_1_0 hL2) (by decide) (Or.inr kf_X3_76) (am_tab tk_X3_readInto 34 rfl) rfl ?_
      refine am_aload_n (q := 59) rfl (am_tab tk_X3_readInto 35 rfl) rfl ?_
      refine am_aload_n (q := 60) rfl (am_tab tk_X3_readInto 36 rfl) rfl ?_
      refine am_callSr (q := 63) (me2 := M_X3_readHead) (As := [am_r 2, am_r 3, am_r 37]) (rest := []) (c_readHead_3 σ T2 hL2 hb2 hTR hC.G hW2) ⟨rfl, rfl⟩ ⟨Or.inl km_X3_87, kc_X3_readHead, kn_X3, kd_X3_readHead, ⟨(Nat.le_of_ble_eq_true rfl), (Nat.le_of_ble_eq_true rfl)⟩, ⟨(Nat.le_of_ble_eq_true rfl), (Nat.le_of_ble_eq_true rfl)⟩, (Nat.le_of_ble_eq_true rfl)⟩ ki_X3_readHead rfl (am_tab tk_X3_readInto 37 rfl) rfl ?_
      rintro r T3 ⟨rfl, hT3⟩
      have hF3 : frw (W_li 37) T2 T3 := by rw [hT3]; exact ((((frw.refl (W_li 37) T2).setN (by unfold W_li; omega)).setN (by unfold W_li; omega)).setN (by unfold W_li; omega)).setN (by unfold W_li; omega)
      have hL3 := hF3.L hL2
      have hW3 : TWr 3 T3 σ := hW2.fr hF3 (by unfold W_li; omega)
      have hb3 : ∀ j, T3.2.1 2 j = σ.2.1 56 j := fun j => (hF3.2.2 2 j (by unfold W_li; omega)).trans (hb2 j)
      have c3 : ∀ a j, ¬ (a = 37 ∧ j < 4) → T3.2.1 a j = T2.2.1 a j := fun a j h => by rw [hT3, set_nn (by omega), set_nn (by omega), set_nn (by omega), set_nn (by omega)]
      have e30 : T3.2.1 37 0 = σ.2.1 56 0 * 256 + σ.2.1 56 1 := by rw [hT3]; rfl
      have e31 : T3.2.1 37 1 = σ.2.1 56 2 := by rw [hT3]; rfl
      have e32 : T3.2.1 37 2 = σ.2.1 56 3 := by rw [hT3]; rfl
      have e33 : T3.2.1 37 3 = σ.2.1 56 4 * 65536 + σ.2.1 56 5 * 256 + σ.2.1 56 6 := by rw [hT3]; rfl
      refine am_st (st2 := [am_i ((if HC1 σ then 1 else 0))]) rfl ?_
      refine am_if_eq (q := 66) (t := 78) (am_tab tk_X3_readInto 38 rfl) (by decide) rfl (fun h63 => ?_) (fun h63 => ?_)
      · replace h63 := b01z h63
        refine am_iconst (q := 79) (n := 0) (by decide) (am_tab tk_X3_readInto 45 rfl) rfl ?_
        refine am_iret (Or.inr ⟨rfl, by first | exact Or.inl rfl | exact Or.inr rfl | omega⟩) (Nat.le_of_ble_eq_true rfl) (Nat.le_of_ble_eq_true rfl) (am_tab tk_X3_readInto 46 rfl) ?_
        refine hQ _ _ ?_
        refine ⟨Or.inr ⟨ii_f (fun z => ?_), rfl⟩, hF2.trans hF3⟩
        exact h63 (iiC_iff.mp z).2.1.1
      · replace h63 := b01n h63
        by_cases pb : anyB (hdB σ) (pN σ) = false
        · have hHC := h63
          refine am_aload_n (q := 67) rfl (am_tab tk_X3_readInto 39 rfl) rfl ?_
          refine am_getR (q := 70) (a := 1) (k := 6) (n := 2) (j := 0) (r := some (2)) (Ls_1 hL3) (by decide) rfl (Lr_1_0 hL3) (by decide) (Or.inr kf_X3_76) (am_tab tk_X3_readInto 40 rfl) rfl ?_
          refine am_aload_n (q := 71) rfl (am_tab tk_X3_readInto 41 rfl) rfl ?_
          refine am_aload_n (q := 72) rfl (am_tab tk_X3_readInto 42 rfl) rfl ?_
          refine am_callSr (q := 75) (me2 := M_X3_readPeople) (As := [am_r 2, am_r 3, am_r 37]) (rest := []) (c_readPeople_3 σ T3 hL3 hb3 hTR hC.G hW3 ((c3 37 4 (by decide)).trans h374)) ⟨rfl, rfl⟩ ⟨Or.inl km_X3_91, kc_X3_readPeople, kn_X3, kd_X3_readPeople, ⟨(Nat.le_of_ble_eq_true rfl), (Nat.le_of_ble_eq_true rfl)⟩, ⟨(Nat.le_of_ble_eq_true rfl), (Nat.le_of_ble_eq_true rfl)⟩, (Nat.le_of_ble_eq_true rfl)⟩ ki_X3_readPeople rfl (am_tab tk_X3_readInto 43 rfl) rfl ?_
          rintro r T4 ⟨hPd, hF4⟩
          have hL4 := hF4.L hL3
          have hW4 : TWr 3 T4 σ := hW3.fr hF4 (by unfold W_pp; omega)
          have hb4 : ∀ j, T4.2.1 2 j = σ.2.1 56 j := fun j => (hF4.2.2 2 j (by unfold W_pp; omega)).trans (hb3 j)
          have hF4b : frw (W_li 37) σ T4 := (hF2.trans hF3).trans (hF4.mono (fun a j h => by unfold W_pp at h; unfold W_li; omega))
          obtain ⟨_, rfl, hPP⟩ := hPd.resolve_right (fun z => by rw [z.1] at pb; exact absurd pb (by decide))
          refine am_if_ne (q := 78) (t := 80) (am_tab tk_X3_readInto 44 rfl) (by decide) rfl (fun h75 => ?_) (fun h75 => ?_)
          · by_cases a1 : asC σ (sF σ) (σ.2.1 55 1 - 1) 0 = true
            · refine am_aload_n (q := 81) rfl (am_tab tk_X3_readInto 47 rfl) rfl ?_
              refine am_bipush (q := 83) (n := 7) (by decide) rfl (am_tab tk_X3_readInto 48 rfl) rfl ?_
              refine am_iconst (q := 84) (n := 2) (by decide) (am_tab tk_X3_readInto 49 rfl) rfl ?_
              refine am_aload_n (q := 85) rfl (am_tab tk_X3_readInto 50 rfl) rfl ?_
              refine am_getI (q := 88) (a := 3) (k := 8) (n := 17) (j := 2) (x := (σ.2.1 85 5)) (Ls_3 hL4) (by decide) rfl hW4.people (by decide) (Or.inr kf_X3_38) (am_tab tk_X3_readInto 51 rfl) rfl ?_
              refine am_imul (q := 89) (by omega) (am_tab tk_X3_readInto 52 rfl) rfl ?_
              refine am_iadd (q := 90) (by omega) (am_tab tk_X3_readInto 53 rfl) rfl ?_
              refine am_aload_n (q := 91) rfl (am_tab tk_X3_readInto 54 rfl) rfl ?_
              refine am_aload_n (q := 92) rfl (am_tab tk_X3_readInto 55 rfl) rfl ?_
              refine am_getR (q := 95) (a := 37) (k := 1) (n := 11) (j := 6) (r := some (39)) (Ls_37 hL4) (by decide) rfl (Lr_37_6 hL4) (by decide) (Or.inr kf_X3_53) (am_tab tk_X3_readInto 56 rfl) rfl ?_
              refine am_iconst (q := 96) (n := 1) (by decide) (am_tab tk_X3_readInto 57 rfl) rfl ?_
              refine am_callSr (q := 99) (me2 := M_X3_readList) (As := [am_r 1, am_i ((7 + (2 * (σ.2.1 85 5)))), am_r 3, am_r 39, am_i 1]) (rest := []) (c_rlx (σ := σ) (F := sF σ) (le := 0) (by unfold sF; omega) (by omega) (c_readList_3_39 σ T4 hL4 hb4 hTR hC.G hW4 0 (σ.2.1 55 1) (sF σ) ((hF4b.2.2 1 1 (by unfold W_li; omega)).trans hT11) hTR.1 (by decide) (by unfold sF; omega) (fun d hd => (hF4.2.2 39 d (by unfold W_pp; omega)).trans ((c3 39 d (by omega)).trans (h39 d hd))))) ⟨rfl, rfl⟩ ⟨Or.inl km_X3_94, kc_X3_readList, kn_X3, kd_X3_readList, ⟨(Nat.le_of_ble_eq_true rfl), (Nat.le_of_ble_eq_true rfl)⟩, ⟨(Nat.le_of_ble_eq_true rfl), (Nat.le_of_ble_eq_true rfl)⟩, (Nat.le_of_ble_eq_true rfl)⟩ ki_X3_readList rfl (am_tab tk_X3_readInto 58 rfl) rfl ?_
              rintro r T5 ⟨hRd, hF5⟩
              have hL5 := hF5.L hL4
              have hW5 : TWr 3 T5 σ := hW4.fr hF5 (by omega)
              have hb5 : ∀ j, T5.2.1 2 j = σ.2.1 56 j := fun j => (hF5.2.2 2 j (by omega)).trans (hb4 j)
              have hF5b : frw (W_li 37) σ T5 := hF4b.trans (hF5.mono (fun a j h => by unfold W_li; omega))
              have hn5 : T5.2.1 1 1 = σ.2.1 55 1 := (hF5b.2.2 1 1 (by unfold W_li; omega)).trans hT11
              have e51 : T5.2.1 37 1 = σ.2.1 56 2 := (hF5.2.2 37 1 (by omega)).trans ((hF4.2.2 37 1 (by unfold W_pp; omega)).trans e31)
              obtain ⟨_, rfl, hV1⟩ := hRd.resolve_right (fun z => by rw [z.1] at a1; exact absurd a1 (by decide))
              have hc1 := as_cnt a1
              refine am_istore (q := 101) (by decide) (ls2 := [(4, am_i (((sF σ : Int) + 1 + 2 * σ.2.1 56 (sF σ)))), (3, am_i (((σ.2.1 55 1) - 1))), (0, am_r 1), (1, am_r 3), (2, am_r 37)]) rfl (am_tab tk_X3_readInto 59 rfl) rfl ?_
              by_cases a2 : asC σ (sF2 σ) (σ.2.1 55 1 - 1) (σ.2.1 56 2) = true
              · refine am_aload_n (q := 102) rfl (am_tab tk_X3_readInto 60 rfl) rfl ?_
                refine am_iload (q := 104) rfl (am_tab tk_X3_readInto 61 rfl) rfl ?_
                refine am_aload_n (q := 105) rfl (am_tab tk_X3_readInto 62 rfl) rfl ?_
                refine am_aload_n (q := 106) rfl (am_tab tk_X3_readInto 63 rfl) rfl ?_
                refine am_getR (q := 109) (a := 37) (k := 1) (n := 11) (j := 7) (r := some (40)) (Ls_37 hL5) (by decide) rfl (Lr_37_7 hL5) (by decide) (Or.inr kf_X3_60) (am_tab tk_X3_readInto 64 rfl) rfl ?_
                refine am_aload_n (q := 110) rfl (am_tab tk_X3_readInto 65 rfl) rfl ?_
                refine am_getI (q := 113) (a := 37) (k := 1) (n := 11) (j := 1) (x := (σ.2.1 56 2)) (Ls_37 hL5) (by decide) rfl e51 (by decide) (Or.inr kf_X3_28) (am_tab tk_X3_readInto 66 rfl) rfl ?_
                refine am_iconst (q := 114) (n := 1) (by decide) (am_tab tk_X3_readInto 67 rfl) rfl ?_
                refine am_iadd (q := 115) (by omega) (am_tab tk_X3_readInto 68 rfl) rfl ?_
                refine am_callSr (q := 118) (me2 := M_X3_readList) (As := [am_r 1, am_i (((sF σ : Int) + 1 + 2 * σ.2.1 56 (sF σ))), am_r 3, am_r 40, am_i (((σ.2.1 56 2) + 1))]) (rest := []) (c_rlx (σ := σ) (F := sF2 σ) (le := σ.2.1 56 2) (by unfold sF2; omega) rfl (c_readList_3_40 σ T5 hL5 hb5 hTR hC.G hW5 (σ.2.1 56 2) (σ.2.1 55 1) (sF2 σ) hn5 hTR.1 hb22 (by unfold sF2; omega) (fun d hd => (hF5.2.2 40 d (by omega)).trans ((hF4.2.2 40 d (by unfold W_pp; omega)).trans ((c3 40 d (by omega)).trans (h40 d hd)))))) ⟨rfl, rfl⟩ ⟨Or.inl km_X3_94, kc_X3_readList, kn_X3, kd_X3_readList, ⟨(Nat.le_of_ble_eq_true rfl), (Nat.le_of_ble_eq_true rfl)⟩, ⟨(Nat.le_of_ble_eq_true rfl), (Nat.le_of_ble_eq_true rfl)⟩, (Nat.le_of_ble_eq_true rfl)⟩ ki_X3_readList rfl (am_tab tk_X3_readInto 69 rfl) rfl ?_
                rintro r T6 ⟨hRd2, hF6⟩
                have hL6 := hF6.L hL5
                have hF6b : frw (W_li 37) σ T6 := hF5b.trans (hF6.mono (fun a j h => by unfold W_li; omega))
                obtain ⟨_, rfl, hV2⟩ := hRd2.resolve_right (fun z => by rw [z.1] at a2; exact absurd a2 (by decide))
                refine am_istore (q := 120) (by decide) (ls2 := [(4, am_i (((sF2 σ : Int) + 1 + 2 * σ.2.1 56 (sF2 σ)))), (3, am_i (((σ.2.1 55 1) - 1))), (0, am_r 1), (1, am_r 3), (2, am_r 37)]) rfl (am_tab tk_X3_readInto 70 rfl) rfl ?_
                refine am_iload (q := 122) rfl (am_tab tk_X3_readInto 71 rfl) rfl ?_
                refine am_iload_n (q := 123) rfl (am_tab tk_X3_readInto 72 rfl) rfl ?_
                refine am_icmp_ne (q := 126) (t := 130) (am_tab tk_X3_readInto 73 rfl) (by decide) rfl (fun h123 => ?_) (fun h123 => ?_)
                · refine am_iconst (q := 131) (n := 0) (by decide) (am_tab tk_X3_readInto 76 rfl) rfl ?_
                  refine am_iret (Or.inr ⟨rfl, by first | exact Or.inl rfl | exact Or.inr rfl | omega⟩) (Nat.le_of_ble_eq_true rfl) (Nat.le_of_ble_eq_true rfl) (am_tab tk_X3_readInto 77 rfl) ?_
                  refine hQ _ _ ?_
                  refine ⟨Or.inr ⟨ii_f (fun z => ?_), rfl⟩, hF6b⟩
                  obtain ⟨_, _, g4, g5, g6⟩ := iiC_iff.mp z
                  omega
                · refine am_iconst (q := 127) (n := 1) (by decide) (am_tab tk_X3_readInto 74 rfl) rfl ?_
                  refine am_goto (t := 131) (am_tab tk_X3_readInto 75 rfl) (by decide) ?_
                  refine am_iret (Or.inr ⟨rfl, by first | exact Or.inl rfl | exact Or.inr rfl | omega⟩) (Nat.le_of_ble_eq_true rfl) (Nat.le_of_ble_eq_true rfl) (am_tab tk_X3_readInto 77 rfl) ?_
                  refine hQ _ _ ?_
                  refine ⟨Or.inl ⟨iiC_iff.mpr ⟨⟨h52, by unfold sF; omega, by rw [← hTb, ← show (fun i => σ.2.1 2 i) = (fun i => σ.2.1 56 i) from funext hTb]; exact hck⟩, ⟨hHC, pb⟩, a1, a2, by omega⟩, rfl, ?_, ?_, ?_⟩, hF6b⟩
                  · refine on_lf (pN_8 hC.G.R) hE ?_ ?_ ?_ ?_ ?_ ?_ ?_ ?_ hV2
                    · rw [hF6.2.2 37 0 (by omega), hF5.2.2 37 0 (by omega), hF4.2.2 37 0 (by unfold W_pp; omega)]; exact e30
                    · rw [hF6.2.2 37 1 (by omega), hF5.2.2 37 1 (by omega), hF4.2.2 37 1 (by unfold W_pp; omega)]; exact e31
                    · rw [hF6.2.2 37 2 (by omega), hF5.2.2 37 2 (by omega), hF4.2.2 37 2 (by unfold W_pp; omega)]; exact e32
                    · rw [hF6.2.2 37 3 (by omega), hF5.2.2 37 3 (by omega), hF4.2.2 37 3 (by unfold W_pp; omega)]; exact e33
                    · rw [hF6.2.2 37 4 (by omega), hF5.2.2 37 4 (by omega)]; exact hPP.2.2.1
                    · intro p hp; rw [hF6.2.2 37 4 (by omega), hF5.2.2 37 4 (by omega)]; exact hPP.2.2.2 p hp
                    · intro p hp; rw [hF6.2.2 38 p (by omega), hF5.2.2 38 p (by omega), hPP.2.1 p, c3 38 p (by omega), h38 p hp]
                    · intro d hd; rw [hF6.2.2 39 d (by omega)]; exact hV1 d hd
                  · rw [hF6.2.2 37 9 (by omega), hF5.2.2 37 9 (by omega), hF4.2.2 37 9 (by unfold W_pp; omega), c3 37 9 (by decide)]; exact h379
                  · rw [hF6.2.2 37 10 (by omega), hF5.2.2 37 10 (by omega), hF4.2.2 37 10 (by unfold W_pp; omega), c3 37 10 (by decide)]; exact h370
              · refine am_aload_n (q := 102) rfl (am_tab tk_X3_readInto 60 rfl) rfl ?_
                refine am_iload (q := 104) rfl (am_tab tk_X3_readInto 61 rfl) rfl ?_
                refine am_aload_n (q := 105) rfl (am_tab tk_X3_readInto 62 rfl) rfl ?_
                refine am_aload_n (q := 106) rfl (am_tab tk_X3_readInto 63 rfl) rfl ?_
                refine am_getR (q := 109) (a := 37) (k := 1) (n := 11) (j := 7) (r := some (40)) (Ls_37 hL5) (by decide) rfl (Lr_37_7 hL5) (by decide) (Or.inr kf_X3_60) (am_tab tk_X3_readInto 64 rfl) rfl ?_
                refine am_aload_n (q := 110) rfl (am_tab tk_X3_readInto 65 rfl) rfl ?_
                refine am_getI (q := 113) (a := 37) (k := 1) (n := 11) (j := 1) (x := (σ.2.1 56 2)) (Ls_37 hL5) (by decide) rfl e51 (by decide) (Or.inr kf_X3_28) (am_tab tk_X3_readInto 66 rfl) rfl ?_
                refine am_iconst (q := 114) (n := 1) (by decide) (am_tab tk_X3_readInto 67 rfl) rfl ?_
                refine am_iadd (q := 115) (by omega) (am_tab tk_X3_readInto 68 rfl) rfl ?_
                refine am_callSr (q := 118) (me2 := M_X3_readList) (As := [am_r 1, am_i (((sF σ : Int) + 1 + 2 * σ.2.1 56 (sF σ))), am_r 3, am_r 40, am_i (((σ.2.1 56 2) + 1))]) (rest := []) (c_rlx (σ := σ) (F := sF2 σ) (le := σ.2.1 56 2) (by unfold sF2; omega) rfl (c_readList_3_40 σ T5 hL5 hb5 hTR hC.G hW5 (σ.2.1 56 2) (σ.2.1 55 1) (sF2 σ) hn5 hTR.1 hb22 (by unfold sF2; omega) (fun d hd => (hF5.2.2 40 d (by omega)).trans ((hF4.2.2 40 d (by unfold W_pp; omega)).trans ((c3 40 d (by omega)).trans (h40 d hd)))))) ⟨rfl, rfl⟩ ⟨Or.inl km_X3_94, kc_X3_readList, kn_X3, kd_X3_readList, ⟨(Nat.le_of_ble_eq_true rfl), (Nat.le_of_ble_eq_true rfl)⟩, ⟨(Nat.le_of_ble_eq_true rfl), (Nat.le_of_ble_eq_true rfl)⟩, (Nat.le_of_ble_eq_true rfl)⟩ ki_X3_readList rfl (am_tab tk_X3_readInto 69 rfl) rfl ?_
                rintro r T6 ⟨hRd2, hF6⟩
                have hL6 := hF6.L hL5
                have hF6b : frw (W_li 37) σ T6 := hF5b.trans (hF6.mono (fun a j h => by unfold W_li; omega))
                obtain ⟨_, rfl⟩ := hRd2.resolve_left (fun z => a2 z.1)
                refine am_istore (q := 120) (by decide) (ls2 := [(4, am_i ((-1))), (3, am_i (((σ.2.1 55 1) - 1))), (0, am_r 1), (1, am_r 3), (2, am_r 37)]) rfl (am_tab tk_X3_readInto 70 rfl) rfl ?_
                refine am_iload (q := 122) rfl (am_tab tk_X3_readInto 71 rfl) rfl ?_
                refine am_iload_n (q := 123) rfl (am_tab tk_X3_readInto 72 rfl) rfl ?_
                refine am_icmp_ne (q := 126) (t := 130) (am_tab tk_X3_readInto 73 rfl) (by decide) rfl (fun h123 => ?_) (fun h123 => ?_)
                · refine am_iconst (q := 131) (n := 0) (by decide) (am_tab tk_X3_readInto 76 rfl) rfl ?_
                  refine am_iret (Or.inr ⟨rfl, by first | exact Or.inl rfl | exact Or.inr rfl | omega⟩) (Nat.le_of_ble_eq_true rfl) (Nat.le_of_ble_eq_true rfl) (am_tab tk_X3_readInto 77 rfl) ?_
                  refine hQ _ _ ?_
                  refine ⟨Or.inr ⟨ii_f (fun z => ?_), rfl⟩, hF6b⟩
                  obtain ⟨_, _, g4, g5, g6⟩ := iiC_iff.mp z
                  exact a2 g5
                · refine am_iconst (q := 127) (n := 1) (by decide) (am_tab tk_X3_readInto 74 rfl) rfl ?_
                  refine am_goto (t := 131) (am_tab tk_X3_readInto 75 rfl) (by decide) ?_
                  refine am_iret (Or.inr ⟨rfl, by first | exact Or.inl rfl | exact Or.inr rfl | omega⟩) (Nat.le_of_ble_eq_true rfl) (Nat.le_of_ble_eq_true rfl) (am_tab tk_X3_readInto 77 rfl) ?_
                  refine hQ _ _ ?_
                  exfalso
                  omega
            · refine am_aload_n (q := 81) rfl (am_tab tk_X3_readInto 47 rfl) rfl ?_
              refine am_bipush (q := 83) (n := 7) (by decide) rfl (am_tab tk_X3_readInto 48 rfl) rfl ?_
              refine am_iconst (q := 84) (n := 2) (by decide) (am_tab tk_X3_readInto 49 rfl) rfl ?_
              refine am_aload_n (q := 85) rfl (am_tab tk_X3_readInto 50 rfl) rfl ?_
              refine am_getI (q := 88) (a := 3) (k := 8) (n := 17) (j := 2) (x := (σ.2.1 85 5)) (Ls_3 hL4) (by decide) rfl hW4.people (by decide) (Or.inr kf_X3_38) (am_tab tk_X3_readInto 51 rfl) rfl ?_
              refine am_imul (q := 89) (by omega) (am_tab tk_X3_readInto 52 rfl) rfl ?_
              refine am_iadd (q := 90) (by omega) (am_tab tk_X3_readInto 53 rfl) rfl ?_
              refine am_aload_n (q := 91) rfl (am_tab tk_X3_readInto 54 rfl) rfl ?_
              refine am_aload_n (q := 92) rfl (am_tab tk_X3_readInto 55 rfl) rfl ?_
              refine am_getR (q := 95) (a := 37) (k := 1) (n := 11) (j := 6) (r := some (39)) (Ls_37 hL4) (by decide) rfl (Lr_37_6 hL4) (by decide) (Or.inr kf_X3_53) (am_tab tk_X3_readInto 56 rfl) rfl ?_
              refine am_iconst (q := 96) (n := 1) (by decide) (am_tab tk_X3_readInto 57 rfl) rfl ?_
              refine am_callSr (q := 99) (me2 := M_X3_readList) (As := [am_r 1, am_i ((7 + (2 * (σ.2.1 85 5)))), am_r 3, am_r 39, am_i 1]) (rest := []) (c_rlx (σ := σ) (F := sF σ) (le := 0) (by unfold sF; omega) (by omega) (c_readList_3_39 σ T4 hL4 hb4 hTR hC.G hW4 0 (σ.2.1 55 1) (sF σ) ((hF4b.2.2 1 1 (by unfold W_li; omega)).trans hT11) hTR.1 (by decide) (by unfold sF; omega) (fun d hd => (hF4.2.2 39 d (by unfold W_pp; omega)).trans ((c3 39 d (by omega)).trans (h39 d hd))))) ⟨rfl, rfl⟩ ⟨Or.inl km_X3_94, kc_X3_readList, kn_X3, kd_X3_readList, ⟨(Nat.le_of_ble_eq_true rfl), (Nat.le_of_ble_eq_true rfl)⟩, ⟨(Nat.le_of_ble_eq_true rfl), (Nat.le_of_ble_eq_true rfl)⟩, (Nat.le_of_ble_eq_true rfl)⟩ ki_X3_readList rfl (am_tab tk_X3_readInto 58 rfl) rfl ?_
              rintro r T5 ⟨hRd, hF5⟩
              have hL5 := hF5.L hL4
              have hW5 : TWr 3 T5 σ := hW4.fr hF5 (by omega)
              have hb5 : ∀ j, T5.2.1 2 j = σ.2.1 56 j := fun j => (hF5.2.2 2 j (by omega)).trans (hb4 j)
              have hF5b : frw (W_li 37) σ T5 := hF4b.trans (hF5.mono (fun a j h => by unfold W_li; omega))
              have hn5 : T5.2.1 1 1 = σ.2.1 55 1 := (hF5b.2.2 1 1 (by unfold W_li; omega)).trans hT11
              have e51 : T5.2.1 37 1 = σ.2.1 56 2 := (hF5.2.2 37 1 (by omega)).trans ((hF4.2.2 37 1 (by unfold W_pp; omega)).trans e31)
              obtain ⟨_, rfl⟩ := hRd.resolve_left (fun z => a1 z.1)
              refine am_istore (q := 101) (by decide) (ls2 := [(4, am_i ((-1))), (3, am_i (((σ.2.1 55 1) - 1))), (0, am_r 1), (1, am_r 3), (2, am_r 37)]) rfl (am_tab tk_X3_readInto 59 rfl) rfl ?_
              refine am_aload_n (q := 102) rfl (am_tab tk_X3_readInto 60 rfl) rfl ?_
              refine am_iload (q := 104) rfl (am_tab tk_X3_readInto 61 rfl) rfl ?_
              refine am_aload_n (q := 105) rfl (am_tab tk_X3_readInto 62 rfl) rfl ?_
              refine am_aload_n (q := 106) rfl (am_tab tk_X3_readInto 63 rfl) rfl ?_
              refine am_getR (q := 109) (a := 37) (k := 1) (n := 11) (j := 7) (r := some (40)) (Ls_37 hL5) (by decide) rfl (Lr_37_7 hL5) (by decide) (Or.inr kf_X3_60) (am_tab tk_X3_readInto 64 rfl) rfl ?_
              refine am_aload_n (q := 110) rfl (am_tab tk_X3_readInto 65 rfl) rfl ?_
              refine am_getI (q := 113) (a := 37) (k := 1) (n := 11) (j := 1) (x := (σ.2.1 56 2)) (Ls_37 hL5) (by decide) rfl e51 (by decide) (Or.inr kf_X3_28) (am_tab tk_X3_readInto 66 rfl) rfl ?_
              refine am_iconst (q := 114) (n := 1) (by decide) (am_tab tk_X3_readInto 67 rfl) rfl ?_
              refine am_iadd (q := 115) (by omega) (am_tab tk_X3_readInto 68 rfl) rfl ?_
              refine am_callSr (q := 118) (me2 := M_X3_readList) (As := [am_r 1, am_i ((-1)), am_r 3, am_r 40, am_i (((σ.2.1 56 2) + 1))]) (rest := []) (c_readListN_3 T5 hL5 (σ.2.1 55 1) hn5 hTR.1 _) ⟨rfl, rfl⟩ ⟨Or.inl km_X3_94, kc_X3_readList, kn_X3, kd_X3_readList, ⟨(Nat.le_of_ble_eq_true rfl), (Nat.le_of_ble_eq_true rfl)⟩, ⟨(Nat.le_of_ble_eq_true rfl), (Nat.le_of_ble_eq_true rfl)⟩, (Nat.le_of_ble_eq_true rfl)⟩ ki_X3_readList rfl (am_tab tk_X3_readInto 69 rfl) rfl ?_
              rintro r τ9 ⟨rfl, hτ9⟩
              rw [hτ9]
              refine am_istore (q := 120) (by decide) (ls2 := [(4, am_i ((-1))), (3, am_i (((σ.2.1 55 1) - 1))), (0, am_r 1), (1, am_r 3), (2, am_r 37)]) rfl (am_tab tk_X3_readInto 70 rfl) rfl ?_
              refine am_iload (q := 122) rfl (am_tab tk_X3_readInto 71 rfl) rfl ?_
              refine am_iload_n (q := 123) rfl (am_tab tk_X3_readInto 72 rfl) rfl ?_
              refine am_icmp_ne (q := 126) (t := 130) (am_tab tk_X3_readInto 73 rfl) (by decide) rfl (fun h123 => ?_) (fun h123 => ?_)
              · refine am_iconst (q := 131) (n := 0) (by decide) (am_tab tk_X3_readInto 76 rfl) rfl ?_
                refine am_iret (Or.inr ⟨rfl, by first | exact Or.inl rfl | exact Or.inr rfl | omega⟩) (Nat.le_of_ble_eq_true rfl) (Nat.le_of_ble_eq_true rfl) (am_tab tk_X3_readInto 77 rfl) ?_
                refine hQ _ _ ?_
                refine ⟨Or.inr ⟨ii_f (fun z => ?_), rfl⟩, hF5b⟩
                obtain ⟨_, _, g4, g5, g6⟩ := iiC_iff.mp z
                exact a1 g4
              · refine am_iconst (q := 127) (n := 1) (by decide) (am_tab tk_X3_readInto 74 rfl) rfl ?_
                refine am_goto (t := 131) (am_tab tk_X3_readInto 75 rfl) (by decide) ?_
                refine am_iret (Or.inr ⟨rfl, by first | exact Or.inl rfl | exact Or.inr rfl | omega⟩) (Nat.le_of_ble_eq_true rfl) (Nat.le_of_ble_eq_true rfl) (am_tab tk_X3_readInto 77 rfl) ?_
                refine hQ _ _ ?_
                exfalso
                omega
          · exact absurd h75 (by decide)
        · have hHC := h63
          refine am_aload_n (q := 67) rfl (am_tab tk_X3_readInto 39 rfl) rfl ?_
          refine am_getR (q := 70) (a := 1) (k := 6) (n := 2) (j := 0) (r := some (2)) (Ls_1 hL3) (by decide) rfl (Lr_1_0 hL3) (by decide) (Or.inr kf_X3_76) (am_tab tk_X3_readInto 40 rfl) rfl ?_
          refine am_aload_n (q := 71) rfl (am_tab tk_X3_readInto 41 rfl) rfl ?_
          refine am_aload_n (q := 72) rfl (am_tab tk_X3_readInto 42 rfl) rfl ?_
          refine am_callSr (q := 75) (me2 := M_X3_readPeople) (As := [am_r 2, am_r 3, am_r 37]) (rest := []) (c_readPeople_3 σ T3 hL3 hb3 hTR hC.G hW3 ((c3 37 4 (by decide)).trans h374)) ⟨rfl, rfl⟩ ⟨Or.inl km_X3_91, kc_X3_readPeople, kn_X3, kd_X3_readPeople, ⟨(Nat.le_of_ble_eq_true rfl), (Nat.le_of_ble_eq_true rfl)⟩, ⟨(Nat.le_of_ble_eq_true rfl), (Nat.le_of_ble_eq_true rfl)⟩, (Nat.le_of_ble_eq_true rfl)⟩ ki_X3_readPeople rfl (am_tab tk_X3_readInto 43 rfl) rfl ?_
          rintro r T4 ⟨hPd, hF4⟩
          have hL4 := hF4.L hL3
          have hW4 : TWr 3 T4 σ := hW3.fr hF4 (by unfold W_pp; omega)
          have hb4 : ∀ j, T4.2.1 2 j = σ.2.1 56 j := fun j => (hF4.2.2 2 j (by unfold W_pp; omega)).trans (hb3 j)
          have hF4b : frw (W_li 37) σ T4 := (hF2.trans hF3).trans (hF4.mono (fun a j h => by unfold W_pp at h; unfold W_li; omega))
          obtain ⟨_, rfl⟩ := hPd.resolve_left (fun z => pb z.1)
          refine am_if_ne (q := 78) (t := 80) (am_tab tk_X3_readInto 44 rfl) (by decide) rfl (fun h75 => ?_) (fun h75 => ?_)
          · exact absurd h75 (by decide)
          · refine am_iconst (q := 79) (n := 0) (by decide) (am_tab tk_X3_readInto 45 rfl) rfl ?_
            refine am_iret (Or.inr ⟨rfl, by first | exact Or.inl rfl | exact Or.inr rfl | omega⟩) (Nat.le_of_ble_eq_true rfl) (Nat.le_of_ble_eq_true rfl) (am_tab tk_X3_readInto 46 rfl) ?_
            refine hQ _ _ ?_
            refine ⟨Or.inr ⟨ii_f (fun z => ?_), rfl⟩, hF4b⟩
            exact pb (iiC_iff.mp z).2.1.2
    · refine am_iconst (q := 40) (n := 0) (by decide) (am_tab tk_X3_readInto 24 rfl) rfl ?_
      refine am_iret (Or.inr ⟨rfl, by first | exact Or.inl rfl | exact Or.inr rfl | omega⟩) (Nat.le_of_ble_eq_true rfl) (Nat.le_of_ble_eq_true rfl) (am_tab tk_X3_readInto 25 rfl) ?_
      refine hQ _ _ ?_
      refine ⟨Or.inr ⟨ii_f (fun z => ?_), rfl⟩, frw.refl _ σ⟩
      obtain ⟨⟨_, g2, g3⟩, _⟩ := iiC_iff.mp z
      rw [← hTb, ← show (fun i => σ.2.1 2 i) = (fun i => σ.2.1 56 i) from funext hTb] at g3
      exact h36 g3
set_option maxRecDepth 100000 in
theorem c_readListN_15 (S : am_H) (hL : lay S) (n : Int) (hn : S.2.1 1 1 = n) (hnr : 0 ≤ n ∧ n ≤ 1600) (y : Int)  : am_met M_X3_readList [am_r 1, am_i ((-1)), am_r 15, am_r 40, am_i y] S (fun r σ' => r = some (am_i (-1)) ∧ σ' = S) := by
  refine am_qq (fun Q hQ => ?_)
  refine am_enter (show plainFor yX3_readList = true by decide +kernel) rfl (Nat.le_of_ble_eq_true rfl) (fun _ _ _ => trivial) ?_
  refine am_aload_n (q := 1) rfl (am_tab tk_X3_readList 0 rfl) rfl ?_
  refine am_getI (q := 4) (a := 1) (k := 6) (n := 2) (j := 1) (x := n) (Ls_1 hL) (by decide) rfl hn (by decide) (Or.inr kf_X3_71) (am_tab tk_X3_readList 1 rfl) rfl ?_
  refine am_iconst (q := 5) (n := 1) (by decide) (am_tab tk_X3_readList 2 rfl) rfl ?_
  refine am_isub (q := 6) (by omega) (am_tab tk_X3_readList 3 rfl) rfl ?_
  refine am_istore (q := 8) (by decide) (ls2 := [(5, am_i ((n - 1))), (0, am_r 1), (1, am_i ((-1))), (2, am_r 15), (3, am_r 40), (4, am_i y)]) rfl (am_tab tk_X3_readList 4 rfl) rfl ?_
  refine am_iload_n (q := 9) rfl (am_tab tk_X3_readList 5 rfl) rfl ?_
  refine am_if_lt (q := 12) (t := 18) (am_tab tk_X3_readList 6 rfl) (by decide) rfl (fun h9 => ?_) (fun h9 => ?_)
  · refine am_iconst (q := 19) (n := (-1)) (by decide) (am_tab tk_X3_readList 10 rfl) rfl ?_
    refine am_iret (Or.inl rfl) (Nat.le_of_ble_eq_true rfl) (Nat.le_of_ble_eq_true rfl) (am_tab tk_X3_readList 11 rfl) ?_
    refine hQ _ _ ?_
    exact ⟨rfl, rfl⟩
  · exact absurd h9 (by decide)
set_option maxRecDepth 100000 in
theorem c_readInto_15 (σ : am_H) (hC : CI 15 σ)  (hT11 : σ.2.1 1 1 = σ.2.1 55 1) (hTb : ∀ j, σ.2.1 2 j = σ.2.1 56 j) (hTR : TPR σ) (hE : EXT σ) (h52 : ¬ σ.2.1 55 52 = 0) : am_met M_X3_readInto [am_r 1, am_r 15, am_r 37] σ (fun r σ' => RIN σ r σ') := by
  refine am_qq (fun Q hQ => ?_)
  refine am_enter (show plainFor yX3_readInto = true by decide +kernel) rfl (Nat.le_of_ble_eq_true rfl) (fun _ _ _ => trivial) ?_
  have hL := hC.G.L
  have hN := hC.G.R.P
  have hNe := pN_eq hC.G.R
  have hb22 := hTR.2 2 (by decide)
  have hn0 := hTR.1
  have hcs := hTR.2 (sF σ) (by have := pN_8 hC.G.R; unfold sF; omega)
  have hsF : (sF σ : Int) = 7 + 2 * σ.2.1 85 5 := by unfold sF; omega
  have hsF2 : (sF2 σ : Int) = (sF σ : Int) + 1 + 2 * σ.2.1 56 (sF σ) := by unfold sF2; omega
  refine am_aload_n (q := 1) rfl (am_tab tk_X3_readInto 0 rfl) rfl ?_
  refine am_getI (q := 4) (a := 1) (k := 6) (n := 2) (j := 1) (x := (σ.2.1 55 1)) (Ls_1 hL) (by decide) rfl hT11 (by decide) (Or.inr kf_X3_71) (am_tab tk_X3_readInto 1 rfl) rfl ?_
  refine am_iconst (q := 5) (n := 1) (by decide) (am_tab tk_X3_readInto 2 rfl) rfl ?_
  refine am_isub (q := 6) (by omega) (am_tab tk_X3_readInto 3 rfl) rfl ?_
  refine am_istore_n (q := 7) (by decide) (ls2 := [(3, am_i (((σ.2.1 55 1) - 1))), (0, am_r 1), (1, am_r 15), (2, am_r 37)]) rfl (am_tab tk_X3_readInto 4 rfl) rfl ?_
  refine am_iload_n (q := 8) rfl (am_tab tk_X3_readInto 5 rfl) rfl ?_
  refine am_bipush (q := 10) (n := 7) (by decide) rfl (am_tab tk_X3_readInto 6 rfl) rfl ?_
  refine am_iconst (q := 11) (n := 2) (by decide) (am_tab tk_X3_readInto 7 rfl) rfl ?_
  refine am_aload_n (q := 12) rfl (am_tab tk_X3_readInto 8 rfl) rfl ?_
  refine am_getI (q := 15) (a := 15) (k := 8) (n := 17) (j := 2) (x := (σ.2.1 85 5)) (Ls_15 hL) (by decide) rfl hC.W.people (by decide) (Or.inr kf_X3_38) (am_tab tk_X3_readInto 9 rfl) rfl ?_
  refine am_imul (q := 16) (by omega) (am_tab tk_X3_readInto 10 rfl) rfl ?_
  refine am_iadd (q := 17) (by omega) (am_tab tk_X3_readInto 11 rfl) rfl ?_
  refine am_iconst (q := 18) (n := 2) (by decide) (am_tab tk_X3_readInto 12 rfl) rfl ?_
  refine am_iadd (q := 19) (by omega) (am_tab tk_X3_readInto 13 rfl) rfl ?_
  refine am_icmp_lt (q := 22) (t := 39) (am_tab tk_X3_readInto 14 rfl) (by decide) rfl (fun h19 => ?_) (fun h19 => ?_)
  · refine am_iconst (q := 40) (n := 0) (by decide) (am_tab tk_X3_readInto 24 rfl) rfl ?_
    refine am_iret (Or.inr ⟨rfl, by first | exact Or.inl rfl | exact Or.inr rfl | omega⟩) (Nat.le_of_ble_eq_true rfl) (Nat.le_of_ble_eq_true rfl) (am_tab tk_X3_readInto 25 rfl) ?_
    refine hQ _ _ ?_
    refine ⟨Or.inr ⟨ii_f (fun z => ?_), rfl⟩, frw.refl _ σ⟩
    obtain ⟨⟨_, g2, g3⟩, _⟩ := iiC_iff.mp z
    unfold sF at g2
    omega
  · refine am_aload_n (q := 23) rfl (am_tab tk_X3_readInto 15 rfl) rfl ?_
    refine am_getR (q := 26) (a := 1) (k := 6) (n := 2) (j := 0) (r := some (2)) (Ls_1 hL) (by decide) rfl (Lr_1_0 hL) (by decide) (Or.inr kf_X3_76) (am_tab tk_X3_readInto 16 rfl) rfl ?_
    refine am_iload_n (q := 27) rfl (am_tab tk_X3_readInto 17 rfl) rfl ?_
    refine am_iald (q := 28) (a := 2) (n := 1600) (x := (σ.2.1 2 (Int.toNat ((σ.2.1 55 1) - 1)))) (Ls_2 hL) (by omega) (by omega) rfl (am_tab tk_X3_readInto 18 rfl) rfl ?_
    refine am_aload_n (q := 29) rfl (am_tab tk_X3_readInto 19 rfl) rfl ?_
    refine am_getR (q := 32) (a := 1) (k := 6) (n := 2) (j := 0) (r := some (2)) (Ls_1 hL) (by decide) rfl (Lr_1_0 hL) (by decide) (Or.inr kf_X3_76) (am_tab tk_X3_readInto 20 rfl) rfl ?_
    refine am_iload_n (q := 33) rfl (am_tab tk_X3_readInto 21 rfl) rfl ?_
    refine am_callS0 (q := 36) (me2 := M_X3_checkOf) (As := [am_r 2, am_i (((σ.2.1 55 1) - 1))]) (rest := [am_i ((σ.2.1 2 (Int.toNat ((σ.2.1 55 1) - 1))))]) (out := [am_i ((ckN (fun i => σ.2.1 2 i) (σ.2.1 55 1 - 1).toNat)), am_i ((σ.2.1 2 (Int.toNat ((σ.2.1 55 1) - 1))))]) (c_chx (n := (σ.2.1 55 1 - 1).toNat) (by omega) (c_checkOf_2 σ hL (σ.2.1 55 1 - 1).toNat (by omega) (fun i hi => by rw [hTb]; exact hTR.2 i (by omega)))) ⟨rfl, rfl⟩ ⟨Or.inl km_X3_63, kc_X3_checkOf, kn_X3, kd_X3_checkOf, ⟨(Nat.le_of_ble_eq_true rfl), (Nat.le_of_ble_eq_true rfl)⟩, ⟨(Nat.le_of_ble_eq_true rfl), (Nat.le_of_ble_eq_true rfl)⟩, (Nat.le_of_ble_eq_true rfl)⟩ ki_X3_checkOf rfl rfl (am_tab tk_X3_readInto 22 rfl) rfl ?_
    refine am_icmp_eq (q := 39) (t := 41) (am_tab tk_X3_readInto 23 rfl) (by decide) rfl (fun h36 => ?_) (fun h36 => ?_)
    · have hck := h36
      refine am_aload_n (q := 42) rfl (am_tab tk_X3_readInto 26 rfl) rfl ?_
      refine am_aload_n (q := 43) rfl (am_tab tk_X3_readInto 27 rfl) rfl ?_
      refine am_callVr (q := 46) (me2 := M_X1_begin) (b := 37) (kb := 1) (nb := 11) (As := [am_r 15]) (rest := []) (c_begin_15_37 σ hL) ⟨rfl, rfl⟩ (Ls_37 hL) (by decide) ⟨Or.inr km_X3_77, kc_X1_begin, kn_X1, kd_X1_begin, ⟨(Nat.le_of_ble_eq_true rfl), (Nat.le_of_ble_eq_true rfl)⟩, ⟨(Nat.le_of_ble_eq_true rfl), (Nat.le_of_ble_eq_true rfl)⟩, (Nat.le_of_ble_eq_true rfl)⟩ ki_X1_begin ks_X1_begin rfl (am_tab tk_X3_readInto 28 rfl) rfl ?_
      rintro r T1 ⟨rfl, hLF1, hR1, hF1⟩
      have hL1 := hF1.L hL
      refine am_aload_n (q := 47) rfl (am_tab tk_X3_readInto 29 rfl) rfl ?_
      refine am_getR (q := 50) (a := 37) (k := 1) (n := 11) (j := 6) (r := some (39)) (Ls_37 hL1) (by decide) rfl (Lr_37_6 hL1) (by decide) (Or.inr kf_X3_53) (am_tab tk_X3_readInto 30 rfl) rfl ?_
      refine am_iconst (q := 51) (n := 0) (by decide) (am_tab tk_X3_readInto 31 rfl) rfl ?_
      refine am_callSr (q := 54) (me2 := M_J7_fill_53178) (As := [am_r 39, am_i 0]) (rest := []) (c_fill T1 39 91 0 (Ls_39 hL1) (by decide)) ⟨rfl, rfl⟩ ⟨Or.inl km_X3_81, kc_J7_fill_53178, kn_J7, kd_J7_fill_53178, ⟨(Nat.le_of_ble_eq_true rfl), (Nat.le_of_ble_eq_true rfl)⟩, ⟨(Nat.le_of_ble_eq_true rfl), (Nat.le_of_ble_eq_true rfl)⟩, (Nat.le_of_ble_eq_true rfl)⟩ ki_J7_fill_53178 rfl (am_tab tk_X3_readInto 32 rfl) rfl ?_
      rintro r T2 ⟨rfl, hT2b⟩
      have hdz : T1.2.1 37 4 = 0 := set_ext hLF1.2.1 (by decide) (fun p hp => by rw [hLF1.2.2.1 p hp, tb0]; unfold bgL; rw [if_neg (by omega), if_neg (by omega)])
      have hF2 : frw (W_li 37) σ T2 := by rw [hT2b]; exact hF1.setA (fun j => by unfold W_li; omega)
      have hL2 := hF2.L hL
      have hW2 : TWr 15 T2 σ := hC.W.fr hF2 (by unfold W_li; omega)
      have hb2 : ∀ j, T2.2.1 2 j = σ.2.1 56 j := fun j => (hF2.2.2 2 j (by unfold W_li; omega)).trans (hTb j)
      have h39 : ∀ d : Nat, d < 91 → T2.2.1 39 d = 0 := fun d hd => by rw [hT2b, setA_eq]; exact if_pos hd
      have z37 : ∀ a j, ¬ a = 39 → T2.2.1 a j = T1.2.1 a j := fun a j h => by rw [hT2b, setA_nn h]
      have h40 : ∀ d : Nat, d < 91 → T2.2.1 40 d = 0 := fun d hd => by rw [z37 40 d (by decide)]; exact (hLF1.2.2.2.2.2 d hd).trans (by unfold bgL; rw [if_neg (by omega), if_neg (by omega)])
      have h38 : ∀ p : Nat, p < 8 → T2.2.1 38 p = 0 := fun p hp => by rw [z37 38 p (by decide)]; exact (hLF1.2.2.2.1 p hp).trans (by unfold bgL; rw [if_neg (by omega), if_neg (by omega)])
      have h374 : T2.2.1 37 4 = 0 := by rw [z37 37 4 (by decide)]; exact hdz
      have h379 : T2.2.1 37 9 = 0 := (z37 37 9 (by decide)).trans hR1.1
      have h370 : T2.2.1 37 10 = 0 := (z37 37 10 (by decide)).trans hR1.2
      refine am_aload_n (q := 55) rfl (am_tab tk_X3_readInto 33 rfl) rfl ?_
      refine am_getR (q := 58) (a := 1) (k := 6) (n := 2) (j := 0) (r := some (2)) (Ls_1 hL2) (by decide) rfl (Lr_1_0 hL2) (by decide) (Or.inr kf_X3_76) (am_tab tk_X3_readInto 34 rfl) rfl ?_
      refine am_aload_n (q := 59) rfl (am_tab tk_X3_readInto 35 rfl) rfl ?_
      refine am_aload_n (q := 60) rfl (am_tab tk_X3_readInto 36 rfl) rfl ?_
      refine am_callSr (q := 63) (me2 := M_X3_readHead) (As := [am_r 2, am_r 15, am_r 37]) (rest := []) (c_readHead_15 σ T2 hL2 hb2 hTR hC.G hW2) ⟨rfl, rfl⟩ ⟨Or.inl km_X3_87, kc_X3_readHead, kn_X3, kd_X3_readHead, ⟨(Nat.le_of_ble_eq_true rfl), (Nat.le_of_ble_eq_true rfl)⟩, ⟨(Nat.le_of_ble_eq_true rfl), (Nat.le_of_ble_eq_true rfl)⟩, (Nat.le_of_ble_eq_true rfl)⟩ ki_X3_readHead rfl (am_tab tk_X3_readInto 37 rfl) rfl ?_
      rintro r T3 ⟨rfl, hT3⟩
      have hF3 : frw (W_li 37) T2 T3 := by rw [hT3]; exact ((((frw.refl (W_li 37) T2).setN (by unfold W_li; omega)).setN (by unfold W_li; omega)).setN (by unfold W_li; omega)).setN (by unfold W_li; omega)
      have hL3 := hF3.L hL2
      have hW3 : TWr 15 T3 σ := hW2.fr hF3 (by unfold W_li; omega)
      have hb3 : ∀ j, T3.2.1 2 j = σ.2.1 56 j := fun j => (hF3.2.2 2 j (by unfold W_li; omega)).trans (hb2 j)
      have c3 : ∀ a j, ¬ (a = 37 ∧ j < 4) → T3.2.1 a j = T2.2.1 a j := fun a j h => by rw [hT3, set_nn (by omega), set_nn (by omega), set_nn (by omega), set_nn (by omega)]
      have e30 : T3.2.1 37 0 = σ.2.1 56 0 * 256 + σ.2.1 56 1 := by rw [hT3]; rfl
      have e31 : T3.2.1 37 1 = σ.2.1 56 2 := by rw [hT3]; rfl
      have e32 : T3.2.1 37 2 = σ.2.1 56 3 := by rw [hT3]; rfl
      have e33 : T3.2.1 37 3 = σ.2.1 56 4 * 65536 + σ.2.1 56 5 * 256 + σ.2.1 56 6 := by rw [hT3]; rfl
      refine am_st (st2 := [am_i ((if HC1 σ then 1 else 0))]) rfl ?_
      refine am_if_eq (q := 66) (t := 78) (am_tab tk_X3_readInto 38 rfl) (by decide) rfl (fun h63 => ?_) (fun h63 => ?_)
      · replace h63 := b01z h63
        refine am_iconst (q := 79) (n := 0) (by decide) (am_tab tk_X3_readInto 45 rfl) rfl ?_
        refine am_iret (Or.inr ⟨rfl, by first | exact Or.inl rfl | exact Or.inr rfl | omega⟩) (Nat.le_of_ble_eq_true rfl) (Nat.le_of_ble_eq_true rfl) (am_tab tk_X3_readInto 46 rfl) ?_
        refine hQ _ _ ?_
        refine ⟨Or.inr ⟨ii_f (fun z => ?_), rfl⟩, hF2.trans hF3⟩
        exact h63 (iiC_iff.mp z).2.1.1
      · replace h63 := b01n h63
        by_cases pb : anyB (hdB σ) (pN σ) = false
        · have hHC := h63
          refine am_aload_n (q := 67) rfl (am_tab tk_X3_readInto 39 rfl) rfl ?_
          refine am_getR (q := 70) (a := 1) (k := 6) (n := 2) (j := 0) (r := some (2)) (Ls_1 hL3) (by decide) rfl (Lr_1_0 hL3) (by decide) (Or.inr kf_X3_76) (am_tab tk_X3_readInto 40 rfl) rfl ?_
          refine am_aload_n (q := 71) rfl (am_tab tk_X3_readInto 41 rfl) rfl ?_
          refine am_aload_n (q := 72) rfl (am_tab tk_X3_readInto 42 rfl) rfl ?_
          refine am_callSr (q := 75) (me2 := M_X3_readPeople) (As := [am_r 2, am_r 15, am_r 37]) (rest := []) (c_readPeople_15 σ T3 hL3 hb3 hTR hC.G hW3 ((c3 37 4 (by decide)).trans h374)) ⟨rfl, rfl⟩ ⟨Or.inl km_X3_91, kc_X3_readPeople, kn_X3, kd_X3_readPeople, ⟨(Nat.le_of_ble_eq_true rfl), (Nat.le_of_ble_eq_true rfl)⟩, ⟨(Nat.le_of_ble_eq_true rfl), (Nat.le_of_ble_eq_true rfl)⟩, (Nat.le_of_ble_eq_true rfl)⟩ ki_X3_readPeople rfl (am_tab tk_X3_readInto 43 rfl) rfl ?_
          rintro r T4 ⟨hPd, hF4⟩
          have hL4 := hF4.L hL3
          have hW4 : TWr 15 T4 σ := hW3.fr hF4 (by unfold W_pp; omega)
          have hb4 : ∀ j, T4.2.1 2 j = σ.2.1 56 j := fun j => (hF4.2.2 2 j (by unfold W_pp; omega)).trans (hb3 j)
          have hF4b : frw (W_li 37) σ T4 := (hF2.trans hF3).trans (hF4.mono (fun a j h => by unfold W_pp at h; unfold W_li; omega))
          obtain ⟨_, rfl, hPP⟩ := hPd.resolve_right (fun z => by rw [z.1] at pb; exact absurd pb (by decide))
          refine am_if_ne (q := 78) (t := 80) (am_tab tk_X3_readInto 44 rfl) (by decide) rfl (fun h75 => ?_) (fun h75 => ?_)
          · by_cases a1 : asC σ (sF σ) (σ.2.1 55 1 - 1) 0 = true
            · refine am_aload_n (q := 81) rfl (am_tab tk_X3_readInto 47 rfl) rfl ?_
              refine am_bipush (q := 83) (n := 7) (by decide) rfl (am_tab tk_X3_readInto 48 rfl) rfl ?_
              refine am_iconst (q := 84) (n := 2) (by decide) (am_tab tk_X3_readInto 49 rfl) rfl ?_
              refine am_aload_n (q := 85) rfl (am_tab tk_X3_readInto 50 rfl) rfl ?_
              refine am_getI (q := 88) (a := 15) (k := 8) (n := 17) (j := 2) (x := (σ.2.1 85 5)) (Ls_15 hL4) (by decide) rfl hW4.people (by decide) (Or.inr kf_X3_38) (am_tab tk_X3_readInto 51 rfl) rfl ?_
              refine am_imul (q := 89) (by omega) (am_tab tk_X3_readInto 52 rfl) rfl ?_
              refine am_iadd (q := 90) (by omega) (am_tab tk_X3_readInto 53 rfl) rfl ?_
              refine am_aload_n (q := 91) rfl (am_tab tk_X3_readInto 54 rfl) rfl ?_
              refine am_aload_n (q := 92) rfl (am_tab tk_X3_readInto 55 rfl) rfl ?_
              refine am_getR (q := 95) (a := 37) (k := 1) (n := 11) (j := 6) (r := some (39)) (Ls_37 hL4) (by decide) rfl (Lr_37_6 hL4) (by decide) (Or.inr kf_X3_53) (am_tab tk_X3_readInto 56 rfl) rfl ?_
              refine am_iconst (q := 96) (n := 1) (by decide) (am_tab tk_X3_readInto 57 rfl) rfl ?_
              refine am_callSr (q := 99) (me2 := M_X3_readList) (As := [am_r 1, am_i ((7 + (2 * (σ.2.1 85 5)))), am_r 15, am_r 39, am_i 1]) (rest := []) (c_rlx (σ := σ) (F := sF σ) (le := 0) (by unfold sF; omega) (by omega) (c_readList_15_39 σ T4 hL4 hb4 hTR hC.G hW4 0 (σ.2.1 55 1) (sF σ) ((hF4b.2.2 1 1 (by unfold W_li; omega)).trans hT11) hTR.1 (by decide) (by unfold sF; omega) (fun d hd => (hF4.2.2 39 d (by unfold W_pp; omega)).trans ((c3 39 d (by omega)).trans (h39 d hd))))) ⟨rfl, rfl⟩ ⟨Or.inl km_X3_94, kc_X3_readList, kn_X3, kd_X3_readList, ⟨(Nat.le_of_ble_eq_true rfl), (Nat.le_of_ble_eq_true rfl)⟩, ⟨(Nat.le_of_ble_eq_true rfl), (Nat.le_of_ble_eq_true rfl)⟩, (Nat.le_of_ble_eq_true rfl)⟩ ki_X3_readList rfl (am_tab tk_X3_readInto 58 rfl) rfl ?_
              rintro r T5 ⟨hRd, hF5⟩
              have hL5 := hF5.L hL4
              have hW5 : TWr 15 T5 σ := hW4.fr hF5 (by omega)
              have hb5 : ∀ j, T5.2.1 2 j = σ.2.1 56 j := fun j => (hF5.2.2 2 j (by omega)).trans (hb4 j)
              have hF5b : frw (W_li 37) σ T5 := hF4b.trans (hF5.mono (fun a j h => by unfold W_li; omega))
              have hn5 : T5.2.1 1 1 = σ.2.1 55 1 := (hF5b.2.2 1 1 (by unfold W_li; omega)).trans hT11
              have e51 : T5.2.1 37 1 = σ.2.1 56 2 := (hF5.2.2 37 1 (by omega)).trans ((hF4.2.2 37 1 (by unfold W_pp; omega)).trans e31)
              obtain ⟨_, rfl, hV1⟩ := hRd.resolve_right (fun z => by rw [z.1] at a1; exact absurd a1 (by decide))
              have hc1 := as_cnt a1
              refine am_istore (q := 101) (by decide) (ls2 := [(4, am_i (((sF σ : Int) + 1 + 2 * σ.2.1 56 (sF σ)))), (3, am_i (((σ.2.1 55 1) - 1))), (0, am_r 1), (1, am_r 15), (2, am_r 37)]) rfl (am_tab tk_X3_readInto 59 rfl) rfl ?_
              by_cases a2 : asC σ (sF2 σ) (σ.2.1 55 1 - 1) (σ.2.1 56 2) = true
              · refine am_aload_n (q := 102) rfl (am_tab tk_X3_readInto 60 rfl) rfl ?_
                refine am_iload (q := 104) rfl (am_tab tk_X3_readInto 61 rfl) rfl ?_
                refine am_aload_n (q := 105) rfl (am_tab tk_X3_readInto 62 rfl) rfl ?_
                refine am_aload_n (q := 106) rfl (am_tab tk_X3_readInto 63 rfl) rfl ?_
                refine am_getR (q := 109) (a := 37) (k := 1) (n := 11) (j := 7) (r := some (40)) (Ls_37 hL5) (by decide) rfl (Lr_37_7 hL5) (by decide) (Or.inr kf_X3_60) (am_tab tk_X3_readInto 64 rfl) rfl ?_
                refine am_aload_n (q := 110) rfl (am_tab tk_X3_readInto 65 rfl) rfl ?_
                refine am_getI (q := 113) (a := 37) (k := 1) (n := 11) (j := 1) (x := (σ.2.1 56 2)) (Ls_37 hL5) (by decide) rfl e51 (by decide) (Or.inr kf_X3_28) (am_tab tk_X3_readInto 66 rfl) rfl ?_
                refine am_iconst (q := 114) (n := 1) (by decide) (am_tab tk_X3_readInto 67 rfl) rfl ?_
                refine am_iadd (q := 115) (by omega) (am_tab tk_X3_readInto 68 rfl) rfl ?_
                refine am_callSr (q := 118) (me2 := M_X3_readList) (As := [am_r 1, am_i (((sF σ : Int) + 1 + 2 * σ.2.1 56 (sF σ))), am_r 15, am_r 40, am_i (((σ.2.1 56 2) + 1))]) (rest := []) (c_rlx (σ := σ) (F := sF2 σ) (le := σ.2.1 56 2) (by unfold sF2; omega) rfl (c_readList_15_40 σ T5 hL5 hb5 hTR hC.G hW5 (σ.2.1 56 2) (σ.2.1 55 1) (sF2 σ) hn5 hTR.1 hb22 (by unfold sF2; omega) (fun d hd => (hF5.2.2 40 d (by omega)).trans ((hF4.2.2 40 d (by unfold W_pp; omega)).trans ((c3 40 d (by omega)).trans (h40 d hd)))))) ⟨rfl, rfl⟩ ⟨Or.inl km_X3_94, kc_X3_readList, kn_X3, kd_X3_readList, ⟨(Nat.le_of_ble_eq_true rfl), (Nat.le_of_ble_eq_true rfl)⟩, ⟨(Nat.le_of_ble_eq_true rfl), (Nat.le_of_ble_eq_true rfl)⟩, (Nat.le_of_ble_eq_true rfl)⟩ ki_X3_readList rfl (am_tab tk_X3_readInto 69 rfl) rfl ?_
                rintro r T6 ⟨hRd2, hF6⟩
                have hL6 := hF6.L hL5
                have hF6b : frw (W_li 37) σ T6 := hF5b.trans (hF6.mono (fun a j h => by unfold W_li; omega))
                obtain ⟨_, rfl, hV2⟩ := hRd2.resolve_right (fun z => by rw [z.1] at a2; exact absurd a2 (by decide))
                refine am_istore (q := 120) (by decide) (ls2 := [(4, am_i (((sF2 σ : Int) + 1 + 2 * σ.2.1 56 (sF2 σ)))), (3, am_i (((σ.2.1 55 1) - 1))), (0, am_r 1), (1, am_r 15), (2, am_r 37)]) rfl (am_tab tk_X3_readInto 70 rfl) rfl ?_
                refine am_iload (q := 122) rfl (am_tab tk_X3_readInto 71 rfl) rfl ?_
                refine am_iload_n (q := 123) rfl (am_tab tk_X3_readInto 72 rfl) rfl ?_
                refine am_icmp_ne (q := 126) (t := 130) (am_tab tk_X3_readInto 73 rfl) (by decide) rfl (fun h123 => ?_) (fun h123 => ?_)
                · refine am_iconst (q := 131) (n := 0) (by decide) (am_tab tk_X3_readInto 76 rfl) rfl ?_
                  refine am_iret (Or.inr ⟨rfl, by first | exact Or.inl rfl | exact Or.inr rfl | omega⟩) (Nat.le_of_ble_eq_true rfl) (Nat.le_of_ble_eq_true rfl) (am_tab tk_X3_readInto 77 rfl) ?_
                  refine hQ _ _ ?_
                  refine ⟨Or.inr ⟨ii_f (fun z => ?_), rfl⟩, hF6b⟩
                  obtain ⟨_, _, g4, g5, g6⟩ := iiC_iff.mp z
                  omega
                · refine am_iconst (q := 127) (n := 1) (by decide) (am_tab tk_X3_readInto 74 rfl) rfl ?_
                  refine am_goto (t := 131) (am_tab tk_X3_readInto 75 rfl) (by decide) ?_
                  refine am_iret (Or.inr ⟨rfl, by first | exact Or.inl rfl | exact Or.inr rfl | omega⟩) (Nat.le_of_ble_eq_true rfl) (Nat.le_of_ble_eq_true rfl) (am_tab tk_X3_readInto 77 rfl) ?_
                  refine hQ _ _ ?_
                  refine ⟨Or.inl ⟨iiC_iff.mpr ⟨⟨h52, by unfold sF; omega, by rw [← hTb, ← show (fun i => σ.2.1 2 i) = (fun i => σ.2.1 56 i) from funext hTb]; exact hck⟩, ⟨hHC, pb⟩, a1, a2, by omega⟩, rfl, ?_, ?_, ?_⟩, hF6b⟩
                  · refine on_lf (pN_8 hC.G.R) hE ?_ ?_ ?_ ?_ ?_ ?_ ?_ ?_ hV2
                    · rw [hF6.2.2 37 0 (by omega), hF5.2.2 37 0 (by omega), hF4.2.2 37 0 (by unfold W_pp; omega)]; exact e30
                    · rw [hF6.2.2 37 1 (by omega), hF5.2.2 37 1 (by omega), hF4.2.2 37 1 (by unfold W_pp; omega)]; exact e31
                    · rw [hF6.2.2 37 2 (by omega), hF5.2.2 37 2 (by omega), hF4.2.2 37 2 (by unfold W_pp; omega)]; exact e32
                    · rw [hF6.2.2 37 3 (by omega), hF5.2.2 37 3 (by omega), hF4.2.2 37 3 (by unfold W_pp; omega)]; exact e33
                    · rw [hF6.2.2 37 4 (by omega), hF5.2.2 37 4 (by omega)]; exact hPP.2.2.1
                    · intro p hp; rw [hF6.2.2 37 4 (by omega), hF5.2.2 37 4 (by omega)]; exact hPP.2.2.2 p hp
                    · intro p hp; rw [hF6.2.2 38 p (by omega), hF5.2.2 38 p (by omega), hPP.2.1 p, c3 38 p (by omega), h38 p hp]
                    · intro d hd; rw [hF6.2.2 39 d (by omega)]; exact hV1 d hd
                  · rw [hF6.2.2 37 9 (by omega), hF5.2.2 37 9 (by omega), hF4.2.2 37 9 (by unfold W_pp; omega), c3 37 9 (by decide)]; exact h379
                  · rw [hF6.2.2 37 10 (by omega), hF5.2.2 37 10 (by omega), hF4.2.2 37 10 (by unfold W_pp; omega), c3 37 10 (by decide)]; exact h370
              · refine am_aload_n (q := 102) rfl (am_tab tk_X3_readInto 60 rfl) rfl ?_
                refine am_iload (q := 104) rfl (am_tab tk_X3_readInto 61 rfl) rfl ?_
                refine am_aload_n (q := 105) rfl (am_tab tk_X3_readInto 62 rfl) rfl ?_
                refine am_aload_n (q := 106) rfl (am_tab tk_X3_readInto 63 rfl) rfl ?_
                refine am_getR (q := 109) (a := 37) (k := 1) (n := 11) (j := 7) (r := some (40)) (Ls_37 hL5) (by decide) rfl (Lr_37_7 hL5) (by decide) (Or.inr kf_X3_60) (am_tab tk_X3_readInto 64 rfl) rfl ?_
                refine am_aload_n (q := 110) rfl (am_tab tk_X3_readInto 65 rfl) rfl ?_
                refine am_getI (q := 113) (a := 37) (k := 1) (n := 11) (j := 1) (x := (σ.2.1 56 2)) (Ls_37 hL5) (by decide) rfl e51 (by decide) (Or.inr kf_X3_28) (am_tab tk_X3_readInto 66 rfl) rfl ?_
                refine am_iconst (q := 114) (n := 1) (by decide) (am_tab tk_X3_readInto 67 rfl) rfl ?_
                refine am_iadd (q := 115) (by omega) (am_tab tk_X3_readInto 68 rfl) rfl ?_
                refine am_callSr (q := 118) (me2 := M_X3_readList) (As := [am_r 1, am_i (((sF σ : Int) + 1 + 2 * σ.2.1 56 (sF σ))), am_r 15, am_r 40, am_i (((σ.2.1 56 2) + 1))]) (rest := []) (c_rlx (σ := σ) (F := sF2 σ) (le := σ.2.1 56 2) (by unfold sF2; omega) rfl (c_readList_15_40 σ T5 hL5 hb5 hTR hC.G hW5 (σ.2.1 56 2) (σ.2.1 55 1) (sF2 σ) hn5 hTR.1 hb22 (by unfold sF2; omega) (fun d hd => (hF5.2.2 40 d (by omega)).trans ((hF4.2.2 40 d (by unfold W_pp; omega)).trans ((c3 40 d (by omega)).trans (h40 d hd)))))) ⟨rfl, rfl⟩ ⟨Or.inl km_X3_94, kc_X3_readList, kn_X3, kd_X3_readList, ⟨(Nat.le_of_ble_eq_true rfl), (Nat.le_of_ble_eq_true rfl)⟩, ⟨(Nat.le_of_ble_eq_true rfl), (Nat.le_of_ble_eq_true rfl)⟩, (Nat.le_of_ble_eq_true rfl)⟩ ki_X3_readList rfl (am_tab tk_X3_readInto 69 rfl) rfl ?_
                rintro r T6 ⟨hRd2, hF6⟩
                have hL6 := hF6.L hL5
                have hF6b : frw (W_li 37) σ T6 := hF5b.trans (hF6.mono (fun a j h => by unfold W_li; omega))
                obtain ⟨_, rfl⟩ := hRd2.resolve_left (fun z => a2 z.1)
                refine am_istore (q := 120) (by decide) (ls2 := [(4, am_i ((-1))), (3, am_i (((σ.2.1 55 1) - 1))), (0, am_r 1), (1, am_r 15), (2, am_r 37)]) rfl (am_tab tk_X3_readInto 70 rfl) rfl ?_
                refine am_iload (q := 122) rfl (am_tab tk_X3_readInto 71 rfl) rfl ?_
                refine am_iload_n (q := 123) rfl (am_tab tk_X3_readInto 72 rfl) rfl ?_
                refine am_icmp_ne (q := 126) (t := 130) (am_tab tk_X3_readInto 73 rfl) (by decide) rfl (fun h123 => ?_) (fun h123 => ?_)
                · refine am_iconst (q := 131) (n := 0) (by decide) (am_tab tk_X3_readInto 76 rfl) rfl ?_
                  refine am_iret (Or.inr ⟨rfl, by first | exact Or.inl rfl | exact Or.inr rfl | omega⟩) (Nat.le_of_ble_eq_true rfl) (Nat.le_of_ble_eq_true rfl) (am_tab tk_X3_readInto 77 rfl) ?_
                  refine hQ _ _ ?_
                  refine ⟨Or.inr ⟨ii_f (fun z => ?_), rfl⟩, hF6b⟩
                  obtain ⟨_, _, g4, g5, g6⟩ := iiC_iff.mp z
                  exact a2 g5
                · refine am_iconst (q := 127) (n := 1) (by decide) (am_tab tk_X3_readInto 74 rfl) rfl ?_
                  refine am_goto (t := 131) (am_tab tk_X3_readInto 75 rfl) (by decide) ?_
                  refine am_iret (Or.inr ⟨rfl, by first | exact Or.inl rfl | exact Or.inr rfl | omega⟩) (Nat.le_of_ble_eq_true rfl) (Nat.le_of_ble_eq_true rfl) (am_tab tk_X3_readInto 77 rfl) ?_
                  refine hQ _ _ ?_
                  exfalso
                  omega
            · refine am_aload_n (q := 81) rfl (am_tab tk_X3_readInto 47 rfl) rfl ?_
              refine am_bipush (q := 83) (n := 7) (by decide) rfl (am_tab tk_X3_readInto 48 rfl) rfl ?_
              refine am_iconst (q := 84) (n := 2) (by decide) (am_tab tk_X3_readInto 49 rfl) rfl ?_
              refine am_aload_n (q := 85) rfl (am_tab tk_X3_readInto 50 rfl) rfl ?_
              refine am_getI (q := 88) (a := 15) (k := 8) (n := 17) (j := 2) (x := (σ.2.1 85 5)) (Ls_15 hL4) (by decide) rfl hW4.people (by decide) (Or.inr kf_X3_38) (am_tab tk_X3_readInto 51 rfl) rfl ?_
              refine am_imul (q := 89) (by omega) (am_tab tk_X3_readInto 52 rfl) rfl ?_
              refine am_iadd (q := 90) (by omega) (am_tab tk_X3_readInto 53 rfl) rfl ?_
              refine am_aload_n (q := 91) rfl (am_tab tk_X3_readInto 54 rfl) rfl ?_
              refine am_aload_n (q := 92) rfl (am_tab tk_X3_readInto 55 rfl) rfl ?_
              refine am_getR (q := 95) (a := 37) (k := 1) (n := 11) (j := 6) (r := some (39)) (Ls_37 hL4) (by decide) rfl (Lr_37_6 hL4) (by decide) (Or.inr kf_X3_53) (am_tab tk_X3_readInto 56 rfl) rfl ?_
              refine am_iconst (q := 96) (n := 1) (by decide) (am_tab tk_X3_readInto 57 rfl) rfl ?_
              refine am_callSr (q := 99) (me2 := M_X3_readList) (As := [am_r 1, am_i ((7 + (2 * (σ.2.1 85 5)))), am_r 15, am_r 39, am_i 1]) (rest := []) (c_rlx (σ := σ) (F := sF σ) (le := 0) (by unfold sF; omega) (by omega) (c_readList_15_39 σ T4 hL4 hb4 hTR hC.G hW4 0 (σ.2.1 55 1) (sF σ) ((hF4b.2.2 1 1 (by unfold W_li; omega)).trans hT11) hTR.1 (by decide) (by unfold sF; omega) (fun d hd => (hF4.2.2 39 d (by unfold W_pp; omega)).trans ((c3 39 d (by omega)).trans (h39 d hd))))) ⟨rfl, rfl⟩ ⟨Or.inl km_X3_94, kc_X3_readList, kn_X3, kd_X3_readList, ⟨(Nat.le_of_ble_eq_true rfl), (Nat.le_of_ble_eq_true rfl)⟩, ⟨(Nat.le_of_ble_eq_true rfl), (Nat.le_of_ble_eq_true rfl)⟩, (Nat.le_of_ble_eq_true rfl)⟩ ki_X3_readList rfl (am_tab tk_X3_readInto 58 rfl) rfl ?_
              rintro r T5 ⟨hRd, hF5⟩
              have hL5 := hF5.L hL4
              have hW5 : TWr 15 T5 σ := hW4.fr hF5 (by omega)
              have hb5 : ∀ j, T5.2.1 2 j = σ.2.1 56 j := fun j => (hF5.2.2 2 j (by omega)).trans (hb4 j)
              have hF5b : frw (W_li 37) σ T5 := hF4b.trans (hF5.mono (fun a j h => by unfold W_li; omega))
              have hn5 : T5.2.1 1 1 = σ.2.1 55 1 := (hF5b.2.2 1 1 (by unfold W_li; omega)).trans hT11
              have e51 : T5.2.1 37 1 = σ.2.1 56 2 := (hF5.2.2 37 1 (by omega)).trans ((hF4.2.2 37 1 (by unfold W_pp; omega)).trans e31)
              obtain ⟨_, rfl⟩ := hRd.resolve_left (fun z => a1 z.1)
              refine am_istore (q := 101) (by decide) (ls2 := [(4, am_i ((-1))), (3, am_i (((σ.2.1 55 1) - 1))), (0, am_r 1), (1, am_r 15), (2, am_r 37)]) rfl (am_tab tk_X3_readInto 59 rfl) rfl ?_
              refine am_aload_n (q := 102) rfl (am_tab tk_X3_readInto 60 rfl) rfl ?_
              refine am_iload (q := 104) rfl (am_tab tk_X3_readInto 61 rfl) rfl ?_
              refine am_aload_n (q := 105) rfl (am_tab tk_X3_readInto 62 rfl) rfl ?_
              refine am_aload_n (q := 106) rfl (am_tab tk_X3_readInto 63 rfl) rfl ?_
              refine am_getR (q := 109) (a := 37) (k := 1) (n := 11) (j := 7) (r := some (40)) (Ls_37 hL5) (by decide) rfl (Lr_37_7 hL5) (by decide) (Or.inr kf_X3_60) (am_tab tk_X3_readInto 64 rfl) rfl ?_
              refine am_aload_n (q := 110) rfl (am_tab tk_X3_readInto 65 rfl) rfl ?_
              refine am_getI (q := 113) (a := 37) (k := 1) (n := 11) (j := 1) (x := (σ.2.1 56 2)) (Ls_37 hL5) (by decide) rfl e51 (by decide) (Or.inr kf_X3_28) (am_tab tk_X3_readInto 66 rfl) rfl ?_
              refine am_iconst (q := 114) (n := 1) (by decide) (am_tab tk_X3_readInto 67 rfl) rfl ?_
              refine am_iadd (q := 115) (by omega) (am_tab tk_X3_readInto 68 rfl) rfl ?_
              refine am_callSr (q := 118) (me2 := M_X3_readList) (As := [am_r 1, am_i ((-1)), am_r 15, am_r 40, am_i (((σ.2.1 56 2) + 1))]) (rest := []) (c_readListN_15 T5 hL5 (σ.2.1 55 1) hn5 hTR.1 _) ⟨rfl, rfl⟩ ⟨Or.inl km_X3_94, kc_X3_readList, kn_X3, kd_X3_readList, ⟨(Nat.le_of_ble_eq_true rfl), (Nat.le_of_ble_eq_true rfl)⟩, ⟨(Nat.le_of_ble_eq_true rfl), (Nat.le_of_ble_eq_true rfl)⟩, (Nat.le_of_ble_eq_true rfl)⟩ ki_X3_readList rfl (am_tab tk_X3_readInto 69 rfl) rfl ?_
              rintro r τ9 ⟨rfl, hτ9⟩
              rw [hτ9]
              refine am_istore (q := 120) (by decide) (ls2 := [(4, am_i ((-1))), (3, am_i (((σ.2.1 55 1) - 1))), (0, am_r 1), (1, am_r 15), (2, am_r 37)]) rfl (am_tab tk_X3_readInto 70 rfl) rfl ?_
              refine am_iload (q := 122) rfl (am_tab tk_X3_readInto 71 rfl) rfl ?_
              refine am_iload_n (q := 123) rfl (am_tab tk_X3_readInto 72 rfl) rfl ?_
              refine am_icmp_ne (q := 126) (t := 130) (am_tab tk_X3_readInto 73 rfl) (by decide) rfl (fun h123 => ?_) (fun h123 => ?_)
              · refine am_iconst (q := 131) (n := 0) (by decide) (am_tab tk_X3_readInto 76 rfl) rfl ?_
                refine am_iret (Or.inr ⟨rfl, by first | exact Or.inl rfl | exact Or.inr rfl | omega⟩) (Nat.le_of_ble_eq_true rfl) (Nat.le_of_ble_eq_true rfl) (am_tab tk_X3_readInto 77 rfl) ?_
                refine hQ _ _ ?_
                refine ⟨Or.inr ⟨ii_f (fun z => ?_), rfl⟩, hF5b⟩
                obtain ⟨_, _, g4, g5, g6⟩ := iiC_iff.mp z
                exact a1 g4
              · refine am_iconst (q := 127) (n := 1) (by decide) (am_tab tk_X3_readInto 74 rfl) rfl ?_
                refine am_goto (t := 131) (am_tab tk_X3_readInto 75 rfl) (by decide) ?_
                refine am_iret (Or.inr ⟨rfl, by first | exact Or.inl rfl | exact Or.inr rfl | omega⟩) (Nat.le_of_ble_eq_true rfl) (Nat.le_of_ble_eq_true rfl) (am_tab tk_X3_readInto 77 rfl) ?_
                refine hQ _ _ ?_
                exfalso
                omega
          · exact absurd h75 (by decide)
        · have hHC := h63
          refine am_aload_n (q := 67) rfl (am_tab tk_X3_readInto 39 rfl) rfl ?_
          refine am_getR (q := 70) (a := 1) (k := 6) (n := 2) (j := 0) (r := some (2)) (Ls_1 hL3) (by decide) rfl (Lr_1_0 hL3) (by decide) (Or.inr kf_X3_76) (am_tab tk_X3_readInto 40 rfl) rfl ?_
          refine am_aload_n (q := 71) rfl (am_tab tk_X3_readInto 41 rfl) rfl ?_
          refine am_aload_n (q := 72) rfl (am_tab tk_X3_readInto 42 rfl) rfl ?_
          refine am_callSr (q := 75) (me2 := M_X3_readPeople) (As := [am_r 2, am_r 15, am_r 37]) (rest := []) (c_readPeople_15 σ T3 hL3 hb3 hTR hC.G hW3 ((c3 37 4 (by decide)).trans h374)) ⟨rfl, rfl⟩ ⟨Or.inl km_X3_91, kc_X3_readPeople, kn_X3, kd_X3_readPeople, ⟨(Nat.le_of_ble_eq_true rfl), (Nat.le_of_ble_eq_true rfl)⟩, ⟨(Nat.le_of_ble_eq_true rfl), (Nat.le_of_ble_eq_true rfl)⟩, (Nat.le_of_ble_eq_true rfl)⟩ ki_X3_readPeople rfl (am_tab tk_X3_readInto 43 rfl) rfl ?_
          rintro r T4 ⟨hPd, hF4⟩
          have hL4 := hF4.L hL3
          have hW4 : TWr 15 T4 σ := hW3.fr hF4 (by unfold W_pp; omega)
          have hb4 : ∀ j, T4.2.1 2 j = σ.2.1 56 j := fun j => (hF4.2.2 2 j (by unfold W_pp; omega)).trans (hb3 j)
          have hF4b : frw (W_li 37) σ T4 := (hF2.trans hF3).trans (hF4.mono (fun a j h => by unfold W_pp at h; unfold W_li; omega))
          obtain ⟨_, rfl⟩ := hPd.resolve_left (fun z => pb z.1)
          refine am_if_ne (q := 78) (t := 80) (am_tab tk_X3_readInto 44 rfl) (by decide) rfl (fun h75 => ?_) (fun h75 => ?_)
          · exact absurd h75 (by decide)
          · refine am_iconst (q := 79) (n := 0) (by decide) (am_tab tk_X3_readInto 45 rfl) rfl ?_
            refine am_iret (Or.inr ⟨rfl, by first | exact Or.inl rfl | exact Or.inr rfl | omega⟩) (Nat.le_of_ble_eq_true rfl) (Nat.le_of_ble_eq_true rfl) (am_tab tk_X3_readInto 46 rfl) ?_
            refine hQ _ _ ?_
            refine ⟨Or.inr ⟨ii_f (fun z => ?_), rfl⟩, hF4b⟩
            exact pb (iiC_iff.mp z).2.1.2
    · refine am_iconst (q := 40) (n := 0) (by decide) (am_tab tk_X3_readInto 24 rfl) rfl ?_
      refine am_iret (Or.inr ⟨rfl, by first | exact Or.inl rfl | exact Or.inr rfl | omega⟩) (Nat.le_of_ble_eq_true rfl) (Nat.le_of_ble_eq_true rfl) (am_tab tk_X3_readInto 25 rfl) ?_
      refine hQ _ _ ?_
      refine ⟨Or.inr ⟨ii_f (fun z => ?_), rfl⟩, frw.refl _ σ⟩
      obtain ⟨⟨_, g2, g3⟩, _⟩ := iiC_iff.mp z
      rw [← hTb, ← show (fun i => σ.2.1 2 i) = (fun i => σ.2.1 56 i) from funext hTb] at g3
      exact h36 g3
