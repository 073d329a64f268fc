theorem land31 {v : Int} (h0 : 0 ≤ v) (h1 : v < 9223372036854775808) : ao_land v 2147483647 = v.tmod 2147483648 := by
  obtain ⟨n, rfl⟩ : ∃ n : Nat, v = (n : Int) := ⟨v.toNat, by omega⟩
  rw [Int.tmod_eq_emod_of_nonneg h0]
  have e : (BitVec.ofInt 64 (n : Int) &&& BitVec.ofInt 64 2147483647).toNat = n % 2147483648 := by
    rw [BitVec.toNat_and, BitVec.ofInt_natCast, BitVec.toNat_ofNat, Nat.mod_eq_of_lt (by omega)]
    show n &&& 2147483647 = _
    exact Nat.and_two_pow_sub_one_eq_mod n 31
  show (BitVec.ofInt 64 (n : Int) &&& BitVec.ofInt 64 2147483647).toInt = _
  rw [BitVec.toInt_eq_toNat_of_lt (by rw [e]; omega), e]
  omega
theorem LF0.die {T : am_H} {f : Nat → Int} (h : LF0 32 T f) {p : Nat} (hp : p < 8) : LF0 32 (am_setN T 32 4 (ao_or (T.2.1 32 4) (ao_shl 1 (p : Int)))) (fun k => if k = 12 + p then 1 else f k) := by
  obtain ⟨h1, h2, h3, h4, h5, h6⟩ := h
  have ho := or_sh h2 (Or.inr rfl) hp
  have e : ∀ k, ¬ k = 12 + p → (fun k => if k = 12 + p then (1 : Int) else f k) k = f k := fun k hk => if_neg hk
  refine ⟨⟨?_, ?_, ?_, ?_⟩, ho.1, fun q hq => ?_, fun q hq => ?_, fun d hd => ?_, fun d hd => ?_⟩
  · rw [e 0 (by omega)]; exact h1.1
  · rw [e 1 (by omega)]; exact h1.2.1
  · rw [e 2 (by omega)]; exact h1.2.2.1
  · rw [e 3 (by omega)]; exact h1.2.2.2
  · show tb (ao_or (T.2.1 32 4) (ao_shl 1 (p : Int))) q = (if 12 + q = 12 + p then 1 else f (12 + q))
    rw [ho.2 q hq]
    by_cases g : q = p
    · rw [if_pos ⟨g, rfl⟩, if_pos (by omega)]
    · rw [if_neg (fun z => g z.1), if_neg (by omega)]; exact h3 q hq
  · rw [e _ (by omega)]; exact h4 q hq
  · rw [e _ (by omega)]; exact h5 d hd
  · rw [e _ (by omega)]; exact h6 d hd
def W_dd (a j : Nat) : Prop := (a = 32 ∧ j = 4) ∨ (a = 0 ∧ j = 16)
set_option maxRecDepth 100000 in
theorem c_drawDeaths_3 (S H : am_H) (hL : lay S) (hG : GD H) (g : Nat → Int) (x : Int)  (hT : TWr 3 S H) (hF0 : LF0 32 S g) (ht : S.2.2 0 2 = some 3) (hx0 : S.2.1 0 16 = x) (hxr : 0 ≤ x ∧ x < 2147483648) (hN : pN H ≤ 8) : am_met M_X9_drawDeaths [am_r 0] S (fun r σ' => r = none ∧ LF0 32 σ' (dF g x (H.2.1 92 3) (pN H)).1 ∧ σ'.2.1 0 16 = (dF g x (H.2.1 92 3) (pN H)).2.1 ∧ frw W_dd S σ') := by
  refine am_qq (fun Q hQ => ?_)
  refine am_enter (show plainFor yX9_drawDeaths = true by decide +kernel) rfl (Nat.le_of_ble_eq_true rfl) (fun _ _ _ => trivial) ?_
  have hpn : (pN H : Int) = H.2.1 85 5 := by have := hG.R.P; unfold pN; omega
  have hmo := hG.R.mort
  refine am_iconst (q := 1) (n := 0) (by decide) (am_tab tk_X9_drawDeaths 0 rfl) rfl ?_
  refine am_istore_n (q := 2) (by decide) (ls2 := [(1, am_i 0), (0, am_r 0)]) rfl (am_tab tk_X9_drawDeaths 1 rfl) rfl ?_
  have L2 : ∀ (n2 : Nat) (p : Nat) (T : am_H), 8 - p < n2 → frw W_dd S T → LF0 32 T (dF g x (H.2.1 92 3) p).1 → T.2.1 0 16 = (dF g x (H.2.1 92 3) p).2.1 → p ≤ pN H → am_wp M_X9_drawDeaths Q 0 0 2 [(1, am_i ((p : Int))), (0, am_r 0)] [] T := by
    intro n2
    induction n2 with
    | zero => intro p T hn2; exact absurd hn2 (Nat.not_lt_zero _)
    | succ n2 ih2 =>
      intro p T hn2 hF hLf hx9 hp
      refine am_iload_n (q := 3) rfl (am_tab tk_X9_drawDeaths 2 rfl) rfl ?_
      refine am_aload_n (q := 4) rfl (am_tab tk_X9_drawDeaths 3 rfl) rfl ?_
      refine am_getR (q := 7) (a := 0) (k := 9) (n := 17) (j := 2) (r := some (3)) (Ls_0 (hF.L hL)) (by decide) rfl ((congrFun (congrFun hF.2.1 0) 2).trans ht) (by decide) (Or.inl kf_X9_19) (am_tab tk_X9_drawDeaths 4 rfl) rfl ?_
      refine am_getI (q := 10) (a := 3) (k := 8) (n := 17) (j := 2) (x := (H.2.1 85 5)) (Ls_3 (hF.L hL)) (by decide) rfl ((hF.2.2 3 2 (by unfold W_dd; omega)).trans hT.people) (by decide) (Or.inr kf_X9_126) (am_tab tk_X9_drawDeaths 5 rfl) rfl ?_
      refine am_icmp_ge (q := 13) (t := 92) (am_tab tk_X9_drawDeaths 6 rfl) (by decide) rfl (fun h10 => ?_) (fun h10 => ?_)
      · refine am_vret rfl (Nat.le_of_ble_eq_true rfl) (Nat.le_of_ble_eq_true rfl) (am_tab tk_X9_drawDeaths 46 rfl) ?_
        refine hQ _ _ ?_
        rw [← show p = pN H by omega]
        exact ⟨rfl, hLf, hx9, hF⟩
      · have hpp : p < pN H := by omega
        have htb := hLf.2.2.1 p (by omega)
        have hsd := dF_seed (f := g) (mo := H.2.1 92 3) hxr p
        have hsn := nxS_rng hsd
        refine am_aload_n (q := 14) rfl (am_tab tk_X9_drawDeaths 7 rfl) rfl ?_
        refine am_getR (q := 17) (a := 0) (k := 9) (n := 17) (j := 4) (r := some (32)) (Ls_0 (hF.L hL)) (by decide) rfl (Lr_0_4 (hF.L hL)) (by decide) (Or.inl kf_X9_38) (am_tab tk_X9_drawDeaths 8 rfl) rfl ?_
        refine am_getI (q := 20) (a := 32) (k := 1) (n := 11) (j := 4) (x := (T.2.1 32 4)) (Ls_32 (hF.L hL)) (by decide) rfl rfl (by decide) (Or.inr kf_X9_182) (am_tab tk_X9_drawDeaths 9 rfl) rfl ?_
        refine am_iload_n (q := 21) rfl (am_tab tk_X9_drawDeaths 10 rfl) rfl ?_
        refine am_callS0 (q := 24) (me2 := M_X9_bit) (As := [am_i ((T.2.1 32 4)), am_i ((p : Int))]) (rest := []) (out := [am_i (tb (T.2.1 32 4) (p : Int))]) (c_bit T (T.2.1 32 4) (p : Int) (hLf.2.1) (by omega)) ⟨rfl, rfl⟩ ⟨Or.inl km_X9_185, kc_X9_bit, kn_X9, kd_X9_bit, ⟨(Nat.le_of_ble_eq_true rfl), (Nat.le_of_ble_eq_true rfl)⟩, ⟨(Nat.le_of_ble_eq_true rfl), (Nat.le_of_ble_eq_true rfl)⟩, (Nat.le_of_ble_eq_true rfl)⟩ ki_X9_bit rfl rfl (am_tab tk_X9_drawDeaths 11 rfl) rfl ?_
        refine am_if_ne (q := 27) (t := 86) (am_tab tk_X9_drawDeaths 12 rfl) (by decide) rfl (fun h24 => ?_) (fun h24 => ?_)
        · refine am_iinc (q := 89) rfl (by omega) (by decide) (ls2 := [(1, am_i (((p : Int) + 1))), (0, am_r 0)]) rfl (am_tab tk_X9_drawDeaths 44 rfl) rfl ?_
          refine am_goto (t := 2) (am_tab tk_X9_drawDeaths 45 rfl) (by decide) ?_
          have hd9 : dF g x (H.2.1 92 3) (p + 1) = (dF g x (H.2.1 92 3) p) := by
            conv => lhs; unfold dF
            rw [if_pos (by have := tb_01 (T.2.1 32 4) p; omega)]
          exact am_less (by intro q hq; simp only [List.mem_cons, List.not_mem_nil, or_false] at hq; rcases hq with rfl | rfl <;> simp) (ih2 (p + 1) T (by omega) hF (by rw [hd9]; exact hLf) (by rw [hd9]; exact hx9) (by omega))
        · refine am_aload_n (q := 28) rfl (am_tab tk_X9_drawDeaths 13 rfl) rfl ?_
          refine am_ldc2 (q := 31) (n := 1103515245) (by decide) kk_X9_364 (am_tab tk_X9_drawDeaths 14 rfl) rfl ?_
          refine am_aload_n (q := 32) rfl (am_tab tk_X9_drawDeaths 15 rfl) rfl ?_
          refine am_getL (q := 35) (a := 0) (k := 9) (n := 17) (j := 16) (x := (dF g x (H.2.1 92 3) p).2.1) (Ls_0 (hF.L hL)) (by decide) rfl hx9 (by decide) (Or.inl kf_X9_85) (am_tab tk_X9_drawDeaths 16 rfl) rfl ?_
          refine am_lmul (q := 36) (by omega) (am_tab tk_X9_drawDeaths 17 rfl) rfl ?_
          refine am_ldc2 (q := 39) (n := 12345) (by decide) kk_X9_366 (am_tab tk_X9_drawDeaths 18 rfl) rfl ?_
          refine am_ladd (q := 40) (by omega) (am_tab tk_X9_drawDeaths 19 rfl) rfl ?_
          refine am_ldc2 (q := 43) (n := 2147483647) (by decide) kk_X9_368 (am_tab tk_X9_drawDeaths 20 rfl) rfl ?_
          refine am_land (q := 44) (am_tab tk_X9_drawDeaths 21 rfl) rfl ?_
          refine am_st (st2 := [am_l (nxS ((dF g x (H.2.1 92 3) p).2.1)), am_r 0]) (by rw [land31 (by omega) (by omega)]; rfl) ?_
          refine am_putL (q := 47) (k := 9) (n := 17) (j := 16) (Ls_0 (hF.L hL)) (by decide) rfl (by decide) (Or.inl ⟨kf_X9_85, rfl⟩) (am_tab tk_X9_drawDeaths 22 rfl) rfl ?_
          refine am_aload_n (q := 48) rfl (am_tab tk_X9_drawDeaths 23 rfl) rfl ?_
          refine am_getL (q := 51) (a := 0) (k := 9) (n := 17) (j := 16) (x := nxS ((dF g x (H.2.1 92 3) p).2.1)) (Ls_0 (hF.L hL)) (by decide) rfl rfl (by decide) (Or.inl kf_X9_85) (am_tab tk_X9_drawDeaths 24 rfl) rfl ?_
          refine am_ldc2 (q := 54) (n := 64) (by decide) kk_X9_370 (am_tab tk_X9_drawDeaths 25 rfl) rfl ?_
          refine am_ldiv (q := 55) (by omega) (by omega) (am_tab tk_X9_drawDeaths 26 rfl) rfl ?_
          refine am_ldc2 (q := 58) (n := 1000) (by decide) kk_X9_372 (am_tab tk_X9_drawDeaths 27 rfl) rfl ?_
          refine am_lrem (q := 59) (by have := Int.tdiv_nonneg (b := 64) hsn.1 (by decide); omega) (by have := Int.tdiv_nonneg (b := 64) hsn.1 (by decide); omega) (am_tab tk_X9_drawDeaths 28 rfl) rfl ?_
          refine am_aload_n (q := 60) rfl (am_tab tk_X9_drawDeaths 29 rfl) rfl ?_
          refine am_getR (q := 63) (a := 0) (k := 9) (n := 17) (j := 2) (r := some (3)) (Ls_0 (hF.L hL)) (by decide) rfl ((congrFun (congrFun hF.2.1 0) 2).trans ht) (by decide) (Or.inl kf_X9_19) (am_tab tk_X9_drawDeaths 30 rfl) rfl ?_
          refine am_getI (q := 66) (a := 3) (k := 8) (n := 17) (j := 7) (x := (H.2.1 92 3)) (Ls_3 (hF.L hL)) (by decide) rfl ((hF.2.2 3 7 (by unfold W_dd; omega)).trans hT.1.2.2.2) (by decide) (Or.inr kf_X9_374) (am_tab tk_X9_drawDeaths 31 rfl) rfl ?_
          refine am_i2l (q := 67) (am_tab tk_X9_drawDeaths 32 rfl) rfl ?_
          refine am_lcmp (q := 68) (am_tab tk_X9_drawDeaths 33 rfl) rfl ?_
          refine am_if_ge (q := 71) (t := 86) (am_tab tk_X9_drawDeaths 34 rfl) (by decide) rfl (fun h68 => ?_) (fun h68 => ?_)
          · rw [ao_cmp_ge] at h68
            refine am_iinc (q := 89) rfl (by omega) (by decide) (ls2 := [(1, am_i (((p : Int) + 1))), (0, am_r 0)]) rfl (am_tab tk_X9_drawDeaths 44 rfl) rfl ?_
            refine am_goto (t := 2) (am_tab tk_X9_drawDeaths 45 rfl) (by decide) ?_
            have hne : ¬ (dF g x (H.2.1 92 3) p).1 (12 + p) = 1 := by omega
            have hd9 : dF g x (H.2.1 92 3) (p + 1) = ((dF g x (H.2.1 92 3) p).1, nxS ((dF g x (H.2.1 92 3) p).2.1), (dF g x (H.2.1 92 3) p).2.2) := by
              conv => lhs; unfold dF
              rw [if_neg hne, if_neg (show ¬ drw (nxS ((dF g x (H.2.1 92 3) p).2.1)) 1000 < H.2.1 92 3 by unfold drw; omega)]
            have hL1 : LF0 32 (am_setN T 0 16 (nxS ((dF g x (H.2.1 92 3) p).2.1))) (dF g x (H.2.1 92 3) p).1 := LF0.fr (W := fun a j => a = 0 ∧ j = 16) hLf ((frw.refl _ T).setN ⟨rfl, rfl⟩) (by omega)
            exact am_less (by intro q hq; simp only [List.mem_cons, List.not_mem_nil, or_false] at hq; rcases hq with rfl | rfl <;> simp) (ih2 (p + 1) (am_setN T 0 16 (nxS ((dF g x (H.2.1 92 3) p).2.1))) (by omega) (hF.setN (by unfold W_dd; omega)) (by rw [hd9]; exact hL1) (by rw [hd9]; rfl) (by omega))
          · rw [ao_cmp_ge] at h68
            refine am_aload_n (q := 72) rfl (am_tab tk_X9_drawDeaths 35 rfl) rfl ?_
            refine am_getR (q := 75) (a := 0) (k := 9) (n := 17) (j := 4) (r := some (32)) (Ls_0 (hF.L hL)) (by decide) rfl (Lr_0_4 (hF.L hL)) (by decide) (Or.inl kf_X9_38) (am_tab tk_X9_drawDeaths 36 rfl) rfl ?_
            refine am_dup (q := 76) rfl (am_tab tk_X9_drawDeaths 37 rfl) rfl ?_
            refine am_getI (q := 79) (a := 32) (k := 1) (n := 11) (j := 4) (x := (T.2.1 32 4)) (Ls_32 (hF.L hL)) (by decide) rfl rfl (by decide) (Or.inr kf_X9_182) (am_tab tk_X9_drawDeaths 38 rfl) rfl ?_
            refine am_iconst (q := 80) (n := 1) (by decide) (am_tab tk_X9_drawDeaths 39 rfl) rfl ?_
            refine am_iload_n (q := 81) rfl (am_tab tk_X9_drawDeaths 40 rfl) rfl ?_
            refine am_ishl (q := 82) (am_tab tk_X9_drawDeaths 41 rfl) rfl ?_
            refine am_ior (q := 83) (am_tab tk_X9_drawDeaths 42 rfl) rfl ?_
            refine am_putI (q := 86) (k := 1) (n := 11) (j := 4) (Ls_32 (hF.L hL)) (by decide) rfl (by decide) (Or.inr (Or.inl ⟨kf_X9_182, rfl⟩)) (am_tab tk_X9_drawDeaths 43 rfl) rfl ?_
            refine am_iinc (q := 89) rfl (by omega) (by decide) (ls2 := [(1, am_i (((p : Int) + 1))), (0, am_r 0)]) rfl (am_tab tk_X9_drawDeaths 44 rfl) rfl ?_
            refine am_goto (t := 2) (am_tab tk_X9_drawDeaths 45 rfl) (by decide) ?_
            have hne : ¬ (dF g x (H.2.1 92 3) p).1 (12 + p) = 1 := by omega
            have hd9 : dF g x (H.2.1 92 3) (p + 1) = ((fun k => if k = 12 + p then 1 else (dF g x (H.2.1 92 3) p).1 k), nxS ((dF g x (H.2.1 92 3) p).2.1), (dF g x (H.2.1 92 3) p).2.2 + 1) := by
              conv => lhs; unfold dF
              rw [if_neg hne, if_pos (show drw (nxS ((dF g x (H.2.1 92 3) p).2.1)) 1000 < H.2.1 92 3 by unfold drw; omega)]
            have hL1 : LF0 32 (am_setN T 0 16 (nxS ((dF g x (H.2.1 92 3) p).2.1))) (dF g x (H.2.1 92 3) p).1 := LF0.fr (W := fun a j => a = 0 ∧ j = 16) hLf ((frw.refl _ T).setN ⟨rfl, rfl⟩) (by omega)
            exact am_less (by intro q hq; simp only [List.mem_cons, List.not_mem_nil, or_false] at hq; rcases hq with rfl | rfl <;> simp) (ih2 (p + 1) (am_setN (am_setN T 0 16 (nxS ((dF g x (H.2.1 92 3) p).2.1))) 32 4 (ao_or (T.2.1 32 4) (ao_shl 1 (p : Int)))) (by omega) ((hF.setN (by unfold W_dd; omega)).setN (by unfold W_dd; omega)) (by rw [hd9]; exact hL1.die (by omega)) (by rw [hd9]; rfl) (by omega))
  refine am_less (by intro q hq; simp only [List.mem_cons, List.not_mem_nil, or_false] at hq; rcases hq with rfl | rfl <;> simp) (L2 (_ + 1) 0 S (by exact Nat.lt_succ_self _) (frw.refl _ S) hF0 hx0 (Nat.zero_le _))
set_option maxRecDepth 100000 in
theorem c_drawDeaths_15 (S H : am_H) (hL : lay S) (hG : GD H) (g : Nat → Int) (x : Int)  (hT : TWr 15 S H) (hF0 : LF0 32 S g) (ht : S.2.2 0 2 = some 15) (hx0 : S.2.1 0 16 = x) (hxr : 0 ≤ x ∧ x < 2147483648) (hN : pN H ≤ 8) : am_met M_X9_drawDeaths [am_r 0] S (fun r σ' => r = none ∧ LF0 32 σ' (dF g x (H.2.1 92 3) (pN H)).1 ∧ σ'.2.1 0 16 = (dF g x (H.2.1 92 3) (pN H)).2.1 ∧ frw W_dd S σ') := by
  refine am_qq (fun Q hQ => ?_)
  refine am_enter (show plainFor yX9_drawDeaths = true by decide +kernel) rfl (Nat.le_of_ble_eq_true rfl) (fun _ _ _ => trivial) ?_
  have hpn : (pN H : Int) = H.2.1 85 5 := by have := hG.R.P; unfold pN; omega
  have hmo := hG.R.mort
  refine am_iconst (q := 1) (n := 0) (by decide) (am_tab tk_X9_drawDeaths 0 rfl) rfl ?_
  refine am_istore_n (q := 2) (by decide) (ls2 := [(1, am_i 0), (0, am_r 0)]) rfl (am_tab tk_X9_drawDeaths 1 rfl) rfl ?_
  have L2 : ∀ (n2 : Nat) (p : Nat) (T : am_H), 8 - p < n2 → frw W_dd S T → LF0 32 T (dF g x (H.2.1 92 3) p).1 → T.2.1 0 16 = (dF g x (H.2.1 92 3) p).2.1 → p ≤ pN H → am_wp M_X9_drawDeaths Q 0 0 2 [(1, am_i ((p : Int))), (0, am_r 0)] [] T := by
    intro n2
    induction n2 with
    | zero => intro p T hn2; exact absurd hn2 (Nat.not_lt_zero _)
    | succ n2 ih2 =>
      intro p T hn2 hF hLf hx9 hp
      refine am_iload_n (q := 3) rfl (am_tab tk_X9_drawDeaths 2 rfl) rfl ?_
      refine am_aload_n (q := 4) rfl (am_tab tk_X9_drawDeaths 3 rfl) rfl ?_
      refine am_getR (q := 7) (a := 0) (k := 9) (n := 17) (j := 2) (r := some (15)) (Ls_0 (hF.L hL)) (by decide) rfl ((congrFun (congrFun hF.2.1 0) 2).trans ht) (by decide) (Or.inl kf_X9_19) (am_tab tk_X9_drawDeaths 4 rfl) rfl ?_
      refine am_getI (q := 10) (a := 15) (k := 8) (n := 17) (j := 2) (x := (H.2.1 85 5)) (Ls_15 (hF.L hL)) (by decide) rfl ((hF.2.2 15 2 (by unfold W_dd; omega)).trans hT.people) (by decide) (Or.inr kf_X9_126) (am_tab tk_X9_drawDeaths 5 rfl) rfl ?_
      refine am_icmp_ge (q := 13) (t := 92) (am_tab tk_X9_drawDeaths 6 rfl) (by decide) rfl (fun h10 => ?_) (fun h10 => ?_)
      · refine am_vret rfl (Nat.le_of_ble_eq_true rfl) (Nat.le_of_ble_eq_true rfl) (am_tab tk_X9_drawDeaths 46 rfl) ?_
        refine hQ _ _ ?_
        rw [← show p = pN H by omega]
        exact ⟨rfl, hLf, hx9, hF⟩
      · have hpp : p < pN H := by omega
        have htb := hLf.2.2.1 p (by omega)
        have hsd := dF_seed (f := g) (mo := H.2.1 92 3) hxr p
        have hsn := nxS_rng hsd
        refine am_aload_n (q := 14) rfl (am_tab tk_X9_drawDeaths 7 rfl) rfl ?_
        refine am_getR (q := 17) (a := 0) (k := 9) (n := 17) (j := 4) (r := some (32)) (Ls_0 (hF.L hL)) (by decide) rfl (Lr_0_4 (hF.L hL)) (by decide) (Or.inl kf_X9_38) (am_tab tk_X9_drawDeaths 8 rfl) rfl ?_
        refine am_getI (q := 20) (a := 32) (k := 1) (n := 11) (j := 4) (x := (T.2.1 32 4)) (Ls_32 (hF.L hL)) (by decide) rfl rfl (by decide) (Or.inr kf_X9_182) (am_tab tk_X9_drawDeaths 9 rfl) rfl ?_
        refine am_iload_n (q := 21) rfl (am_tab tk_X9_drawDeaths 10 rfl) rfl ?_
        refine am_callS0 (q := 24) (me2 := M_X9_bit) (As := [am_i ((T.2.1 32 4)), am_i ((p : Int))]) (rest := []) (out := [am_i (tb (T.2.1 32 4) (p : Int))]) (c_bit T (T.2.1 32 4) (p : Int) (hLf.2.1) (by omega)) ⟨rfl, rfl⟩ ⟨Or.inl km_X9_185, kc_X9_bit, kn_X9, kd_X9_bit, ⟨(Nat.le_of_ble_eq_true rfl), (Nat.le_of_ble_eq_true rfl)⟩, ⟨(Nat.le_of_ble_eq_true rfl), (Nat.le_of_ble_eq_true rfl)⟩, (Nat.le_of_ble_eq_true rfl)⟩ ki_X9_bit rfl rfl (am_tab tk_X9_drawDeaths 11 rfl) rfl ?_
        refine am_if_ne (q := 27) (t := 86) (am_tab tk_X9_drawDeaths 12 rfl) (by decide) rfl (fun h24 => ?_) (fun h24 => ?_)
        · refine am_iinc (q := 89) rfl (by omega) (by decide) (ls2 := [(1, am_i (((p : Int) + 1))), (0, am_r 0)]) rfl (am_tab tk_X9_drawDeaths 44 rfl) rfl ?_
          refine am_goto (t := 2) (am_tab tk_X9_drawDeaths 45 rfl) (by decide) ?_
          have hd9 : dF g x (H.2.1 92 3) (p + 1) = (dF g x (H.2.1 92 3) p) := by
            conv => lhs; unfold dF
            rw [if_pos (by have := tb_01 (T.2.1 32 4) p; omega)]
          exact am_less (by intro q hq; simp only [List.mem_cons, List.not_mem_nil, or_false] at hq; rcases hq with rfl | rfl <;> simp) (ih2 (p + 1) T (by omega) hF (by rw [hd9]; exact hLf) (by rw [hd9]; exact hx9) (by omega))
        · refine am_aload_n (q := 28) rfl (am_tab tk_X9_drawDeaths 13 rfl) rfl ?_
          refine am_ldc2 (q := 31) (n := 1103515245) (by decide) kk_X9_364 (am_tab tk_X9_drawDeaths 14 rfl) rfl ?_
          refine am_aload_n (q := 32) rfl (am_tab tk_X9_drawDeaths 15 rfl) rfl ?_
          refine am_getL (q := 35) (a := 0) (k := 9) (n := 17) (j := 16) (x := (dF g x (H.2.1 92 3) p).2.1) (Ls_0 (hF.L hL)) (by decide) rfl hx9 (by decide) (Or.inl kf_X9_85) (am_tab tk_X9_drawDeaths 16 rfl) rfl ?_
          refine am_lmul (q := 36) (by omega) (am_tab tk_X9_drawDeaths 17 rfl) rfl ?_
          refine am_ldc2 (q := 39) (n := 12345) (by decide) kk_X9_366 (am_tab tk_X9_drawDeaths 18 rfl) rfl ?_
          refine am_ladd (q := 40) (by omega) (am_tab tk_X9_drawDeaths 19 rfl) rfl ?_
          refine am_ldc2 (q := 43) (n := 2147483647) (by decide) kk_X9_368 (am_tab tk_X9_drawDeaths 20 rfl) rfl ?_
          refine am_land (q := 44) (am_tab tk_X9_drawDeaths 21 rfl) rfl ?_
          refine am_st (st2 := [am_l (nxS ((dF g x (H.2.1 92 3) p).2.1)), am_r 0]) (by rw [land31 (by omega) (by omega)]; rfl) ?_
          refine am_putL (q := 47) (k := 9) (n := 17) (j := 16) (Ls_0 (hF.L hL)) (by decide) rfl (by decide) (Or.inl ⟨kf_X9_85, rfl⟩) (am_tab tk_X9_drawDeaths 22 rfl) rfl ?_
          refine am_aload_n (q := 48) rfl (am_tab tk_X9_drawDeaths 23 rfl) rfl ?_
          refine am_getL (q := 51) (a := 0) (k := 9) (n := 17) (j := 16) (x := nxS ((dF g x (H.2.1 92 3) p).2.1)) (Ls_0 (hF.L hL)) (by decide) rfl rfl (by decide) (Or.inl kf_X9_85) (am_tab tk_X9_drawDeaths 24 rfl) rfl ?_
          refine am_ldc2 (q := 54) (n := 64) (by decide) kk_X9_370 (am_tab tk_X9_drawDeaths 25 rfl) rfl ?_
          refine am_ldiv (q := 55) (by omega) (by omega) (am_tab tk_X9_drawDeaths 26 rfl) rfl ?_
          refine am_ldc2 (q := 58) (n := 1000) (by decide) kk_X9_372 (am_tab tk_X9_drawDeaths 27 rfl) rfl ?_
          refine am_lrem (q := 59) (by have := Int.tdiv_nonneg (b := 64) hsn.1 (by decide); omega) (by have := Int.tdiv_nonneg (b := 64) hsn.1 (by decide); omega) (am_tab tk_X9_drawDeaths 28 rfl) rfl ?_
          refine am_aload_n (q := 60) rfl (am_tab tk_X9_drawDeaths 29 rfl) rfl ?_
          refine am_getR (q := 63) (a := 0) (k := 9) (n := 17) (j := 2) (r := some (15)) (Ls_0 (hF.L hL)) (by decide) rfl ((congrFun (congrFun hF.2.1 0) 2).trans ht) (by decide) (Or.inl kf_X9_19) (am_tab tk_X9_drawDeaths 30 rfl) rfl ?_
          refine am_getI (q := 66) (a := 15) (k := 8) (n := 17) (j := 7) (x := (H.2.1 92 3)) (Ls_15 (hF.L hL)) (by decide) rfl ((hF.2.2 15 7 (by unfold W_dd; omega)).trans hT.1.2.2.2) (by decide) (Or.inr kf_X9_374) (am_tab tk_X9_drawDeaths 31 rfl) rfl ?_
          refine am_i2l (q := 67) (am_tab tk_X9_drawDeaths 32 rfl) rfl ?_
          refine am_lcmp (q := 68) (am_tab tk_X9_drawDeaths 33 rfl) rfl ?_
          refine am_if_ge (q := 71) (t := 86) (am_tab tk_X9_drawDeaths 34 rfl) (by decide) rfl (fun h68 => ?_) (fun h68 => ?_)
          · rw [ao_cmp_ge] at h68
            refine am_iinc (q := 89) rfl (by omega) (by decide) (ls2 := [(1, am_i (((p : Int) + 1))), (0, am_r 0)]) rfl (am_tab tk_X9_drawDeaths 44 rfl) rfl ?_
            refine am_goto (t := 2) (am_tab tk_X9_drawDeaths 45 rfl) (by decide) ?_
            have hne : ¬ (dF g x (H.2.1 92 3) p).1 (12 + p) = 1 := by omega
            have hd9 : dF g x (H.2.1 92 3) (p + 1) = ((dF g x (H.2.1 92 3) p).1, nxS ((dF g x (H.2.1 92 3) p).2.1), (dF g x (H.2.1 92 3) p).2.2) := by
              conv => lhs; unfold dF
              rw [if_neg hne, if_neg (show ¬ drw (nxS ((dF g x (H.2.1 92 3) p).2.1)) 1000 < H.2.1 92 3 by unfold drw; omega)]
            have hL1 : LF0 32 (am_setN T 0 16 (nxS ((dF g x (H.2.1 92 3) p).2.1))) (dF g x (H.2.1 92 3) p).1 := LF0.fr (W := fun a j => a = 0 ∧ j = 16) hLf ((frw.refl _ T).setN ⟨rfl, rfl⟩) (by omega)
            exact am_less (by intro q hq; simp only [List.mem_cons, List.not_mem_nil, or_false] at hq; rcases hq with rfl | rfl <;> simp) (ih2 (p + 1) (am_setN T 0 16 (nxS ((dF g x (H.2.1 92 3) p).2.1))) (by omega) (hF.setN (by unfold W_dd; omega)) (by rw [hd9]; exact hL1) (by rw [hd9]; rfl) (by omega))
          · rw [ao_cmp_ge] at h68
            refine am_aload_n (q := 72) rfl (am_tab tk_X9_drawDeaths 35 rfl) rfl ?_
            refine am_getR (q := 75) (a := 0) (k := 9) (n := 17) (j := 4) (r := some (32)) (Ls_0 (hF.L hL)) (by decide) rfl (Lr_0_4 (hF.L hL)) (by decide) (Or.inl kf_X9_38) (am_tab tk_X9_drawDeaths 36 rfl) rfl ?_
            refine am_dup (q := 76) rfl (am_tab tk_X9_drawDeaths 37 rfl) rfl ?_
            refine am_getI (q := 79) (a := 32) (k := 1) (n := 11) (j := 4) (x := (T.2.1 32 4)) (Ls_32 (hF.L hL)) (by decide) rfl rfl (by decide) (Or.inr kf_X9_182) (am_tab tk_X9_drawDeaths 38 rfl) rfl ?_
            refine am_iconst (q := 80) (n := 1) (by decide) (am_tab tk_X9_drawDeaths 39 rfl) rfl ?_
            refine am_iload_n (q := 81) rfl (am_tab tk_X9_drawDeaths 40 rfl) rfl ?_
            refine am_ishl (q := 82) (am_tab tk_X9_drawDeaths 41 rfl) rfl ?_
            refine am_ior (q := 83) (am_tab tk_X9_drawDeaths 42 rfl) rfl ?_
            refine am_putI (q := 86) (k := 1) (n := 11) (j := 4) (Ls_32 (hF.L hL)) (by decide) rfl (by decide) (Or.inr (Or.inl ⟨kf_X9_182, rfl⟩)) (am_tab tk_X9_drawDeaths 43 rfl) rfl ?_
            refine am_iinc (q := 89) rfl (by omega) (by decide) (ls2 := [(1, am_i (((p : Int) + 1))), (0, am_r 0)]) rfl (am_tab tk_X9_drawDeaths 44 rfl) rfl ?_
            refine am_goto (t := 2) (am_tab tk_X9_drawDeaths 45 rfl) (by decide) ?_
            have hne : ¬ (dF g x (H.2.1 92 3) p).1 (12 + p) = 1 := by omega
            have hd9 : dF g x (H.2.1 92 3) (p + 1) = ((fun k => if k = 12 + p then 1 else (dF g x (H.2.1 92 3) p).1 k), nxS ((dF g x (H.2.1 92 3) p).2.1), (dF g x (H.2.1 92 3) p).2.2 + 1) := by
              conv => lhs; unfold dF
              rw [if_neg hne, if_pos (show drw (nxS ((dF g x (H.2.1 92 3) p).2.1)) 1000 < H.2.1 92 3 by unfold drw; omega)]
            have hL1 : LF0 32 (am_setN T 0 16 (nxS ((dF g x (H.2.1 92 3) p).2.1))) (dF g x (H.2.1 92 3) p).1 := LF0.fr (W := fun a j => a = 0 ∧ j = 16) hLf ((frw.refl _ T).setN ⟨rfl, rfl⟩) (by omega)
            exact am_less (by intro q hq; simp only [List.mem_cons, List.not_mem_nil, or_false] at hq; rcases hq with rfl | rfl <;> simp) (ih2 (p + 1) (am_setN (am_setN T 0 16 (nxS ((dF g x (H.2.1 92 3) p).2.1))) 32 4 (ao_or (T.2.1 32 4) (ao_shl 1 (p : Int)))) (by omega) ((hF.setN (by unfold W_dd; omega)).setN (by unfold W_dd; omega)) (by rw [hd9]; exact hL1.die (by omega)) (by rw [hd9]; rfl) (by omega))
  refine am_less (by intro q hq; simp only [List.mem_cons, List.not_mem_nil, or_false] at hq; rcases hq with rfl | rfl <;> simp) (L2 (_ + 1) 0 S (by exact Nat.lt_succ_self _) (frw.refl _ S) hF0 hx0 (Nat.zero_le _))
