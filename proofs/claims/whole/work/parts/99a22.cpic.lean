def W_ic (a j : Nat) : Prop := a = 50 ∨ (a = 49 ∧ j = 1)
/-- the class's picture so far -/
def IC (σ : am_H) (l : List Int) (S : am_H) : Prop := frw W_ic σ S ∧ S.2.1 49 1 = (l.length : Int) ∧ (∀ i, i < l.length → S.2.1 50 i = l.getD i 0) ∧ (∀ x ∈ l, 0 ≤ x ∧ x ≤ 255)
theorem IC.L {σ S : am_H} {l : List Int} (h : IC σ l S) (hL : lay σ) : lay S := h.1.L hL
theorem dp_len {σ : am_H} {f i j : Nat} (hb : ∀ d, d < 91 → 0 ≤ σ.2.1 96 (f + d) ∧ σ.2.1 96 (f + d) < 256) (hi : i < 90) (hj : j < 8) (h1 : tb (σ.2.1 96 (f + (i + 1))) j = 1) : ((dL (fun d => σ.2.1 96 (f + d)) i).length : Int) + ((pL (σ.2.1 96 (f + (i + 1))) ((i : Int) + 1) j).length : Int) + 2 ≤ 2 * stM σ f := by
  have hx8 := hb (i + 1) (by omega)
  have a1 := dL_len (g := (fun d => σ.2.1 96 (f + d))) hb i (by omega)
  have a2 := pL_len (σ.2.1 96 (f + (i + 1))) ((i : Int) + 1) j
  have a3 : sumN (fun q : Nat => tb (σ.2.1 96 (f + (i + 1))) q) (j + 1) ≤ sumN (fun q : Nat => tb (σ.2.1 96 (f + (i + 1))) q) 8 := sumN_mono (fun q => by have := tb_01 (σ.2.1 96 (f + (i + 1))) q; omega) (by omega)
  rw [bc_tb hx8] at a3
  have a4 : sumN (fun q : Nat => tb (σ.2.1 96 (f + (i + 1))) q) (j + 1) = sumN (fun q : Nat => tb (σ.2.1 96 (f + (i + 1))) q) j + tb (σ.2.1 96 (f + (i + 1))) j := rfl
  have a5 : sumN (fun k => bc (σ.2.1 96 (f + (k + 1)))) (i + 1) = sumN (fun k => bc (σ.2.1 96 (f + (k + 1)))) i + bc (σ.2.1 96 (f + (i + 1))) := rfl
  have a6 : sumN (fun k => if k < 90 then bc (σ.2.1 96 (f + (k + 1))) else 0) (i + 1) ≤ sumN (fun k => if k < 90 then bc (σ.2.1 96 (f + (k + 1))) else 0) 90 := sumN_mono (fun k => by
    by_cases hk : k < 90
    · rw [if_pos hk]; exact (bc1_eq (hb (k + 1) (by omega))).2.1
    · rw [if_neg hk]; exact Int.le_refl _) (by omega)
  have a7 : ∀ n, n ≤ 90 → sumN (fun k => if k < 90 then bc (σ.2.1 96 (f + (k + 1))) else 0) n = sumN (fun k => bc (σ.2.1 96 (f + (k + 1)))) n := fun n hn => sumN_cg n (fun k hk => by rw [if_pos (by omega)])
  rw [a7 (i + 1) (by omega), a7 90 (by omega)] at a6
  have a8 : stM σ f = sumN (fun k => bc (σ.2.1 96 (f + (k + 1)))) 90 := by
    unfold stM
    exact sumN_cg 90 (fun k _ => by rw [show f + 1 + k = f + (k + 1) by omega])
  omega
theorem c_pAdd (σ : am_H) (hL0 : lay σ) (l : List Int) (S : am_H) (hI : IC σ l S) (v : Int) (hv : 0 ≤ v ∧ v ≤ 255) (hl : l.length < 146) : am_met M_X3_add [am_r 49, am_i v] S (fun r σ' => r = none ∧ IC σ (l ++ [v]) σ') := by
  refine am_qq (fun Q hQ => ?_)
  refine am_enter (show plainFor yX3_add = true by decide +kernel) rfl (Nat.le_of_ble_eq_true rfl) (fun _ _ _ => trivial) ?_
  refine am_aload_n (q := 1) rfl (am_tab tk_X3_add 0 rfl) rfl ?_
  refine am_getI (q := 4) (a := 49) (k := 3) (n := 2) (j := 1) (x := (l.length : Int)) (Ls_49 (hI.L hL0)) (by decide) rfl hI.2.1 (by decide) (Or.inl kf_X3_15) (am_tab tk_X3_add 1 rfl) rfl ?_
  refine am_aload_n (q := 5) rfl (am_tab tk_X3_add 2 rfl) rfl ?_
  refine am_getR (q := 8) (a := 49) (k := 3) (n := 2) (j := 0) (r := some (50)) (Ls_49 (hI.L hL0)) (by decide) rfl (Lr_49_0 (hI.L hL0)) (by decide) (Or.inl kf_X3_11) (am_tab tk_X3_add 3 rfl) rfl ?_
  refine am_alen (q := 9) (a := 50) (k := 11) (n := 146) (Ls_50 (hI.L hL0)) (by decide) (by decide) (am_tab tk_X3_add 4 rfl) rfl ?_
  refine am_icmp_ge (q := 12) (t := 32) (am_tab tk_X3_add 5 rfl) (by decide) rfl (fun h9 => ?_) (fun h9 => ?_)
  · exact absurd h9 (by omega)
  · refine am_aload_n (q := 13) rfl (am_tab tk_X3_add 6 rfl) rfl ?_
    refine am_getR (q := 16) (a := 49) (k := 3) (n := 2) (j := 0) (r := some (50)) (Ls_49 (hI.L hL0)) (by decide) rfl (Lr_49_0 (hI.L hL0)) (by decide) (Or.inl kf_X3_11) (am_tab tk_X3_add 7 rfl) rfl ?_
    refine am_aload_n (q := 17) rfl (am_tab tk_X3_add 8 rfl) rfl ?_
    refine am_getI (q := 20) (a := 49) (k := 3) (n := 2) (j := 1) (x := (l.length : Int)) (Ls_49 (hI.L hL0)) (by decide) rfl hI.2.1 (by decide) (Or.inl kf_X3_15) (am_tab tk_X3_add 9 rfl) rfl ?_
    refine am_iload_n (q := 21) rfl (am_tab tk_X3_add 10 rfl) rfl ?_
    refine am_iast (q := 22) (a := 50) (n := 146) (Ls_50 (hI.L hL0)) (by omega) (by omega) (am_tab tk_X3_add 11 rfl) rfl ?_
    refine am_aload_n (q := 23) rfl (am_tab tk_X3_add 12 rfl) rfl ?_
    refine am_dup (q := 24) rfl (am_tab tk_X3_add 13 rfl) rfl ?_
    refine am_getI (q := 27) (a := 49) (k := 3) (n := 2) (j := 1) (x := (l.length : Int)) (Ls_49 (hI.L hL0)) (by decide) rfl hI.2.1 (by decide) (Or.inl kf_X3_15) (am_tab tk_X3_add 14 rfl) rfl ?_
    refine am_iconst (q := 28) (n := 1) (by decide) (am_tab tk_X3_add 15 rfl) rfl ?_
    refine am_iadd (q := 29) (by omega) (am_tab tk_X3_add 16 rfl) rfl ?_
    refine am_putI (q := 32) (k := 3) (n := 2) (j := 1) (Ls_49 (hI.L hL0)) (by decide) rfl (by decide) (Or.inl ⟨kf_X3_15, rfl⟩) (am_tab tk_X3_add 17 rfl) rfl ?_
    refine am_vret rfl (Nat.le_of_ble_eq_true rfl) (Nat.le_of_ble_eq_true rfl) (am_tab tk_X3_add 18 rfl) ?_
    refine hQ _ _ ?_
    refine ⟨rfl, (hI.1.setN (by unfold W_ic; omega)).setN (by unfold W_ic; omega), ?_, fun i hi => ?_, fun x hx => ?_⟩
    · show (l.length : Int) + 1 = _; simp
    · rw [List.length_append] at hi
      show (if 50 = 50 ∧ i = Int.toNat (l.length : Int) then v else S.2.1 50 i) = _
      rw [gd_app l v i (by simpa using hi)]
      by_cases g : i = l.length
      · rw [if_pos ⟨rfl, by omega⟩, if_pos g]
      · rw [if_neg (fun z => g (by omega)), if_neg g]; exact hI.2.2.1 i (by simp at hi; omega)
    · rcases List.mem_append.mp hx with h | h
      · exact hI.2.2.2 x h
      · simp at h; omega
set_option maxRecDepth 100000 in
theorem c_pList_34 (σ : am_H) (hL : lay σ) (l : List Int) (S : am_H) (hI : IC σ l S)  (hF : LF0 32 σ (fun k => σ.2.1 96 k)) (hz : σ.2.1 96 20 = 0) (hb : ∀ d, d < 91 → 0 ≤ σ.2.1 96 (20 + d) ∧ σ.2.1 96 (20 + d) < 256) (hm : 0 ≤ stM σ 20 ∧ stM σ 20 ≤ 30) (hl : l.length + 61 ≤ 146) : am_met M_X3_addList [am_r 49, am_r 34] S (fun r σ' => r = none ∧ IC σ (l ++ [stM σ 20] ++ dL (fun d => σ.2.1 96 (20 + d)) 90) σ') := by
  refine am_qq (fun Q hQ => ?_)
  refine am_enter (show plainFor yX3_addList = true by decide +kernel) rfl (Nat.le_of_ble_eq_true rfl) (fun _ _ _ => trivial) ?_
  refine am_aload_n (q := 1) rfl (am_tab tk_X3_addList 0 rfl) rfl ?_
  refine am_aload_n (q := 2) rfl (am_tab tk_X3_addList 1 rfl) rfl ?_
  refine am_callSr (q := 5) (me2 := M_X9_countBits) (As := [am_r 34]) (rest := [am_r 49]) (c_countBits_34 S (hI.L hL) (fun d hd => by rw [hI.1.2.2 34 d (by unfold W_ic; omega), hF.2.2.2.2.1 d hd]; exact hb d hd)) ⟨rfl, rfl⟩ ⟨Or.inr km_X3_67, kc_X9_countBits, kn_X9, kd_X9_countBits, ⟨(Nat.le_of_ble_eq_true rfl), (Nat.le_of_ble_eq_true rfl)⟩, ⟨(Nat.le_of_ble_eq_true rfl), (Nat.le_of_ble_eq_true rfl)⟩, (Nat.le_of_ble_eq_true rfl)⟩ ki_X9_countBits rfl (am_tab tk_X3_addList 2 rfl) rfl ?_
  rintro r τ ⟨hr9, hτ⟩
  have hsum : sumN (fun d => bc (S.2.1 34 d)) 91 = stM σ 20 := sumN_sh (f := fun d => bc (S.2.1 34 d)) (by show bc (S.2.1 34 0) = 0; rw [hI.1.2.2 34 0 (by unfold W_ic; omega), show σ.2.1 34 0 = 0 from (hF.2.2.2.2.1 0 (by decide)).trans hz]; exact bc0) 90 (fun d hd => by show bc (S.2.1 34 (d + 1)) = bc (σ.2.1 96 (20 + 1 + d)); rw [hI.1.2.2 34 (d + 1) (by unfold W_ic; omega), show σ.2.1 34 (d + 1) = σ.2.1 96 (20 + 1 + d) from (hF.2.2.2.2.1 (d + 1) (by omega)).trans (by show σ.2.1 96 (20 + (d + 1)) = _; rw [show 20 + (d + 1) = 20 + 1 + d by omega])])
  rw [hsum] at hr9
  rw [hr9, hτ]
  refine am_st (st2 := [am_i (stM σ 20), am_r 49]) rfl ?_
  refine am_callVr (q := 8) (me2 := M_X3_add) (b := 49) (kb := 3) (nb := 2) (As := [am_i (stM σ 20)]) (rest := []) (c_pAdd σ hL (l) S hI (stM σ 20) (by omega) (by omega)) ⟨rfl, rfl⟩ (Ls_49 (hI.L hL)) (by decide) ⟨Or.inl km_X3_24, kc_X3_add, kn_X3, kd_X3_add, ⟨(Nat.le_of_ble_eq_true rfl), (Nat.le_of_ble_eq_true rfl)⟩, ⟨(Nat.le_of_ble_eq_true rfl), (Nat.le_of_ble_eq_true rfl)⟩, (Nat.le_of_ble_eq_true rfl)⟩ ki_X3_add ks_X3_add rfl (am_tab tk_X3_addList 3 rfl) rfl ?_
  rintro r I5 ⟨rfl, hI5⟩
  refine am_st (st2 := []) rfl ?_
  refine am_iconst (q := 9) (n := 1) (by decide) (am_tab tk_X3_addList 4 rfl) rfl ?_
  refine am_istore_n (q := 10) (by decide) (ls2 := [(2, am_i 1), (0, am_r 49), (1, am_r 34)]) rfl (am_tab tk_X3_addList 5 rfl) rfl ?_
  have L10 : ∀ (n10 : Nat) (i : Nat) (S5 : am_H), 90 - i < n10 → i ≤ 90 → IC σ ((l ++ [stM σ 20]) ++ dL (fun d => σ.2.1 96 (20 + d)) i) S5 → am_wp M_X3_addList Q 0 0 10 [(2, am_i (((i : Int) + 1))), (0, am_r 49), (1, am_r 34)] [] S5 := by
    intro n10
    induction n10 with
    | zero => intro i S5 hn10; exact absurd hn10 (Nat.not_lt_zero _)
    | succ n10 ih10 =>
      intro i S5 hn10 hi hI5
      refine am_iload_n (q := 11) rfl (am_tab tk_X3_addList 6 rfl) rfl ?_
      refine am_aload_n (q := 12) rfl (am_tab tk_X3_addList 7 rfl) rfl ?_
      refine am_alen (q := 13) (a := 34) (k := 11) (n := 91) (Ls_34 (hI5.L hL)) (by decide) (by decide) (am_tab tk_X3_addList 8 rfl) rfl ?_
      refine am_icmp_ge (q := 16) (t := 57) (am_tab tk_X3_addList 9 rfl) (by decide) rfl (fun h13 => ?_) (fun h13 => ?_)
      · refine am_vret rfl (Nat.le_of_ble_eq_true rfl) (Nat.le_of_ble_eq_true rfl) (am_tab tk_X3_addList 32 rfl) ?_
        refine hQ _ _ ?_
        rw [show i = 90 by omega] at hI5
        exact ⟨rfl, hI5⟩
      · refine am_iconst (q := 17) (n := 0) (by decide) (am_tab tk_X3_addList 10 rfl) rfl ?_
        refine am_istore_n (q := 18) (by decide) (ls2 := [(3, am_i 0), (2, am_i (((i : Int) + 1))), (0, am_r 49), (1, am_r 34)]) rfl (am_tab tk_X3_addList 11 rfl) rfl ?_
        have L18 : ∀ (n18 : Nat) (j : Nat) (S6 : am_H), 8 - j < n18 → j ≤ 8 → IC σ ((l ++ [stM σ 20]) ++ dL (fun d => σ.2.1 96 (20 + d)) i ++ pL (σ.2.1 96 (20 + (i + 1))) ((i : Int) + 1) j) S6 → am_wp M_X3_addList Q 0 0 18 [(3, am_i ((j : Int))), (2, am_i (((i : Int) + 1))), (0, am_r 49), (1, am_r 34)] [] S6 := by
          intro n18
          induction n18 with
          | zero => intro j S6 hn18; exact absurd hn18 (Nat.not_lt_zero _)
          | succ n18 ih18 =>
            intro j S6 hn18 hj hI6
            refine am_iload_n (q := 19) rfl (am_tab tk_X3_addList 12 rfl) rfl ?_
            refine am_bipush (q := 21) (n := 8) (by decide) rfl (am_tab tk_X3_addList 13 rfl) rfl ?_
            refine am_icmp_ge (q := 24) (t := 51) (am_tab tk_X3_addList 14 rfl) (by decide) rfl (fun h21 => ?_) (fun h21 => ?_)
            · refine am_iinc (q := 54) rfl (by omega) (by decide) (ls2 := [(2, am_i ((((i : Int) + 1) + 1))), (3, am_i ((j : Int))), (0, am_r 49), (1, am_r 34)]) rfl (am_tab tk_X3_addList 30 rfl) rfl ?_
              refine am_goto (t := 10) (am_tab tk_X3_addList 31 rfl) (by decide) ?_
              have hdl : (l ++ [stM σ 20]) ++ dL (fun d => σ.2.1 96 (20 + d)) (i + 1) = (l ++ [stM σ 20]) ++ dL (fun d => σ.2.1 96 (20 + d)) i ++ pL (σ.2.1 96 (20 + (i + 1))) ((i : Int) + 1) 8 := by
                show _ ++ (dL (fun d => σ.2.1 96 (20 + d)) i ++ pL (σ.2.1 96 (20 + (i + 1))) ((i + 1 : Nat) : Int) 8) = _
                rw [← List.append_assoc]; rfl
              have ej : j = 8 := by omega
              rw [ej] at hI6
              exact am_less (by intro q hq; simp only [List.mem_cons, List.not_mem_nil, or_false] at hq; rcases hq with rfl | rfl | rfl <;> simp) (ih10 (i + 1) S6 (by omega) (by omega) (by rw [hdl]; exact hI6))
            · have hx8 := hb (i + 1) (by omega)
              refine am_aload_n (q := 25) rfl (am_tab tk_X3_addList 15 rfl) rfl ?_
              refine am_iload_n (q := 26) rfl (am_tab tk_X3_addList 16 rfl) rfl ?_
              refine am_iald (q := 27) (a := 34) (n := 91) (x := (σ.2.1 96 (20 + (i + 1)))) (Ls_34 (hI6.L hL)) (by omega) (by omega) (by rw [show Int.toNat ((i : Int) + 1) = i + 1 by omega, hI6.1.2.2 34 (i + 1) (by unfold W_ic; omega)]; exact hF.2.2.2.2.1 (i + 1) (by omega)) (am_tab tk_X3_addList 17 rfl) rfl ?_
              refine am_iload_n (q := 28) rfl (am_tab tk_X3_addList 18 rfl) rfl ?_
              refine am_callS0 (q := 31) (me2 := M_X9_bit) (As := [am_i ((σ.2.1 96 (20 + (i + 1)))), am_i ((j : Int))]) (rest := []) (out := [am_i (tb (σ.2.1 96 (20 + (i + 1))) (j : Int))]) (c_bit S6 (σ.2.1 96 (20 + (i + 1))) (j : Int) (hx8) (by omega)) ⟨rfl, rfl⟩ ⟨Or.inr km_X3_49, kc_X9_bit, kn_X9, kd_X9_bit, ⟨(Nat.le_of_ble_eq_true rfl), (Nat.le_of_ble_eq_true rfl)⟩, ⟨(Nat.le_of_ble_eq_true rfl), (Nat.le_of_ble_eq_true rfl)⟩, (Nat.le_of_ble_eq_true rfl)⟩ ki_X9_bit rfl rfl (am_tab tk_X3_addList 19 rfl) rfl ?_
              refine am_iconst (q := 32) (n := 1) (by decide) (am_tab tk_X3_addList 20 rfl) rfl ?_
              refine am_icmp_ne (q := 35) (t := 45) (am_tab tk_X3_addList 21 rfl) (by decide) rfl (fun h32 => ?_) (fun h32 => ?_)
              · refine am_iinc (q := 48) rfl (by omega) (by decide) (ls2 := [(3, am_i (((j : Int) + 1))), (2, am_i (((i : Int) + 1))), (0, am_r 49), (1, am_r 34)]) rfl (am_tab tk_X3_addList 28 rfl) rfl ?_
                refine am_goto (t := 18) (am_tab tk_X3_addList 29 rfl) (by decide) ?_
                exact am_less (by intro q hq; simp only [List.mem_cons, List.not_mem_nil, or_false] at hq; rcases hq with rfl | rfl | rfl | rfl <;> simp) (ih18 (j + 1) S6 (by omega) (by omega) (by rw [show pL (σ.2.1 96 (20 + (i + 1))) ((i : Int) + 1) (j + 1) = pL (σ.2.1 96 (20 + (i + 1))) ((i : Int) + 1) j from by show (if _ then _ else _) = _; rw [if_neg h32]]; exact hI6))
              · have hlen := dp_len hb (i := i) (j := j) (by omega) (by omega) h32
                refine am_aload_n (q := 36) rfl (am_tab tk_X3_addList 22 rfl) rfl ?_
                refine am_iload_n (q := 37) rfl (am_tab tk_X3_addList 23 rfl) rfl ?_
                refine am_callVr (q := 40) (me2 := M_X3_add) (b := 49) (kb := 3) (nb := 2) (As := [am_i (((i : Int) + 1))]) (rest := []) (c_pAdd σ hL ((l ++ [stM σ 20]) ++ dL (fun d => σ.2.1 96 (20 + d)) i ++ pL (σ.2.1 96 (20 + (i + 1))) ((i : Int) + 1) j) S6 hI6 ((i : Int) + 1) (by omega) (by simp only [List.length_append, List.length_cons, List.length_nil] at hlen ⊢; omega)) ⟨rfl, rfl⟩ (Ls_49 (hI6.L hL)) (by decide) ⟨Or.inl km_X3_24, kc_X3_add, kn_X3, kd_X3_add, ⟨(Nat.le_of_ble_eq_true rfl), (Nat.le_of_ble_eq_true rfl)⟩, ⟨(Nat.le_of_ble_eq_true rfl), (Nat.le_of_ble_eq_true rfl)⟩, (Nat.le_of_ble_eq_true rfl)⟩ ki_X3_add ks_X3_add rfl (am_tab tk_X3_addList 24 rfl) rfl ?_
                rintro r I37 ⟨rfl, hI37⟩
                refine am_st (st2 := []) rfl ?_
                refine am_aload_n (q := 41) rfl (am_tab tk_X3_addList 25 rfl) rfl ?_
                refine am_iload_n (q := 42) rfl (am_tab tk_X3_addList 26 rfl) rfl ?_
                refine am_callVr (q := 45) (me2 := M_X3_add) (b := 49) (kb := 3) (nb := 2) (As := [am_i ((j : Int))]) (rest := []) (c_pAdd σ hL ((l ++ [stM σ 20]) ++ dL (fun d => σ.2.1 96 (20 + d)) i ++ pL (σ.2.1 96 (20 + (i + 1))) ((i : Int) + 1) j ++ [((i : Int) + 1)]) I37 hI37 (j : Int) (by omega) (by simp only [List.length_append, List.length_cons, List.length_nil] at hlen ⊢; omega)) ⟨rfl, rfl⟩ (Ls_49 (hI37.L hL)) (by decide) ⟨Or.inl km_X3_24, kc_X3_add, kn_X3, kd_X3_add, ⟨(Nat.le_of_ble_eq_true rfl), (Nat.le_of_ble_eq_true rfl)⟩, ⟨(Nat.le_of_ble_eq_true rfl), (Nat.le_of_ble_eq_true rfl)⟩, (Nat.le_of_ble_eq_true rfl)⟩ ki_X3_add ks_X3_add rfl (am_tab tk_X3_addList 27 rfl) rfl ?_
                rintro r I42 ⟨rfl, hI42⟩
                refine am_st (st2 := []) rfl ?_
                refine am_iinc (q := 48) rfl (by omega) (by decide) (ls2 := [(3, am_i (((j : Int) + 1))), (2, am_i (((i : Int) + 1))), (0, am_r 49), (1, am_r 34)]) rfl (am_tab tk_X3_addList 28 rfl) rfl ?_
                refine am_goto (t := 18) (am_tab tk_X3_addList 29 rfl) (by decide) ?_
                have hpl : (l ++ [stM σ 20]) ++ dL (fun d => σ.2.1 96 (20 + d)) i ++ pL (σ.2.1 96 (20 + (i + 1))) ((i : Int) + 1) (j + 1) = (l ++ [stM σ 20]) ++ dL (fun d => σ.2.1 96 (20 + d)) i ++ pL (σ.2.1 96 (20 + (i + 1))) ((i : Int) + 1) j ++ [((i : Int) + 1)] ++ [(j : Int)] := by
                  rw [show pL (σ.2.1 96 (20 + (i + 1))) ((i : Int) + 1) (j + 1) = pL (σ.2.1 96 (20 + (i + 1))) ((i : Int) + 1) j ++ [(i : Int) + 1, (j : Int)] from by show (if _ then _ else _) = _; rw [if_pos h32]]
                  simp
                exact am_less (by intro q hq; simp only [List.mem_cons, List.not_mem_nil, or_false] at hq; rcases hq with rfl | rfl | rfl | rfl <;> simp) (ih18 (j + 1) I42 (by omega) (by omega) (by rw [hpl]; exact hI42))
        refine am_less (by intro q hq; simp only [List.mem_cons, List.not_mem_nil, or_false] at hq; rcases hq with rfl | rfl | rfl | rfl <;> simp) (L18 (_ + 1) 0 S5 (by exact Nat.lt_succ_self _) (by omega) (by simpa [pL] using hI5))
  refine am_less (by intro q hq; simp only [List.mem_cons, List.not_mem_nil, or_false] at hq; rcases hq with rfl | rfl | rfl <;> simp) (L10 (_ + 1) 0 I5 (by exact Nat.lt_succ_self _) (by omega) (by simpa [dL] using hI5))
set_option maxRecDepth 100000 in
theorem c_pList_35 (σ : am_H) (hL : lay σ) (l : List Int) (S : am_H) (hI : IC σ l S)  (hF : LF0 32 σ (fun k => σ.2.1 96 k)) (hz : σ.2.1 96 111 = 0) (hb : ∀ d, d < 91 → 0 ≤ σ.2.1 96 (111 + d) ∧ σ.2.1 96 (111 + d) < 256) (hm : 0 ≤ stM σ 111 ∧ stM σ 111 ≤ 30) (hl : l.length + 61 ≤ 146) : am_met M_X3_addList [am_r 49, am_r 35] S (fun r σ' => r = none ∧ IC σ (l ++ [stM σ 111] ++ dL (fun d => σ.2.1 96 (111 + d)) 90) σ') := by
  refine am_qq (fun Q hQ => ?_)
  refine am_enter (show plainFor yX3_addList = true by decide +kernel) rfl (Nat.le_of_ble_eq_true rfl) (fun _ _ _ => trivial) ?_
  refine am_aload_n (q := 1) rfl (am_tab tk_X3_addList 0 rfl) rfl ?_
  refine am_aload_n (q := 2) rfl (am_tab tk_X3_addList 1 rfl) rfl ?_
  refine am_callSr (q := 5) (me2 := M_X9_countBits) (As := [am_r 35]) (rest := [am_r 49]) (c_countBits_35 S (hI.L hL) (fun d hd => by rw [hI.1.2.2 35 d (by unfold W_ic; omega), hF.2.2.2.2.2 d hd]; exact hb d hd)) ⟨rfl, rfl⟩ ⟨Or.inr km_X3_67, kc_X9_countBits, kn_X9, kd_X9_countBits, ⟨(Nat.le_of_ble_eq_true rfl), (Nat.le_of_ble_eq_true rfl)⟩, ⟨(Nat.le_of_ble_eq_true rfl), (Nat.le_of_ble_eq_true rfl)⟩, (Nat.le_of_ble_eq_true rfl)⟩ ki_X9_countBits rfl (am_tab tk_X3_addList 2 rfl) rfl ?_
  rintro r τ ⟨hr9, hτ⟩
  have hsum : sumN (fun d => bc (S.2.1 35 d)) 91 = stM σ 111 := sumN_sh (f := fun d => bc (S.2.1 35 d)) (by show bc (S.2.1 35 0) = 0; rw [hI.1.2.2 35 0 (by unfold W_ic; omega), show σ.2.1 35 0 = 0 from (hF.2.2.2.2.2 0 (by decide)).trans hz]; exact bc0) 90 (fun d hd => by show bc (S.2.1 35 (d + 1)) = bc (σ.2.1 96 (111 + 1 + d)); rw [hI.1.2.2 35 (d + 1) (by unfold W_ic; omega), show σ.2.1 35 (d + 1) = σ.2.1 96 (111 + 1 + d) from (hF.2.2.2.2.2 (d + 1) (by omega)).trans (by show σ.2.1 96 (111 + (d + 1)) = _; rw [show 111 + (d + 1) = 111 + 1 + d by omega])])
  rw [hsum] at hr9
  rw [hr9, hτ]
  refine am_st (st2 := [am_i (stM σ 111), am_r 49]) rfl ?_
  refine am_callVr (q := 8) (me2 := M_X3_add) (b := 49) (kb := 3) (nb := 2) (As := [am_i (stM σ 111)]) (rest := []) (c_pAdd σ hL (l) S hI (stM σ 111) (by omega) (by omega)) ⟨rfl, rfl⟩ (Ls_49 (hI.L hL)) (by decide) ⟨Or.inl km_X3_24, kc_X3_add, kn_X3, kd_X3_add, ⟨(Nat.le_of_ble_eq_true rfl), (Nat.le_of_ble_eq_true rfl)⟩, ⟨(Nat.le_of_ble_eq_true rfl), (Nat.le_of_ble_eq_true rfl)⟩, (Nat.le_of_ble_eq_true rfl)⟩ ki_X3_add ks_X3_add rfl (am_tab tk_X3_addList 3 rfl) rfl ?_
  rintro r I5 ⟨rfl, hI5⟩
  refine am_st (st2 := []) rfl ?_
  refine am_iconst (q := 9) (n := 1) (by decide) (am_tab tk_X3_addList 4 rfl) rfl ?_
  refine am_istore_n (q := 10) (by decide) (ls2 := [(2, am_i 1), (0, am_r 49), (1, am_r 35)]) rfl (am_tab tk_X3_addList 5 rfl) rfl ?_
  have L10 : ∀ (n10 : Nat) (i : Nat) (S5 : am_H), 90 - i < n10 → i ≤ 90 → IC σ ((l ++ [stM σ 111]) ++ dL (fun d => σ.2.1 96 (111 + d)) i) S5 → am_wp M_X3_addList Q 0 0 10 [(2, am_i (((i : Int) + 1))), (0, am_r 49), (1, am_r 35)] [] S5 := by
    intro n10
    induction n10 with
    | zero => intro i S5 hn10; exact absurd hn10 (Nat.not_lt_zero _)
    | succ n10 ih10 =>
      intro i S5 hn10 hi hI5
      refine am_iload_n (q := 11) rfl (am_tab tk_X3_addList 6 rfl) rfl ?_
      refine am_aload_n (q := 12) rfl (am_tab tk_X3_addList 7 rfl) rfl ?_
      refine am_alen (q := 13) (a := 35) (k := 11) (n := 91) (Ls_35 (hI5.L hL)) (by decide) (by decide) (am_tab tk_X3_addList 8 rfl) rfl ?_
      refine am_icmp_ge (q := 16) (t := 57) (am_tab tk_X3_addList 9 rfl) (by decide) rfl (fun h13 => ?_) (fun h13 => ?_)
      · refine am_vret rfl (Nat.le_of_ble_eq_true rfl) (Nat.le_of_ble_eq_true rfl) (am_tab tk_X3_addList 32 rfl) ?_
        refine hQ _ _ ?_
        rw [show i = 90 by omega] at hI5
        exact ⟨rfl, hI5⟩
      · refine am_iconst (q := 17) (n := 0) (by decide) (am_tab tk_X3_addList 10 rfl) rfl ?_
        refine am_istore_n (q := 18) (by decide) (ls2 := [(3, am_i 0), (2, am_i (((i : Int) + 1))), (0, am_r 49), (1, am_r 35)]) rfl (am_tab tk_X3_addList 11 rfl) rfl ?_
        have L18 : ∀ (n18 : Nat) (j : Nat) (S6 : am_H), 8 - j < n18 → j ≤ 8 → IC σ ((l ++ [stM σ 111]) ++ dL (fun d => σ.2.1 96 (111 + d)) i ++ pL (σ.2.1 96 (111 + (i + 1))) ((i : Int) + 1) j) S6 → am_wp M_X3_addList Q 0 0 18 [(3, am_i ((j : Int))), (2, am_i (((i : Int) + 1))), (0, am_r 49), (1, am_r 35)] [] S6 := by
          intro n18
          induction n18 with
          | zero => intro j S6 hn18; exact absurd hn18 (Nat.not_lt_zero _)
          | succ n18 ih18 =>
            intro j S6 hn18 hj hI6
            refine am_iload_n (q := 19) rfl (am_tab tk_X3_addList 12 rfl) rfl ?_
            refine am_bipush (q := 21) (n := 8) (by decide) rfl (am_tab tk_X3_addList 13 rfl) rfl ?_
            refine am_icmp_ge (q := 24) (t := 51) (am_tab tk_X3_addList 14 rfl) (by decide) rfl (fun h21 => ?_) (fun h21 => ?_)
            · refine am_iinc (q := 54) rfl (by omega) (by decide) (ls2 := [(2, am_i ((((i : Int) + 1) + 1))), (3, am_i ((j : Int))), (0, am_r 49), (1, am_r 35)]) rfl (am_tab tk_X3_addList 30 rfl) rfl ?_
              refine am_goto (t := 10) (am_tab tk_X3_addList 31 rfl) (by decide) ?_
              have hdl : (l ++ [stM σ 111]) ++ dL (fun d => σ.2.1 96 (111 + d)) (i + 1) = (l ++ [stM σ 111]) ++ dL (fun d => σ.2.1 96 (111 + d)) i ++ pL (σ.2.1 96 (111 + (i + 1))) ((i : Int) + 1) 8 := by
                show _ ++ (dL (fun d => σ.2.1 96 (111 + d)) i ++ pL (σ.2.1 96 (111 + (i + 1))) ((i + 1 : Nat) : Int) 8) = _
                rw [← List.append_assoc]; rfl
              have ej : j = 8 := by omega
              rw [ej] at hI6
              exact am_less (by intro q hq; simp only [List.mem_cons, List.not_mem_nil, or_false] at hq; rcases hq with rfl | rfl | rfl <;> simp) (ih10 (i + 1) S6 (by omega) (by omega) (by rw [hdl]; exact hI6))
            · have hx8 := hb (i + 1) (by omega)
              refine am_aload_n (q := 25) rfl (am_tab tk_X3_addList 15 rfl) rfl ?_
              refine am_iload_n (q := 26) rfl (am_tab tk_X3_addList 16 rfl) rfl ?_
              refine am_iald (q := 27) (a := 35) (n := 91) (x := (σ.2.1 96 (111 + (i + 1)))) (Ls_35 (hI6.L hL)) (by omega) (by omega) (by rw [show Int.toNat ((i : Int) + 1) = i + 1 by omega, hI6.1.2.2 35 (i + 1) (by unfold W_ic; omega)]; exact hF.2.2.2.2.2 (i + 1) (by omega)) (am_tab tk_X3_addList 17 rfl) rfl ?_
              refine am_iload_n (q := 28) rfl (am_tab tk_X3_addList 18 rfl) rfl ?_
              refine am_callS0 (q := 31) (me2 := M_X9_bit) (As := [am_i ((σ.2.1 96 (111 + (i + 1)))), am_i ((j : Int))]) (rest := []) (out := [am_i (tb (σ.2.1 96 (111 + (i + 1))) (j : Int))]) (c_bit S6 (σ.2.1 96 (111 + (i + 1))) (j : Int) (hx8) (by omega)) ⟨rfl, rfl⟩ ⟨Or.inr km_X3_49, kc_X9_bit, kn_X9, kd_X9_bit, ⟨(Nat.le_of_ble_eq_true rfl), (Nat.le_of_ble_eq_true rfl)⟩, ⟨(Nat.le_of_ble_eq_true rfl), (Nat.le_of_ble_eq_true rfl)⟩, (Nat.le_of_ble_eq_true rfl)⟩ ki_X9_bit rfl rfl (am_tab tk_X3_addList 19 rfl) rfl ?_
              refine am_iconst (q := 32) (n := 1) (by decide) (am_tab tk_X3_addList 20 rfl) rfl ?_
              refine am_icmp_ne (q := 35) (t := 45) (am_tab tk_X3_addList 21 rfl) (by decide) rfl (fun h32 => ?_) (fun h32 => ?_)
              · refine am_iinc (q := 48) rfl (by omega) (by decide) (ls2 := [(3, am_i (((j : Int) + 1))), (2, am_i (((i : Int) + 1))), (0, am_r 49), (1, am_r 35)]) rfl (am_tab tk_X3_addList 28 rfl) rfl ?_
                refine am_goto (t := 18) (am_tab tk_X3_addList 29 rfl) (by decide) ?_
                exact am_less (by intro q hq; simp only [List.mem_cons, List.not_mem_nil, or_false] at hq; rcases hq with rfl | rfl | rfl | rfl <;> simp) (ih18 (j + 1) S6 (by omega) (by omega) (by rw [show pL (σ.2.1 96 (111 + (i + 1))) ((i : Int) + 1) (j + 1) = pL (σ.2.1 96 (111 + (i + 1))) ((i : Int) + 1) j from by show (if _ then _ else _) = _; rw [if_neg h32]]; exact hI6))
              · have hlen := dp_len hb (i := i) (j := j) (by omega) (by omega) h32
                refine am_aload_n (q := 36) rfl (am_tab tk_X3_addList 22 rfl) rfl ?_
                refine am_iload_n (q := 37) rfl (am_tab tk_X3_addList 23 rfl) rfl ?_
                refine am_callVr (q := 40) (me2 := M_X3_add) (b := 49) (kb := 3) (nb := 2) (As := [am_i (((i : Int) + 1))]) (rest := []) (c_pAdd σ hL ((l ++ [stM σ 111]) ++ dL (fun d => σ.2.1 96 (111 + d)) i ++ pL (σ.2.1 96 (111 + (i + 1))) ((i : Int) + 1) j) S6 hI6 ((i : Int) + 1) (by omega) (by simp only [List.length_append, List.length_cons, List.length_nil] at hlen ⊢; omega)) ⟨rfl, rfl⟩ (Ls_49 (hI6.L hL)) (by decide) ⟨Or.inl km_X3_24, kc_X3_add, kn_X3, kd_X3_add, ⟨(Nat.le_of_ble_eq_true rfl), (Nat.le_of_ble_eq_true rfl)⟩, ⟨(Nat.le_of_ble_eq_true rfl), (Nat.le_of_ble_eq_true rfl)⟩, (Nat.le_of_ble_eq_true rfl)⟩ ki_X3_add ks_X3_add rfl (am_tab tk_X3_addList 24 rfl) rfl ?_
                rintro r I37 ⟨rfl, hI37⟩
                refine am_st (st2 := []) rfl ?_
                refine am_aload_n (q := 41) rfl (am_tab tk_X3_addList 25 rfl) rfl ?_
                refine am_iload_n (q := 42) rfl (am_tab tk_X3_addList 26 rfl) rfl ?_
                refine am_callVr (q := 45) (me2 := M_X3_add) (b := 49) (kb := 3) (nb := 2) (As := [am_i ((j : Int))]) (rest := []) (c_pAdd σ hL ((l ++ [stM σ 111]) ++ dL (fun d => σ.2.1 96 (111 + d)) i ++ pL (σ.2.1 96 (111 + (i + 1))) ((i : Int) + 1) j ++ [((i : Int) + 1)]) I37 hI37 (j : Int) (by omega) (by simp only [List.length_append, List.length_cons, List.length_nil] at hlen ⊢; omega)) ⟨rfl, rfl⟩ (Ls_49 (hI37.L hL)) (by decide) ⟨Or.inl km_X3_24, kc_X3_add, kn_X3, kd_X3_add, ⟨(Nat.le_of_ble_eq_true rfl), (Nat.le_of_ble_eq_true rfl)⟩, ⟨(Nat.le_of_ble_eq_true rfl), (Nat.le_of_ble_eq_true rfl)⟩, (Nat.le_of_ble_eq_true rfl)⟩ ki_X3_add ks_X3_add rfl (am_tab tk_X3_addList 27 rfl) rfl ?_
                rintro r I42 ⟨rfl, hI42⟩
                refine am_st (st2 := []) rfl ?_
                refine am_iinc (q := 48) rfl (by omega) (by decide) (ls2 := [(3, am_i (((j : Int) + 1))), (2, am_i (((i : Int) + 1))), (0, am_r 49), (1, am_r 35)]) rfl (am_tab tk_X3_addList 28 rfl) rfl ?_
                refine am_goto (t := 18) (am_tab tk_X3_addList 29 rfl) (by decide) ?_
                have hpl : (l ++ [stM σ 111]) ++ dL (fun d => σ.2.1 96 (111 + d)) i ++ pL (σ.2.1 96 (111 + (i + 1))) ((i : Int) + 1) (j + 1) = (l ++ [stM σ 111]) ++ dL (fun d => σ.2.1 96 (111 + d)) i ++ pL (σ.2.1 96 (111 + (i + 1))) ((i : Int) + 1) j ++ [((i : Int) + 1)] ++ [(j : Int)] := by
                  rw [show pL (σ.2.1 96 (111 + (i + 1))) ((i : Int) + 1) (j + 1) = pL (σ.2.1 96 (111 + (i + 1))) ((i : Int) + 1) j ++ [(i : Int) + 1, (j : Int)] from by show (if _ then _ else _) = _; rw [if_pos h32]]
                  simp
                exact am_less (by intro q hq; simp only [List.mem_cons, List.not_mem_nil, or_false] at hq; rcases hq with rfl | rfl | rfl | rfl <;> simp) (ih18 (j + 1) I42 (by omega) (by omega) (by rw [hpl]; exact hI42))
        refine am_less (by intro q hq; simp only [List.mem_cons, List.not_mem_nil, or_false] at hq; rcases hq with rfl | rfl | rfl | rfl <;> simp) (L18 (_ + 1) 0 S5 (by exact Nat.lt_succ_self _) (by omega) (by simpa [pL] using hI5))
  refine am_less (by intro q hq; simp only [List.mem_cons, List.not_mem_nil, or_false] at hq; rcases hq with rfl | rfl | rfl <;> simp) (L10 (_ + 1) 0 I5 (by exact Nat.lt_succ_self _) (by omega) (by simpa [dL] using hI5))
theorem c_checkOf_50 (σ : am_H) (hL : lay σ) (n : Nat) (hn : n ≤ 146) (hf : ∀ i, i < n → 0 ≤ σ.2.1 50 i ∧ σ.2.1 50 i ≤ 255) : am_met M_X3_checkOf [am_r 50, am_i ((n : Int))] σ (fun r σ' => r = some (am_i (ckN (fun i => σ.2.1 50 i) n)) ∧ σ' = σ) := by
  refine am_qq (fun Q hQ => ?_)
  refine am_enter (show plainFor yX3_checkOf = true by decide +kernel) rfl (Nat.le_of_ble_eq_true rfl) (fun _ _ _ => trivial) ?_
  refine am_sipush (q := 3) (n := 239) (by decide) rfl (am_tab tk_X3_checkOf 0 rfl) rfl ?_
  refine am_istore_n (q := 4) (by decide) (ls2 := [(2, am_i 239), (0, am_r 50), (1, am_i ((n : Int)))]) rfl (am_tab tk_X3_checkOf 1 rfl) rfl ?_
  refine am_iconst (q := 5) (n := 0) (by decide) (am_tab tk_X3_checkOf 2 rfl) rfl ?_
  refine am_istore_n (q := 6) (by decide) (ls2 := [(3, am_i 0), (2, am_i 239), (0, am_r 50), (1, am_i ((n : Int)))]) rfl (am_tab tk_X3_checkOf 3 rfl) rfl ?_
  have L6 : ∀ (n6 : Nat) (i : Nat), n - i < n6 → i ≤ n → am_wp M_X3_checkOf Q 0 0 6 [(3, am_i ((i : Int))), (2, am_i (ckN (fun i => σ.2.1 50 i) i)), (0, am_r 50), (1, am_i ((n : Int)))] [] σ := by
    intro n6
    induction n6 with
    | zero => intro i hn6; exact absurd hn6 (Nat.not_lt_zero _)
    | succ n6 ih6 =>
      intro i hn6 hi
      have hc := ckN_rng (f := fun i => σ.2.1 50 i) i (fun k hk => hf k (by omega))
      have hx : i < n → 0 ≤ σ.2.1 50 i ∧ σ.2.1 50 i ≤ 255 := fun h => hf i h
      refine am_iload_n (q := 7) rfl (am_tab tk_X3_checkOf 4 rfl) rfl ?_
      refine am_iload_n (q := 8) rfl (am_tab tk_X3_checkOf 5 rfl) rfl ?_
      refine am_icmp_ge (q := 11) (t := 35) (am_tab tk_X3_checkOf 6 rfl) (by decide) rfl (fun h8 => ?_) (fun h8 => ?_)
      · refine am_iload_n (q := 36) rfl (am_tab tk_X3_checkOf 23 rfl) rfl ?_
        refine am_iret (Or.inl rfl) (Nat.le_of_ble_eq_true rfl) (Nat.le_of_ble_eq_true rfl) (am_tab tk_X3_checkOf 24 rfl) ?_
        refine hQ _ _ ?_
        rw [show i = n by omega]
        exact ⟨rfl, rfl⟩
      · refine am_iload_n (q := 12) rfl (am_tab tk_X3_checkOf 7 rfl) rfl ?_
        refine am_aload_n (q := 13) rfl (am_tab tk_X3_checkOf 8 rfl) rfl ?_
        refine am_alen (q := 14) (a := 50) (k := 11) (n := 146) (Ls_50 hL) (by decide) (by decide) (am_tab tk_X3_checkOf 9 rfl) rfl ?_
        refine am_icmp_ge (q := 17) (t := 35) (am_tab tk_X3_checkOf 10 rfl) (by decide) rfl (fun h14 => ?_) (fun h14 => ?_)
        · exact absurd h14 (by omega)
        · refine am_iconst (q := 18) (n := 3) (by decide) (am_tab tk_X3_checkOf 11 rfl) rfl ?_
          refine am_iload_n (q := 19) rfl (am_tab tk_X3_checkOf 12 rfl) rfl ?_
          refine am_imul (q := 20) (by omega) (am_tab tk_X3_checkOf 13 rfl) rfl ?_
          refine am_aload_n (q := 21) rfl (am_tab tk_X3_checkOf 14 rfl) rfl ?_
          refine am_iload_n (q := 22) rfl (am_tab tk_X3_checkOf 15 rfl) rfl ?_
          refine am_iald (q := 23) (a := 50) (n := 146) (x := (σ.2.1 50 i)) (Ls_50 hL) (by omega) (by omega) (by rw [show Int.toNat (i : Int) = i by omega]) (am_tab tk_X3_checkOf 16 rfl) rfl ?_
          refine am_iadd (q := 24) (by omega) (am_tab tk_X3_checkOf 17 rfl) rfl ?_
          refine am_sipush (q := 27) (n := 251) (by decide) rfl (am_tab tk_X3_checkOf 18 rfl) rfl ?_
          refine am_irem (q := 28) (by omega) (by omega) (am_tab tk_X3_checkOf 19 rfl) rfl ?_
          refine am_istore_n (q := 29) (by decide) (ls2 := [(2, am_i ((Int.tmod ((3 * (ckN (fun i => σ.2.1 50 i) i)) + (σ.2.1 50 i)) 251))), (3, am_i ((i : Int))), (0, am_r 50), (1, am_i ((n : Int)))]) rfl (am_tab tk_X3_checkOf 20 rfl) rfl ?_
          refine am_iinc (q := 32) rfl (by omega) (by decide) (ls2 := [(3, am_i (((i : Int) + 1))), (2, am_i ((Int.tmod ((3 * (ckN (fun i => σ.2.1 50 i) i)) + (σ.2.1 50 i)) 251))), (0, am_r 50), (1, am_i ((n : Int)))]) rfl (am_tab tk_X3_checkOf 21 rfl) rfl ?_
          refine am_goto (t := 6) (am_tab tk_X3_checkOf 22 rfl) (by decide) ?_
          exact am_less (by intro q hq; simp only [List.mem_cons, List.not_mem_nil, or_false] at hq; rcases hq with rfl | rfl | rfl | rfl <;> simp [ckN]) (ih6 (i + 1) (by omega) (by omega))
  refine am_less (by intro q hq; simp only [List.mem_cons, List.not_mem_nil, or_false] at hq; rcases hq with rfl | rfl | rfl | rfl <;> simp [ckN]) (L6 (_ + 1) 0 (by exact Nat.lt_succ_self _) (by omega))
