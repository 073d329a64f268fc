def tkF (σ : am_H) (F : Nat) : Nat → Nat → Int
  | 0, _ => 0
  | k + 1, d => if (d : Int) = aD σ F k then ao_or (tkF σ F k d) (ao_shl 1 (aP σ F k)) else tkF σ F k d
def tkN (σ : am_H) (F t k : Nat) (j : Nat) : Int := if t ≤ j ∧ j < t + 91 then tkF σ F k (j - t) else σ.2.1 96 j
theorem c_X10_takesSets (σ : am_H) (hL : lay σ) (F : Nat) (t : Nat) (ht : t ≤ 111) (hF : F < 1600) (hc : 0 ≤ σ.2.1 56 F ∧ σ.2.1 56 F ≤ 30) (hl : (F : Int) + 1 + 2 * σ.2.1 56 F ≤ 1600) (hd : ∀ k : Nat, (k : Int) < σ.2.1 56 F → (1 ≤ aD σ F k ∧ aD σ F k ≤ 90) ∧ (0 ≤ aP σ F k ∧ aP σ F k ≤ 7)) : am_met M_X10_takesSets [am_r 55, am_i ((F : Int)), am_i ((t : Int))] σ (fun r σ' => r = none ∧ σ' = am_setA σ 96 (tkN σ F t (σ.2.1 56 F).toNat)) := by
  refine am_qq (fun Q hQ => ?_)
  refine am_enter (show plainFor yX10_takesSets = true by decide +kernel) rfl (Nat.le_of_ble_eq_true rfl) (fun _ _ _ => trivial) ?_
  refine am_iconst (q := 1) (n := 0) (by decide) (am_tab tk_X10_takesSets 0 rfl) rfl ?_
  refine am_istore_n (q := 2) (by decide) (ls2 := [(3, am_i 0), (0, am_r 55), (1, am_i ((F : Int))), (2, am_i ((t : Int)))]) rfl (am_tab tk_X10_takesSets 1 rfl) rfl ?_
  have L2 : ∀ (n2 : Nat) (i : Nat), 91 - i < n2 → i ≤ 91 → am_wp M_X10_takesSets Q 0 0 2 [(3, am_i ((i : Int))), (0, am_r 55), (1, am_i ((F : Int))), (2, am_i ((t : Int)))] [] (am_setA σ 96 (fun j => if t ≤ j ∧ j < t + i then 0 else σ.2.1 96 j)) := by
    intro n2
    induction n2 with
    | zero => intro i hn2; exact absurd hn2 (Nat.not_lt_zero _)
    | succ n2 ih2 =>
      intro i hn2 hi
      refine am_iload_n (q := 3) rfl (am_tab tk_X10_takesSets 2 rfl) rfl ?_
      refine am_bipush (q := 5) (n := 90) (by decide) rfl (am_tab tk_X10_takesSets 3 rfl) rfl ?_
      refine am_icmp_gt (q := 8) (t := 23) (am_tab tk_X10_takesSets 4 rfl) (by decide) rfl (fun h5 => ?_) (fun h5 => ?_)
      · refine am_iload_n (q := 24) rfl (am_tab tk_X10_takesSets 14 rfl) rfl ?_
        refine am_iconst (q := 25) (n := 1) (by decide) (am_tab tk_X10_takesSets 15 rfl) rfl ?_
        refine am_iadd (q := 26) (by omega) (am_tab tk_X10_takesSets 16 rfl) rfl ?_
        refine am_istore_n (q := 27) (by decide) (ls2 := [(3, am_i (((F : Int) + 1))), (0, am_r 55), (1, am_i ((F : Int))), (2, am_i ((t : Int)))]) rfl (am_tab tk_X10_takesSets 17 rfl) rfl ?_
        have L27 : ∀ (n27 : Nat) (k : Nat), 31 - k < n27 → (k : Int) ≤ σ.2.1 56 F → am_wp M_X10_takesSets Q 0 0 27 [(3, am_i ((((F : Int) + 1) + (2 * (k : Int))))), (0, am_r 55), (1, am_i ((F : Int))), (2, am_i ((t : Int)))] [] (am_setA σ 96 (tkN σ F t k)) := by
          intro n27
          induction n27 with
          | zero => intro k hn27; exact absurd hn27 (Nat.not_lt_zero _)
          | succ n27 ih27 =>
            intro k hn27 hk
            have hdk := hd k
            refine am_iload_n (q := 28) rfl (am_tab tk_X10_takesSets 18 rfl) rfl ?_
            refine am_iload_n (q := 29) rfl (am_tab tk_X10_takesSets 19 rfl) rfl ?_
            refine am_iconst (q := 30) (n := 1) (by decide) (am_tab tk_X10_takesSets 20 rfl) rfl ?_
            refine am_iadd (q := 31) (by omega) (am_tab tk_X10_takesSets 21 rfl) rfl ?_
            refine am_iconst (q := 32) (n := 2) (by decide) (am_tab tk_X10_takesSets 22 rfl) rfl ?_
            refine am_aload_n (q := 33) rfl (am_tab tk_X10_takesSets 23 rfl) rfl ?_
            refine am_getR (q := 36) (a := 55) (k := 10) (n := 108) (j := 0) (r := some (56)) (Ls_55 hL) (by decide) rfl (Lr_55_0 hL) (by decide) (Or.inl kf_X10_7) (am_tab tk_X10_takesSets 24 rfl) rfl ?_
            refine am_iload_n (q := 37) rfl (am_tab tk_X10_takesSets 25 rfl) rfl ?_
            refine am_iald (q := 38) (a := 56) (n := 1600) (x := (σ.2.1 56 F)) (Ls_56 hL) (by omega) (by omega) (by rw [show Int.toNat (F : Int) = F by omega]; rfl) (am_tab tk_X10_takesSets 26 rfl) rfl ?_
            refine am_imul (q := 39) (by omega) (am_tab tk_X10_takesSets 27 rfl) rfl ?_
            refine am_iadd (q := 40) (by omega) (am_tab tk_X10_takesSets 28 rfl) rfl ?_
            refine am_icmp_ge (q := 43) (t := 75) (am_tab tk_X10_takesSets 29 rfl) (by decide) rfl (fun h40 => ?_) (fun h40 => ?_)
            · refine am_vret rfl (Nat.le_of_ble_eq_true rfl) (Nat.le_of_ble_eq_true rfl) (am_tab tk_X10_takesSets 52 rfl) ?_
              refine hQ _ _ ?_
              rw [show (σ.2.1 56 F).toNat = k by omega]
              exact ⟨rfl, rfl⟩
            · refine am_aload_n (q := 44) rfl (am_tab tk_X10_takesSets 30 rfl) rfl ?_
              refine am_getR (q := 47) (a := 55) (k := 10) (n := 108) (j := 54) (r := some (96)) (Ls_55 hL) (by decide) rfl (Lr_55_54 hL) (by decide) (Or.inl kf_X10_136) (am_tab tk_X10_takesSets 31 rfl) rfl ?_
              refine am_iload_n (q := 48) rfl (am_tab tk_X10_takesSets 32 rfl) rfl ?_
              refine am_aload_n (q := 49) rfl (am_tab tk_X10_takesSets 33 rfl) rfl ?_
              refine am_getR (q := 52) (a := 55) (k := 10) (n := 108) (j := 0) (r := some (56)) (Ls_55 hL) (by decide) rfl (Lr_55_0 hL) (by decide) (Or.inl kf_X10_7) (am_tab tk_X10_takesSets 34 rfl) rfl ?_
              refine am_iload_n (q := 53) rfl (am_tab tk_X10_takesSets 35 rfl) rfl ?_
              refine am_iald (q := 54) (a := 56) (n := 1600) (x := (aD σ F k)) (Ls_56 hL) (by omega) (by omega) (by rw [show Int.toNat (((F : Int) + 1) + (2 * (k : Int))) = F + 1 + 2 * k by omega]; rfl) (am_tab tk_X10_takesSets 36 rfl) rfl ?_
              refine am_iadd (q := 55) (by omega) (am_tab tk_X10_takesSets 37 rfl) rfl ?_
              refine am_dup2 (q := 56) rfl rfl (am_tab tk_X10_takesSets 38 rfl) rfl ?_
              refine am_iald (q := 57) (a := 96) (n := 443) (x := (tkF σ F k (aD σ F k).toNat)) (Ls_96 hL) (by omega) (by omega) (by rw [show Int.toNat ((t : Int) + (aD σ F k)) = t + (aD σ F k).toNat by omega]; show tkN σ F t k _ = _; unfold tkN; rw [if_pos (by omega), show t + (aD σ F k).toNat - t = (aD σ F k).toNat by omega]) (am_tab tk_X10_takesSets 39 rfl) rfl ?_
              refine am_iconst (q := 58) (n := 1) (by decide) (am_tab tk_X10_takesSets 40 rfl) rfl ?_
              refine am_aload_n (q := 59) rfl (am_tab tk_X10_takesSets 41 rfl) rfl ?_
              refine am_getR (q := 62) (a := 55) (k := 10) (n := 108) (j := 0) (r := some (56)) (Ls_55 hL) (by decide) rfl (Lr_55_0 hL) (by decide) (Or.inl kf_X10_7) (am_tab tk_X10_takesSets 42 rfl) rfl ?_
              refine am_iload_n (q := 63) rfl (am_tab tk_X10_takesSets 43 rfl) rfl ?_
              refine am_iconst (q := 64) (n := 1) (by decide) (am_tab tk_X10_takesSets 44 rfl) rfl ?_
              refine am_iadd (q := 65) (by omega) (am_tab tk_X10_takesSets 45 rfl) rfl ?_
              refine am_iald (q := 66) (a := 56) (n := 1600) (x := (aP σ F k)) (Ls_56 hL) (by omega) (by omega) (by rw [show Int.toNat ((((F : Int) + 1) + (2 * (k : Int))) + 1) = F + 2 + 2 * k by omega]; rfl) (am_tab tk_X10_takesSets 46 rfl) rfl ?_
              refine am_ishl (q := 67) (am_tab tk_X10_takesSets 47 rfl) rfl ?_
              refine am_ior (q := 68) (am_tab tk_X10_takesSets 48 rfl) rfl ?_
              refine am_iast (q := 69) (a := 96) (n := 443) (Ls_96 hL) (by omega) (by omega) (am_tab tk_X10_takesSets 49 rfl) rfl ?_
              refine am_iinc (q := 72) rfl (by omega) (by decide) (ls2 := [(3, am_i (((((F : Int) + 1) + (2 * (k : Int))) + 2))), (0, am_r 55), (1, am_i ((F : Int))), (2, am_i ((t : Int)))]) rfl (am_tab tk_X10_takesSets 50 rfl) rfl ?_
              refine am_goto (t := 27) (am_tab tk_X10_takesSets 51 rfl) (by decide) ?_
              have h9 := hdk (by omega)
              rw [show (((F : Int) + 1) + (2 * (k : Int))) + 2 = ((F : Int) + 1) + (2 * ((k + 1 : Nat) : Int)) by omega]
              refine am_hp2 (σ1 := am_setA σ 96 (tkN σ F t (k + 1))) ?_ ?_
              · rw [show Int.toNat ((t : Int) + (aD σ F k)) = t + (aD σ F k).toNat by omega, am_setA_N]
                congr 1
                funext q
                unfold tkN
                by_cases hq : t ≤ q ∧ q < t + 91
                · rw [if_pos hq, if_pos hq]
                  show _ = (if ((q - t : Nat) : Int) = aD σ F k then _ else _)
                  by_cases hq2 : q = t + (aD σ F k).toNat
                  · rw [if_pos hq2, if_pos (by omega), show q - t = (aD σ F k).toNat by omega]
                  · rw [if_neg hq2, if_neg (by omega)]
                · rw [if_neg hq, if_neg hq, if_neg (by omega)]
              exact am_less (by intro q hq; simp only [List.mem_cons, List.not_mem_nil, or_false] at hq; rcases hq with rfl | rfl | rfl | rfl <;> simp) (ih27 (k + 1) (by omega) (by omega))
        refine am_hp2 (σ1 := am_setA σ 96 (tkN σ F t 0)) ?_ ?_
        · congr 1; funext q; unfold tkN; rw [show i = 91 by omega]; rfl
        refine am_less (by intro q hq; simp only [List.mem_cons, List.not_mem_nil, or_false] at hq; rcases hq with rfl | rfl | rfl | rfl <;> simp) (L27 (_ + 1) 0 (by exact Nat.lt_succ_self _) (by omega))
      · refine am_aload_n (q := 9) rfl (am_tab tk_X10_takesSets 5 rfl) rfl ?_
        refine am_getR (q := 12) (a := 55) (k := 10) (n := 108) (j := 54) (r := some (96)) (Ls_55 hL) (by decide) rfl (Lr_55_54 hL) (by decide) (Or.inl kf_X10_136) (am_tab tk_X10_takesSets 6 rfl) rfl ?_
        refine am_iload_n (q := 13) rfl (am_tab tk_X10_takesSets 7 rfl) rfl ?_
        refine am_iload_n (q := 14) rfl (am_tab tk_X10_takesSets 8 rfl) rfl ?_
        refine am_iadd (q := 15) (by omega) (am_tab tk_X10_takesSets 9 rfl) rfl ?_
        refine am_iconst (q := 16) (n := 0) (by decide) (am_tab tk_X10_takesSets 10 rfl) rfl ?_
        refine am_iast (q := 17) (a := 96) (n := 443) (Ls_96 hL) (by omega) (by omega) (am_tab tk_X10_takesSets 11 rfl) rfl ?_
        refine am_iinc (q := 20) rfl (by omega) (by decide) (ls2 := [(3, am_i (((i : Int) + 1))), (0, am_r 55), (1, am_i ((F : Int))), (2, am_i ((t : Int)))]) rfl (am_tab tk_X10_takesSets 12 rfl) rfl ?_
        refine am_goto (t := 2) (am_tab tk_X10_takesSets 13 rfl) (by decide) ?_
        refine am_hp2 (σ1 := am_setA σ 96 (fun j => if t ≤ j ∧ j < t + (i + 1) then 0 else σ.2.1 96 j)) ?_ ?_
        · rw [show Int.toNat ((t : Int) + (i : Int)) = t + i by omega, am_setA_N]; congr 1; funext q; repeat' split
          all_goals first | rfl | omega
        exact am_less (by intro q hq; simp only [List.mem_cons, List.not_mem_nil, or_false] at hq; rcases hq with rfl | rfl | rfl | rfl <;> simp) (ih2 (i + 1) (by omega) (by omega))
  refine am_hp2 (σ1 := am_setA σ 96 (fun j => if t ≤ j ∧ j < t + 0 then 0 else σ.2.1 96 j)) ?_ ?_
  · rw [show (fun j => if t ≤ j ∧ j < t + 0 then 0 else σ.2.1 96 j) = (fun j => σ.2.1 96 j) from funext fun q => if_neg (by omega), am_setA_self]
  refine am_less (by intro q hq; simp only [List.mem_cons, List.not_mem_nil, or_false] at hq; rcases hq with rfl | rfl | rfl | rfl <;> simp) (L2 (_ + 1) 0 (by exact Nat.lt_succ_self _) (by omega))
def onA (σ : am_H) (i k : Nat) : Int := if k = 0 then (256 * σ.2.1 56 0) + σ.2.1 56 1 else if k = 1 then σ.2.1 56 2 else if k = 2 then σ.2.1 56 3 else if k = 3 then coT σ else if 4 ≤ k ∧ k < 4 + i then σ.2.1 56 (7 + 2 * (k - 4)) else if 12 ≤ k ∧ k < 12 + i then σ.2.1 56 (8 + 2 * (k - 12)) else σ.2.1 96 k
/-- the time that an image tells -/
def onN (σ : am_H) (k : Nat) : Int := if k = 202 then 0 else if 111 ≤ k ∧ k < 202 then tkF σ (sF2 σ) (σ.2.1 56 (sF2 σ)).toNat (k - 111) else if 20 ≤ k ∧ k < 111 then tkF σ (sF σ) (σ.2.1 56 (sF σ)).toNat (k - 20) else onA σ (pN σ) k
def W_on (a j : Nat) : Prop := a = 96 ∨ (a = 55 ∧ (j = 1 ∨ j = 69))
theorem iiC_get {σ : am_H} {n : Int} (h : iiC σ n = true) : (¬ σ.2.1 55 52 = 0 ∧ (sF σ : Int) + 3 ≤ n) ∧ hdC σ = true ∧ asC σ (sF σ) (n - 1) 0 = true ∧ asC σ (sF2 σ) (n - 1) (σ.2.1 56 2) = true := by
  unfold iiC at h
  simp only [Bool.and_eq_true, decide_eq_true_eq] at h
  exact ⟨⟨h.1.1.1.1.1, h.1.1.1.1.2.1⟩, h.1.1.1.2, h.1.1.2, h.1.2⟩
theorem as_pair {σ : am_H} {F : Nat} {n le : Int} (hR : MR σ) (h : asC σ F n le = true) (k : Nat) (hk : (k : Int) < σ.2.1 56 F) : (1 ≤ aD σ F k ∧ aD σ F k ≤ 90) ∧ (0 ≤ aP σ F k ∧ aP σ F k ≤ 7) := by
  have h1 := (asC_get h).2
  have hY := hR.Y
  have hP := hR.P
  have h2 : asB σ F le k = false := by
    rcases hx : asB σ F le k with _ | _
    · rfl
    · rw [anyB_t hx (show k < (σ.2.1 56 F).toNat by omega)] at h1
      exact absurd h1 (by simp)
  unfold asB at h2
  simp only [decide_eq_false_iff_not, Classical.not_not] at h2
  omega
theorem aD_eq {σ τ : am_H} (h : ∀ j, τ.2.1 56 j = σ.2.1 56 j) (F k : Nat) : aD τ F k = aD σ F k := h _
theorem aP_eq {σ τ : am_H} (h : ∀ j, τ.2.1 56 j = σ.2.1 56 j) (F k : Nat) : aP τ F k = aP σ F k := h _
theorem tkF_eq {σ τ : am_H} (h : ∀ j, τ.2.1 56 j = σ.2.1 56 j) (F : Nat) : ∀ k d, tkF τ F k d = tkF σ F k d
  | 0, _ => rfl
  | k + 1, d => by
    unfold tkF
    rw [tkF_eq h F k d, aD_eq h, aP_eq h]
theorem c_takesS (σ : am_H) (hL : lay σ) (F t : Nat) (x y : Int) (hx : x = (F : Int)) (hy : y = (t : Int)) (ht : t ≤ 111) (hF : F < 1600) (hc : 0 ≤ σ.2.1 56 F ∧ σ.2.1 56 F ≤ 30) (hl : (F : Int) + 1 + 2 * σ.2.1 56 F ≤ 1600) (hd : ∀ k : Nat, (k : Int) < σ.2.1 56 F → (1 ≤ aD σ F k ∧ aD σ F k ≤ 90) ∧ (0 ≤ aP σ F k ∧ aP σ F k ≤ 7)) : am_met M_X10_takesSets [am_r 55, am_i x, am_i y] σ (fun r σ' => r = none ∧ σ' = am_setA σ 96 (tkN σ F t (σ.2.1 56 F).toNat)) := by
  rw [hx, hy]
  exact c_X10_takesSets σ hL F t ht hF hc hl hd
theorem c_X10_on (σ : am_H) (hG : GD σ)  (hT : TPR σ) (hr : 0 ≤ σ.2.1 57 5 ∧ σ.2.1 57 5 ≤ 100000) : am_met M_X10_on [am_r 55] σ (fun r σ' => (iiC σ (σ.2.1 55 1) = true ∧ r = some (am_i 1) ∧ frw W_on σ σ' ∧ (∀ k, σ'.2.1 96 k = onN σ k) ∧ σ'.2.1 55 1 = 0 ∧ σ'.2.1 55 69 = 0) ∨ (iiC σ (σ.2.1 55 1) = false ∧ r = some (am_i 0) ∧ σ' = am_setN (am_setN σ 55 1 0) 57 5 (σ.2.1 57 5 + 1))) := by
  refine am_qq (fun Q hQ => ?_)
  refine am_enter (show plainFor yX10_on = true by decide +kernel) rfl (Nat.le_of_ble_eq_true rfl) (fun _ _ _ => trivial) ?_
  have hL := hG.L
  have hN := pN_eq hG.R
  have h8 := pN_8 hG.R
  have t0 := hT.2 0 (by omega)
  have t1 := hT.2 1 (by omega)
  have t2 := hT.2 2 (by omega)
  have t3 := hT.2 3 (by omega)
  have t4 := hT.2 4 (by omega)
  have t5 := hT.2 5 (by omega)
  have t6 := hT.2 6 (by omega)
  refine am_aload_n (q := 1) rfl (am_tab tk_X10_on 0 rfl) rfl ?_
  refine am_getI (q := 4) (a := 55) (k := 10) (n := 108) (j := 1) (x := (σ.2.1 55 1)) (Ls_55 hL) (by decide) rfl rfl (by decide) (Or.inl kf_X10_245) (am_tab tk_X10_on 1 rfl) rfl ?_
  refine am_istore_n (q := 5) (by decide) (ls2 := [(1, am_i ((σ.2.1 55 1))), (0, am_r 55)]) rfl (am_tab tk_X10_on 2 rfl) rfl ?_
  refine am_aload_n (q := 6) rfl (am_tab tk_X10_on 3 rfl) rfl ?_
  refine am_iconst (q := 7) (n := 0) (by decide) (am_tab tk_X10_on 4 rfl) rfl ?_
  refine am_putI (q := 10) (k := 10) (n := 108) (j := 1) (Ls_55 hL) (by decide) rfl (by decide) (Or.inl ⟨kf_X10_245, rfl⟩) (am_tab tk_X10_on 5 rfl) rfl ?_
  refine am_aload_n (q := 11) rfl (am_tab tk_X10_on 6 rfl) rfl ?_
  refine am_iload_n (q := 12) rfl (am_tab tk_X10_on 7 rfl) rfl ?_
  refine am_callV0 (q := 15) (me2 := M_X10_isImage) (b := 55) (kb := 10) (nb := 108) (As := [am_i ((σ.2.1 55 1))]) (rest := []) (out := [am_i (b2i (iiC σ (σ.2.1 55 1)))]) (c_X10_isImage (am_setN σ 55 1 0) hL (σ.2.1 55 1) ⟨by show (0 : Int) ≤ 0 ∧ (0 : Int) ≤ 1600; omega, hT.2⟩ hG.R hT.1) ⟨rfl, rfl⟩ (Ls_55 hL) (by decide) ⟨Or.inl km_X10_707, kc_X10_isImage, kn_X10, kd_X10_isImage, ⟨(Nat.le_of_ble_eq_true rfl), (Nat.le_of_ble_eq_true rfl)⟩, ⟨(Nat.le_of_ble_eq_true rfl), (Nat.le_of_ble_eq_true rfl)⟩, (Nat.le_of_ble_eq_true rfl)⟩ ki_X10_isImage ks_X10_isImage rfl rfl (am_tab tk_X10_on 8 rfl) rfl ?_
  refine am_if_ne (q := 18) (t := 30) (am_tab tk_X10_on 9 rfl) (by decide) rfl (fun h15 => ?_) (fun h15 => ?_)
  · obtain ⟨hi1, hi2, hi3, hi4⟩ := iiC_get (b2t h15)
    have hT1 := hT.1
    have hsF : sF σ ≤ 23 := by unfold sF; omega
    have htF := hT.2 (sF σ) (by omega)
    have hc3 := (asC_get hi3).1
    have hc4 := (asC_get hi4).1
    have htF2 := hT.2 (sF2 σ) (by omega)
    have hcF : 0 ≤ σ.2.1 56 (sF σ) ∧ σ.2.1 56 (sF σ) ≤ 30 := by omega
    have hcF2 : 0 ≤ σ.2.1 56 (sF2 σ) ∧ σ.2.1 56 (sF2 σ) ≤ 30 := by omega
    have esF : (sF σ : Int) = 7 + (2 * (σ.2.1 85 5)) := by unfold sF; omega
    have esF2 : (sF2 σ : Int) = ((7 + (2 * (σ.2.1 85 5))) + 1) + (2 * (σ.2.1 56 (sF σ))) := by unfold sF2; omega
    refine am_aload_n (q := 31) rfl (am_tab tk_X10_on 20 rfl) rfl ?_
    refine am_getR (q := 34) (a := 55) (k := 10) (n := 108) (j := 54) (r := some (96)) (Ls_55 hL) (by decide) rfl (Lr_55_54 hL) (by decide) (Or.inl kf_X10_136) (am_tab tk_X10_on 21 rfl) rfl ?_
    refine am_iconst (q := 35) (n := 0) (by decide) (am_tab tk_X10_on 22 rfl) rfl ?_
    refine am_sipush (q := 38) (n := 256) (by decide) rfl (am_tab tk_X10_on 23 rfl) rfl ?_
    refine am_aload_n (q := 39) rfl (am_tab tk_X10_on 24 rfl) rfl ?_
    refine am_getR (q := 42) (a := 55) (k := 10) (n := 108) (j := 0) (r := some (56)) (Ls_55 hL) (by decide) rfl (Lr_55_0 hL) (by decide) (Or.inl kf_X10_7) (am_tab tk_X10_on 25 rfl) rfl ?_
    refine am_iconst (q := 43) (n := 0) (by decide) (am_tab tk_X10_on 26 rfl) rfl ?_
    refine am_iald (q := 44) (a := 56) (n := 1600) (x := (σ.2.1 56 0)) (Ls_56 hL) (by omega) (by omega) rfl (am_tab tk_X10_on 27 rfl) rfl ?_
    refine am_imul (q := 45) (by omega) (am_tab tk_X10_on 28 rfl) rfl ?_
    refine am_aload_n (q := 46) rfl (am_tab tk_X10_on 29 rfl) rfl ?_
    refine am_getR (q := 49) (a := 55) (k := 10) (n := 108) (j := 0) (r := some (56)) (Ls_55 hL) (by decide) rfl (Lr_55_0 hL) (by decide) (Or.inl kf_X10_7) (am_tab tk_X10_on 30 rfl) rfl ?_
    refine am_iconst (q := 50) (n := 1) (by decide) (am_tab tk_X10_on 31 rfl) rfl ?_
    refine am_iald (q := 51) (a := 56) (n := 1600) (x := (σ.2.1 56 1)) (Ls_56 hL) (by omega) (by omega) rfl (am_tab tk_X10_on 32 rfl) rfl ?_
    refine am_iadd (q := 52) (by omega) (am_tab tk_X10_on 33 rfl) rfl ?_
    refine am_iast (q := 53) (a := 96) (n := 443) (Ls_96 hL) (by omega) (by omega) (am_tab tk_X10_on 34 rfl) rfl ?_
    refine am_aload_n (q := 54) rfl (am_tab tk_X10_on 35 rfl) rfl ?_
    refine am_getR (q := 57) (a := 55) (k := 10) (n := 108) (j := 54) (r := some (96)) (Ls_55 hL) (by decide) rfl (Lr_55_54 hL) (by decide) (Or.inl kf_X10_136) (am_tab tk_X10_on 36 rfl) rfl ?_
    refine am_iconst (q := 58) (n := 1) (by decide) (am_tab tk_X10_on 37 rfl) rfl ?_
    refine am_aload_n (q := 59) rfl (am_tab tk_X10_on 38 rfl) rfl ?_
    refine am_getR (q := 62) (a := 55) (k := 10) (n := 108) (j := 0) (r := some (56)) (Ls_55 hL) (by decide) rfl (Lr_55_0 hL) (by decide) (Or.inl kf_X10_7) (am_tab tk_X10_on 39 rfl) rfl ?_
    refine am_iconst (q := 63) (n := 2) (by decide) (am_tab tk_X10_on 40 rfl) rfl ?_
    refine am_iald (q := 64) (a := 56) (n := 1600) (x := (σ.2.1 56 2)) (Ls_56 hL) (by omega) (by omega) rfl (am_tab tk_X10_on 41 rfl) rfl ?_
    refine am_iast (q := 65) (a := 96) (n := 443) (Ls_96 hL) (by omega) (by omega) (am_tab tk_X10_on 42 rfl) rfl ?_
    refine am_aload_n (q := 66) rfl (am_tab tk_X10_on 43 rfl) rfl ?_
    refine am_getR (q := 69) (a := 55) (k := 10) (n := 108) (j := 54) (r := some (96)) (Ls_55 hL) (by decide) rfl (Lr_55_54 hL) (by decide) (Or.inl kf_X10_136) (am_tab tk_X10_on 44 rfl) rfl ?_
    refine am_iconst (q := 70) (n := 2) (by decide) (am_tab tk_X10_on 45 rfl) rfl ?_
    refine am_aload_n (q := 71) rfl (am_tab tk_X10_on 46 rfl) rfl ?_
    refine am_getR (q := 74) (a := 55) (k := 10) (n := 108) (j := 0) (r := some (56)) (Ls_55 hL) (by decide) rfl (Lr_55_0 hL) (by decide) (Or.inl kf_X10_7) (am_tab tk_X10_on 47 rfl) rfl ?_
    refine am_iconst (q := 75) (n := 3) (by decide) (am_tab tk_X10_on 48 rfl) rfl ?_
    refine am_iald (q := 76) (a := 56) (n := 1600) (x := (σ.2.1 56 3)) (Ls_56 hL) (by omega) (by omega) rfl (am_tab tk_X10_on 49 rfl) rfl ?_
    refine am_iast (q := 77) (a := 96) (n := 443) (Ls_96 hL) (by omega) (by omega) (am_tab tk_X10_on 50 rfl) rfl ?_
    refine am_aload_n (q := 78) rfl (am_tab tk_X10_on 51 rfl) rfl ?_
    refine am_getR (q := 81) (a := 55) (k := 10) (n := 108) (j := 54) (r := some (96)) (Ls_55 hL) (by decide) rfl (Lr_55_54 hL) (by decide) (Or.inl kf_X10_136) (am_tab tk_X10_on 52 rfl) rfl ?_
    refine am_iconst (q := 82) (n := 3) (by decide) (am_tab tk_X10_on 53 rfl) rfl ?_
    refine am_aload_n (q := 83) rfl (am_tab tk_X10_on 54 rfl) rfl ?_
    refine am_callV0 (q := 86) (me2 := M_X10_coinsTold) (b := 55) (kb := 10) (nb := 108) (As := []) (rest := [am_i 3, am_r 96]) (out := [am_i (coT σ), am_i 3, am_r 96]) (c_X10_coinsTold (am_setN (am_setN (am_setN (am_setN σ 55 1 0) 96 0 ((256 * (σ.2.1 56 0)) + (σ.2.1 56 1))) 96 1 (σ.2.1 56 2)) 96 2 (σ.2.1 56 3)) hL ⟨by show (0 : Int) ≤ 0 ∧ (0 : Int) ≤ 1600; omega, hT.2⟩) ⟨rfl, rfl⟩ (Ls_55 hL) (by decide) ⟨Or.inl km_X10_695, kc_X10_coinsTold, kn_X10, kd_X10_coinsTold, ⟨(Nat.le_of_ble_eq_true rfl), (Nat.le_of_ble_eq_true rfl)⟩, ⟨(Nat.le_of_ble_eq_true rfl), (Nat.le_of_ble_eq_true rfl)⟩, (Nat.le_of_ble_eq_true rfl)⟩ ki_X10_coinsTold ks_X10_coinsTold rfl rfl (am_tab tk_X10_on 55 rfl) rfl ?_
    refine am_iast (q := 87) (a := 96) (n := 443) (Ls_96 hL) (by omega) (by omega) (am_tab tk_X10_on 56 rfl) rfl ?_
    refine am_iconst (q := 88) (n := 0) (by decide) (am_tab tk_X10_on 57 rfl) rfl ?_
    refine am_istore_n (q := 89) (by decide) (ls2 := [(2, am_i 0), (1, am_i ((σ.2.1 55 1))), (0, am_r 55)]) rfl (am_tab tk_X10_on 58 rfl) rfl ?_
    have L89 : ∀ (n89 : Nat) (p : Nat) (S : am_H), pN σ - p < n89 → p ≤ pN σ → frw W_on σ S → (∀ k, S.2.1 96 k = onA σ p k) → S.2.1 55 1 = 0 → am_wp M_X10_on Q 0 0 89 [(2, am_i ((p : Int))), (0, am_r 55), (1, am_i ((σ.2.1 55 1)))] [] S := by
      intro n89
      induction n89 with
      | zero => intro p S hn89; exact absurd hn89 (Nat.not_lt_zero _)
      | succ n89 ih89 =>
        intro p S hn89 hp hF h96 h1
        have hLS : lay S := hF.L hL
        refine am_iload_n (q := 90) rfl (am_tab tk_X10_on 59 rfl) rfl ?_
        refine am_aload_n (q := 91) rfl (am_tab tk_X10_on 60 rfl) rfl ?_
        refine am_callV0 (q := 94) (me2 := M_X10_peopleMany) (b := 55) (kb := 10) (nb := 108) (As := []) (rest := [am_i ((p : Int))]) (out := [am_i (S.2.1 85 5), am_i ((p : Int))]) (c_X10_peopleMany S hLS) ⟨rfl, rfl⟩ (Ls_55 hLS) (by decide) ⟨Or.inl km_X10_394, kc_X10_peopleMany, kn_X10, kd_X10_peopleMany, ⟨(Nat.le_of_ble_eq_true rfl), (Nat.le_of_ble_eq_true rfl)⟩, ⟨(Nat.le_of_ble_eq_true rfl), (Nat.le_of_ble_eq_true rfl)⟩, (Nat.le_of_ble_eq_true rfl)⟩ ki_X10_peopleMany ks_X10_peopleMany rfl rfl (am_tab tk_X10_on 61 rfl) rfl ?_
        refine am_st (st2 := [am_i ((σ.2.1 85 5)), am_i ((p : Int))]) (by simp only [(show S.2.1 85 5 = σ.2.1 85 5 from (hF.2.2 85 5 (by unfold W_on; omega)))]) ?_
        refine am_icmp_ge (q := 97) (t := 142) (am_tab tk_X10_on 62 rfl) (by decide) rfl (fun h94 => ?_) (fun h94 => ?_)
        · have hS56 : ∀ j, S.2.1 56 j = σ.2.1 56 j := fun j => hF.2.2 56 j (by unfold W_on; omega)
          refine am_aload_n (q := 143) rfl (am_tab tk_X10_on 93 rfl) rfl ?_
          refine am_aload_n (q := 144) rfl (am_tab tk_X10_on 94 rfl) rfl ?_
          refine am_callV0 (q := 147) (me2 := M_X10_setsFrom) (b := 55) (kb := 10) (nb := 108) (As := []) (rest := [am_r 55]) (out := [am_i (7 + (2 * S.2.1 85 5)), am_r 55]) (c_X10_setsFrom S hLS (by rw [hF.2.2 85 5 (by unfold W_on; omega)]; exact hG.R.P)) ⟨rfl, rfl⟩ (Ls_55 hLS) (by decide) ⟨Or.inl km_X10_698, kc_X10_setsFrom, kn_X10, kd_X10_setsFrom, ⟨(Nat.le_of_ble_eq_true rfl), (Nat.le_of_ble_eq_true rfl)⟩, ⟨(Nat.le_of_ble_eq_true rfl), (Nat.le_of_ble_eq_true rfl)⟩, (Nat.le_of_ble_eq_true rfl)⟩ ki_X10_setsFrom ks_X10_setsFrom rfl rfl (am_tab tk_X10_on 95 rfl) rfl ?_
          refine am_st (st2 := [am_i (7 + (2 * (σ.2.1 85 5))), am_r 55]) (by simp only [(show S.2.1 85 5 = σ.2.1 85 5 from (hF.2.2 85 5 (by unfold W_on; omega)))]) ?_
          refine am_bipush (q := 149) (n := 20) (by decide) rfl (am_tab tk_X10_on 96 rfl) rfl ?_
          refine am_callVr (q := 152) (me2 := M_X10_takesSets) (b := 55) (kb := 10) (nb := 108) (As := [am_i (7 + (2 * (σ.2.1 85 5))), am_i 20]) (rest := []) (c_takesS S hLS (sF σ) 20 (7 + (2 * (σ.2.1 85 5))) 20 (by omega) (by omega) (by omega) (by omega) (by rw [hS56]; exact hcF) (by rw [hS56]; omega) (fun k hk => by rw [hS56] at hk; rw [aD_eq hS56, aP_eq hS56]; exact as_pair hG.R hi3 k hk)) ⟨rfl, rfl⟩ (Ls_55 hLS) (by decide) ⟨Or.inl km_X10_710, kc_X10_takesSets, kn_X10, kd_X10_takesSets, ⟨(Nat.le_of_ble_eq_true rfl), (Nat.le_of_ble_eq_true rfl)⟩, ⟨(Nat.le_of_ble_eq_true rfl), (Nat.le_of_ble_eq_true rfl)⟩, (Nat.le_of_ble_eq_true rfl)⟩ ki_X10_takesSets ks_X10_takesSets rfl (am_tab tk_X10_on 97 rfl) rfl ?_
          rintro r V1 ⟨rfl, hSV1⟩
          have hFV1 : frw W_on σ V1 := by rw [hSV1]; exact hF.setA (fun j => by unfold W_on; omega)
          have hLV1 : lay V1 := hFV1.L hL
          have hV1k : ∀ k, V1.2.1 96 k = if 20 ≤ k ∧ k < 111 then tkF σ (sF σ) (σ.2.1 56 (sF σ)).toNat (k - 20) else onA σ (pN σ) k := by
            intro k
            rw [hSV1]
            show tkN S (sF σ) 20 (S.2.1 56 (sF σ)).toNat k = _
            unfold tkN
            rw [hF.2.2 56 _ (by unfold W_on; omega), tkF_eq hS56, h96 k, show p = pN σ by omega]
          refine am_st (st2 := []) rfl ?_
          have hV56 : ∀ j, V1.2.1 56 j = σ.2.1 56 j := fun j => hFV1.2.2 56 j (by unfold W_on; omega)
          refine am_aload_n (q := 153) rfl (am_tab tk_X10_on 98 rfl) rfl ?_
          refine am_aload_n (q := 154) rfl (am_tab tk_X10_on 99 rfl) rfl ?_
          refine am_callV0 (q := 157) (me2 := M_X10_setsFrom) (b := 55) (kb := 10) (nb := 108) (As := []) (rest := [am_r 55]) (out := [am_i (7 + (2 * V1.2.1 85 5)), am_r 55]) (c_X10_setsFrom V1 hLV1 (by rw [hFV1.2.2 85 5 (by unfold W_on; omega)]; exact hG.R.P)) ⟨rfl, rfl⟩ (Ls_55 hLV1) (by decide) ⟨Or.inl km_X10_698, kc_X10_setsFrom, kn_X10, kd_X10_setsFrom, ⟨(Nat.le_of_ble_eq_true rfl), (Nat.le_of_ble_eq_true rfl)⟩, ⟨(Nat.le_of_ble_eq_true rfl), (Nat.le_of_ble_eq_true rfl)⟩, (Nat.le_of_ble_eq_true rfl)⟩ ki_X10_setsFrom ks_X10_setsFrom rfl rfl (am_tab tk_X10_on 100 rfl) rfl ?_
          refine am_st (st2 := [am_i (7 + (2 * (σ.2.1 85 5))), am_r 55]) (by simp only [(show V1.2.1 85 5 = σ.2.1 85 5 from (hFV1.2.2 85 5 (by unfold W_on; omega)))]) ?_
          refine am_iconst (q := 158) (n := 1) (by decide) (am_tab tk_X10_on 101 rfl) rfl ?_
          refine am_iadd (q := 159) (by omega) (am_tab tk_X10_on 102 rfl) rfl ?_
          refine am_iconst (q := 160) (n := 2) (by decide) (am_tab tk_X10_on 103 rfl) rfl ?_
          refine am_aload_n (q := 161) rfl (am_tab tk_X10_on 104 rfl) rfl ?_
          refine am_getR (q := 164) (a := 55) (k := 10) (n := 108) (j := 0) (r := some (56)) (Ls_55 hLV1) (by decide) rfl (Lr_55_0 hLV1) (by decide) (Or.inl kf_X10_7) (am_tab tk_X10_on 105 rfl) rfl ?_
          refine am_aload_n (q := 165) rfl (am_tab tk_X10_on 106 rfl) rfl ?_
          refine am_callV0 (q := 168) (me2 := M_X10_setsFrom) (b := 55) (kb := 10) (nb := 108) (As := []) (rest := [am_r 56, am_i 2, am_i (((7 + (2 * (σ.2.1 85 5))) + 1)), am_r 55]) (out := [am_i (7 + (2 * V1.2.1 85 5)), am_r 56, am_i 2, am_i (((7 + (2 * (σ.2.1 85 5))) + 1)), am_r 55]) (c_X10_setsFrom V1 hLV1 (by rw [hFV1.2.2 85 5 (by unfold W_on; omega)]; exact hG.R.P)) ⟨rfl, rfl⟩ (Ls_55 hLV1) (by decide) ⟨Or.inl km_X10_698, kc_X10_setsFrom, kn_X10, kd_X10_setsFrom, ⟨(Nat.le_of_ble_eq_true rfl), (Nat.le_of_ble_eq_true rfl)⟩, ⟨(Nat.le_of_ble_eq_true rfl), (Nat.le_of_ble_eq_true rfl)⟩, (Nat.le_of_ble_eq_true rfl)⟩ ki_X10_setsFrom ks_X10_setsFrom rfl rfl (am_tab tk_X10_on 107 rfl) rfl ?_
          refine am_st (st2 := [am_i (7 + (2 * (σ.2.1 85 5))), am_r 56, am_i 2, am_i (((7 + (2 * (σ.2.1 85 5))) + 1)), am_r 55]) (by simp only [(show V1.2.1 85 5 = σ.2.1 85 5 from (hFV1.2.2 85 5 (by unfold W_on; omega)))]) ?_
          refine am_iald (q := 169) (a := 56) (n := 1600) (x := (σ.2.1 56 (sF σ))) (Ls_56 hLV1) (by omega) (by omega) (by rw [show Int.toNat (7 + (2 * (σ.2.1 85 5))) = sF σ by unfold sF; omega]; exact hFV1.2.2 56 _ (by unfold W_on; omega)) (am_tab tk_X10_on 108 rfl) rfl ?_
          refine am_imul (q := 170) (by omega) (am_tab tk_X10_on 109 rfl) rfl ?_
          refine am_iadd (q := 171) (by omega) (am_tab tk_X10_on 110 rfl) rfl ?_
          refine am_bipush (q := 173) (n := 111) (by decide) rfl (am_tab tk_X10_on 111 rfl) rfl ?_
          refine am_callVr (q := 176) (me2 := M_X10_takesSets) (b := 55) (kb := 10) (nb := 108) (As := [am_i ((((7 + (2 * (σ.2.1 85 5))) + 1) + (2 * (σ.2.1 56 (sF σ))))), am_i 111]) (rest := []) (c_takesS V1 hLV1 (sF2 σ) 111 (((7 + (2 * (σ.2.1 85 5))) + 1) + (2 * (σ.2.1 56 (sF σ)))) 111 (by omega) (by omega) (by omega) (by omega) (by rw [hV56]; exact hcF2) (by rw [hV56]; omega) (fun k hk => by rw [hV56] at hk; rw [aD_eq hV56, aP_eq hV56]; exact as_pair hG.R hi4 k hk)) ⟨rfl, rfl⟩ (Ls_55 hLV1) (by decide) ⟨Or.inl km_X10_710, kc_X10_takesSets, kn_X10, kd_X10_takesSets, ⟨(Nat.le_of_ble_eq_true rfl), (Nat.le_of_ble_eq_true rfl)⟩, ⟨(Nat.le_of_ble_eq_true rfl), (Nat.le_of_ble_eq_true rfl)⟩, (Nat.le_of_ble_eq_true rfl)⟩ ki_X10_takesSets ks_X10_takesSets rfl (am_tab tk_X10_on 112 rfl) rfl ?_
          rintro r V2 ⟨rfl, hSV2⟩
          have hFV2 : frw W_on σ V2 := by rw [hSV2]; exact hFV1.setA (fun j => by unfold W_on; omega)
          have hLV2 : lay V2 := hFV2.L hL
          have hV2k : ∀ k, V2.2.1 96 k = if 111 ≤ k ∧ k < 202 then tkF σ (sF2 σ) (σ.2.1 56 (sF2 σ)).toNat (k - 111) else V1.2.1 96 k := by
            intro k
            rw [hSV2]
            show tkN V1 (sF2 σ) 111 (V1.2.1 56 (sF2 σ)).toNat k = _
            unfold tkN
            rw [hFV1.2.2 56 _ (by unfold W_on; omega), tkF_eq hV56]
          refine am_st (st2 := []) rfl ?_
          refine am_aload_n (q := 177) rfl (am_tab tk_X10_on 113 rfl) rfl ?_
          refine am_getR (q := 180) (a := 55) (k := 10) (n := 108) (j := 54) (r := some (96)) (Ls_55 hLV2) (by decide) rfl (Lr_55_54 hLV2) (by decide) (Or.inl kf_X10_136) (am_tab tk_X10_on 114 rfl) rfl ?_
          refine am_sipush (q := 183) (n := 202) (by decide) rfl (am_tab tk_X10_on 115 rfl) rfl ?_
          refine am_iconst (q := 184) (n := 0) (by decide) (am_tab tk_X10_on 116 rfl) rfl ?_
          refine am_iast (q := 185) (a := 96) (n := 443) (Ls_96 hLV2) (by omega) (by omega) (am_tab tk_X10_on 117 rfl) rfl ?_
          refine am_aload_n (q := 186) rfl (am_tab tk_X10_on 118 rfl) rfl ?_
          refine am_iconst (q := 187) (n := 0) (by decide) (am_tab tk_X10_on 119 rfl) rfl ?_
          refine am_putI (q := 190) (k := 10) (n := 108) (j := 69) (Ls_55 hLV2) (by decide) rfl (by decide) (Or.inl ⟨kf_X10_388, rfl⟩) (am_tab tk_X10_on 120 rfl) rfl ?_
          refine am_iconst (q := 191) (n := 1) (by decide) (am_tab tk_X10_on 121 rfl) rfl ?_
          refine am_iret (Or.inr ⟨rfl, by first | exact Or.inl rfl | exact Or.inr rfl | omega⟩) (Nat.le_of_ble_eq_true rfl) (Nat.le_of_ble_eq_true rfl) (am_tab tk_X10_on 122 rfl) ?_
          refine hQ _ _ ?_
          refine Or.inl ⟨b2t h15, rfl, (hFV2.setN (by unfold W_on; omega)).setN (by unfold W_on; omega), ?_, ?_, rfl⟩
          · intro k
            show (if 96 = 96 ∧ k = 202 then 0 else V2.2.1 96 k) = _
            unfold onN
            by_cases hk : k = 202
            · rw [if_pos ⟨rfl, hk⟩, if_pos hk]
            · rw [if_neg (fun hc => hk hc.2), if_neg hk, hV2k k, hV1k k]
          · show V2.2.1 55 1 = 0
            rw [hSV2]; show V1.2.1 55 1 = 0; rw [hSV1]; exact h1
        · refine am_aload_n (q := 98) rfl (am_tab tk_X10_on 63 rfl) rfl ?_
          refine am_getR (q := 101) (a := 55) (k := 10) (n := 108) (j := 54) (r := some (96)) (Ls_55 hLS) (by decide) rfl (Lr_55_54 hLS) (by decide) (Or.inl kf_X10_136) (am_tab tk_X10_on 64 rfl) rfl ?_
          refine am_iconst (q := 102) (n := 4) (by decide) (am_tab tk_X10_on 65 rfl) rfl ?_
          refine am_iload_n (q := 103) rfl (am_tab tk_X10_on 66 rfl) rfl ?_
          refine am_iadd (q := 104) (by omega) (am_tab tk_X10_on 67 rfl) rfl ?_
          refine am_aload_n (q := 105) rfl (am_tab tk_X10_on 68 rfl) rfl ?_
          refine am_getR (q := 108) (a := 55) (k := 10) (n := 108) (j := 0) (r := some (56)) (Ls_55 hLS) (by decide) rfl (Lr_55_0 hLS) (by decide) (Or.inl kf_X10_7) (am_tab tk_X10_on 69 rfl) rfl ?_
          refine am_bipush (q := 110) (n := 7) (by decide) rfl (am_tab tk_X10_on 70 rfl) rfl ?_
          refine am_iconst (q := 111) (n := 2) (by decide) (am_tab tk_X10_on 71 rfl) rfl ?_
          refine am_iload_n (q := 112) rfl (am_tab tk_X10_on 72 rfl) rfl ?_
          refine am_imul (q := 113) (by omega) (am_tab tk_X10_on 73 rfl) rfl ?_
          refine am_iadd (q := 114) (by omega) (am_tab tk_X10_on 74 rfl) rfl ?_
          refine am_iald (q := 115) (a := 56) (n := 1600) (x := (σ.2.1 56 (7 + 2 * p))) (Ls_56 hLS) (by omega) (by omega) (by rw [show Int.toNat (7 + (2 * (p : Int))) = 7 + 2 * p by omega]; exact hF.2.2 56 _ (by unfold W_on; omega)) (am_tab tk_X10_on 75 rfl) rfl ?_
          refine am_iast (q := 116) (a := 96) (n := 443) (Ls_96 hLS) (by omega) (by omega) (am_tab tk_X10_on 76 rfl) rfl ?_
          refine am_aload_n (q := 117) rfl (am_tab tk_X10_on 77 rfl) rfl ?_
          refine am_getR (q := 120) (a := 55) (k := 10) (n := 108) (j := 54) (r := some (96)) (Ls_55 hLS) (by decide) rfl (Lr_55_54 hLS) (by decide) (Or.inl kf_X10_136) (am_tab tk_X10_on 78 rfl) rfl ?_
          refine am_bipush (q := 122) (n := 12) (by decide) rfl (am_tab tk_X10_on 79 rfl) rfl ?_
          refine am_iload_n (q := 123) rfl (am_tab tk_X10_on 80 rfl) rfl ?_
          refine am_iadd (q := 124) (by omega) (am_tab tk_X10_on 81 rfl) rfl ?_
          refine am_aload_n (q := 125) rfl (am_tab tk_X10_on 82 rfl) rfl ?_
          refine am_getR (q := 128) (a := 55) (k := 10) (n := 108) (j := 0) (r := some (56)) (Ls_55 hLS) (by decide) rfl (Lr_55_0 hLS) (by decide) (Or.inl kf_X10_7) (am_tab tk_X10_on 83 rfl) rfl ?_
          refine am_bipush (q := 130) (n := 8) (by decide) rfl (am_tab tk_X10_on 84 rfl) rfl ?_
          refine am_iconst (q := 131) (n := 2) (by decide) (am_tab tk_X10_on 85 rfl) rfl ?_
          refine am_iload_n (q := 132) rfl (am_tab tk_X10_on 86 rfl) rfl ?_
          refine am_imul (q := 133) (by omega) (am_tab tk_X10_on 87 rfl) rfl ?_
          refine am_iadd (q := 134) (by omega) (am_tab tk_X10_on 88 rfl) rfl ?_
          refine am_iald (q := 135) (a := 56) (n := 1600) (x := (σ.2.1 56 (8 + 2 * p))) (Ls_56 hLS) (by omega) (by omega) (by rw [show Int.toNat (8 + (2 * (p : Int))) = 8 + 2 * p by omega]; exact hF.2.2 56 _ (by unfold W_on; omega)) (am_tab tk_X10_on 89 rfl) rfl ?_
          refine am_iast (q := 136) (a := 96) (n := 443) (Ls_96 hLS) (by omega) (by omega) (am_tab tk_X10_on 90 rfl) rfl ?_
          refine am_iinc (q := 139) rfl (by omega) (by decide) (ls2 := [(2, am_i (((p : Int) + 1))), (0, am_r 55), (1, am_i ((σ.2.1 55 1)))]) rfl (am_tab tk_X10_on 91 rfl) rfl ?_
          refine am_goto (t := 89) (am_tab tk_X10_on 92 rfl) (by decide) ?_
          have hn96 : ∀ k, ((am_setN (am_setN S 96 (Int.toNat (4 + (p : Int))) (σ.2.1 56 (7 + 2 * p))) 96 (Int.toNat (12 + (p : Int))) (σ.2.1 56 (8 + 2 * p)))).2.1 96 k = onA σ (p + 1) k := by
            intro k
            show (if 96 = 96 ∧ k = Int.toNat (12 + (p : Int)) then σ.2.1 56 (8 + 2 * p) else if 96 = 96 ∧ k = Int.toNat (4 + (p : Int)) then σ.2.1 56 (7 + 2 * p) else S.2.1 96 k) = _
            rw [show Int.toNat (12 + (p : Int)) = 12 + p by omega, show Int.toNat (4 + (p : Int)) = 4 + p by omega, h96 k]
            unfold onA
            by_cases hk : k = 12 + p
            · rw [if_pos ⟨rfl, hk⟩, if_neg (by omega), if_neg (by omega), if_neg (by omega), if_neg (by omega), if_neg (by omega), if_pos (by omega), show k - 12 = p by omega]
            · rw [if_neg (fun hc => hk hc.2)]
              by_cases hk4 : k = 4 + p
              · rw [if_pos ⟨rfl, hk4⟩, if_neg (by omega), if_neg (by omega), if_neg (by omega), if_neg (by omega), if_pos (by omega), show k - 4 = p by omega]
              · rw [if_neg (fun hc => hk4 hc.2)]
                repeat' split
                all_goals first | rfl | omega
          exact am_less (by intro q hq; simp only [List.mem_cons, List.not_mem_nil, or_false] at hq; rcases hq with rfl | rfl | rfl <;> simp) (ih89 (p + 1) (am_setN (am_setN S 96 (Int.toNat (4 + (p : Int))) (σ.2.1 56 (7 + 2 * p))) 96 (Int.toNat (12 + (p : Int))) (σ.2.1 56 (8 + 2 * p))) (by omega) (by omega) ((hF.setN (by unfold W_on; omega)).setN (by unfold W_on; omega)) hn96 h1)
    have h96i : ∀ k, ((am_setN (am_setN (am_setN (am_setN (am_setN σ 55 1 0) 96 0 ((256 * (σ.2.1 56 0)) + (σ.2.1 56 1))) 96 1 (σ.2.1 56 2)) 96 2 (σ.2.1 56 3)) 96 3 (coT σ))).2.1 96 k = onA σ 0 k := by
      intro k
      unfold onA
      show (if 96 = 96 ∧ k = 3 then _ else if 96 = 96 ∧ k = 2 then _ else if 96 = 96 ∧ k = 1 then _ else if 96 = 96 ∧ k = 0 then _ else σ.2.1 96 k) = _
      repeat' split
      all_goals first | rfl | omega
    refine am_less (by intro q hq; simp only [List.mem_cons, List.not_mem_nil, or_false] at hq; rcases hq with rfl | rfl | rfl <;> simp) (L89 (_ + 1) 0 (am_setN (am_setN (am_setN (am_setN (am_setN σ 55 1 0) 96 0 ((256 * (σ.2.1 56 0)) + (σ.2.1 56 1))) 96 1 (σ.2.1 56 2)) 96 2 (σ.2.1 56 3)) 96 3 (coT σ)) (by exact Nat.lt_succ_self _) (by omega) (by repeat (first | exact frw.refl _ σ | refine frw.setN ?_ (by unfold W_on; omega))) h96i rfl)
  · refine am_aload_n (q := 19) rfl (am_tab tk_X10_on 10 rfl) rfl ?_
    refine am_getR (q := 22) (a := 55) (k := 10) (n := 108) (j := 9) (r := some (57)) (Ls_55 hL) (by decide) rfl (Lr_55_9 hL) (by decide) (Or.inl kf_X10_17) (am_tab tk_X10_on 11 rfl) rfl ?_
    refine am_iconst (q := 23) (n := 5) (by decide) (am_tab tk_X10_on 12 rfl) rfl ?_
    refine am_dup2 (q := 24) rfl rfl (am_tab tk_X10_on 13 rfl) rfl ?_
    refine am_iald (q := 25) (a := 57) (n := 6) (x := (σ.2.1 57 5)) (Ls_57 hL) (by omega) (by omega) rfl (am_tab tk_X10_on 14 rfl) rfl ?_
    refine am_iconst (q := 26) (n := 1) (by decide) (am_tab tk_X10_on 15 rfl) rfl ?_
    refine am_iadd (q := 27) (by omega) (am_tab tk_X10_on 16 rfl) rfl ?_
    refine am_iast (q := 28) (a := 57) (n := 6) (Ls_57 hL) (by omega) (by omega) (am_tab tk_X10_on 17 rfl) rfl ?_
    refine am_iconst (q := 29) (n := 0) (by decide) (am_tab tk_X10_on 18 rfl) rfl ?_
    refine am_iret (Or.inr ⟨rfl, by first | exact Or.inl rfl | exact Or.inr rfl | omega⟩) (Nat.le_of_ble_eq_true rfl) (Nat.le_of_ble_eq_true rfl) (am_tab tk_X10_on 19 rfl) ?_
    refine hQ _ _ ?_
    exact Or.inr ⟨b2f h15, rfl, rfl⟩
