def W_101 (a _j : Nat) : Prop := a = 101
/-- who was told off on the day of row k -/
def tdK (σ : am_H) (k : Nat) : Int := σ.2.1 96 (Int.toNat (20 + σ.2.1 96 (204 + 4 * k)))
def lwA (σ : am_H) (t : Int) : Nat → Nat → Int
  | 0, _ => 0
  | k + 1, p => if tb (tdK σ k) p = 1 ∨ t < lwA σ t k p then 0 else if lwA σ t k p < 99 then lwA σ t k p + 1 else 99
def lwI (σ : am_H) (t : Int) (k p : Nat) : Int := if tb (tdK σ k) p = 1 ∨ t < lwA σ t k p then 1 else 0
def lwB (σ : am_H) (t : Int) (k : Nat) : Bool := decide (¬ sumN (lwI σ t k) (pN σ) = σ.2.1 96 (205 + 4 * k))
/-- is t a law -/
def lawB (σ : am_H) (t : Int) : Bool := !(anyB (lwB σ t) (σ.2.1 96 202).toNat)
theorem lwA_rng (σ : am_H) (t : Int) (p : Nat) : ∀ k, 0 ≤ lwA σ t k p ∧ lwA σ t k p ≤ 99
  | 0 => by unfold lwA; omega
  | k + 1 => by
    have ih := lwA_rng σ t p k
    unfold lwA
    repeat' split
    all_goals omega
theorem tdK_rng {σ : am_H} (hR : MR σ) {k : Nat} (hk : k < 60) : 0 ≤ tdK σ k ∧ tdK σ k < 256 := by
  have h1 := hR.kday k hk
  have h2 := hR.told (σ.2.1 96 (204 + 4 * k)).toNat (by omega)
  unfold tdK
  rw [show Int.toNat (20 + σ.2.1 96 (204 + 4 * k)) = 20 + (σ.2.1 96 (204 + 4 * k)).toNat by omega]
  exact h2
theorem lwI_01 (σ : am_H) (t : Int) (k p : Nat) : 0 ≤ lwI σ t k p ∧ lwI σ t k p ≤ 1 := if01
theorem c_X10_isLaw (σ : am_H) (hG : GD σ) (t : Int) (ht : 0 ≤ t ∧ t ≤ 99) : am_met M_X10_isLaw [am_r 55, am_i t] σ (fun r σ' => r = some (am_i (b2i (lawB σ t))) ∧ frw W_101 σ σ') := by
  refine am_qq (fun Q hQ => ?_)
  refine am_enter (show plainFor yX10_isLaw = true by decide +kernel) rfl (Nat.le_of_ble_eq_true rfl) (fun _ _ _ => trivial) ?_
  have hL := hG.L
  have hN := pN_eq hG.R
  have h8 := pN_8 hG.R
  have hK := hG.R.kept
  refine am_iconst (q := 1) (n := 0) (by decide) (am_tab tk_X10_isLaw 0 rfl) rfl ?_
  refine am_istore_n (q := 2) (by decide) (ls2 := [(2, am_i 0), (0, am_r 55), (1, am_i t)]) rfl (am_tab tk_X10_isLaw 1 rfl) rfl ?_
  have L2 : ∀ (n2 : Nat) (j : Nat) (S : am_H), pN σ - j < n2 → j ≤ pN σ → frw W_101 σ S → (∀ p, p < j → S.2.1 101 p = 0) → am_wp M_X10_isLaw Q 0 0 2 [(2, am_i ((j : Int))), (0, am_r 55), (1, am_i t)] [] S := by
    intro n2
    induction n2 with
    | zero => intro j S hn2; exact absurd hn2 (Nat.not_lt_zero _)
    | succ n2 ih2 =>
      intro j S hn2 hj hF hA
      have hLS : lay S := hF.L hL
      refine am_iload_n (q := 3) rfl (am_tab tk_X10_isLaw 2 rfl) rfl ?_
      refine am_aload_n (q := 4) rfl (am_tab tk_X10_isLaw 3 rfl) rfl ?_
      refine am_callV0 (q := 7) (me2 := M_X10_peopleMany) (b := 55) (kb := 10) (nb := 108) (As := []) (rest := [am_i ((j : Int))]) (out := [am_i (S.2.1 85 5), am_i ((j : Int))]) (c_X10_peopleMany S hLS  ) ⟨rfl, rfl⟩ (Ls_55 hLS) (by decide) ⟨Or.inl km_X10_394, kc_X10_peopleMany, kn_X10, kd_X10_peopleMany, ⟨(Nat.le_of_ble_eq_true rfl), (Nat.le_of_ble_eq_true rfl)⟩, ⟨(Nat.le_of_ble_eq_true rfl), (Nat.le_of_ble_eq_true rfl)⟩, (Nat.le_of_ble_eq_true rfl)⟩ ki_X10_peopleMany ks_X10_peopleMany rfl rfl (am_tab tk_X10_isLaw 4 rfl) rfl ?_
      refine am_st (st2 := [am_i ((σ.2.1 85 5)), am_i ((j : Int))]) (by simp only [(show S.2.1 85 5 = σ.2.1 85 5 from (hF.2.2 85 5 (by unfold W_101; omega)))]) ?_
      refine am_icmp_ge (q := 10) (t := 23) (am_tab tk_X10_isLaw 5 rfl) (by decide) rfl (fun h7 => ?_) (fun h7 => ?_)
      · refine am_iconst (q := 24) (n := 0) (by decide) (am_tab tk_X10_isLaw 13 rfl) rfl ?_
        refine am_istore_n (q := 25) (by decide) (ls2 := [(2, am_i 0), (0, am_r 55), (1, am_i t)]) rfl (am_tab tk_X10_isLaw 14 rfl) rfl ?_
        have L25 : ∀ (n25 : Nat) (k : Nat) (S : am_H), 60 - k < n25 → (k : Int) ≤ σ.2.1 96 202 → frw W_101 σ S → (∀ p, p < pN σ → S.2.1 101 p = lwA σ t k p) → anyB (lwB σ t) k = false → am_wp M_X10_isLaw Q 0 0 25 [(2, am_i ((k : Int))), (0, am_r 55), (1, am_i t)] [] S := by
          intro n25
          induction n25 with
          | zero => intro k S hn25; exact absurd hn25 (Nat.not_lt_zero _)
          | succ n25 ih25 =>
            intro k S hn25 hk hF hA hq
            have hLS : lay S := hF.L hL
            have hkd : k < 60 → 0 ≤ σ.2.1 96 (204 + 4 * k) ∧ σ.2.1 96 (204 + 4 * k) ≤ 90 := hG.R.kday k
            refine am_iload_n (q := 26) rfl (am_tab tk_X10_isLaw 15 rfl) rfl ?_
            refine am_aload_n (q := 27) rfl (am_tab tk_X10_isLaw 16 rfl) rfl ?_
            refine am_getR (q := 30) (a := 55) (k := 10) (n := 108) (j := 54) (r := some (96)) (Ls_55 hLS) (by decide) rfl (Lr_55_54 hLS) (by decide) (Or.inl kf_X10_136) (am_tab tk_X10_isLaw 17 rfl) rfl ?_
            refine am_sipush (q := 33) (n := 202) (by decide) rfl (am_tab tk_X10_isLaw 18 rfl) rfl ?_
            refine am_iald (q := 34) (a := 96) (n := 443) (x := (σ.2.1 96 202)) (Ls_96 hLS) (by omega) (by omega) (hF.2.2 96 202 (by unfold W_101; omega)) (am_tab tk_X10_isLaw 19 rfl) rfl ?_
            refine am_icmp_ge (q := 37) (t := 186) (am_tab tk_X10_isLaw 20 rfl) (by decide) rfl (fun h34 => ?_) (fun h34 => ?_)
            · refine am_iconst (q := 187) (n := 1) (by decide) (am_tab tk_X10_isLaw 105 rfl) rfl ?_
              refine am_iret (Or.inr ⟨rfl, by first | exact Or.inl rfl | exact Or.inr rfl | omega⟩) (Nat.le_of_ble_eq_true rfl) (Nat.le_of_ble_eq_true rfl) (am_tab tk_X10_isLaw 106 rfl) ?_
              refine hQ _ _ ?_
              refine ⟨congrArg (fun z => some (am_i z)) ?_, hF⟩
              unfold lawB
              rw [← show k = (σ.2.1 96 202).toNat by omega, hq]; rfl
            · refine am_aload_n (q := 38) rfl (am_tab tk_X10_isLaw 21 rfl) rfl ?_
              refine am_getR (q := 41) (a := 55) (k := 10) (n := 108) (j := 54) (r := some (96)) (Ls_55 hLS) (by decide) rfl (Lr_55_54 hLS) (by decide) (Or.inl kf_X10_136) (am_tab tk_X10_isLaw 22 rfl) rfl ?_
              refine am_bipush (q := 43) (n := 20) (by decide) rfl (am_tab tk_X10_isLaw 23 rfl) rfl ?_
              refine am_aload_n (q := 44) rfl (am_tab tk_X10_isLaw 24 rfl) rfl ?_
              refine am_getR (q := 47) (a := 55) (k := 10) (n := 108) (j := 54) (r := some (96)) (Ls_55 hLS) (by decide) rfl (Lr_55_54 hLS) (by decide) (Or.inl kf_X10_136) (am_tab tk_X10_isLaw 25 rfl) rfl ?_
              refine am_sipush (q := 50) (n := 203) (by decide) rfl (am_tab tk_X10_isLaw 26 rfl) rfl ?_
              refine am_iconst (q := 51) (n := 4) (by decide) (am_tab tk_X10_isLaw 27 rfl) rfl ?_
              refine am_iload_n (q := 52) rfl (am_tab tk_X10_isLaw 28 rfl) rfl ?_
              refine am_imul (q := 53) (by omega) (am_tab tk_X10_isLaw 29 rfl) rfl ?_
              refine am_iadd (q := 54) (by omega) (am_tab tk_X10_isLaw 30 rfl) rfl ?_
              refine am_iconst (q := 55) (n := 1) (by decide) (am_tab tk_X10_isLaw 31 rfl) rfl ?_
              refine am_iadd (q := 56) (by omega) (am_tab tk_X10_isLaw 32 rfl) rfl ?_
              refine am_iald (q := 57) (a := 96) (n := 443) (x := (σ.2.1 96 (204 + 4 * k))) (Ls_96 hLS) (by omega) (by omega) (by rw [show Int.toNat ((203 + (4 * (k : Int))) + 1) = 204 + 4 * k by omega]; exact hF.2.2 96 _ (by unfold W_101; omega)) (am_tab tk_X10_isLaw 33 rfl) rfl ?_
              refine am_iadd (q := 58) (by omega) (am_tab tk_X10_isLaw 34 rfl) rfl ?_
              refine am_iald (q := 59) (a := 96) (n := 443) (x := (tdK σ k)) (Ls_96 hLS) (by omega) (by omega) (by rw [hF.2.2 96 _ (by unfold W_101; omega)]; rfl) (am_tab tk_X10_isLaw 35 rfl) rfl ?_
              refine am_istore_n (q := 60) (by decide) (ls2 := [(3, am_i ((tdK σ k))), (2, am_i ((k : Int))), (0, am_r 55), (1, am_i t)]) rfl (am_tab tk_X10_isLaw 36 rfl) rfl ?_
              refine am_iconst (q := 61) (n := 0) (by decide) (am_tab tk_X10_isLaw 37 rfl) rfl ?_
              refine am_istore (q := 63) (by decide) (ls2 := [(4, am_i 0), (3, am_i ((tdK σ k))), (2, am_i ((k : Int))), (0, am_r 55), (1, am_i t)]) rfl (am_tab tk_X10_isLaw 38 rfl) rfl ?_
              refine am_iconst (q := 64) (n := 0) (by decide) (am_tab tk_X10_isLaw 39 rfl) rfl ?_
              refine am_istore (q := 66) (by decide) (ls2 := [(5, am_i 0), (4, am_i 0), (3, am_i ((tdK σ k))), (2, am_i ((k : Int))), (0, am_r 55), (1, am_i t)]) rfl (am_tab tk_X10_isLaw 40 rfl) rfl ?_
              have htd := tdK_rng hG.R (k := k) (by omega)
              have L66 : ∀ (n66 : Nat) (j : Nat) (S : am_H), pN σ - j < n66 → j ≤ pN σ → frw W_101 σ S → (∀ p, p < pN σ → S.2.1 101 p = if p < j then lwA σ t (k + 1) p else lwA σ t k p) → am_wp M_X10_isLaw Q 0 0 66 [(5, am_i ((j : Int))), (4, am_i (sumN (lwI σ t k) j)), (3, am_i (tdK σ k)), (2, am_i ((k : Int))), (0, am_r 55), (1, am_i t)] [] S := by
                intro n66
                induction n66 with
                | zero => intro j S hn66; exact absurd hn66 (Nat.not_lt_zero _)
                | succ n66 ih66 =>
                  intro j S hn66 hj hF hA
                  have hLS : lay S := hF.L hL
                  have hag := lwA_rng σ t j k
                  have hsn := sumN_rng (g := lwI σ t k) (B := 1) j (fun q _ => lwI_01 σ t k q)
                  refine am_iload (q := 68) rfl (am_tab tk_X10_isLaw 41 rfl) rfl ?_
                  refine am_aload_n (q := 69) rfl (am_tab tk_X10_isLaw 42 rfl) rfl ?_
                  refine am_callV0 (q := 72) (me2 := M_X10_peopleMany) (b := 55) (kb := 10) (nb := 108) (As := []) (rest := [am_i ((j : Int))]) (out := [am_i (S.2.1 85 5), am_i ((j : Int))]) (c_X10_peopleMany S hLS  ) ⟨rfl, rfl⟩ (Ls_55 hLS) (by decide) ⟨Or.inl km_X10_394, kc_X10_peopleMany, kn_X10, kd_X10_peopleMany, ⟨(Nat.le_of_ble_eq_true rfl), (Nat.le_of_ble_eq_true rfl)⟩, ⟨(Nat.le_of_ble_eq_true rfl), (Nat.le_of_ble_eq_true rfl)⟩, (Nat.le_of_ble_eq_true rfl)⟩ ki_X10_peopleMany ks_X10_peopleMany rfl rfl (am_tab tk_X10_isLaw 43 rfl) rfl ?_
                  refine am_st (st2 := [am_i ((σ.2.1 85 5)), am_i ((j : Int))]) (by simp only [(show S.2.1 85 5 = σ.2.1 85 5 from (hF.2.2 85 5 (by unfold W_101; omega)))]) ?_
                  refine am_icmp_ge (q := 75) (t := 159) (am_tab tk_X10_isLaw 44 rfl) (by decide) rfl (fun h72 => ?_) (fun h72 => ?_)
                  · refine am_iload (q := 161) rfl (am_tab tk_X10_isLaw 89 rfl) rfl ?_
                    refine am_aload_n (q := 162) rfl (am_tab tk_X10_isLaw 90 rfl) rfl ?_
                    refine am_getR (q := 165) (a := 55) (k := 10) (n := 108) (j := 54) (r := some (96)) (Ls_55 hLS) (by decide) rfl (Lr_55_54 hLS) (by decide) (Or.inl kf_X10_136) (am_tab tk_X10_isLaw 91 rfl) rfl ?_
                    refine am_sipush (q := 168) (n := 203) (by decide) rfl (am_tab tk_X10_isLaw 92 rfl) rfl ?_
                    refine am_iconst (q := 169) (n := 4) (by decide) (am_tab tk_X10_isLaw 93 rfl) rfl ?_
                    refine am_iload_n (q := 170) rfl (am_tab tk_X10_isLaw 94 rfl) rfl ?_
                    refine am_imul (q := 171) (by omega) (am_tab tk_X10_isLaw 95 rfl) rfl ?_
                    refine am_iadd (q := 172) (by omega) (am_tab tk_X10_isLaw 96 rfl) rfl ?_
                    refine am_iconst (q := 173) (n := 2) (by decide) (am_tab tk_X10_isLaw 97 rfl) rfl ?_
                    refine am_iadd (q := 174) (by omega) (am_tab tk_X10_isLaw 98 rfl) rfl ?_
                    refine am_iald (q := 175) (a := 96) (n := 443) (x := (σ.2.1 96 (205 + 4 * k))) (Ls_96 hLS) (by omega) (by omega) (by rw [show Int.toNat ((203 + (4 * (k : Int))) + 2) = 205 + 4 * k by omega]; exact hF.2.2 96 _ (by unfold W_101; omega)) (am_tab tk_X10_isLaw 99 rfl) rfl ?_
                    refine am_icmp_eq (q := 178) (t := 180) (am_tab tk_X10_isLaw 100 rfl) (by decide) rfl (fun h175 => ?_) (fun h175 => ?_)
                    · refine am_iinc (q := 183) rfl (by omega) (by decide) (ls2 := [(2, am_i (((k : Int) + 1))), (5, am_i ((j : Int))), (4, am_i (sumN (lwI σ t k) j)), (3, am_i (tdK σ k)), (0, am_r 55), (1, am_i t)]) rfl (am_tab tk_X10_isLaw 103 rfl) rfl ?_
                      refine am_goto (t := 25) (am_tab tk_X10_isLaw 104 rfl) (by decide) ?_
                      exact am_less (by intro q hq; simp only [List.mem_cons, List.not_mem_nil, or_false] at hq; rcases hq with rfl | rfl | rfl <;> simp) (ih25 (k + 1) S (by omega) (by omega) hF (fun p hp => by rw [hA p hp, if_pos (by omega)]) (anyB_f hq (by unfold lwB; simp only [decide_eq_false_iff_not, Classical.not_not]; rw [← show j = pN σ by omega]; exact h175)))
                    · refine am_iconst (q := 179) (n := 0) (by decide) (am_tab tk_X10_isLaw 101 rfl) rfl ?_
                      refine am_iret (Or.inr ⟨rfl, by first | exact Or.inl rfl | exact Or.inr rfl | omega⟩) (Nat.le_of_ble_eq_true rfl) (Nat.le_of_ble_eq_true rfl) (am_tab tk_X10_isLaw 102 rfl) ?_
                      refine hQ _ _ ?_
                      refine ⟨congrArg (fun z => some (am_i z)) ?_, hF⟩
                      unfold lawB
                      rw [anyB_t (g := lwB σ t) (i := k) (by unfold lwB; simp only [decide_eq_true_eq]; rw [← show j = pN σ by omega]; exact h175) (by omega)]; rfl
                  · refine am_iload_n (q := 76) rfl (am_tab tk_X10_isLaw 45 rfl) rfl ?_
                    refine am_iload (q := 78) rfl (am_tab tk_X10_isLaw 46 rfl) rfl ?_
                    refine am_ishr (q := 79) (am_tab tk_X10_isLaw 47 rfl) rfl ?_
                    refine am_iconst (q := 80) (n := 1) (by decide) (am_tab tk_X10_isLaw 48 rfl) rfl ?_
                    refine am_iand (q := 81) (am_tab tk_X10_isLaw 49 rfl) rfl ?_
                    refine am_iconst (q := 82) (n := 1) (by decide) (am_tab tk_X10_isLaw 50 rfl) rfl ?_
                    refine am_icmp_eq (q := 85) (t := 96) (am_tab tk_X10_isLaw 51 rfl) (by decide) rfl (fun h82 => ?_) (fun h82 => ?_)
                    · refine am_iconst (q := 97) (n := 1) (by decide) (am_tab tk_X10_isLaw 58 rfl) rfl ?_
                      refine am_goto (t := 101) (am_tab tk_X10_isLaw 59 rfl) (by decide) ?_
                      refine am_istore (q := 103) (by decide) (ls2 := [(6, am_i 1), (5, am_i ((j : Int))), (4, am_i (sumN (lwI σ t k) j)), (3, am_i (tdK σ k)), (2, am_i ((k : Int))), (0, am_r 55), (1, am_i t)]) rfl (am_tab tk_X10_isLaw 61 rfl) rfl ?_
                      refine am_iload (q := 105) rfl (am_tab tk_X10_isLaw 62 rfl) rfl ?_
                      refine am_if_eq (q := 108) (t := 111) (am_tab tk_X10_isLaw 63 rfl) (by decide) rfl (fun h105 => ?_) (fun h105 => ?_)
                      · exact absurd h105 (by decide)
                      · refine am_iinc (q := 111) rfl (by omega) (by decide) (ls2 := [(4, am_i (((sumN (lwI σ t k) j) + 1))), (6, am_i 1), (5, am_i ((j : Int))), (3, am_i (tdK σ k)), (2, am_i ((k : Int))), (0, am_r 55), (1, am_i t)]) rfl (am_tab tk_X10_isLaw 64 rfl) rfl ?_
                        refine am_aload_n (q := 112) rfl (am_tab tk_X10_isLaw 65 rfl) rfl ?_
                        refine am_getR (q := 115) (a := 55) (k := 10) (n := 108) (j := 67) (r := some (101)) (Ls_55 hLS) (by decide) rfl (Lr_55_67 hLS) (by decide) (Or.inl kf_X10_151) (am_tab tk_X10_isLaw 66 rfl) rfl ?_
                        refine am_iload (q := 117) rfl (am_tab tk_X10_isLaw 67 rfl) rfl ?_
                        refine am_iload (q := 119) rfl (am_tab tk_X10_isLaw 68 rfl) rfl ?_
                        refine am_if_eq (q := 122) (t := 126) (am_tab tk_X10_isLaw 69 rfl) (by decide) rfl (fun h119 => ?_) (fun h119 => ?_)
                        · exact absurd h119 (by decide)
                        · refine am_iconst (q := 123) (n := 0) (by decide) (am_tab tk_X10_isLaw 70 rfl) rfl ?_
                          refine am_goto (t := 152) (am_tab tk_X10_isLaw 71 rfl) (by decide) ?_
                          refine am_iast (q := 153) (a := 101) (n := 8) (Ls_101 hLS) (by omega) (by omega) (am_tab tk_X10_isLaw 86 rfl) rfl ?_
                          refine am_iinc (q := 156) rfl (by omega) (by decide) (ls2 := [(5, am_i (((j : Int) + 1))), (4, am_i (((sumN (lwI σ t k) j) + 1))), (6, am_i 1), (3, am_i (tdK σ k)), (2, am_i ((k : Int))), (0, am_r 55), (1, am_i t)]) rfl (am_tab tk_X10_isLaw 87 rfl) rfl ?_
                          refine am_goto (t := 66) (am_tab tk_X10_isLaw 88 rfl) (by decide) ?_
                          have hv : 0 = lwA σ t (k + 1) j := by
                            show _ = (if _ then _ else _)
                            try rw [tb_eq htd ⟨by omega, by omega⟩] at h82
                            first
                              | rw [if_pos (Or.inl h82)]
                              | rw [if_pos (Or.inr (by omega))]
                              | (rw [if_neg (by intro hx; rcases hx with hx | hx <;> omega)]; first | rw [if_pos (by omega)] | rw [if_neg (by omega)])
                          have he : sumN (lwI σ t k) (j + 1) = ((sumN (lwI σ t k) j) + 1) := by
                            show sumN (lwI σ t k) j + (if _ then _ else _) = _
                            try rw [tb_eq htd ⟨by omega, by omega⟩] at h82
                            first
                              | rw [if_pos (Or.inl h82)]
                              | rw [if_pos (Or.inr (by omega))]
                              | (rw [if_neg (by intro hx; rcases hx with hx | hx <;> omega)]; omega)
                          have hAn : ∀ p, p < pN σ → ((am_setN S 101 (Int.toNat (j : Int)) 0)).2.1 101 p = if p < j + 1 then lwA σ t (k + 1) p else lwA σ t k p := by
                            intro p hp
                            show (if 101 = 101 ∧ p = Int.toNat (j : Int) then 0 else S.2.1 101 p) = _
                            rw [show Int.toNat (j : Int) = j by omega]
                            by_cases hk : p = j
                            · rw [if_pos ⟨rfl, hk⟩, if_pos (by omega), hk, hv]
                            · rw [if_neg (fun hc => hk hc.2), hA p hp]
                              by_cases hk2 : p < j
                              · rw [if_pos hk2, if_pos (by omega)]
                              · rw [if_neg hk2, if_neg (by omega)]
                          exact am_less (by intro q hq; simp only [List.mem_cons, List.not_mem_nil, or_false] at hq; rcases hq with rfl | rfl | rfl | rfl | rfl | rfl <;> simp [he]) (ih66 (j + 1) (am_setN S 101 (Int.toNat (j : Int)) 0) (by omega) (by omega) (hF.setN rfl) hAn)
                    · refine am_aload_n (q := 86) rfl (am_tab tk_X10_isLaw 52 rfl) rfl ?_
                      refine am_getR (q := 89) (a := 55) (k := 10) (n := 108) (j := 67) (r := some (101)) (Ls_55 hLS) (by decide) rfl (Lr_55_67 hLS) (by decide) (Or.inl kf_X10_151) (am_tab tk_X10_isLaw 53 rfl) rfl ?_
                      refine am_iload (q := 91) rfl (am_tab tk_X10_isLaw 54 rfl) rfl ?_
                      refine am_iald (q := 92) (a := 101) (n := 8) (x := (lwA σ t k j)) (Ls_101 hLS) (by omega) (by omega) (by rw [show Int.toNat (j : Int) = j by omega, hA j (by omega), if_neg (by omega)]) (am_tab tk_X10_isLaw 55 rfl) rfl ?_
                      refine am_iload_n (q := 93) rfl (am_tab tk_X10_isLaw 56 rfl) rfl ?_
                      refine am_icmp_le (q := 96) (t := 100) (am_tab tk_X10_isLaw 57 rfl) (by decide) rfl (fun h93 => ?_) (fun h93 => ?_)
                      · refine am_iconst (q := 101) (n := 0) (by decide) (am_tab tk_X10_isLaw 60 rfl) rfl ?_
                        refine am_istore (q := 103) (by decide) (ls2 := [(6, am_i 0), (5, am_i ((j : Int))), (4, am_i (sumN (lwI σ t k) j)), (3, am_i (tdK σ k)), (2, am_i ((k : Int))), (0, am_r 55), (1, am_i t)]) rfl (am_tab tk_X10_isLaw 61 rfl) rfl ?_
                        refine am_iload (q := 105) rfl (am_tab tk_X10_isLaw 62 rfl) rfl ?_
                        refine am_if_eq (q := 108) (t := 111) (am_tab tk_X10_isLaw 63 rfl) (by decide) rfl (fun h105 => ?_) (fun h105 => ?_)
                        · refine am_aload_n (q := 112) rfl (am_tab tk_X10_isLaw 65 rfl) rfl ?_
                          refine am_getR (q := 115) (a := 55) (k := 10) (n := 108) (j := 67) (r := some (101)) (Ls_55 hLS) (by decide) rfl (Lr_55_67 hLS) (by decide) (Or.inl kf_X10_151) (am_tab tk_X10_isLaw 66 rfl) rfl ?_
                          refine am_iload (q := 117) rfl (am_tab tk_X10_isLaw 67 rfl) rfl ?_
                          refine am_iload (q := 119) rfl (am_tab tk_X10_isLaw 68 rfl) rfl ?_
                          refine am_if_eq (q := 122) (t := 126) (am_tab tk_X10_isLaw 69 rfl) (by decide) rfl (fun h119 => ?_) (fun h119 => ?_)
                          · refine am_aload_n (q := 127) rfl (am_tab tk_X10_isLaw 72 rfl) rfl ?_
                            refine am_getR (q := 130) (a := 55) (k := 10) (n := 108) (j := 67) (r := some (101)) (Ls_55 hLS) (by decide) rfl (Lr_55_67 hLS) (by decide) (Or.inl kf_X10_151) (am_tab tk_X10_isLaw 73 rfl) rfl ?_
                            refine am_iload (q := 132) rfl (am_tab tk_X10_isLaw 74 rfl) rfl ?_
                            refine am_iald (q := 133) (a := 101) (n := 8) (x := (lwA σ t k j)) (Ls_101 hLS) (by omega) (by omega) (by rw [show Int.toNat (j : Int) = j by omega, hA j (by omega), if_neg (by omega)]) (am_tab tk_X10_isLaw 75 rfl) rfl ?_
                            refine am_bipush (q := 135) (n := 99) (by decide) rfl (am_tab tk_X10_isLaw 76 rfl) rfl ?_
                            refine am_icmp_ge (q := 138) (t := 150) (am_tab tk_X10_isLaw 77 rfl) (by decide) rfl (fun h135 => ?_) (fun h135 => ?_)
                            · refine am_bipush (q := 152) (n := 99) (by decide) rfl (am_tab tk_X10_isLaw 85 rfl) rfl ?_
                              refine am_iast (q := 153) (a := 101) (n := 8) (Ls_101 hLS) (by omega) (by omega) (am_tab tk_X10_isLaw 86 rfl) rfl ?_
                              refine am_iinc (q := 156) rfl (by omega) (by decide) (ls2 := [(5, am_i (((j : Int) + 1))), (6, am_i 0), (4, am_i (sumN (lwI σ t k) j)), (3, am_i (tdK σ k)), (2, am_i ((k : Int))), (0, am_r 55), (1, am_i t)]) rfl (am_tab tk_X10_isLaw 87 rfl) rfl ?_
                              refine am_goto (t := 66) (am_tab tk_X10_isLaw 88 rfl) (by decide) ?_
                              have hv : 99 = lwA σ t (k + 1) j := by
                                show _ = (if _ then _ else _)
                                try rw [tb_eq htd ⟨by omega, by omega⟩] at h82
                                first
                                  | rw [if_pos (Or.inl h82)]
                                  | rw [if_pos (Or.inr (by omega))]
                                  | (rw [if_neg (by intro hx; rcases hx with hx | hx <;> omega)]; first | rw [if_pos (by omega)] | rw [if_neg (by omega)])
                              have he : sumN (lwI σ t k) (j + 1) = sumN (lwI σ t k) j := by
                                show sumN (lwI σ t k) j + (if _ then _ else _) = _
                                try rw [tb_eq htd ⟨by omega, by omega⟩] at h82
                                first
                                  | rw [if_pos (Or.inl h82)]
                                  | rw [if_pos (Or.inr (by omega))]
                                  | (rw [if_neg (by intro hx; rcases hx with hx | hx <;> omega)]; omega)
                              have hAn : ∀ p, p < pN σ → ((am_setN S 101 (Int.toNat (j : Int)) 99)).2.1 101 p = if p < j + 1 then lwA σ t (k + 1) p else lwA σ t k p := by
                                intro p hp
                                show (if 101 = 101 ∧ p = Int.toNat (j : Int) then 99 else S.2.1 101 p) = _
                                rw [show Int.toNat (j : Int) = j by omega]
                                by_cases hk : p = j
                                · rw [if_pos ⟨rfl, hk⟩, if_pos (by omega), hk, hv]
                                · rw [if_neg (fun hc => hk hc.2), hA p hp]
                                  by_cases hk2 : p < j
                                  · rw [if_pos hk2, if_pos (by omega)]
                                  · rw [if_neg hk2, if_neg (by omega)]
                              exact am_less (by intro q hq; simp only [List.mem_cons, List.not_mem_nil, or_false] at hq; rcases hq with rfl | rfl | rfl | rfl | rfl | rfl <;> simp [he]) (ih66 (j + 1) (am_setN S 101 (Int.toNat (j : Int)) 99) (by omega) (by omega) (hF.setN rfl) hAn)
                            · refine am_aload_n (q := 139) rfl (am_tab tk_X10_isLaw 78 rfl) rfl ?_
                              refine am_getR (q := 142) (a := 55) (k := 10) (n := 108) (j := 67) (r := some (101)) (Ls_55 hLS) (by decide) rfl (Lr_55_67 hLS) (by decide) (Or.inl kf_X10_151) (am_tab tk_X10_isLaw 79 rfl) rfl ?_
                              refine am_iload (q := 144) rfl (am_tab tk_X10_isLaw 80 rfl) rfl ?_
                              refine am_iald (q := 145) (a := 101) (n := 8) (x := (lwA σ t k j)) (Ls_101 hLS) (by omega) (by omega) (by rw [show Int.toNat (j : Int) = j by omega, hA j (by omega), if_neg (by omega)]) (am_tab tk_X10_isLaw 81 rfl) rfl ?_
                              refine am_iconst (q := 146) (n := 1) (by decide) (am_tab tk_X10_isLaw 82 rfl) rfl ?_
                              refine am_iadd (q := 147) (by omega) (am_tab tk_X10_isLaw 83 rfl) rfl ?_
                              refine am_goto (t := 152) (am_tab tk_X10_isLaw 84 rfl) (by decide) ?_
                              refine am_iast (q := 153) (a := 101) (n := 8) (Ls_101 hLS) (by omega) (by omega) (am_tab tk_X10_isLaw 86 rfl) rfl ?_
                              refine am_iinc (q := 156) rfl (by omega) (by decide) (ls2 := [(5, am_i (((j : Int) + 1))), (6, am_i 0), (4, am_i (sumN (lwI σ t k) j)), (3, am_i (tdK σ k)), (2, am_i ((k : Int))), (0, am_r 55), (1, am_i t)]) rfl (am_tab tk_X10_isLaw 87 rfl) rfl ?_
                              refine am_goto (t := 66) (am_tab tk_X10_isLaw 88 rfl) (by decide) ?_
                              have hv : ((lwA σ t k j) + 1) = lwA σ t (k + 1) j := by
                                show _ = (if _ then _ else _)
                                try rw [tb_eq htd ⟨by omega, by omega⟩] at h82
                                first
                                  | rw [if_pos (Or.inl h82)]
                                  | rw [if_pos (Or.inr (by omega))]
                                  | (rw [if_neg (by intro hx; rcases hx with hx | hx <;> omega)]; first | rw [if_pos (by omega)] | rw [if_neg (by omega)])
                              have he : sumN (lwI σ t k) (j + 1) = sumN (lwI σ t k) j := by
                                show sumN (lwI σ t k) j + (if _ then _ else _) = _
                                try rw [tb_eq htd ⟨by omega, by omega⟩] at h82
                                first
                                  | rw [if_pos (Or.inl h82)]
                                  | rw [if_pos (Or.inr (by omega))]
                                  | (rw [if_neg (by intro hx; rcases hx with hx | hx <;> omega)]; omega)
                              have hAn : ∀ p, p < pN σ → ((am_setN S 101 (Int.toNat (j : Int)) ((lwA σ t k j) + 1))).2.1 101 p = if p < j + 1 then lwA σ t (k + 1) p else lwA σ t k p := by
                                intro p hp
                                show (if 101 = 101 ∧ p = Int.toNat (j : Int) then ((lwA σ t k j) + 1) else S.2.1 101 p) = _
                                rw [show Int.toNat (j : Int) = j by omega]
                                by_cases hk : p = j
                                · rw [if_pos ⟨rfl, hk⟩, if_pos (by omega), hk, hv]
                                · rw [if_neg (fun hc => hk hc.2), hA p hp]
                                  by_cases hk2 : p < j
                                  · rw [if_pos hk2, if_pos (by omega)]
                                  · rw [if_neg hk2, if_neg (by omega)]
                              exact am_less (by intro q hq; simp only [List.mem_cons, List.not_mem_nil, or_false] at hq; rcases hq with rfl | rfl | rfl | rfl | rfl | rfl <;> simp [he]) (ih66 (j + 1) (am_setN S 101 (Int.toNat (j : Int)) ((lwA σ t k j) + 1)) (by omega) (by omega) (hF.setN rfl) hAn)
                          · exact absurd h119 (by decide)
                        · exact absurd h105 (by decide)
                      · refine am_iconst (q := 97) (n := 1) (by decide) (am_tab tk_X10_isLaw 58 rfl) rfl ?_
                        refine am_goto (t := 101) (am_tab tk_X10_isLaw 59 rfl) (by decide) ?_
                        refine am_istore (q := 103) (by decide) (ls2 := [(6, am_i 1), (5, am_i ((j : Int))), (4, am_i (sumN (lwI σ t k) j)), (3, am_i (tdK σ k)), (2, am_i ((k : Int))), (0, am_r 55), (1, am_i t)]) rfl (am_tab tk_X10_isLaw 61 rfl) rfl ?_
                        refine am_iload (q := 105) rfl (am_tab tk_X10_isLaw 62 rfl) rfl ?_
                        refine am_if_eq (q := 108) (t := 111) (am_tab tk_X10_isLaw 63 rfl) (by decide) rfl (fun h105 => ?_) (fun h105 => ?_)
                        · exact absurd h105 (by decide)
                        · refine am_iinc (q := 111) rfl (by omega) (by decide) (ls2 := [(4, am_i (((sumN (lwI σ t k) j) + 1))), (6, am_i 1), (5, am_i ((j : Int))), (3, am_i (tdK σ k)), (2, am_i ((k : Int))), (0, am_r 55), (1, am_i t)]) rfl (am_tab tk_X10_isLaw 64 rfl) rfl ?_
                          refine am_aload_n (q := 112) rfl (am_tab tk_X10_isLaw 65 rfl) rfl ?_
                          refine am_getR (q := 115) (a := 55) (k := 10) (n := 108) (j := 67) (r := some (101)) (Ls_55 hLS) (by decide) rfl (Lr_55_67 hLS) (by decide) (Or.inl kf_X10_151) (am_tab tk_X10_isLaw 66 rfl) rfl ?_
                          refine am_iload (q := 117) rfl (am_tab tk_X10_isLaw 67 rfl) rfl ?_
                          refine am_iload (q := 119) rfl (am_tab tk_X10_isLaw 68 rfl) rfl ?_
                          refine am_if_eq (q := 122) (t := 126) (am_tab tk_X10_isLaw 69 rfl) (by decide) rfl (fun h119 => ?_) (fun h119 => ?_)
                          · exact absurd h119 (by decide)
                          · refine am_iconst (q := 123) (n := 0) (by decide) (am_tab tk_X10_isLaw 70 rfl) rfl ?_
                            refine am_goto (t := 152) (am_tab tk_X10_isLaw 71 rfl) (by decide) ?_
                            refine am_iast (q := 153) (a := 101) (n := 8) (Ls_101 hLS) (by omega) (by omega) (am_tab tk_X10_isLaw 86 rfl) rfl ?_
                            refine am_iinc (q := 156) rfl (by omega) (by decide) (ls2 := [(5, am_i (((j : Int) + 1))), (4, am_i (((sumN (lwI σ t k) j) + 1))), (6, am_i 1), (3, am_i (tdK σ k)), (2, am_i ((k : Int))), (0, am_r 55), (1, am_i t)]) rfl (am_tab tk_X10_isLaw 87 rfl) rfl ?_
                            refine am_goto (t := 66) (am_tab tk_X10_isLaw 88 rfl) (by decide) ?_
                            have hv : 0 = lwA σ t (k + 1) j := by
                              show _ = (if _ then _ else _)
                              try rw [tb_eq htd ⟨by omega, by omega⟩] at h82
                              first
                                | rw [if_pos (Or.inl h82)]
                                | rw [if_pos (Or.inr (by omega))]
                                | (rw [if_neg (by intro hx; rcases hx with hx | hx <;> omega)]; first | rw [if_pos (by omega)] | rw [if_neg (by omega)])
                            have he : sumN (lwI σ t k) (j + 1) = ((sumN (lwI σ t k) j) + 1) := by
                              show sumN (lwI σ t k) j + (if _ then _ else _) = _
                              try rw [tb_eq htd ⟨by omega, by omega⟩] at h82
                              first
                                | rw [if_pos (Or.inl h82)]
                                | rw [if_pos (Or.inr (by omega))]
                                | (rw [if_neg (by intro hx; rcases hx with hx | hx <;> omega)]; omega)
                            have hAn : ∀ p, p < pN σ → ((am_setN S 101 (Int.toNat (j : Int)) 0)).2.1 101 p = if p < j + 1 then lwA σ t (k + 1) p else lwA σ t k p := by
                              intro p hp
                              show (if 101 = 101 ∧ p = Int.toNat (j : Int) then 0 else S.2.1 101 p) = _
                              rw [show Int.toNat (j : Int) = j by omega]
                              by_cases hk : p = j
                              · rw [if_pos ⟨rfl, hk⟩, if_pos (by omega), hk, hv]
                              · rw [if_neg (fun hc => hk hc.2), hA p hp]
                                by_cases hk2 : p < j
                                · rw [if_pos hk2, if_pos (by omega)]
                                · rw [if_neg hk2, if_neg (by omega)]
                            exact am_less (by intro q hq; simp only [List.mem_cons, List.not_mem_nil, or_false] at hq; rcases hq with rfl | rfl | rfl | rfl | rfl | rfl <;> simp [he]) (ih66 (j + 1) (am_setN S 101 (Int.toNat (j : Int)) 0) (by omega) (by omega) (hF.setN rfl) hAn)
              refine am_less (by intro q hq; simp only [List.mem_cons, List.not_mem_nil, or_false] at hq; rcases hq with rfl | rfl | rfl | rfl | rfl | rfl <;> simp [sumN]) (L66 (_ + 1) 0 S (by exact Nat.lt_succ_self _) (by omega) hF (fun p hp => by rw [if_neg (by omega)]; exact hA p hp))
        refine am_less (by intro q hq; simp only [List.mem_cons, List.not_mem_nil, or_false] at hq; rcases hq with rfl | rfl | rfl <;> simp) (L25 (_ + 1) 0 S (by exact Nat.lt_succ_self _) (by omega) hF (fun p hp => hA p (by omega)) rfl)
      · refine am_aload_n (q := 11) rfl (am_tab tk_X10_isLaw 6 rfl) rfl ?_
        refine am_getR (q := 14) (a := 55) (k := 10) (n := 108) (j := 67) (r := some (101)) (Ls_55 hLS) (by decide) rfl (Lr_55_67 hLS) (by decide) (Or.inl kf_X10_151) (am_tab tk_X10_isLaw 7 rfl) rfl ?_
        refine am_iload_n (q := 15) rfl (am_tab tk_X10_isLaw 8 rfl) rfl ?_
        refine am_iconst (q := 16) (n := 0) (by decide) (am_tab tk_X10_isLaw 9 rfl) rfl ?_
        refine am_iast (q := 17) (a := 101) (n := 8) (Ls_101 hLS) (by omega) (by omega) (am_tab tk_X10_isLaw 10 rfl) rfl ?_
        refine am_iinc (q := 20) rfl (by omega) (by decide) (ls2 := [(2, am_i (((j : Int) + 1))), (0, am_r 55), (1, am_i t)]) rfl (am_tab tk_X10_isLaw 11 rfl) rfl ?_
        refine am_goto (t := 2) (am_tab tk_X10_isLaw 12 rfl) (by decide) ?_
        have hAn : ∀ p, p < j + 1 → ((am_setN S 101 (Int.toNat (j : Int)) 0)).2.1 101 p = 0 := by
          intro p hp
          show (if 101 = 101 ∧ p = Int.toNat (j : Int) then 0 else S.2.1 101 p) = _
          rw [show Int.toNat (j : Int) = j by omega]
          by_cases hk : p = j
          · rw [if_pos ⟨rfl, hk⟩]
          · rw [if_neg (fun hc => hk hc.2)]; exact hA p (by omega)
        exact am_less (by intro q hq; simp only [List.mem_cons, List.not_mem_nil, or_false] at hq; rcases hq with rfl | rfl | rfl <;> simp) (ih2 (j + 1) (am_setN S 101 (Int.toNat (j : Int)) 0) (by omega) (by omega) (hF.setN rfl) hAn)
  refine am_less (by intro q hq; simp only [List.mem_cons, List.not_mem_nil, or_false] at hq; rcases hq with rfl | rfl | rfl <;> simp) (L2 (_ + 1) 0 σ (by exact Nat.lt_succ_self _) (by omega) (frw.refl _ σ) (by omega))
def lF (σ : am_H) : Nat → Int × Int × Int
  | 0 => (0, -1, -1)
  | t + 1 => if lawB σ (t : Int) = true then ((lF σ t).1 + 1, if (lF σ t).2.1 = -1 then (t : Int) else (lF σ t).2.1, (t : Int)) else lF σ t
def lawM (σ : am_H) (w : Int) : Int := if ¬ σ.2.1 96 202 = 0 ∧ (0 ≤ w ∧ w ≤ 2) then (if w = 0 then (lF σ 99).1 else if w = 1 then (lF σ 99).2.1 else (lF σ 99).2.2) else -1
theorem lawB_cn (σ : am_H) (t : Int) : lawB (cn σ) t = lawB σ t := by
  have e1 : tdK (cn σ) = tdK σ := rfl
  have e2 : ∀ k p, lwA (cn σ) t k p = lwA σ t k p := by
    intro k
    induction k with
    | zero => intro p; rfl
    | succ k ih => intro p; unfold lwA; rw [ih p, e1]
  have e3 : lwI (cn σ) t = lwI σ t := by funext k p; unfold lwI; rw [e2, e1]
  have e4 : lwB (cn σ) t = lwB σ t := by funext k; unfold lwB; rw [e3]; rfl
  unfold lawB
  rw [e4]
  rfl
theorem lawB_eq {σ τ : am_H} (h : cn τ = cn σ) (t : Int) : lawB τ t = lawB σ t := by rw [← lawB_cn τ, h, lawB_cn]
theorem c_X10_law (σ : am_H) (hG : GD σ) (w : Int)  : am_met M_X10_law [am_r 55, am_i w] σ (fun r σ' => r = some (am_i (lawM σ w)) ∧ PQ σ σ') := by
  refine am_qq (fun Q hQ => ?_)
  refine am_enter (show plainFor yX10_law = true by decide +kernel) rfl (Nat.le_of_ble_eq_true rfl) (fun _ _ _ => trivial) ?_
  have hL := hG.L
  refine am_aload_n (q := 1) rfl (am_tab tk_X10_law 0 rfl) rfl ?_
  refine am_getR (q := 4) (a := 55) (k := 10) (n := 108) (j := 54) (r := some (96)) (Ls_55 hL) (by decide) rfl (Lr_55_54 hL) (by decide) (Or.inl kf_X10_136) (am_tab tk_X10_law 1 rfl) rfl ?_
  refine am_sipush (q := 7) (n := 202) (by decide) rfl (am_tab tk_X10_law 2 rfl) rfl ?_
  refine am_iald (q := 8) (a := 96) (n := 443) (x := (σ.2.1 96 202)) (Ls_96 hL) (by omega) (by omega) rfl (am_tab tk_X10_law 3 rfl) rfl ?_
  refine am_if_eq (q := 11) (t := 23) (am_tab tk_X10_law 4 rfl) (by decide) rfl (fun h8 => ?_) (fun h8 => ?_)
  · refine am_iconst (q := 24) (n := (-1)) (by decide) (am_tab tk_X10_law 11 rfl) rfl ?_
    refine am_iret (Or.inl rfl) (Nat.le_of_ble_eq_true rfl) (Nat.le_of_ble_eq_true rfl) (am_tab tk_X10_law 12 rfl) ?_
    refine hQ _ _ ?_
    refine ⟨congrArg (fun z => some (am_i z)) ?_, PQ.refl hG⟩
    unfold lawM
    rw [if_neg (by intro hx; first | exact absurd hx.1 (by omega) | exact absurd hx.2 (by assumption))]
  · refine am_iload_n (q := 12) rfl (am_tab tk_X10_law 5 rfl) rfl ?_
    refine am_i2l (q := 13) (am_tab tk_X10_law 6 rfl) rfl ?_
    refine am_lconst0 (q := 14) (am_tab tk_X10_law 7 rfl) rfl ?_
    refine am_ldc2 (q := 17) (n := 2) (by decide) kk_X10_546 (am_tab tk_X10_law 8 rfl) rfl ?_
    refine am_callS0 (q := 20) (me2 := M_X10_isIn) (As := [am_l w, am_l 0, am_l 2]) (rest := []) (out := [am_i (if 0 ≤ w ∧ w ≤ 2 then 1 else 0)]) (c_X10_isIn σ hL w 0 2 ) ⟨rfl, rfl⟩ ⟨Or.inl km_X10_291, kc_X10_isIn, kn_X10, kd_X10_isIn, ⟨(Nat.le_of_ble_eq_true rfl), (Nat.le_of_ble_eq_true rfl)⟩, ⟨(Nat.le_of_ble_eq_true rfl), (Nat.le_of_ble_eq_true rfl)⟩, (Nat.le_of_ble_eq_true rfl)⟩ ki_X10_isIn rfl rfl (am_tab tk_X10_law 9 rfl) rfl ?_
    refine am_if_ne (q := 23) (t := 25) (am_tab tk_X10_law 10 rfl) (by decide) rfl (fun h20 => ?_) (fun h20 => ?_)
    · replace h20 := b01n h20
      refine am_iconst (q := 26) (n := 0) (by decide) (am_tab tk_X10_law 13 rfl) rfl ?_
      refine am_istore_n (q := 27) (by decide) (ls2 := [(2, am_i 0), (0, am_r 55), (1, am_i w)]) rfl (am_tab tk_X10_law 14 rfl) rfl ?_
      refine am_iconst (q := 28) (n := (-1)) (by decide) (am_tab tk_X10_law 15 rfl) rfl ?_
      refine am_istore_n (q := 29) (by decide) (ls2 := [(3, am_i ((-1))), (2, am_i 0), (0, am_r 55), (1, am_i w)]) rfl (am_tab tk_X10_law 16 rfl) rfl ?_
      refine am_iconst (q := 30) (n := (-1)) (by decide) (am_tab tk_X10_law 17 rfl) rfl ?_
      refine am_istore (q := 32) (by decide) (ls2 := [(4, am_i ((-1))), (3, am_i ((-1))), (2, am_i 0), (0, am_r 55), (1, am_i w)]) rfl (am_tab tk_X10_law 18 rfl) rfl ?_
      refine am_iconst (q := 33) (n := 0) (by decide) (am_tab tk_X10_law 19 rfl) rfl ?_
      refine am_istore (q := 35) (by decide) (ls2 := [(5, am_i 0), (4, am_i ((-1))), (3, am_i ((-1))), (2, am_i 0), (0, am_r 55), (1, am_i w)]) rfl (am_tab tk_X10_law 20 rfl) rfl ?_
      have L35 : ∀ (n35 : Nat) (t : Nat) (S : am_H) (n : Int) (a : Int) (b : Int), 99 - t < n35 → t ≤ 99 → frw W_101 σ S → lF σ t = (n, a, b) → 0 ≤ n ∧ n ≤ t → am_wp M_X10_law Q 0 0 35 [(5, am_i ((t : Int))), (2, am_i n), (3, am_i a), (4, am_i b), (0, am_r 55), (1, am_i w)] [] S := by
        intro n35
        induction n35 with
        | zero => intro t S n a b hn35; exact absurd hn35 (Nat.not_lt_zero _)
        | succ n35 ih35 =>
          intro t S n a b hn35 ht hF hl hn
          have hLS : lay S := hF.L hL
          have hcS : cn S = cn σ := cn_eq (fun a j h1 h2 => hF.2.2 a j (by unfold W_101; omega))
          have hGS : GD S := GD_fr hG hF (by unfold W_101; omega) (by rw [hF.2.2 55 59 (by unfold W_101; omega)]; exact hG.o) (by rw [hF.2.2 55 61 (by unfold W_101; omega)]; exact hG.t)
          refine am_iload (q := 37) rfl (am_tab tk_X10_law 21 rfl) rfl ?_
          refine am_bipush (q := 39) (n := 99) (by decide) rfl (am_tab tk_X10_law 22 rfl) rfl ?_
          refine am_icmp_ge (q := 42) (t := 75) (am_tab tk_X10_law 23 rfl) (by decide) rfl (fun h39 => ?_) (fun h39 => ?_)
          · refine am_iload_n (q := 76) rfl (am_tab tk_X10_law 39 rfl) rfl ?_
            refine am_if_ne (q := 79) (t := 83) (am_tab tk_X10_law 40 rfl) (by decide) rfl (fun h76 => ?_) (fun h76 => ?_)
            · refine am_iload_n (q := 84) rfl (am_tab tk_X10_law 43 rfl) rfl ?_
              refine am_iconst (q := 85) (n := 1) (by decide) (am_tab tk_X10_law 44 rfl) rfl ?_
              refine am_icmp_ne (q := 88) (t := 92) (am_tab tk_X10_law 45 rfl) (by decide) rfl (fun h85 => ?_) (fun h85 => ?_)
              · refine am_iload (q := 94) rfl (am_tab tk_X10_law 48 rfl) rfl ?_
                refine am_iret (Or.inl rfl) (Nat.le_of_ble_eq_true rfl) (Nat.le_of_ble_eq_true rfl) (am_tab tk_X10_law 49 rfl) ?_
                refine hQ _ _ ?_
                refine ⟨congrArg (fun z => some (am_i z)) ?_, hF.mono (by unfold W_101 W_pub; omega), hGS⟩
                unfold lawM
                rw [if_pos ⟨h8, h20⟩, ← show t = 99 by omega, hl]
                repeat (first | rw [if_pos (by assumption)] | rw [if_neg (by assumption)])
              · refine am_iload_n (q := 89) rfl (am_tab tk_X10_law 46 rfl) rfl ?_
                refine am_goto (t := 94) (am_tab tk_X10_law 47 rfl) (by decide) ?_
                refine am_iret (Or.inl rfl) (Nat.le_of_ble_eq_true rfl) (Nat.le_of_ble_eq_true rfl) (am_tab tk_X10_law 49 rfl) ?_
                refine hQ _ _ ?_
                refine ⟨congrArg (fun z => some (am_i z)) ?_, hF.mono (by unfold W_101 W_pub; omega), hGS⟩
                unfold lawM
                rw [if_pos ⟨h8, h20⟩, ← show t = 99 by omega, hl]
                repeat (first | rw [if_pos (by assumption)] | rw [if_neg (by assumption)])
            · refine am_iload_n (q := 80) rfl (am_tab tk_X10_law 41 rfl) rfl ?_
              refine am_goto (t := 94) (am_tab tk_X10_law 42 rfl) (by decide) ?_
              refine am_iret (Or.inl rfl) (Nat.le_of_ble_eq_true rfl) (Nat.le_of_ble_eq_true rfl) (am_tab tk_X10_law 49 rfl) ?_
              refine hQ _ _ ?_
              refine ⟨congrArg (fun z => some (am_i z)) ?_, hF.mono (by unfold W_101 W_pub; omega), hGS⟩
              unfold lawM
              rw [if_pos ⟨h8, h20⟩, ← show t = 99 by omega, hl]
              repeat (first | rw [if_pos (by assumption)] | rw [if_neg (by assumption)])
          · refine am_aload_n (q := 43) rfl (am_tab tk_X10_law 24 rfl) rfl ?_
            refine am_iload (q := 45) rfl (am_tab tk_X10_law 25 rfl) rfl ?_
            refine am_callVr (q := 48) (me2 := M_X10_isLaw) (b := 55) (kb := 10) (nb := 108) (As := [am_i ((t : Int))]) (rest := []) (c_X10_isLaw S hGS (t : Int) (by omega)) ⟨rfl, rfl⟩ (Ls_55 hLS) (by decide) ⟨Or.inl km_X10_559, kc_X10_isLaw, kn_X10, kd_X10_isLaw, ⟨(Nat.le_of_ble_eq_true rfl), (Nat.le_of_ble_eq_true rfl)⟩, ⟨(Nat.le_of_ble_eq_true rfl), (Nat.le_of_ble_eq_true rfl)⟩, (Nat.le_of_ble_eq_true rfl)⟩ ki_X10_isLaw ks_X10_isLaw rfl (am_tab tk_X10_law 26 rfl) rfl ?_
            rintro r S2 ⟨rfl, hF1⟩
            rw [lawB_eq hcS]
            have hF2 : frw W_101 σ S2 := hF.trans hF1
            refine am_st (st2 := [am_i (b2i (lawB σ (t : Int)))]) rfl ?_
            refine am_if_ne (q := 51) (t := 54) (am_tab tk_X10_law 27 rfl) (by decide) rfl (fun h48 => ?_) (fun h48 => ?_)
            · refine am_iinc (q := 57) rfl (by omega) (by decide) (ls2 := [(2, am_i ((n + 1))), (5, am_i ((t : Int))), (3, am_i a), (4, am_i b), (0, am_r 55), (1, am_i w)]) rfl (am_tab tk_X10_law 29 rfl) rfl ?_
              refine am_iload_n (q := 58) rfl (am_tab tk_X10_law 30 rfl) rfl ?_
              refine am_iconst (q := 59) (n := (-1)) (by decide) (am_tab tk_X10_law 31 rfl) rfl ?_
              refine am_icmp_ne (q := 62) (t := 65) (am_tab tk_X10_law 32 rfl) (by decide) rfl (fun h59 => ?_) (fun h59 => ?_)
              · refine am_iload (q := 67) rfl (am_tab tk_X10_law 35 rfl) rfl ?_
                refine am_istore (q := 69) (by decide) (ls2 := [(4, am_i ((t : Int))), (2, am_i ((n + 1))), (5, am_i ((t : Int))), (3, am_i a), (0, am_r 55), (1, am_i w)]) rfl (am_tab tk_X10_law 36 rfl) rfl ?_
                refine am_iinc (q := 72) rfl (by omega) (by decide) (ls2 := [(5, am_i (((t : Int) + 1))), (4, am_i ((t : Int))), (2, am_i ((n + 1))), (3, am_i a), (0, am_r 55), (1, am_i w)]) rfl (am_tab tk_X10_law 37 rfl) rfl ?_
                refine am_goto (t := 35) (am_tab tk_X10_law 38 rfl) (by decide) ?_
                have hl1 : lF σ (t + 1) = ((n + 1), a, (t : Int)) := by
                  show (if _ then _ else _) = _
                  rw [if_pos (by rcases hk : lawB σ (t : Int) with _ | _ <;> simp [b2i, hk] at h48 ⊢), hl]
                  simp only
                  first | rw [if_pos h59] | rw [if_neg h59]
                exact am_less (by intro q hq; simp only [List.mem_cons, List.not_mem_nil, or_false] at hq; rcases hq with rfl | rfl | rfl | rfl | rfl | rfl <;> simp) (ih35 (t + 1) S2 (n + 1) a (t : Int) (by omega) (by omega) hF2 hl1 (by omega))
              · refine am_iload (q := 64) rfl (am_tab tk_X10_law 33 rfl) rfl ?_
                refine am_istore_n (q := 65) (by decide) (ls2 := [(3, am_i ((t : Int))), (2, am_i ((n + 1))), (5, am_i ((t : Int))), (4, am_i b), (0, am_r 55), (1, am_i w)]) rfl (am_tab tk_X10_law 34 rfl) rfl ?_
                refine am_iload (q := 67) rfl (am_tab tk_X10_law 35 rfl) rfl ?_
                refine am_istore (q := 69) (by decide) (ls2 := [(4, am_i ((t : Int))), (3, am_i ((t : Int))), (2, am_i ((n + 1))), (5, am_i ((t : Int))), (0, am_r 55), (1, am_i w)]) rfl (am_tab tk_X10_law 36 rfl) rfl ?_
                refine am_iinc (q := 72) rfl (by omega) (by decide) (ls2 := [(5, am_i (((t : Int) + 1))), (4, am_i ((t : Int))), (3, am_i ((t : Int))), (2, am_i ((n + 1))), (0, am_r 55), (1, am_i w)]) rfl (am_tab tk_X10_law 37 rfl) rfl ?_
                refine am_goto (t := 35) (am_tab tk_X10_law 38 rfl) (by decide) ?_
                have hl1 : lF σ (t + 1) = ((n + 1), (t : Int), (t : Int)) := by
                  show (if _ then _ else _) = _
                  rw [if_pos (by rcases hk : lawB σ (t : Int) with _ | _ <;> simp [b2i, hk] at h48 ⊢), hl]
                  simp only
                  first | rw [if_pos h59] | rw [if_neg h59]
                exact am_less (by intro q hq; simp only [List.mem_cons, List.not_mem_nil, or_false] at hq; rcases hq with rfl | rfl | rfl | rfl | rfl | rfl <;> simp) (ih35 (t + 1) S2 (n + 1) (t : Int) (t : Int) (by omega) (by omega) hF2 hl1 (by omega))
            · refine am_goto (t := 69) (am_tab tk_X10_law 28 rfl) (by decide) ?_
              refine am_iinc (q := 72) rfl (by omega) (by decide) (ls2 := [(5, am_i (((t : Int) + 1))), (2, am_i n), (3, am_i a), (4, am_i b), (0, am_r 55), (1, am_i w)]) rfl (am_tab tk_X10_law 37 rfl) rfl ?_
              refine am_goto (t := 35) (am_tab tk_X10_law 38 rfl) (by decide) ?_
              have hl1 : lF σ (t + 1) = (n, a, b) := by
                show (if _ then _ else _) = _
                rw [if_neg (by intro hx; rw [hx] at h48; simp [b2i] at h48), hl]
              exact am_less (by intro q hq; simp only [List.mem_cons, List.not_mem_nil, or_false] at hq; rcases hq with rfl | rfl | rfl | rfl | rfl | rfl <;> simp) (ih35 (t + 1) S2 n a b (by omega) (by omega) hF2 hl1 (by omega))
      refine am_less (by intro q hq; simp only [List.mem_cons, List.not_mem_nil, or_false] at hq; rcases hq with rfl | rfl | rfl | rfl | rfl | rfl <;> simp) (L35 (_ + 1) 0 σ 0 (-1) (-1) (by exact Nat.lt_succ_self _) (by omega) (frw.refl _ σ) rfl (by omega))
    · replace h20 := b01z h20
      refine am_iconst (q := 24) (n := (-1)) (by decide) (am_tab tk_X10_law 11 rfl) rfl ?_
      refine am_iret (Or.inl rfl) (Nat.le_of_ble_eq_true rfl) (Nat.le_of_ble_eq_true rfl) (am_tab tk_X10_law 12 rfl) ?_
      refine hQ _ _ ?_
      refine ⟨congrArg (fun z => some (am_i z)) ?_, PQ.refl hG⟩
      unfold lawM
      rw [if_neg (by intro hx; first | exact absurd hx.1 (by omega) | exact absurd hx.2 (by assumption))]
def W_ke (a j : Nat) : Prop := a = 102 ∨ (a = 55 ∧ (j = 69 ∨ j = 70))
theorem keH_fr (σ : am_H) : frw W_ke σ (keH σ) := (((frw.refl _ σ).setN (by unfold W_ke; omega)).setA (fun j => by unfold W_ke; omega)).setN (by unfold W_ke; omega)
theorem keH_cn (σ : am_H) : cn (keH σ) = cn σ := cn_eq (fun a j h1 h2 => (keH_fr σ).2.2 a j (by unfold W_ke; omega))
theorem keH_GD {σ : am_H} (hG : GD σ) : GD (keH σ) := GD_fr hG (keH_fr σ) (by unfold W_ke; omega) (by rw [(keH_fr σ).2.2 55 59 (by unfold W_ke; omega)]; exact hG.o) (by rw [(keH_fr σ).2.2 55 61 (by unfold W_ke; omega)]; exact hG.t)
theorem itS_eq {σ τ : am_H} (h : cn τ = cn σ) : ∀ n, cn (itS n τ) = cn (itS n σ)
  | 0 => h
  | n + 1 => dyS_eq (itS_eq h n)
/-- days that come: n of them, from X on -/
def GO (X : am_H) (T S : am_H) : Prop := frw W_day X S ∧ cn S = cn T ∧ GD S
theorem c_dayG {X T S : am_H} (hG : GO X T S) (hc : cc T) : am_met M_X10_dayGoes [am_r 55] S (fun r τ => r = none ∧ GO X (dyS T) τ ∧ τ.2.1 55 60 = sfD T ∧ τ.2.1 55 61 = thD T ∧ τ.2.1 55 62 = fsD T) := by
  have hc2 : cc S := by
    unfold cc at *
    rw [cn_at hG.2.1 85 9 (by decide) (by decide), cn_at hG.2.1 96 0 (by decide) (by decide), cn_at hG.2.1 96 1 (by decide) (by decide)]
    exact hc
  refine am_mono (c_X10_dayGoes S hG.2.2 hc2) (fun r τ h => ?_)
  obtain ⟨rfl, hF, h96, h60, h61, h62, h59⟩ := h
  have hcn : cn τ = cn (dyS S) := cn_eq (fun a j h1 h2 => by
    show _ = (if a = 96 then nwD S j else S.2.1 a j)
    by_cases ha : a = 96
    · subst ha; rw [if_pos rfl]; exact h96 j
    · rw [if_neg ha]; exact hF.2.2 a j (by unfold W_day; omega))
  refine ⟨rfl, ⟨hG.1.trans hF, hcn.trans (dyS_eq hG.2.1), ?_⟩, h60.trans (sfD_eq hG.2.1), h61.trans (thD_eq hG.2.1), h62.trans (fsD_eq hG.2.1)⟩
  refine GD_now (f := nwD S) hG.2.2 (hF.L hG.2.2.L) hcn (hF.2.2 55 52 (by unfold W_day; omega)) (nwD_MN hG.2.2.R hc2) h59 ?_
  rw [h61]; exact thD_rng hG.2.2 hc2
def goC (σ : am_H) (n : Int) : Prop := (¬ σ.2.1 55 52 = 0 ∧ (1 ≤ n ∧ n ≤ 200)) ∧ n ≤ dlM σ
def feS (σ : am_H) (k : Nat) : Int := fsD (itS k σ)
theorem c_X10_go (σ : am_H) (hG : GD σ) (n : Int) (hn : 0 ≤ σ.2.1 55 70 ∧ σ.2.1 55 70 ≤ 19) (hu : 0 ≤ σ.2.1 55 69 ∧ σ.2.1 55 69 ≤ 20) (hr : 0 ≤ σ.2.1 57 2 ∧ σ.2.1 57 2 ≤ 100000) : am_met M_X10_go [am_r 55, am_i n] σ (fun r σ' => (goC σ n ∧ r = some (am_i (sumN (feS σ) n.toNat)) ∧ GO (keH σ) (itS n.toNat σ) σ') ∨ (¬ goC σ n ∧ r = some (am_i (-1)) ∧ σ' = am_setN σ 57 2 (σ.2.1 57 2 + 1))) := by
  refine am_qq (fun Q hQ => ?_)
  refine am_enter (show plainFor yX10_go = true by decide +kernel) rfl (Nat.le_of_ble_eq_true rfl) (fun _ _ _ => trivial) ?_
  have hL := hG.L
  have hD90 : 0 ≤ σ.2.1 96 1 ∧ σ.2.1 96 1 ≤ 90 := ⟨hG.R.day.1, by have := hG.R.day; have := hG.R.Y; omega⟩
  refine am_aload_n (q := 1) rfl (am_tab tk_X10_go 0 rfl) rfl ?_
  refine am_getI (q := 4) (a := 55) (k := 10) (n := 108) (j := 52) (x := (σ.2.1 55 52)) (Ls_55 hL) (by decide) rfl rfl (by decide) (Or.inl kf_X10_384) (am_tab tk_X10_go 1 rfl) rfl ?_
  refine am_if_eq (q := 7) (t := 27) (am_tab tk_X10_go 2 rfl) (by decide) rfl (fun h4 => ?_) (fun h4 => ?_)
  · refine am_aload_n (q := 28) rfl (am_tab tk_X10_go 13 rfl) rfl ?_
    refine am_iconst (q := 29) (n := 2) (by decide) (am_tab tk_X10_go 14 rfl) rfl ?_
    refine am_callV0 (q := 32) (me2 := M_X10_refuses) (b := 55) (kb := 10) (nb := 108) (As := [am_i 2]) (rest := []) (out := [am_i ((-1))]) (c_X10_refuses σ hL 2 (by omega) hr) ⟨rfl, rfl⟩ (Ls_55 hL) (by decide) ⟨Or.inl km_X10_567, kc_X10_refuses, kn_X10, kd_X10_refuses, ⟨(Nat.le_of_ble_eq_true rfl), (Nat.le_of_ble_eq_true rfl)⟩, ⟨(Nat.le_of_ble_eq_true rfl), (Nat.le_of_ble_eq_true rfl)⟩, (Nat.le_of_ble_eq_true rfl)⟩ ki_X10_refuses ks_X10_refuses rfl rfl (am_tab tk_X10_go 15 rfl) rfl ?_
    refine am_iret (Or.inl rfl) (Nat.le_of_ble_eq_true rfl) (Nat.le_of_ble_eq_true rfl) (am_tab tk_X10_go 16 rfl) ?_
    refine hQ _ _ ?_
    refine Or.inr ⟨fun hx => ?_, rfl, rfl⟩
    first | exact absurd (by assumption) hx.1.1 | exact absurd hx.1.2 (by assumption) | exact absurd hx.2 (by omega)
  · refine am_iload_n (q := 8) rfl (am_tab tk_X10_go 3 rfl) rfl ?_
    refine am_i2l (q := 9) (am_tab tk_X10_go 4 rfl) rfl ?_
    refine am_lconst1 (q := 10) (am_tab tk_X10_go 5 rfl) rfl ?_
    refine am_ldc2 (q := 13) (n := 200) (by decide) kk_X10_565 (am_tab tk_X10_go 6 rfl) rfl ?_
    refine am_callS0 (q := 16) (me2 := M_X10_isIn) (As := [am_l n, am_l 1, am_l 200]) (rest := []) (out := [am_i (if 1 ≤ n ∧ n ≤ 200 then 1 else 0)]) (c_X10_isIn σ hL n 1 200 ) ⟨rfl, rfl⟩ ⟨Or.inl km_X10_291, kc_X10_isIn, kn_X10, kd_X10_isIn, ⟨(Nat.le_of_ble_eq_true rfl), (Nat.le_of_ble_eq_true rfl)⟩, ⟨(Nat.le_of_ble_eq_true rfl), (Nat.le_of_ble_eq_true rfl)⟩, (Nat.le_of_ble_eq_true rfl)⟩ ki_X10_isIn rfl rfl (am_tab tk_X10_go 7 rfl) rfl ?_
    refine am_if_eq (q := 19) (t := 27) (am_tab tk_X10_go 8 rfl) (by decide) rfl (fun h16 => ?_) (fun h16 => ?_)
    · replace h16 := b01z h16
      refine am_aload_n (q := 28) rfl (am_tab tk_X10_go 13 rfl) rfl ?_
      refine am_iconst (q := 29) (n := 2) (by decide) (am_tab tk_X10_go 14 rfl) rfl ?_
      refine am_callV0 (q := 32) (me2 := M_X10_refuses) (b := 55) (kb := 10) (nb := 108) (As := [am_i 2]) (rest := []) (out := [am_i ((-1))]) (c_X10_refuses σ hL 2 (by omega) hr) ⟨rfl, rfl⟩ (Ls_55 hL) (by decide) ⟨Or.inl km_X10_567, kc_X10_refuses, kn_X10, kd_X10_refuses, ⟨(Nat.le_of_ble_eq_true rfl), (Nat.le_of_ble_eq_true rfl)⟩, ⟨(Nat.le_of_ble_eq_true rfl), (Nat.le_of_ble_eq_true rfl)⟩, (Nat.le_of_ble_eq_true rfl)⟩ ki_X10_refuses ks_X10_refuses rfl rfl (am_tab tk_X10_go 15 rfl) rfl ?_
      refine am_iret (Or.inl rfl) (Nat.le_of_ble_eq_true rfl) (Nat.le_of_ble_eq_true rfl) (am_tab tk_X10_go 16 rfl) ?_
      refine hQ _ _ ?_
      refine Or.inr ⟨fun hx => ?_, rfl, rfl⟩
      first | exact absurd (by assumption) hx.1.1 | exact absurd hx.1.2 (by assumption) | exact absurd hx.2 (by omega)
    · replace h16 := b01n h16
      refine am_iload_n (q := 20) rfl (am_tab tk_X10_go 9 rfl) rfl ?_
      refine am_aload_n (q := 21) rfl (am_tab tk_X10_go 10 rfl) rfl ?_
      refine am_callV0 (q := 24) (me2 := M_X10_daysLeft) (b := 55) (kb := 10) (nb := 108) (As := []) (rest := [am_i n]) (out := [am_i (dlM σ), am_i n]) (c_X10_daysLeft σ hL hG.R.year hD90 hG.R.Y) ⟨rfl, rfl⟩ (Ls_55 hL) (by decide) ⟨Or.inl km_X10_481, kc_X10_daysLeft, kn_X10, kd_X10_daysLeft, ⟨(Nat.le_of_ble_eq_true rfl), (Nat.le_of_ble_eq_true rfl)⟩, ⟨(Nat.le_of_ble_eq_true rfl), (Nat.le_of_ble_eq_true rfl)⟩, (Nat.le_of_ble_eq_true rfl)⟩ ki_X10_daysLeft ks_X10_daysLeft rfl rfl (am_tab tk_X10_go 11 rfl) rfl ?_
      refine am_icmp_le (q := 27) (t := 33) (am_tab tk_X10_go 12 rfl) (by decide) rfl (fun h24 => ?_) (fun h24 => ?_)
      · refine am_aload_n (q := 34) rfl (am_tab tk_X10_go 17 rfl) rfl ?_
        refine am_callV0 (q := 37) (me2 := M_X10_keeps) (b := 55) (kb := 10) (nb := 108) (As := []) (rest := []) (out := []) (c_X10_keeps σ hL hn hu) ⟨rfl, rfl⟩ (Ls_55 hL) (by decide) ⟨Or.inl km_X10_570, kc_X10_keeps, kn_X10, kd_X10_keeps, ⟨(Nat.le_of_ble_eq_true rfl), (Nat.le_of_ble_eq_true rfl)⟩, ⟨(Nat.le_of_ble_eq_true rfl), (Nat.le_of_ble_eq_true rfl)⟩, (Nat.le_of_ble_eq_true rfl)⟩ ki_X10_keeps ks_X10_keeps rfl rfl (am_tab tk_X10_go 18 rfl) rfl ?_
        refine am_iconst (q := 38) (n := 0) (by decide) (am_tab tk_X10_go 19 rfl) rfl ?_
        refine am_istore_n (q := 39) (by decide) (ls2 := [(2, am_i 0), (0, am_r 55), (1, am_i n)]) rfl (am_tab tk_X10_go 20 rfl) rfl ?_
        refine am_iconst (q := 40) (n := 0) (by decide) (am_tab tk_X10_go 21 rfl) rfl ?_
        refine am_istore_n (q := 41) (by decide) (ls2 := [(3, am_i 0), (2, am_i 0), (0, am_r 55), (1, am_i n)]) rfl (am_tab tk_X10_go 22 rfl) rfl ?_
        have L41 : ∀ (n41 : Nat) (i : Nat) (S : am_H), n.toNat - i < n41 → (i : Int) ≤ n → GO (keH σ) (itS i σ) S → am_wp M_X10_go Q 0 0 41 [(3, am_i ((i : Int))), (2, am_i (sumN (feS σ) i)), (0, am_r 55), (1, am_i n)] [] S := by
          intro n41
          induction n41 with
          | zero => intro i S hn41; exact absurd hn41 (Nat.not_lt_zero _)
          | succ n41 ih41 =>
            intro i S hn41 hi hO
            have hsn := sumN_rng (g := feS σ) (B := 1) i (fun q _ => by unfold feS; have := fsD_01 (itS q σ); omega)
            refine am_iload_n (q := 42) rfl (am_tab tk_X10_go 23 rfl) rfl ?_
            refine am_iload_n (q := 43) rfl (am_tab tk_X10_go 24 rfl) rfl ?_
            refine am_icmp_ge (q := 46) (t := 66) (am_tab tk_X10_go 25 rfl) (by decide) rfl (fun h43 => ?_) (fun h43 => ?_)
            · refine am_iload_n (q := 67) rfl (am_tab tk_X10_go 34 rfl) rfl ?_
              refine am_iret (Or.inl rfl) (Nat.le_of_ble_eq_true rfl) (Nat.le_of_ble_eq_true rfl) (am_tab tk_X10_go 35 rfl) ?_
              refine hQ _ _ ?_
              refine Or.inl ⟨⟨⟨h4, h16⟩, by omega⟩, ?_, ?_⟩
              · rw [show i = n.toNat by omega]
              · rw [← show i = n.toNat by omega]; exact hO
            · refine am_aload_n (q := 47) rfl (am_tab tk_X10_go 26 rfl) rfl ?_
              refine am_callVr (q := 50) (me2 := M_X10_dayGoes) (b := 55) (kb := 10) (nb := 108) (As := []) (rest := []) (c_dayG hO (itS_cc hG (by omega))) ⟨rfl, rfl⟩ (Ls_55 hO.2.2.L) (by decide) ⟨Or.inl km_X10_476, kc_X10_dayGoes, kn_X10, kd_X10_dayGoes, ⟨(Nat.le_of_ble_eq_true rfl), (Nat.le_of_ble_eq_true rfl)⟩, ⟨(Nat.le_of_ble_eq_true rfl), (Nat.le_of_ble_eq_true rfl)⟩, (Nat.le_of_ble_eq_true rfl)⟩ ki_X10_dayGoes ks_X10_dayGoes rfl (am_tab tk_X10_go 27 rfl) rfl ?_
              rintro r S2 ⟨rfl, hO2, e60, e61, e62⟩
              refine am_st (st2 := []) rfl ?_
              refine am_aload_n (q := 51) rfl (am_tab tk_X10_go 28 rfl) rfl ?_
              refine am_getI (q := 54) (a := 55) (k := 10) (n := 108) (j := 62) (x := (fsD (itS i σ))) (Ls_55 hO2.2.2.L) (by decide) rfl e62 (by decide) (Or.inl kf_X10_464) (am_tab tk_X10_go 29 rfl) rfl ?_
              refine am_if_eq (q := 57) (t := 60) (am_tab tk_X10_go 30 rfl) (by decide) rfl (fun h54 => ?_) (fun h54 => ?_)
              · refine am_iinc (q := 63) rfl (by omega) (by decide) (ls2 := [(3, am_i (((i : Int) + 1))), (2, am_i (sumN (feS σ) i)), (0, am_r 55), (1, am_i n)]) rfl (am_tab tk_X10_go 32 rfl) rfl ?_
                refine am_goto (t := 41) (am_tab tk_X10_go 33 rfl) (by decide) ?_
                have he : sumN (feS σ) (i + 1) = sumN (feS σ) i := by
                  show sumN (feS σ) i + fsD (itS i σ) = _
                  have := fsD_01 (itS i σ)
                  omega
                exact am_less (by intro q hq; simp only [List.mem_cons, List.not_mem_nil, or_false] at hq; rcases hq with rfl | rfl | rfl | rfl <;> simp [he]) (ih41 (i + 1) S2 (by omega) (by omega) hO2)
              · refine am_iinc (q := 60) rfl (by omega) (by decide) (ls2 := [(2, am_i (((sumN (feS σ) i) + 1))), (3, am_i ((i : Int))), (0, am_r 55), (1, am_i n)]) rfl (am_tab tk_X10_go 31 rfl) rfl ?_
                refine am_iinc (q := 63) rfl (by omega) (by decide) (ls2 := [(3, am_i (((i : Int) + 1))), (2, am_i (((sumN (feS σ) i) + 1))), (0, am_r 55), (1, am_i n)]) rfl (am_tab tk_X10_go 32 rfl) rfl ?_
                refine am_goto (t := 41) (am_tab tk_X10_go 33 rfl) (by decide) ?_
                have he : sumN (feS σ) (i + 1) = ((sumN (feS σ) i) + 1) := by
                  show sumN (feS σ) i + fsD (itS i σ) = _
                  have := fsD_01 (itS i σ)
                  omega
                exact am_less (by intro q hq; simp only [List.mem_cons, List.not_mem_nil, or_false] at hq; rcases hq with rfl | rfl | rfl | rfl <;> simp [he]) (ih41 (i + 1) S2 (by omega) (by omega) hO2)
        refine am_less (by intro q hq; simp only [List.mem_cons, List.not_mem_nil, or_false] at hq; rcases hq with rfl | rfl | rfl | rfl <;> simp [sumN]) (L41 (_ + 1) 0 (keH σ) (by exact Nat.lt_succ_self _) (by omega) ⟨frw.refl _ _, keH_cn σ, keH_GD hG⟩)
      · refine am_aload_n (q := 28) rfl (am_tab tk_X10_go 13 rfl) rfl ?_
        refine am_iconst (q := 29) (n := 2) (by decide) (am_tab tk_X10_go 14 rfl) rfl ?_
        refine am_callV0 (q := 32) (me2 := M_X10_refuses) (b := 55) (kb := 10) (nb := 108) (As := [am_i 2]) (rest := []) (out := [am_i ((-1))]) (c_X10_refuses σ hL 2 (by omega) hr) ⟨rfl, rfl⟩ (Ls_55 hL) (by decide) ⟨Or.inl km_X10_567, kc_X10_refuses, kn_X10, kd_X10_refuses, ⟨(Nat.le_of_ble_eq_true rfl), (Nat.le_of_ble_eq_true rfl)⟩, ⟨(Nat.le_of_ble_eq_true rfl), (Nat.le_of_ble_eq_true rfl)⟩, (Nat.le_of_ble_eq_true rfl)⟩ ki_X10_refuses ks_X10_refuses rfl rfl (am_tab tk_X10_go 15 rfl) rfl ?_
        refine am_iret (Or.inl rfl) (Nat.le_of_ble_eq_true rfl) (Nat.le_of_ble_eq_true rfl) (am_tab tk_X10_go 16 rfl) ?_
        refine hQ _ _ ?_
        refine Or.inr ⟨fun hx => ?_, rfl, rfl⟩
        first | exact absurd (by assumption) hx.1.1 | exact absurd hx.1.2 (by assumption) | exact absurd hx.2 (by omega)
