def W_see (a j : Nat) : Prop := (a = 1 ∧ j = 1) ∨ a = 51 ∨ a = 52 ∨ (a = 0 ∧ j = 11)
set_option maxRecDepth 100000 in
theorem c_isSight_3 (σ : am_H) (hC : CI 3 σ)  (hT : σ.2.1 1 1 = σ.2.1 55 1) (hTR : TPR σ) (hTb : ∀ j, σ.2.1 2 j = σ.2.1 56 j) : am_met M_X9_isSight [am_r 0] σ (fun r σ' => (seC σ ∧ r = some (am_i 1) ∧ σ' = σ) ∨ (¬ seC σ ∧ r = some (am_i 0) ∧ σ' = σ)) := by
  refine am_qq (fun Q hQ => ?_)
  refine am_enter (show plainFor yX9_isSight = true by decide +kernel) rfl (Nat.le_of_ble_eq_true rfl) (fun _ _ _ => trivial) ?_
  have hL := hC.G.L
  have hTr := hTR.1
  have hPP := hC.G.R.P
  have hm2 : Int.tmod (σ.2.1 55 1) 2 = σ.2.1 55 1 % 2 := Int.tmod_eq_emod_of_nonneg hTr.1
  refine am_aload_n (q := 1) rfl (am_tab tk_X9_isSight 0 rfl) rfl ?_
  refine am_getR (q := 4) (a := 0) (k := 9) (n := 17) (j := 0) (r := some (1)) (Ls_0 hL) (by decide) rfl (Lr_0_0 hL) (by decide) (Or.inl kf_X9_12) (am_tab tk_X9_isSight 1 rfl) rfl ?_
  refine am_getI (q := 7) (a := 1) (k := 6) (n := 2) (j := 1) (x := (σ.2.1 55 1)) (Ls_1 hL) (by decide) rfl hT (by decide) (Or.inr kf_X9_89) (am_tab tk_X9_isSight 2 rfl) rfl ?_
  refine am_iconst (q := 8) (n := 2) (by decide) (am_tab tk_X9_isSight 3 rfl) rfl ?_
  refine am_icmp_lt (q := 11) (t := 35) (am_tab tk_X9_isSight 4 rfl) (by decide) rfl (fun h8 => ?_) (fun h8 => ?_)
  · refine am_iconst (q := 36) (n := 0) (by decide) (am_tab tk_X9_isSight 16 rfl) rfl ?_
    refine am_iret (Or.inr ⟨rfl, by first | exact Or.inl rfl | exact Or.inr rfl | omega⟩) (Nat.le_of_ble_eq_true rfl) (Nat.le_of_ble_eq_true rfl) (am_tab tk_X9_isSight 17 rfl) ?_
    refine hQ _ _ ?_
    refine Or.inr ⟨fun h => ?_, rfl, rfl⟩
    have h9 := h.1
    omega
  · refine am_aload_n (q := 12) rfl (am_tab tk_X9_isSight 5 rfl) rfl ?_
    refine am_getR (q := 15) (a := 0) (k := 9) (n := 17) (j := 0) (r := some (1)) (Ls_0 hL) (by decide) rfl (Lr_0_0 hL) (by decide) (Or.inl kf_X9_12) (am_tab tk_X9_isSight 6 rfl) rfl ?_
    refine am_getI (q := 18) (a := 1) (k := 6) (n := 2) (j := 1) (x := (σ.2.1 55 1)) (Ls_1 hL) (by decide) rfl hT (by decide) (Or.inr kf_X9_89) (am_tab tk_X9_isSight 7 rfl) rfl ?_
    refine am_bipush (q := 20) (n := 16) (by decide) rfl (am_tab tk_X9_isSight 8 rfl) rfl ?_
    refine am_icmp_gt (q := 23) (t := 35) (am_tab tk_X9_isSight 9 rfl) (by decide) rfl (fun h20 => ?_) (fun h20 => ?_)
    · refine am_iconst (q := 36) (n := 0) (by decide) (am_tab tk_X9_isSight 16 rfl) rfl ?_
      refine am_iret (Or.inr ⟨rfl, by first | exact Or.inl rfl | exact Or.inr rfl | omega⟩) (Nat.le_of_ble_eq_true rfl) (Nat.le_of_ble_eq_true rfl) (am_tab tk_X9_isSight 17 rfl) ?_
      refine hQ _ _ ?_
      refine Or.inr ⟨fun h => ?_, rfl, rfl⟩
      have h9 := h.1
      omega
    · refine am_aload_n (q := 24) rfl (am_tab tk_X9_isSight 10 rfl) rfl ?_
      refine am_getR (q := 27) (a := 0) (k := 9) (n := 17) (j := 0) (r := some (1)) (Ls_0 hL) (by decide) rfl (Lr_0_0 hL) (by decide) (Or.inl kf_X9_12) (am_tab tk_X9_isSight 11 rfl) rfl ?_
      refine am_getI (q := 30) (a := 1) (k := 6) (n := 2) (j := 1) (x := (σ.2.1 55 1)) (Ls_1 hL) (by decide) rfl hT (by decide) (Or.inr kf_X9_89) (am_tab tk_X9_isSight 12 rfl) rfl ?_
      refine am_iconst (q := 31) (n := 2) (by decide) (am_tab tk_X9_isSight 13 rfl) rfl ?_
      refine am_irem (q := 32) (by omega) (by omega) (am_tab tk_X9_isSight 14 rfl) rfl ?_
      refine am_if_eq (q := 35) (t := 37) (am_tab tk_X9_isSight 15 rfl) (by decide) rfl (fun h32 => ?_) (fun h32 => ?_)
      · refine am_aload_n (q := 38) rfl (am_tab tk_X9_isSight 18 rfl) rfl ?_
        refine am_callVr (q := 41) (me2 := M_X9_living) (b := 0) (kb := 9) (nb := 17) (As := []) (rest := []) (c_living_3 σ hC) ⟨rfl, rfl⟩ (Ls_0 hL) (by decide) ⟨Or.inl km_X9_129, kc_X9_living, kn_X9, kd_X9_living, ⟨(Nat.le_of_ble_eq_true rfl), (Nat.le_of_ble_eq_true rfl)⟩, ⟨(Nat.le_of_ble_eq_true rfl), (Nat.le_of_ble_eq_true rfl)⟩, (Nat.le_of_ble_eq_true rfl)⟩ ki_X9_living ks_X9_living rfl (am_tab tk_X9_isSight 19 rfl) rfl ?_
        rintro r τ ⟨hr9, hτ⟩
        rw [liv_eq hC.G hC.F] at hr9
        rw [hr9, hτ]
        refine am_st (st2 := [am_i (lvM σ)]) rfl ?_
        refine am_istore_n (q := 42) (by decide) (ls2 := [(1, am_i (lvM σ)), (0, am_r 0)]) rfl (am_tab tk_X9_isSight 20 rfl) rfl ?_
        refine am_iconst (q := 43) (n := 0) (by decide) (am_tab tk_X9_isSight 21 rfl) rfl ?_
        refine am_istore_n (q := 44) (by decide) (ls2 := [(2, am_i 0), (1, am_i (lvM σ)), (0, am_r 0)]) rfl (am_tab tk_X9_isSight 22 rfl) rfl ?_
        have L44 : ∀ (n44 : Nat) (k : Nat), 8 - k < n44 → 2 * (k : Int) ≤ σ.2.1 55 1 → anyB (seB σ) k = false → am_wp M_X9_isSight Q 0 0 44 [(2, am_i ((2 * (k : Int)))), (1, am_i (lvM σ)), (0, am_r 0)] [] σ := by
          intro n44
          induction n44 with
          | zero => intro k hn44; exact absurd hn44 (Nat.not_lt_zero _)
          | succ n44 ih44 =>
            intro k hn44 hk hno
            refine am_iload_n (q := 45) rfl (am_tab tk_X9_isSight 23 rfl) rfl ?_
            refine am_iconst (q := 46) (n := 1) (by decide) (am_tab tk_X9_isSight 24 rfl) rfl ?_
            refine am_iadd (q := 47) (by omega) (am_tab tk_X9_isSight 25 rfl) rfl ?_
            refine am_aload_n (q := 48) rfl (am_tab tk_X9_isSight 26 rfl) rfl ?_
            refine am_getR (q := 51) (a := 0) (k := 9) (n := 17) (j := 0) (r := some (1)) (Ls_0 hL) (by decide) rfl (Lr_0_0 hL) (by decide) (Or.inl kf_X9_12) (am_tab tk_X9_isSight 27 rfl) rfl ?_
            refine am_getI (q := 54) (a := 1) (k := 6) (n := 2) (j := 1) (x := (σ.2.1 55 1)) (Ls_1 hL) (by decide) rfl hT (by decide) (Or.inr kf_X9_89) (am_tab tk_X9_isSight 28 rfl) rfl ?_
            refine am_icmp_ge (q := 57) (t := 106) (am_tab tk_X9_isSight 29 rfl) (by decide) rfl (fun h54 => ?_) (fun h54 => ?_)
            · refine am_iconst (q := 107) (n := 1) (by decide) (am_tab tk_X9_isSight 57 rfl) rfl ?_
              refine am_iret (Or.inr ⟨rfl, by first | exact Or.inl rfl | exact Or.inr rfl | omega⟩) (Nat.le_of_ble_eq_true rfl) (Nat.le_of_ble_eq_true rfl) (am_tab tk_X9_isSight 58 rfl) ?_
              refine hQ _ _ ?_
              refine Or.inl ⟨⟨⟨by omega, by omega, by omega⟩, ?_⟩, rfl, rfl⟩
              rw [show (σ.2.1 55 1 / 2).toNat = k by omega]
              exact hno
            · have hby := hTR.2 (2 * k) (by omega)
              have hby1 := hTR.2 (2 * k + 1) (by omega)
              refine am_aload_n (q := 58) rfl (am_tab tk_X9_isSight 30 rfl) rfl ?_
              refine am_getR (q := 61) (a := 0) (k := 9) (n := 17) (j := 0) (r := some (1)) (Ls_0 hL) (by decide) rfl (Lr_0_0 hL) (by decide) (Or.inl kf_X9_12) (am_tab tk_X9_isSight 31 rfl) rfl ?_
              refine am_getR (q := 64) (a := 1) (k := 6) (n := 2) (j := 0) (r := some (2)) (Ls_1 hL) (by decide) rfl (Lr_1_0 hL) (by decide) (Or.inr kf_X9_279) (am_tab tk_X9_isSight 32 rfl) rfl ?_
              refine am_iload_n (q := 65) rfl (am_tab tk_X9_isSight 33 rfl) rfl ?_
              refine am_iald (q := 66) (a := 2) (n := 1600) (x := (σ.2.1 56 (2 * k))) (Ls_2 hL) (by omega) (by omega) (by rw [show Int.toNat (2 * (k : Int)) = 2 * k by omega]; exact hTb _) (am_tab tk_X9_isSight 34 rfl) rfl ?_
              refine am_istore_n (q := 67) (by decide) (ls2 := [(3, am_i ((σ.2.1 56 (2 * k)))), (2, am_i ((2 * (k : Int)))), (1, am_i (lvM σ)), (0, am_r 0)]) rfl (am_tab tk_X9_isSight 35 rfl) rfl ?_
              refine am_aload_n (q := 68) rfl (am_tab tk_X9_isSight 36 rfl) rfl ?_
              refine am_iload_n (q := 69) rfl (am_tab tk_X9_isSight 37 rfl) rfl ?_
              refine am_callV0 (q := 72) (me2 := M_X9_isPerson) (b := 0) (kb := 9) (nb := 17) (As := [am_i ((σ.2.1 56 (2 * k)))]) (rest := []) (out := [am_i (if 0 ≤ (σ.2.1 56 (2 * k)) ∧ (σ.2.1 56 (2 * k)) < σ.2.1 85 5 then 1 else 0)]) (c_isPerson_3 σ hC (σ.2.1 56 (2 * k))) ⟨rfl, rfl⟩ (Ls_0 hL) (by decide) ⟨Or.inl km_X9_166, kc_X9_isPerson, kn_X9, kd_X9_isPerson, ⟨(Nat.le_of_ble_eq_true rfl), (Nat.le_of_ble_eq_true rfl)⟩, ⟨(Nat.le_of_ble_eq_true rfl), (Nat.le_of_ble_eq_true rfl)⟩, (Nat.le_of_ble_eq_true rfl)⟩ ki_X9_isPerson ks_X9_isPerson rfl rfl (am_tab tk_X9_isSight 38 rfl) rfl ?_
              refine am_if_eq (q := 75) (t := 98) (am_tab tk_X9_isSight 39 rfl) (by decide) rfl (fun h72 => ?_) (fun h72 => ?_)
              · replace h72 := b01z h72
                refine am_iconst (q := 99) (n := 0) (by decide) (am_tab tk_X9_isSight 53 rfl) rfl ?_
                refine am_iret (Or.inr ⟨rfl, by first | exact Or.inl rfl | exact Or.inr rfl | omega⟩) (Nat.le_of_ble_eq_true rfl) (Nat.le_of_ble_eq_true rfl) (am_tab tk_X9_isSight 54 rfl) ?_
                refine hQ _ _ ?_
                refine Or.inr ⟨fun h => ?_, rfl, rfl⟩
                have h9 := anyB_t (g := seB σ) (i := k) (by unfold seB; rw [decide_eq_true_eq]; intro hx; exact h72 (by omega)) (show k < (σ.2.1 55 1 / 2).toNat by omega)
                rw [h.2] at h9
                exact absurd h9 (by decide)
              · replace h72 := b01n h72
                have hlt : tb (lvM σ) (σ.2.1 56 (2 * k)) = 1 ↔ ((0 ≤ (σ.2.1 56 (2 * k)) ∧ (σ.2.1 56 (2 * k)) < σ.2.1 85 5) ∧ ¬ σ.2.1 96 (12 + (σ.2.1 56 (2 * k))).toNat = 1) := by
                  obtain ⟨q, hq⟩ := toN h72.1
                  have h9 := lv_tb hC.G (p := q) (by omega)
                  rw [hq, h9, show (12 + (q : Int)).toNat = 12 + q by omega]
                  by_cases h6 : σ.2.1 96 (12 + q) = 1
                  · rw [if_neg (fun z => z.2 h6)]; exact ⟨fun h => absurd h (by decide), fun h => absurd h6 h.2⟩
                  · rw [if_pos ⟨by unfold pN; omega, h6⟩]; exact ⟨fun _ => ⟨⟨by omega, by omega⟩, h6⟩, fun _ => rfl⟩
                have htv := tb_01 (lvM σ) (σ.2.1 56 (2 * k))
                refine am_iload_n (q := 76) rfl (am_tab tk_X9_isSight 40 rfl) rfl ?_
                refine am_iload_n (q := 77) rfl (am_tab tk_X9_isSight 41 rfl) rfl ?_
                refine am_callS0 (q := 80) (me2 := M_X9_bit) (As := [am_i (lvM σ), am_i ((σ.2.1 56 (2 * k)))]) (rest := []) (out := [am_i (tb (lvM σ) (σ.2.1 56 (2 * k)))]) (c_bit σ (lvM σ) (σ.2.1 56 (2 * k)) (lvM_rng hC.G.R) (by omega)) ⟨rfl, rfl⟩ ⟨Or.inl km_X9_185, kc_X9_bit, kn_X9, kd_X9_bit, ⟨(Nat.le_of_ble_eq_true rfl), (Nat.le_of_ble_eq_true rfl)⟩, ⟨(Nat.le_of_ble_eq_true rfl), (Nat.le_of_ble_eq_true rfl)⟩, (Nat.le_of_ble_eq_true rfl)⟩ ki_X9_bit rfl rfl (am_tab tk_X9_isSight 42 rfl) rfl ?_
                refine am_if_eq (q := 83) (t := 98) (am_tab tk_X9_isSight 43 rfl) (by decide) rfl (fun h80 => ?_) (fun h80 => ?_)
                · refine am_iconst (q := 99) (n := 0) (by decide) (am_tab tk_X9_isSight 53 rfl) rfl ?_
                  refine am_iret (Or.inr ⟨rfl, by first | exact Or.inl rfl | exact Or.inr rfl | omega⟩) (Nat.le_of_ble_eq_true rfl) (Nat.le_of_ble_eq_true rfl) (am_tab tk_X9_isSight 54 rfl) ?_
                  refine hQ _ _ ?_
                  refine Or.inr ⟨fun h => ?_, rfl, rfl⟩
                  have h9 := anyB_t (g := seB σ) (i := k) (by unfold seB; rw [decide_eq_true_eq]; intro hx; rw [show tb (lvM σ) (σ.2.1 56 (2 * k)) = 1 from hlt.mpr ⟨h72, hx.1.2⟩] at h80; exact absurd h80 (by decide)) (show k < (σ.2.1 55 1 / 2).toNat by omega)
                  rw [h.2] at h9
                  exact absurd h9 (by decide)
                · refine am_aload_n (q := 84) rfl (am_tab tk_X9_isSight 44 rfl) rfl ?_
                  refine am_getR (q := 87) (a := 0) (k := 9) (n := 17) (j := 0) (r := some (1)) (Ls_0 hL) (by decide) rfl (Lr_0_0 hL) (by decide) (Or.inl kf_X9_12) (am_tab tk_X9_isSight 45 rfl) rfl ?_
                  refine am_getR (q := 90) (a := 1) (k := 6) (n := 2) (j := 0) (r := some (2)) (Ls_1 hL) (by decide) rfl (Lr_1_0 hL) (by decide) (Or.inr kf_X9_279) (am_tab tk_X9_isSight 46 rfl) rfl ?_
                  refine am_iload_n (q := 91) rfl (am_tab tk_X9_isSight 47 rfl) rfl ?_
                  refine am_iconst (q := 92) (n := 1) (by decide) (am_tab tk_X9_isSight 48 rfl) rfl ?_
                  refine am_iadd (q := 93) (by omega) (am_tab tk_X9_isSight 49 rfl) rfl ?_
                  refine am_iald (q := 94) (a := 2) (n := 1600) (x := (σ.2.1 56 (2 * k + 1))) (Ls_2 hL) (by omega) (by omega) (by rw [show Int.toNat ((2 * (k : Int)) + 1) = 2 * k + 1 by omega]; exact hTb _) (am_tab tk_X9_isSight 50 rfl) rfl ?_
                  refine am_iconst (q := 95) (n := 1) (by decide) (am_tab tk_X9_isSight 51 rfl) rfl ?_
                  refine am_icmp_le (q := 98) (t := 100) (am_tab tk_X9_isSight 52 rfl) (by decide) rfl (fun h95 => ?_) (fun h95 => ?_)
                  · refine am_iinc (q := 103) rfl (by omega) (by decide) (ls2 := [(2, am_i (((2 * (k : Int)) + 2))), (3, am_i ((σ.2.1 56 (2 * k)))), (1, am_i (lvM σ)), (0, am_r 0)]) rfl (am_tab tk_X9_isSight 55 rfl) rfl ?_
                    refine am_goto (t := 44) (am_tab tk_X9_isSight 56 rfl) (by decide) ?_
                    exact am_less (by intro q hq; simp only [List.mem_cons, List.not_mem_nil, or_false] at hq; rcases hq with rfl | rfl | rfl <;> simp [Int.mul_add]) (ih44 (k + 1) (by omega) (by push_cast; omega) (anyB_f hno (by unfold seB; rw [decide_eq_false_iff_not, Classical.not_not]; exact ⟨⟨⟨h72.1, by omega⟩, (hlt.mp (by omega)).2⟩, by omega⟩)))
                  · refine am_iconst (q := 99) (n := 0) (by decide) (am_tab tk_X9_isSight 53 rfl) rfl ?_
                    refine am_iret (Or.inr ⟨rfl, by first | exact Or.inl rfl | exact Or.inr rfl | omega⟩) (Nat.le_of_ble_eq_true rfl) (Nat.le_of_ble_eq_true rfl) (am_tab tk_X9_isSight 54 rfl) ?_
                    refine hQ _ _ ?_
                    refine Or.inr ⟨fun h => ?_, rfl, rfl⟩
                    have h9 := anyB_t (g := seB σ) (i := k) (by unfold seB; rw [decide_eq_true_eq]; intro hx; have := hx.2; omega) (show k < (σ.2.1 55 1 / 2).toNat by omega)
                    rw [h.2] at h9
                    exact absurd h9 (by decide)
        refine am_less (by intro q hq; simp only [List.mem_cons, List.not_mem_nil, or_false] at hq; rcases hq with rfl | rfl | rfl <;> simp [Int.mul_add]) (L44 (_ + 1) 0 (by exact Nat.lt_succ_self _) (by omega) rfl)
      · refine am_iconst (q := 36) (n := 0) (by decide) (am_tab tk_X9_isSight 16 rfl) rfl ?_
        refine am_iret (Or.inr ⟨rfl, by first | exact Or.inl rfl | exact Or.inr rfl | omega⟩) (Nat.le_of_ble_eq_true rfl) (Nat.le_of_ble_eq_true rfl) (am_tab tk_X9_isSight 17 rfl) ?_
        refine hQ _ _ ?_
        refine Or.inr ⟨fun h => ?_, rfl, rfl⟩
        have h9 := h.1
        omega
set_option maxRecDepth 100000 in
theorem c_see_3 (σ : am_H) (hC : CI 3 σ)  (hT : σ.2.1 1 1 = σ.2.1 55 1) (hTR : TPR σ) (hTb : ∀ j, σ.2.1 2 j = σ.2.1 56 j) (hr : 0 ≤ σ.2.1 54 1 ∧ σ.2.1 54 1 ≤ 100000) : am_met M_X9_see [am_r 0] σ (fun r σ' => (seC σ ∧ r = some (am_i (σ.2.1 55 1 / 2)) ∧ σ'.2.1 1 1 = 0 ∧ σ'.2.1 0 11 = σ.2.1 55 1 / 2 ∧ (∀ k : Nat, (k : Int) < σ.2.1 55 1 / 2 → σ'.2.1 51 k = σ.2.1 56 (2 * k) ∧ σ'.2.1 52 k = σ.2.1 56 (2 * k + 1)) ∧ frw W_see σ σ') ∨ (¬ seC σ ∧ r = some (am_i (-1)) ∧ σ' = am_setN (am_setN σ 1 1 0) 54 1 (σ.2.1 54 1 + 1))) := by
  refine am_qq (fun Q hQ => ?_)
  refine am_enter (show plainFor yX9_see = true by decide +kernel) rfl (Nat.le_of_ble_eq_true rfl) (fun _ _ _ => trivial) ?_
  have hL := hC.G.L
  have hTr := hTR.1
  have hd2 : Int.tdiv (σ.2.1 55 1) 2 = σ.2.1 55 1 / 2 := Int.tdiv_eq_ediv_of_nonneg hTr.1
  by_cases se : seC σ
  · refine am_aload_n (q := 1) rfl (am_tab tk_X9_see 0 rfl) rfl ?_
    refine am_callVr (q := 4) (me2 := M_X9_isSight) (b := 0) (kb := 9) (nb := 17) (As := []) (rest := []) (c_isSight_3 σ hC hT hTR hTb) ⟨rfl, rfl⟩ (Ls_0 hL) (by decide) ⟨Or.inl km_X9_275, kc_X9_isSight, kn_X9, kd_X9_isSight, ⟨(Nat.le_of_ble_eq_true rfl), (Nat.le_of_ble_eq_true rfl)⟩, ⟨(Nat.le_of_ble_eq_true rfl), (Nat.le_of_ble_eq_true rfl)⟩, (Nat.le_of_ble_eq_true rfl)⟩ ki_X9_isSight ks_X9_isSight rfl (am_tab tk_X9_see 1 rfl) rfl ?_
    rintro r S hsi
    have hsi2 : r = some (am_i 1) ∧ S = σ := by
      rcases hsi with h | h
      · exact h.2
      · exact absurd se h.1
    obtain ⟨rfl, hSS⟩ := hsi2
    rw [hSS]
    refine am_st (st2 := [am_i 1]) rfl ?_
    refine am_istore_n (q := 5) (by decide) (ls2 := [(1, am_i 1), (0, am_r 0)]) rfl (am_tab tk_X9_see 2 rfl) rfl ?_
    refine am_aload_n (q := 6) rfl (am_tab tk_X9_see 3 rfl) rfl ?_
    refine am_getR (q := 9) (a := 0) (k := 9) (n := 17) (j := 0) (r := some (1)) (Ls_0 hL) (by decide) rfl (Lr_0_0 hL) (by decide) (Or.inl kf_X9_12) (am_tab tk_X9_see 4 rfl) rfl ?_
    refine am_getI (q := 12) (a := 1) (k := 6) (n := 2) (j := 1) (x := (σ.2.1 55 1)) (Ls_1 hL) (by decide) rfl hT (by decide) (Or.inr kf_X9_89) (am_tab tk_X9_see 5 rfl) rfl ?_
    refine am_iconst (q := 13) (n := 2) (by decide) (am_tab tk_X9_see 6 rfl) rfl ?_
    refine am_idiv (q := 14) (by omega) (by omega) (am_tab tk_X9_see 7 rfl) rfl ?_
    refine am_istore_n (q := 15) (by decide) (ls2 := [(2, am_i ((Int.tdiv (σ.2.1 55 1) 2))), (1, am_i 1), (0, am_r 0)]) rfl (am_tab tk_X9_see 8 rfl) rfl ?_
    refine am_aload_n (q := 16) rfl (am_tab tk_X9_see 9 rfl) rfl ?_
    refine am_getR (q := 19) (a := 0) (k := 9) (n := 17) (j := 0) (r := some (1)) (Ls_0 hL) (by decide) rfl (Lr_0_0 hL) (by decide) (Or.inl kf_X9_12) (am_tab tk_X9_see 10 rfl) rfl ?_
    refine am_iconst (q := 20) (n := 0) (by decide) (am_tab tk_X9_see 11 rfl) rfl ?_
    refine am_putI (q := 23) (k := 6) (n := 2) (j := 1) (Ls_1 hL) (by decide) rfl (by decide) (Or.inr (Or.inl ⟨kf_X9_89, rfl⟩)) (am_tab tk_X9_see 12 rfl) rfl ?_
    refine am_iload_n (q := 24) rfl (am_tab tk_X9_see 13 rfl) rfl ?_
    refine am_if_ne (q := 27) (t := 33) (am_tab tk_X9_see 14 rfl) (by decide) rfl (fun h24 => ?_) (fun h24 => ?_)
    · have hs1 := se.1
      refine am_iconst (q := 34) (n := 0) (by decide) (am_tab tk_X9_see 19 rfl) rfl ?_
      refine am_istore_n (q := 35) (by decide) (ls2 := [(3, am_i 0), (2, am_i ((Int.tdiv (σ.2.1 55 1) 2))), (1, am_i 1), (0, am_r 0)]) rfl (am_tab tk_X9_see 20 rfl) rfl ?_
      have L35 : ∀ (n35 : Nat) (k : Nat) (T : am_H), 8 - k < n35 → (k : Int) ≤ σ.2.1 55 1 / 2 → frw W_see σ T → T.2.1 1 1 = 0 → (∀ j : Nat, j < k → T.2.1 51 j = σ.2.1 56 (2 * j) ∧ T.2.1 52 j = σ.2.1 56 (2 * j + 1)) → am_wp M_X9_see Q 0 0 35 [(3, am_i ((k : Int))), (2, am_i ((Int.tdiv (σ.2.1 55 1) 2))), (1, am_i 1), (0, am_r 0)] [] T := by
        intro n35
        induction n35 with
        | zero => intro k T hn35; exact absurd hn35 (Nat.not_lt_zero _)
        | succ n35 ih35 =>
          intro k T hn35 hk hF h11 hcp
          refine am_iload_n (q := 36) rfl (am_tab tk_X9_see 21 rfl) rfl ?_
          refine am_iload_n (q := 37) rfl (am_tab tk_X9_see 22 rfl) rfl ?_
          refine am_icmp_ge (q := 40) (t := 88) (am_tab tk_X9_see 23 rfl) (by decide) rfl (fun h37 => ?_) (fun h37 => ?_)
          · refine am_aload_n (q := 89) rfl (am_tab tk_X9_see 53 rfl) rfl ?_
            refine am_iload_n (q := 90) rfl (am_tab tk_X9_see 54 rfl) rfl ?_
            refine am_putI (q := 93) (k := 9) (n := 17) (j := 11) (Ls_0 (hF.L hL)) (by decide) rfl (by decide) (Or.inl ⟨kf_X9_114, rfl⟩) (am_tab tk_X9_see 55 rfl) rfl ?_
            refine am_iload_n (q := 94) rfl (am_tab tk_X9_see 56 rfl) rfl ?_
            refine am_iret (Or.inl rfl) (Nat.le_of_ble_eq_true rfl) (Nat.le_of_ble_eq_true rfl) (am_tab tk_X9_see 57 rfl) ?_
            refine hQ _ _ ?_
            refine Or.inl ⟨se, congrArg (fun z => some (am_i z)) hd2, h11, hd2, fun j hj => hcp j (by omega), hF.setN (by unfold W_see; omega)⟩
          · refine am_iload_n (q := 41) rfl (am_tab tk_X9_see 24 rfl) rfl ?_
            refine am_bipush (q := 43) (n := 8) (by decide) rfl (am_tab tk_X9_see 25 rfl) rfl ?_
            refine am_icmp_ge (q := 46) (t := 88) (am_tab tk_X9_see 26 rfl) (by decide) rfl (fun h43 => ?_) (fun h43 => ?_)
            · exact absurd h43 (by omega)
            · refine am_aload_n (q := 47) rfl (am_tab tk_X9_see 27 rfl) rfl ?_
              refine am_getR (q := 50) (a := 0) (k := 9) (n := 17) (j := 9) (r := some (51)) (Ls_0 (hF.L hL)) (by decide) rfl (Lr_0_9 (hF.L hL)) (by decide) (Or.inl kf_X9_68) (am_tab tk_X9_see 28 rfl) rfl ?_
              refine am_iload_n (q := 51) rfl (am_tab tk_X9_see 29 rfl) rfl ?_
              refine am_aload_n (q := 52) rfl (am_tab tk_X9_see 30 rfl) rfl ?_
              refine am_getR (q := 55) (a := 0) (k := 9) (n := 17) (j := 0) (r := some (1)) (Ls_0 (hF.L hL)) (by decide) rfl (Lr_0_0 (hF.L hL)) (by decide) (Or.inl kf_X9_12) (am_tab tk_X9_see 31 rfl) rfl ?_
              refine am_getR (q := 58) (a := 1) (k := 6) (n := 2) (j := 0) (r := some (2)) (Ls_1 (hF.L hL)) (by decide) rfl (Lr_1_0 (hF.L hL)) (by decide) (Or.inr kf_X9_279) (am_tab tk_X9_see 32 rfl) rfl ?_
              refine am_iconst (q := 59) (n := 2) (by decide) (am_tab tk_X9_see 33 rfl) rfl ?_
              refine am_iload_n (q := 60) rfl (am_tab tk_X9_see 34 rfl) rfl ?_
              refine am_imul (q := 61) (by omega) (am_tab tk_X9_see 35 rfl) rfl ?_
              refine am_iald (q := 62) (a := 2) (n := 1600) (x := (σ.2.1 56 (2 * k))) (Ls_2 (hF.L hL)) (by omega) (by omega) (by rw [show Int.toNat (2 * (k : Int)) = 2 * k by omega]; exact (hF.2.2 2 _ (by unfold W_see; omega)).trans (hTb _)) (am_tab tk_X9_see 36 rfl) rfl ?_
              refine am_iast (q := 63) (a := 51) (n := 8) (Ls_51 (hF.L hL)) (by omega) (by omega) (am_tab tk_X9_see 37 rfl) rfl ?_
              refine am_aload_n (q := 64) rfl (am_tab tk_X9_see 38 rfl) rfl ?_
              refine am_getR (q := 67) (a := 0) (k := 9) (n := 17) (j := 10) (r := some (52)) (Ls_0 (hF.L hL)) (by decide) rfl (Lr_0_10 (hF.L hL)) (by decide) (Or.inl kf_X9_72) (am_tab tk_X9_see 39 rfl) rfl ?_
              refine am_iload_n (q := 68) rfl (am_tab tk_X9_see 40 rfl) rfl ?_
              refine am_aload_n (q := 69) rfl (am_tab tk_X9_see 41 rfl) rfl ?_
              refine am_getR (q := 72) (a := 0) (k := 9) (n := 17) (j := 0) (r := some (1)) (Ls_0 (hF.L hL)) (by decide) rfl (Lr_0_0 (hF.L hL)) (by decide) (Or.inl kf_X9_12) (am_tab tk_X9_see 42 rfl) rfl ?_
              refine am_getR (q := 75) (a := 1) (k := 6) (n := 2) (j := 0) (r := some (2)) (Ls_1 (hF.L hL)) (by decide) rfl (Lr_1_0 (hF.L hL)) (by decide) (Or.inr kf_X9_279) (am_tab tk_X9_see 43 rfl) rfl ?_
              refine am_iconst (q := 76) (n := 2) (by decide) (am_tab tk_X9_see 44 rfl) rfl ?_
              refine am_iload_n (q := 77) rfl (am_tab tk_X9_see 45 rfl) rfl ?_
              refine am_imul (q := 78) (by omega) (am_tab tk_X9_see 46 rfl) rfl ?_
              refine am_iconst (q := 79) (n := 1) (by decide) (am_tab tk_X9_see 47 rfl) rfl ?_
              refine am_iadd (q := 80) (by omega) (am_tab tk_X9_see 48 rfl) rfl ?_
              refine am_iald (q := 81) (a := 2) (n := 1600) (x := (σ.2.1 56 (2 * k + 1))) (Ls_2 (hF.L hL)) (by omega) (by omega) (by rw [show Int.toNat ((2 * (k : Int)) + 1) = 2 * k + 1 by omega]; exact (hF.2.2 2 _ (by unfold W_see; omega)).trans (hTb _)) (am_tab tk_X9_see 49 rfl) rfl ?_
              refine am_iast (q := 82) (a := 52) (n := 8) (Ls_52 (hF.L hL)) (by omega) (by omega) (am_tab tk_X9_see 50 rfl) rfl ?_
              refine am_iinc (q := 85) rfl (by omega) (by decide) (ls2 := [(3, am_i (((k : Int) + 1))), (2, am_i ((Int.tdiv (σ.2.1 55 1) 2))), (1, am_i 1), (0, am_r 0)]) rfl (am_tab tk_X9_see 51 rfl) rfl ?_
              refine am_goto (t := 35) (am_tab tk_X9_see 52 rfl) (by decide) ?_
              exact am_less (by intro q hq; simp only [List.mem_cons, List.not_mem_nil, or_false] at hq; rcases hq with rfl | rfl | rfl | rfl <;> simp) (ih35 (k + 1) (am_setN (am_setN T 51 (Int.toNat (k : Int)) (σ.2.1 56 (2 * k))) 52 (Int.toNat (k : Int)) (σ.2.1 56 (2 * k + 1))) (by omega) (by omega) ((hF.setN (by unfold W_see; omega)).setN (by unfold W_see; omega)) h11 (fun j hj => by constructor; (show (if 51 = 51 ∧ j = Int.toNat (k : Int) then σ.2.1 56 (2 * k) else T.2.1 51 j) = _; by_cases g : j = k; (rw [if_pos ⟨rfl, by omega⟩, g]); (rw [if_neg (fun z => g (by omega))]; exact (hcp j (by omega)).1)); (show (if 52 = 52 ∧ j = Int.toNat (k : Int) then σ.2.1 56 (2 * k + 1) else T.2.1 52 j) = _; by_cases g : j = k; (rw [if_pos ⟨rfl, by omega⟩, g]); (rw [if_neg (fun z => g (by omega))]; exact (hcp j (by omega)).2))))
      refine am_less (by intro q hq; simp only [List.mem_cons, List.not_mem_nil, or_false] at hq; rcases hq with rfl | rfl | rfl | rfl <;> simp) (L35 (_ + 1) 0 (am_setN σ 1 1 0) (by exact Nat.lt_succ_self _) (by omega) ((frw.refl _ σ).setN (by unfold W_see; omega)) rfl (fun j hj => absurd hj (Nat.not_lt_zero j)))
    · exact absurd h24 (by decide)
  · refine am_aload_n (q := 1) rfl (am_tab tk_X9_see 0 rfl) rfl ?_
    refine am_callVr (q := 4) (me2 := M_X9_isSight) (b := 0) (kb := 9) (nb := 17) (As := []) (rest := []) (c_isSight_3 σ hC hT hTR hTb) ⟨rfl, rfl⟩ (Ls_0 hL) (by decide) ⟨Or.inl km_X9_275, kc_X9_isSight, kn_X9, kd_X9_isSight, ⟨(Nat.le_of_ble_eq_true rfl), (Nat.le_of_ble_eq_true rfl)⟩, ⟨(Nat.le_of_ble_eq_true rfl), (Nat.le_of_ble_eq_true rfl)⟩, (Nat.le_of_ble_eq_true rfl)⟩ ki_X9_isSight ks_X9_isSight rfl (am_tab tk_X9_see 1 rfl) rfl ?_
    rintro r S hsi
    have hsi2 : r = some (am_i 0) ∧ S = σ := by
      rcases hsi with h | h
      · exact absurd h.1 se
      · exact h.2
    obtain ⟨rfl, hSS⟩ := hsi2
    rw [hSS]
    refine am_st (st2 := [am_i 0]) rfl ?_
    refine am_istore_n (q := 5) (by decide) (ls2 := [(1, am_i 0), (0, am_r 0)]) rfl (am_tab tk_X9_see 2 rfl) rfl ?_
    refine am_aload_n (q := 6) rfl (am_tab tk_X9_see 3 rfl) rfl ?_
    refine am_getR (q := 9) (a := 0) (k := 9) (n := 17) (j := 0) (r := some (1)) (Ls_0 hL) (by decide) rfl (Lr_0_0 hL) (by decide) (Or.inl kf_X9_12) (am_tab tk_X9_see 4 rfl) rfl ?_
    refine am_getI (q := 12) (a := 1) (k := 6) (n := 2) (j := 1) (x := (σ.2.1 55 1)) (Ls_1 hL) (by decide) rfl hT (by decide) (Or.inr kf_X9_89) (am_tab tk_X9_see 5 rfl) rfl ?_
    refine am_iconst (q := 13) (n := 2) (by decide) (am_tab tk_X9_see 6 rfl) rfl ?_
    refine am_idiv (q := 14) (by omega) (by omega) (am_tab tk_X9_see 7 rfl) rfl ?_
    refine am_istore_n (q := 15) (by decide) (ls2 := [(2, am_i ((Int.tdiv (σ.2.1 55 1) 2))), (1, am_i 0), (0, am_r 0)]) rfl (am_tab tk_X9_see 8 rfl) rfl ?_
    refine am_aload_n (q := 16) rfl (am_tab tk_X9_see 9 rfl) rfl ?_
    refine am_getR (q := 19) (a := 0) (k := 9) (n := 17) (j := 0) (r := some (1)) (Ls_0 hL) (by decide) rfl (Lr_0_0 hL) (by decide) (Or.inl kf_X9_12) (am_tab tk_X9_see 10 rfl) rfl ?_
    refine am_iconst (q := 20) (n := 0) (by decide) (am_tab tk_X9_see 11 rfl) rfl ?_
    refine am_putI (q := 23) (k := 6) (n := 2) (j := 1) (Ls_1 hL) (by decide) rfl (by decide) (Or.inr (Or.inl ⟨kf_X9_89, rfl⟩)) (am_tab tk_X9_see 12 rfl) rfl ?_
    refine am_iload_n (q := 24) rfl (am_tab tk_X9_see 13 rfl) rfl ?_
    refine am_if_ne (q := 27) (t := 33) (am_tab tk_X9_see 14 rfl) (by decide) rfl (fun h24 => ?_) (fun h24 => ?_)
    · exact absurd h24 (by decide)
    · refine am_aload_n (q := 28) rfl (am_tab tk_X9_see 15 rfl) rfl ?_
      refine am_iconst (q := 29) (n := 1) (by decide) (am_tab tk_X9_see 16 rfl) rfl ?_
      refine am_callV0 (q := 32) (me2 := M_X9_refuse) (b := 0) (kb := 9) (nb := 17) (As := [am_i 1]) (rest := []) (out := [am_i ((-1))]) (c_refuse (am_setN σ 1 1 0) hL 1 (by decide) hr) ⟨rfl, rfl⟩ (Ls_0 hL) (by decide) ⟨Or.inl km_X9_92, kc_X9_refuse, kn_X9, kd_X9_refuse, ⟨(Nat.le_of_ble_eq_true rfl), (Nat.le_of_ble_eq_true rfl)⟩, ⟨(Nat.le_of_ble_eq_true rfl), (Nat.le_of_ble_eq_true rfl)⟩, (Nat.le_of_ble_eq_true rfl)⟩ ki_X9_refuse ks_X9_refuse rfl rfl (am_tab tk_X9_see 17 rfl) rfl ?_
      refine am_iret (Or.inl rfl) (Nat.le_of_ble_eq_true rfl) (Nat.le_of_ble_eq_true rfl) (am_tab tk_X9_see 18 rfl) ?_
      refine hQ _ _ ?_
      exact Or.inr ⟨se, rfl, rfl⟩
set_option maxRecDepth 100000 in
theorem c_isSight_15 (σ : am_H) (hC : CI 15 σ)  (hT : σ.2.1 1 1 = σ.2.1 55 1) (hTR : TPR σ) (hTb : ∀ j, σ.2.1 2 j = σ.2.1 56 j) : am_met M_X9_isSight [am_r 0] σ (fun r σ' => (seC σ ∧ r = some (am_i 1) ∧ σ' = σ) ∨ (¬ seC σ ∧ r = some (am_i 0) ∧ σ' = σ)) := by
  refine am_qq (fun Q hQ => ?_)
  refine am_enter (show plainFor yX9_isSight = true by decide +kernel) rfl (Nat.le_of_ble_eq_true rfl) (fun _ _ _ => trivial) ?_
  have hL := hC.G.L
  have hTr := hTR.1
  have hPP := hC.G.R.P
  have hm2 : Int.tmod (σ.2.1 55 1) 2 = σ.2.1 55 1 % 2 := Int.tmod_eq_emod_of_nonneg hTr.1
  refine am_aload_n (q := 1) rfl (am_tab tk_X9_isSight 0 rfl) rfl ?_
  refine am_getR (q := 4) (a := 0) (k := 9) (n := 17) (j := 0) (r := some (1)) (Ls_0 hL) (by decide) rfl (Lr_0_0 hL) (by decide) (Or.inl kf_X9_12) (am_tab tk_X9_isSight 1 rfl) rfl ?_
  refine am_getI (q := 7) (a := 1) (k := 6) (n := 2) (j := 1) (x := (σ.2.1 55 1)) (Ls_1 hL) (by decide) rfl hT (by decide) (Or.inr kf_X9_89) (am_tab tk_X9_isSight 2 rfl) rfl ?_
  refine am_iconst (q := 8) (n := 2) (by decide) (am_tab tk_X9_isSight 3 rfl) rfl ?_
  refine am_icmp_lt (q := 11) (t := 35) (am_tab tk_X9_isSight 4 rfl) (by decide) rfl (fun h8 => ?_) (fun h8 => ?_)
  · refine am_iconst (q := 36) (n := 0) (by decide) (am_tab tk_X9_isSight 16 rfl) rfl ?_
    refine am_iret (Or.inr ⟨rfl, by first | exact Or.inl rfl | exact Or.inr rfl | omega⟩) (Nat.le_of_ble_eq_true rfl) (Nat.le_of_ble_eq_true rfl) (am_tab tk_X9_isSight 17 rfl) ?_
    refine hQ _ _ ?_
    refine Or.inr ⟨fun h => ?_, rfl, rfl⟩
    have h9 := h.1
    omega
  · refine am_aload_n (q := 12) rfl (am_tab tk_X9_isSight 5 rfl) rfl ?_
    refine am_getR (q := 15) (a := 0) (k := 9) (n := 17) (j := 0) (r := some (1)) (Ls_0 hL) (by decide) rfl (Lr_0_0 hL) (by decide) (Or.inl kf_X9_12) (am_tab tk_X9_isSight 6 rfl) rfl ?_
    refine am_getI (q := 18) (a := 1) (k := 6) (n := 2) (j := 1) (x := (σ.2.1 55 1)) (Ls_1 hL) (by decide) rfl hT (by decide) (Or.inr kf_X9_89) (am_tab tk_X9_isSight 7 rfl) rfl ?_
    refine am_bipush (q := 20) (n := 16) (by decide) rfl (am_tab tk_X9_isSight 8 rfl) rfl ?_
    refine am_icmp_gt (q := 23) (t := 35) (am_tab tk_X9_isSight 9 rfl) (by decide) rfl (fun h20 => ?_) (fun h20 => ?_)
    · refine am_iconst (q := 36) (n := 0) (by decide) (am_tab tk_X9_isSight 16 rfl) rfl ?_
      refine am_iret (Or.inr ⟨rfl, by first | exact Or.inl rfl | exact Or.inr rfl | omega⟩) (Nat.le_of_ble_eq_true rfl) (Nat.le_of_ble_eq_true rfl) (am_tab tk_X9_isSight 17 rfl) ?_
      refine hQ _ _ ?_
      refine Or.inr ⟨fun h => ?_, rfl, rfl⟩
      have h9 := h.1
      omega
    · refine am_aload_n (q := 24) rfl (am_tab tk_X9_isSight 10 rfl) rfl ?_
      refine am_getR (q := 27) (a := 0) (k := 9) (n := 17) (j := 0) (r := some (1)) (Ls_0 hL) (by decide) rfl (Lr_0_0 hL) (by decide) (Or.inl kf_X9_12) (am_tab tk_X9_isSight 11 rfl) rfl ?_
      refine am_getI (q := 30) (a := 1) (k := 6) (n := 2) (j := 1) (x := (σ.2.1 55 1)) (Ls_1 hL) (by decide) rfl hT (by decide) (Or.inr kf_X9_89) (am_tab tk_X9_isSight 12 rfl) rfl ?_
      refine am_iconst (q := 31) (n := 2) (by decide) (am_tab tk_X9_isSight 13 rfl) rfl ?_
      refine am_irem (q := 32) (by omega) (by omega) (am_tab tk_X9_isSight 14 rfl) rfl ?_
      refine am_if_eq (q := 35) (t := 37) (am_tab tk_X9_isSight 15 rfl) (by decide) rfl (fun h32 => ?_) (fun h32 => ?_)
      · refine am_aload_n (q := 38) rfl (am_tab tk_X9_isSight 18 rfl) rfl ?_
        refine am_callVr (q := 41) (me2 := M_X9_living) (b := 0) (kb := 9) (nb := 17) (As := []) (rest := []) (c_living_15 σ hC) ⟨rfl, rfl⟩ (Ls_0 hL) (by decide) ⟨Or.inl km_X9_129, kc_X9_living, kn_X9, kd_X9_living, ⟨(Nat.le_of_ble_eq_true rfl), (Nat.le_of_ble_eq_true rfl)⟩, ⟨(Nat.le_of_ble_eq_true rfl), (Nat.le_of_ble_eq_true rfl)⟩, (Nat.le_of_ble_eq_true rfl)⟩ ki_X9_living ks_X9_living rfl (am_tab tk_X9_isSight 19 rfl) rfl ?_
        rintro r τ ⟨hr9, hτ⟩
        rw [liv_eq hC.G hC.F] at hr9
        rw [hr9, hτ]
        refine am_st (st2 := [am_i (lvM σ)]) rfl ?_
        refine am_istore_n (q := 42) (by decide) (ls2 := [(1, am_i (lvM σ)), (0, am_r 0)]) rfl (am_tab tk_X9_isSight 20 rfl) rfl ?_
        refine am_iconst (q := 43) (n := 0) (by decide) (am_tab tk_X9_isSight 21 rfl) rfl ?_
        refine am_istore_n (q := 44) (by decide) (ls2 := [(2, am_i 0), (1, am_i (lvM σ)), (0, am_r 0)]) rfl (am_tab tk_X9_isSight 22 rfl) rfl ?_
        have L44 : ∀ (n44 : Nat) (k : Nat), 8 - k < n44 → 2 * (k : Int) ≤ σ.2.1 55 1 → anyB (seB σ) k = false → am_wp M_X9_isSight Q 0 0 44 [(2, am_i ((2 * (k : Int)))), (1, am_i (lvM σ)), (0, am_r 0)] [] σ := by
          intro n44
          induction n44 with
          | zero => intro k hn44; exact absurd hn44 (Nat.not_lt_zero _)
          | succ n44 ih44 =>
            intro k hn44 hk hno
            refine am_iload_n (q := 45) rfl (am_tab tk_X9_isSight 23 rfl) rfl ?_
            refine am_iconst (q := 46) (n := 1) (by decide) (am_tab tk_X9_isSight 24 rfl) rfl ?_
            refine am_iadd (q := 47) (by omega) (am_tab tk_X9_isSight 25 rfl) rfl ?_
            refine am_aload_n (q := 48) rfl (am_tab tk_X9_isSight 26 rfl) rfl ?_
            refine am_getR (q := 51) (a := 0) (k := 9) (n := 17) (j := 0) (r := some (1)) (Ls_0 hL) (by decide) rfl (Lr_0_0 hL) (by decide) (Or.inl kf_X9_12) (am_tab tk_X9_isSight 27 rfl) rfl ?_
            refine am_getI (q := 54) (a := 1) (k := 6) (n := 2) (j := 1) (x := (σ.2.1 55 1)) (Ls_1 hL) (by decide) rfl hT (by decide) (Or.inr kf_X9_89) (am_tab tk_X9_isSight 28 rfl) rfl ?_
            refine am_icmp_ge (q := 57) (t := 106) (am_tab tk_X9_isSight 29 rfl) (by decide) rfl (fun h54 => ?_) (fun h54 => ?_)
            · refine am_iconst (q := 107) (n := 1) (by decide) (am_tab tk_X9_isSight 57 rfl) rfl ?_
              refine am_iret (Or.inr ⟨rfl, by first | exact Or.inl rfl | exact Or.inr rfl | omega⟩) (Nat.le_of_ble_eq_true rfl) (Nat.le_of_ble_eq_true rfl) (am_tab tk_X9_isSight 58 rfl) ?_
              refine hQ _ _ ?_
              refine Or.inl ⟨⟨⟨by omega, by omega, by omega⟩, ?_⟩, rfl, rfl⟩
              rw [show (σ.2.1 55 1 / 2).toNat = k by omega]
              exact hno
            · have hby := hTR.2 (2 * k) (by omega)
              have hby1 := hTR.2 (2 * k + 1) (by omega)
              refine am_aload_n (q := 58) rfl (am_tab tk_X9_isSight 30 rfl) rfl ?_
              refine am_getR (q := 61) (a := 0) (k := 9) (n := 17) (j := 0) (r := some (1)) (Ls_0 hL) (by decide) rfl (Lr_0_0 hL) (by decide) (Or.inl kf_X9_12) (am_tab tk_X9_isSight 31 rfl) rfl ?_
              refine am_getR (q := 64) (a := 1) (k := 6) (n := 2) (j := 0) (r := some (2)) (Ls_1 hL) (by decide) rfl (Lr_1_0 hL) (by decide) (Or.inr kf_X9_279) (am_tab tk_X9_isSight 32 rfl) rfl ?_
              refine am_iload_n (q := 65) rfl (am_tab tk_X9_isSight 33 rfl) rfl ?_
              refine am_iald (q := 66) (a := 2) (n := 1600) (x := (σ.2.1 56 (2 * k))) (Ls_2 hL) (by omega) (by omega) (by rw [show Int.toNat (2 * (k : Int)) = 2 * k by omega]; exact hTb _) (am_tab tk_X9_isSight 34 rfl) rfl ?_
              refine am_istore_n (q := 67) (by decide) (ls2 := [(3, am_i ((σ.2.1 56 (2 * k)))), (2, am_i ((2 * (k : Int)))), (1, am_i (lvM σ)), (0, am_r 0)]) rfl (am_tab tk_X9_isSight 35 rfl) rfl ?_
              refine am_aload_n (q := 68) rfl (am_tab tk_X9_isSight 36 rfl) rfl ?_
              refine am_iload_n (q := 69) rfl (am_tab tk_X9_isSight 37 rfl) rfl ?_
              refine am_callV0 (q := 72) (me2 := M_X9_isPerson) (b := 0) (kb := 9) (nb := 17) (As := [am_i ((σ.2.1 56 (2 * k)))]) (rest := []) (out := [am_i (if 0 ≤ (σ.2.1 56 (2 * k)) ∧ (σ.2.1 56 (2 * k)) < σ.2.1 85 5 then 1 else 0)]) (c_isPerson_15 σ hC (σ.2.1 56 (2 * k))) ⟨rfl, rfl⟩ (Ls_0 hL) (by decide) ⟨Or.inl km_X9_166, kc_X9_isPerson, kn_X9, kd_X9_isPerson, ⟨(Nat.le_of_ble_eq_true rfl), (Nat.le_of_ble_eq_true rfl)⟩, ⟨(Nat.le_of_ble_eq_true rfl), (Nat.le_of_ble_eq_true rfl)⟩, (Nat.le_of_ble_eq_true rfl)⟩ ki_X9_isPerson ks_X9_isPerson rfl rfl (am_tab tk_X9_isSight 38 rfl) rfl ?_
              refine am_if_eq (q := 75) (t := 98) (am_tab tk_X9_isSight 39 rfl) (by decide) rfl (fun h72 => ?_) (fun h72 => ?_)
              · replace h72 := b01z h72
                refine am_iconst (q := 99) (n := 0) (by decide) (am_tab tk_X9_isSight 53 rfl) rfl ?_
                refine am_iret (Or.inr ⟨rfl, by first | exact Or.inl rfl | exact Or.inr rfl | omega⟩) (Nat.le_of_ble_eq_true rfl) (Nat.le_of_ble_eq_true rfl) (am_tab tk_X9_isSight 54 rfl) ?_
                refine hQ _ _ ?_
                refine Or.inr ⟨fun h => ?_, rfl, rfl⟩
                have h9 := anyB_t (g := seB σ) (i := k) (by unfold seB; rw [decide_eq_true_eq]; intro hx; exact h72 (by omega)) (show k < (σ.2.1 55 1 / 2).toNat by omega)
                rw [h.2] at h9
                exact absurd h9 (by decide)
              · replace h72 := b01n h72
                have hlt : tb (lvM σ) (σ.2.1 56 (2 * k)) = 1 ↔ ((0 ≤ (σ.2.1 56 (2 * k)) ∧ (σ.2.1 56 (2 * k)) < σ.2.1 85 5) ∧ ¬ σ.2.1 96 (12 + (σ.2.1 56 (2 * k))).toNat = 1) := by
                  obtain ⟨q, hq⟩ := toN h72.1
                  have h9 := lv_tb hC.G (p := q) (by omega)
                  rw [hq, h9, show (12 + (q : Int)).toNat = 12 + q by omega]
                  by_cases h6 : σ.2.1 96 (12 + q) = 1
                  · rw [if_neg (fun z => z.2 h6)]; exact ⟨fun h => absurd h (by decide), fun h => absurd h6 h.2⟩
                  · rw [if_pos ⟨by unfold pN; omega, h6⟩]; exact ⟨fun _ => ⟨⟨by omega, by omega⟩, h6⟩, fun _ => rfl⟩
                have htv := tb_01 (lvM σ) (σ.2.1 56 (2 * k))
                refine am_iload_n (q := 76) rfl (am_tab tk_X9_isSight 40 rfl) rfl ?_
                refine am_iload_n (q := 77) rfl (am_tab tk_X9_isSight 41 rfl) rfl ?_
                refine am_callS0 (q := 80) (me2 := M_X9_bit) (As := [am_i (lvM σ), am_i ((σ.2.1 56 (2 * k)))]) (rest := []) (out := [am_i (tb (lvM σ) (σ.2.1 56 (2 * k)))]) (c_bit σ (lvM σ) (σ.2.1 56 (2 * k)) (lvM_rng hC.G.R) (by omega)) ⟨rfl, rfl⟩ ⟨Or.inl km_X9_185, kc_X9_bit, kn_X9, kd_X9_bit, ⟨(Nat.le_of_ble_eq_true rfl), (Nat.le_of_ble_eq_true rfl)⟩, ⟨(Nat.le_of_ble_eq_true rfl), (Nat.le_of_ble_eq_true rfl)⟩, (Nat.le_of_ble_eq_true rfl)⟩ ki_X9_bit rfl rfl (am_tab tk_X9_isSight 42 rfl) rfl ?_
                refine am_if_eq (q := 83) (t := 98) (am_tab tk_X9_isSight 43 rfl) (by decide) rfl (fun h80 => ?_) (fun h80 => ?_)
                · refine am_iconst (q := 99) (n := 0) (by decide) (am_tab tk_X9_isSight 53 rfl) rfl ?_
                  refine am_iret (Or.inr ⟨rfl, by first | exact Or.inl rfl | exact Or.inr rfl | omega⟩) (Nat.le_of_ble_eq_true rfl) (Nat.le_of_ble_eq_true rfl) (am_tab tk_X9_isSight 54 rfl) ?_
                  refine hQ _ _ ?_
                  refine Or.inr ⟨fun h => ?_, rfl, rfl⟩
                  have h9 := anyB_t (g := seB σ) (i := k) (by unfold seB; rw [decide_eq_true_eq]; intro hx; rw [show tb (lvM σ) (σ.2.1 56 (2 * k)) = 1 from hlt.mpr ⟨h72, hx.1.2⟩] at h80; exact absurd h80 (by decide)) (show k < (σ.2.1 55 1 / 2).toNat by omega)
                  rw [h.2] at h9
                  exact absurd h9 (by decide)
                · refine am_aload_n (q := 84) rfl (am_tab tk_X9_isSight 44 rfl) rfl ?_
                  refine am_getR (q := 87) (a := 0) (k := 9) (n := 17) (j := 0) (r := some (1)) (Ls_0 hL) (by decide) rfl (Lr_0_0 hL) (by decide) (Or.inl kf_X9_12) (am_tab tk_X9_isSight 45 rfl) rfl ?_
                  refine am_getR (q := 90) (a := 1) (k := 6) (n := 2) (j := 0) (r := some (2)) (Ls_1 hL) (by decide) rfl (Lr_1_0 hL) (by decide) (Or.inr kf_X9_279) (am_tab tk_X9_isSight 46 rfl) rfl ?_
                  refine am_iload_n (q := 91) rfl (am_tab tk_X9_isSight 47 rfl) rfl ?_
                  refine am_iconst (q := 92) (n := 1) (by decide) (am_tab tk_X9_isSight 48 rfl) rfl ?_
                  refine am_iadd (q := 93) (by omega) (am_tab tk_X9_isSight 49 rfl) rfl ?_
                  refine am_iald (q := 94) (a := 2) (n := 1600) (x := (σ.2.1 56 (2 * k + 1))) (Ls_2 hL) (by omega) (by omega) (by rw [show Int.toNat ((2 * (k : Int)) + 1) = 2 * k + 1 by omega]; exact hTb _) (am_tab tk_X9_isSight 50 rfl) rfl ?_
                  refine am_iconst (q := 95) (n := 1) (by decide) (am_tab tk_X9_isSight 51 rfl) rfl ?_
                  refine am_icmp_le (q := 98) (t := 100) (am_tab tk_X9_isSight 52 rfl) (by decide) rfl (fun h95 => ?_) (fun h95 => ?_)
                  · refine am_iinc (q := 103) rfl (by omega) (by decide) (ls2 := [(2, am_i (((2 * (k : Int)) + 2))), (3, am_i ((σ.2.1 56 (2 * k)))), (1, am_i (lvM σ)), (0, am_r 0)]) rfl (am_tab tk_X9_isSight 55 rfl) rfl ?_
                    refine am_goto (t := 44) (am_tab tk_X9_isSight 56 rfl) (by decide) ?_
                    exact am_less (by intro q hq; simp only [List.mem_cons, List.not_mem_nil, or_false] at hq; rcases hq with rfl | rfl | rfl <;> simp [Int.mul_add]) (ih44 (k + 1) (by omega) (by push_cast; omega) (anyB_f hno (by unfold seB; rw [decide_eq_false_iff_not, Classical.not_not]; exact ⟨⟨⟨h72.1, by omega⟩, (hlt.mp (by omega)).2⟩, by omega⟩)))
                  · refine am_iconst (q := 99) (n := 0) (by decide) (am_tab tk_X9_isSight 53 rfl) rfl ?_
                    refine am_iret (Or.inr ⟨rfl, by first | exact Or.inl rfl | exact Or.inr rfl | omega⟩) (Nat.le_of_ble_eq_true rfl) (Nat.le_of_ble_eq_true rfl) (am_tab tk_X9_isSight 54 rfl) ?_
                    refine hQ _ _ ?_
                    refine Or.inr ⟨fun h => ?_, rfl, rfl⟩
                    have h9 := anyB_t (g := seB σ) (i := k) (by unfold seB; rw [decide_eq_true_eq]; intro hx; have := hx.2; omega) (show k < (σ.2.1 55 1 / 2).toNat by omega)
                    rw [h.2] at h9
                    exact absurd h9 (by decide)
        refine am_less (by intro q hq; simp only [List.mem_cons, List.not_mem_nil, or_false] at hq; rcases hq with rfl | rfl | rfl <;> simp [Int.mul_add]) (L44 (_ + 1) 0 (by exact Nat.lt_succ_self _) (by omega) rfl)
      · refine am_iconst (q := 36) (n := 0) (by decide) (am_tab tk_X9_isSight 16 rfl) rfl ?_
        refine am_iret (Or.inr ⟨rfl, by first | exact Or.inl rfl | exact Or.inr rfl | omega⟩) (Nat.le_of_ble_eq_true rfl) (Nat.le_of_ble_eq_true rfl) (am_tab tk_X9_isSight 17 rfl) ?_
        refine hQ _ _ ?_
        refine Or.inr ⟨fun h => ?_, rfl, rfl⟩
        have h9 := h.1
        omega
set_option maxRecDepth 100000 in
theorem c_see_15 (σ : am_H) (hC : CI 15 σ)  (hT : σ.2.1 1 1 = σ.2.1 55 1) (hTR : TPR σ) (hTb : ∀ j, σ.2.1 2 j = σ.2.1 56 j) (hr : 0 ≤ σ.2.1 54 1 ∧ σ.2.1 54 1 ≤ 100000) : am_met M_X9_see [am_r 0] σ (fun r σ' => (seC σ ∧ r = some (am_i (σ.2.1 55 1 / 2)) ∧ σ'.2.1 1 1 = 0 ∧ σ'.2.1 0 11 = σ.2.1 55 1 / 2 ∧ (∀ k : Nat, (k : Int) < σ.2.1 55 1 / 2 → σ'.2.1 51 k = σ.2.1 56 (2 * k) ∧ σ'.2.1 52 k = σ.2.1 56 (2 * k + 1)) ∧ frw W_see σ σ') ∨ (¬ seC σ ∧ r = some (am_i (-1)) ∧ σ' = am_setN (am_setN σ 1 1 0) 54 1 (σ.2.1 54 1 + 1))) := by
  refine am_qq (fun Q hQ => ?_)
  refine am_enter (show plainFor yX9_see = true by decide +kernel) rfl (Nat.le_of_ble_eq_true rfl) (fun _ _ _ => trivial) ?_
  have hL := hC.G.L
  have hTr := hTR.1
  have hd2 : Int.tdiv (σ.2.1 55 1) 2 = σ.2.1 55 1 / 2 := Int.tdiv_eq_ediv_of_nonneg hTr.1
  by_cases se : seC σ
  · refine am_aload_n (q := 1) rfl (am_tab tk_X9_see 0 rfl) rfl ?_
    refine am_callVr (q := 4) (me2 := M_X9_isSight) (b := 0) (kb := 9) (nb := 17) (As := []) (rest := []) (c_isSight_15 σ hC hT hTR hTb) ⟨rfl, rfl⟩ (Ls_0 hL) (by decide) ⟨Or.inl km_X9_275, kc_X9_isSight, kn_X9, kd_X9_isSight, ⟨(Nat.le_of_ble_eq_true rfl), (Nat.le_of_ble_eq_true rfl)⟩, ⟨(Nat.le_of_ble_eq_true rfl), (Nat.le_of_ble_eq_true rfl)⟩, (Nat.le_of_ble_eq_true rfl)⟩ ki_X9_isSight ks_X9_isSight rfl (am_tab tk_X9_see 1 rfl) rfl ?_
    rintro r S hsi
    have hsi2 : r = some (am_i 1) ∧ S = σ := by
      rcases hsi with h | h
      · exact h.2
      · exact absurd se h.1
    obtain ⟨rfl, hSS⟩ := hsi2
    rw [hSS]
    refine am_st (st2 := [am_i 1]) rfl ?_
    refine am_istore_n (q := 5) (by decide) (ls2 := [(1, am_i 1), (0, am_r 0)]) rfl (am_tab tk_X9_see 2 rfl) rfl ?_
    refine am_aload_n (q := 6) rfl (am_tab tk_X9_see 3 rfl) rfl ?_
    refine am_getR (q := 9) (a := 0) (k := 9) (n := 17) (j := 0) (r := some (1)) (Ls_0 hL) (by decide) rfl (Lr_0_0 hL) (by decide) (Or.inl kf_X9_12) (am_tab tk_X9_see 4 rfl) rfl ?_
    refine am_getI (q := 12) (a := 1) (k := 6) (n := 2) (j := 1) (x := (σ.2.1 55 1)) (Ls_1 hL) (by decide) rfl hT (by decide) (Or.inr kf_X9_89) (am_tab tk_X9_see 5 rfl) rfl ?_
    refine am_iconst (q := 13) (n := 2) (by decide) (am_tab tk_X9_see 6 rfl) rfl ?_
    refine am_idiv (q := 14) (by omega) (by omega) (am_tab tk_X9_see 7 rfl) rfl ?_
    refine am_istore_n (q := 15) (by decide) (ls2 := [(2, am_i ((Int.tdiv (σ.2.1 55 1) 2))), (1, am_i 1), (0, am_r 0)]) rfl (am_tab tk_X9_see 8 rfl) rfl ?_
    refine am_aload_n (q := 16) rfl (am_tab tk_X9_see 9 rfl) rfl ?_
    refine am_getR (q := 19) (a := 0) (k := 9) (n := 17) (j := 0) (r := some (1)) (Ls_0 hL) (by decide) rfl (Lr_0_0 hL) (by decide) (Or.inl kf_X9_12) (am_tab tk_X9_see 10 rfl) rfl ?_
    refine am_iconst (q := 20) (n := 0) (by decide) (am_tab tk_X9_see 11 rfl) rfl ?_
    refine am_putI (q := 23) (k := 6) (n := 2) (j := 1) (Ls_1 hL) (by decide) rfl (by decide) (Or.inr (Or.inl ⟨kf_X9_89, rfl⟩)) (am_tab tk_X9_see 12 rfl) rfl ?_
    refine am_iload_n (q := 24) rfl (am_tab tk_X9_see 13 rfl) rfl ?_
    refine am_if_ne (q := 27) (t := 33) (am_tab tk_X9_see 14 rfl) (by decide) rfl (fun h24 => ?_) (fun h24 => ?_)
    · have hs1 := se.1
      refine am_iconst (q := 34) (n := 0) (by decide) (am_tab tk_X9_see 19 rfl) rfl ?_
      refine am_istore_n (q := 35) (by decide) (ls2 := [(3, am_i 0), (2, am_i ((Int.tdiv (σ.2.1 55 1) 2))), (1, am_i 1), (0, am_r 0)]) rfl (am_tab tk_X9_see 20 rfl) rfl ?_
      have L35 : ∀ (n35 : Nat) (k : Nat) (T : am_H), 8 - k < n35 → (k : Int) ≤ σ.2.1 55 1 / 2 → frw W_see σ T → T.2.1 1 1 = 0 → (∀ j : Nat, j < k → T.2.1 51 j = σ.2.1 56 (2 * j) ∧ T.2.1 52 j = σ.2.1 56 (2 * j + 1)) → am_wp M_X9_see Q 0 0 35 [(3, am_i ((k : Int))), (2, am_i ((Int.tdiv (σ.2.1 55 1) 2))), (1, am_i 1), (0, am_r 0)] [] T := by
        intro n35
        induction n35 with
        | zero => intro k T hn35; exact absurd hn35 (Nat.not_lt_zero _)
        | succ n35 ih35 =>
          intro k T hn35 hk hF h11 hcp
          refine am_iload_n (q := 36) rfl (am_tab tk_X9_see 21 rfl) rfl ?_
          refine am_iload_n (q := 37) rfl (am_tab tk_X9_see 22 rfl) rfl ?_
          refine am_icmp_ge (q := 40) (t := 88) (am_tab tk_X9_see 23 rfl) (by decide) rfl (fun h37 => ?_) (fun h37 => ?_)
          · refine am_aload_n (q := 89) rfl (am_tab tk_X9_see 53 rfl) rfl ?_
            refine am_iload_n (q := 90) rfl (am_tab tk_X9_see 54 rfl) rfl ?_
            refine am_putI (q := 93) (k := 9) (n := 17) (j := 11) (Ls_0 (hF.L hL)) (by decide) rfl (by decide) (Or.inl ⟨kf_X9_114, rfl⟩) (am_tab tk_X9_see 55 rfl) rfl ?_
            refine am_iload_n (q := 94) rfl (am_tab tk_X9_see 56 rfl) rfl ?_
            refine am_iret (Or.inl rfl) (Nat.le_of_ble_eq_true rfl) (Nat.le_of_ble_eq_true rfl) (am_tab tk_X9_see 57 rfl) ?_
            refine hQ _ _ ?_
            refine Or.inl ⟨se, congrArg (fun z => some (am_i z)) hd2, h11, hd2, fun j hj => hcp j (by omega), hF.setN (by unfold W_see; omega)⟩
          · refine am_iload_n (q := 41) rfl (am_tab tk_X9_see 24 rfl) rfl ?_
            refine am_bipush (q := 43) (n := 8) (by decide) rfl (am_tab tk_X9_see 25 rfl) rfl ?_
            refine am_icmp_ge (q := 46) (t := 88) (am_tab tk_X9_see 26 rfl) (by decide) rfl (fun h43 => ?_) (fun h43 => ?_)
            · exact absurd h43 (by omega)
            · refine am_aload_n (q := 47) rfl (am_tab tk_X9_see 27 rfl) rfl ?_
              refine am_getR (q := 50) (a := 0) (k := 9) (n := 17) (j := 9) (r := some (51)) (Ls_0 (hF.L hL)) (by decide) rfl (Lr_0_9 (hF.L hL)) (by decide) (Or.inl kf_X9_68) (am_tab tk_X9_see 28 rfl) rfl ?_
              refine am_iload_n (q := 51) rfl (am_tab tk_X9_see 29 rfl) rfl ?_
              refine am_aload_n (q := 52) rfl (am_tab tk_X9_see 30 rfl) rfl ?_
              refine am_getR (q := 55) (a := 0) (k := 9) (n := 17) (j := 0) (r := some (1)) (Ls_0 (hF.L hL)) (by decide) rfl (Lr_0_0 (hF.L hL)) (by decide) (Or.inl kf_X9_12) (am_tab tk_X9_see 31 rfl) rfl ?_
              refine am_getR (q := 58) (a := 1) (k := 6) (n := 2) (j := 0) (r := some (2)) (Ls_1 (hF.L hL)) (by decide) rfl (Lr_1_0 (hF.L hL)) (by decide) (Or.inr kf_X9_279) (am_tab tk_X9_see 32 rfl) rfl ?_
              refine am_iconst (q := 59) (n := 2) (by decide) (am_tab tk_X9_see 33 rfl) rfl ?_
              refine am_iload_n (q := 60) rfl (am_tab tk_X9_see 34 rfl) rfl ?_
              refine am_imul (q := 61) (by omega) (am_tab tk_X9_see 35 rfl) rfl ?_
              refine am_iald (q := 62) (a := 2) (n := 1600) (x := (σ.2.1 56 (2 * k))) (Ls_2 (hF.L hL)) (by omega) (by omega) (by rw [show Int.toNat (2 * (k : Int)) = 2 * k by omega]; exact (hF.2.2 2 _ (by unfold W_see; omega)).trans (hTb _)) (am_tab tk_X9_see 36 rfl) rfl ?_
              refine am_iast (q := 63) (a := 51) (n := 8) (Ls_51 (hF.L hL)) (by omega) (by omega) (am_tab tk_X9_see 37 rfl) rfl ?_
              refine am_aload_n (q := 64) rfl (am_tab tk_X9_see 38 rfl) rfl ?_
              refine am_getR (q := 67) (a := 0) (k := 9) (n := 17) (j := 10) (r := some (52)) (Ls_0 (hF.L hL)) (by decide) rfl (Lr_0_10 (hF.L hL)) (by decide) (Or.inl kf_X9_72) (am_tab tk_X9_see 39 rfl) rfl ?_
              refine am_iload_n (q := 68) rfl (am_tab tk_X9_see 40 rfl) rfl ?_
              refine am_aload_n (q := 69) rfl (am_tab tk_X9_see 41 rfl) rfl ?_
              refine am_getR (q := 72) (a := 0) (k := 9) (n := 17) (j := 0) (r := some (1)) (Ls_0 (hF.L hL)) (by decide) rfl (Lr_0_0 (hF.L hL)) (by decide) (Or.inl kf_X9_12) (am_tab tk_X9_see 42 rfl) rfl ?_
              refine am_getR (q := 75) (a := 1) (k := 6) (n := 2) (j := 0) (r := some (2)) (Ls_1 (hF.L hL)) (by decide) rfl (Lr_1_0 (hF.L hL)) (by decide) (Or.inr kf_X9_279) (am_tab tk_X9_see 43 rfl) rfl ?_
              refine am_iconst (q := 76) (n := 2) (by decide) (am_tab tk_X9_see 44 rfl) rfl ?_
              refine am_iload_n (q := 77) rfl (am_tab tk_X9_see 45 rfl) rfl ?_
              refine am_imul (q := 78) (by omega) (am_tab tk_X9_see 46 rfl) rfl ?_
              refine am_iconst (q := 79) (n := 1) (by decide) (am_tab tk_X9_see 47 rfl) rfl ?_
              refine am_iadd (q := 80) (by omega) (am_tab tk_X9_see 48 rfl) rfl ?_
              refine am_iald (q := 81) (a := 2) (n := 1600) (x := (σ.2.1 56 (2 * k + 1))) (Ls_2 (hF.L hL)) (by omega) (by omega) (by rw [show Int.toNat ((2 * (k : Int)) + 1) = 2 * k + 1 by omega]; exact (hF.2.2 2 _ (by unfold W_see; omega)).trans (hTb _)) (am_tab tk_X9_see 49 rfl) rfl ?_
              refine am_iast (q := 82) (a := 52) (n := 8) (Ls_52 (hF.L hL)) (by omega) (by omega) (am_tab tk_X9_see 50 rfl) rfl ?_
              refine am_iinc (q := 85) rfl (by omega) (by decide) (ls2 := [(3, am_i (((k : Int) + 1))), (2, am_i ((Int.tdiv (σ.2.1 55 1) 2))), (1, am_i 1), (0, am_r 0)]) rfl (am_tab tk_X9_see 51 rfl) rfl ?_
              refine am_goto (t := 35) (am_tab tk_X9_see 52 rfl) (by decide) ?_
              exact am_less (by intro q hq; simp only [List.mem_cons, List.not_mem_nil, or_false] at hq; rcases hq with rfl | rfl | rfl | rfl <;> simp) (ih35 (k + 1) (am_setN (am_setN T 51 (Int.toNat (k : Int)) (σ.2.1 56 (2 * k))) 52 (Int.toNat (k : Int)) (σ.2.1 56 (2 * k + 1))) (by omega) (by omega) ((hF.setN (by unfold W_see; omega)).setN (by unfold W_see; omega)) h11 (fun j hj => by constructor; (show (if 51 = 51 ∧ j = Int.toNat (k : Int) then σ.2.1 56 (2 * k) else T.2.1 51 j) = _; by_cases g : j = k; (rw [if_pos ⟨rfl, by omega⟩, g]); (rw [if_neg (fun z => g (by omega))]; exact (hcp j (by omega)).1)); (show (if 52 = 52 ∧ j = Int.toNat (k : Int) then σ.2.1 56 (2 * k + 1) else T.2.1 52 j) = _; by_cases g : j = k; (rw [if_pos ⟨rfl, by omega⟩, g]); (rw [if_neg (fun z => g (by omega))]; exact (hcp j (by omega)).2))))
      refine am_less (by intro q hq; simp only [List.mem_cons, List.not_mem_nil, or_false] at hq; rcases hq with rfl | rfl | rfl | rfl <;> simp) (L35 (_ + 1) 0 (am_setN σ 1 1 0) (by exact Nat.lt_succ_self _) (by omega) ((frw.refl _ σ).setN (by unfold W_see; omega)) rfl (fun j hj => absurd hj (Nat.not_lt_zero j)))
    · exact absurd h24 (by decide)
  · refine am_aload_n (q := 1) rfl (am_tab tk_X9_see 0 rfl) rfl ?_
    refine am_callVr (q := 4) (me2 := M_X9_isSight) (b := 0) (kb := 9) (nb := 17) (As := []) (rest := []) (c_isSight_15 σ hC hT hTR hTb) ⟨rfl, rfl⟩ (Ls_0 hL) (by decide) ⟨Or.inl km_X9_275, kc_X9_isSight, kn_X9, kd_X9_isSight, ⟨(Nat.le_of_ble_eq_true rfl), (Nat.le_of_ble_eq_true rfl)⟩, ⟨(Nat.le_of_ble_eq_true rfl), (Nat.le_of_ble_eq_true rfl)⟩, (Nat.le_of_ble_eq_true rfl)⟩ ki_X9_isSight ks_X9_isSight rfl (am_tab tk_X9_see 1 rfl) rfl ?_
    rintro r S hsi
    have hsi2 : r = some (am_i 0) ∧ S = σ := by
      rcases hsi with h | h
      · exact absurd h.1 se
      · exact h.2
    obtain ⟨rfl, hSS⟩ := hsi2
    rw [hSS]
    refine am_st (st2 := [am_i 0]) rfl ?_
    refine am_istore_n (q := 5) (by decide) (ls2 := [(1, am_i 0), (0, am_r 0)]) rfl (am_tab tk_X9_see 2 rfl) rfl ?_
    refine am_aload_n (q := 6) rfl (am_tab tk_X9_see 3 rfl) rfl ?_
    refine am_getR (q := 9) (a := 0) (k := 9) (n := 17) (j := 0) (r := some (1)) (Ls_0 hL) (by decide) rfl (Lr_0_0 hL) (by decide) (Or.inl kf_X9_12) (am_tab tk_X9_see 4 rfl) rfl ?_
    refine am_getI (q := 12) (a := 1) (k := 6) (n := 2) (j := 1) (x := (σ.2.1 55 1)) (Ls_1 hL) (by decide) rfl hT (by decide) (Or.inr kf_X9_89) (am_tab tk_X9_see 5 rfl) rfl ?_
    refine am_iconst (q := 13) (n := 2) (by decide) (am_tab tk_X9_see 6 rfl) rfl ?_
    refine am_idiv (q := 14) (by omega) (by omega) (am_tab tk_X9_see 7 rfl) rfl ?_
    refine am_istore_n (q := 15) (by decide) (ls2 := [(2, am_i ((Int.tdiv (σ.2.1 55 1) 2))), (1, am_i 0), (0, am_r 0)]) rfl (am_tab tk_X9_see 8 rfl) rfl ?_
    refine am_aload_n (q := 16) rfl (am_tab tk_X9_see 9 rfl) rfl ?_
    refine am_getR (q := 19) (a := 0) (k := 9) (n := 17) (j := 0) (r := some (1)) (Ls_0 hL) (by decide) rfl (Lr_0_0 hL) (by decide) (Or.inl kf_X9_12) (am_tab tk_X9_see 10 rfl) rfl ?_
    refine am_iconst (q := 20) (n := 0) (by decide) (am_tab tk_X9_see 11 rfl) rfl ?_
    refine am_putI (q := 23) (k := 6) (n := 2) (j := 1) (Ls_1 hL) (by decide) rfl (by decide) (Or.inr (Or.inl ⟨kf_X9_89, rfl⟩)) (am_tab tk_X9_see 12 rfl) rfl ?_
    refine am_iload_n (q := 24) rfl (am_tab tk_X9_see 13 rfl) rfl ?_
    refine am_if_ne (q := 27) (t := 33) (am_tab tk_X9_see 14 rfl) (by decide) rfl (fun h24 => ?_) (fun h24 => ?_)
    · exact absurd h24 (by decide)
    · refine am_aload_n (q := 28) rfl (am_tab tk_X9_see 15 rfl) rfl ?_
      refine am_iconst (q := 29) (n := 1) (by decide) (am_tab tk_X9_see 16 rfl) rfl ?_
      refine am_callV0 (q := 32) (me2 := M_X9_refuse) (b := 0) (kb := 9) (nb := 17) (As := [am_i 1]) (rest := []) (out := [am_i ((-1))]) (c_refuse (am_setN σ 1 1 0) hL 1 (by decide) hr) ⟨rfl, rfl⟩ (Ls_0 hL) (by decide) ⟨Or.inl km_X9_92, kc_X9_refuse, kn_X9, kd_X9_refuse, ⟨(Nat.le_of_ble_eq_true rfl), (Nat.le_of_ble_eq_true rfl)⟩, ⟨(Nat.le_of_ble_eq_true rfl), (Nat.le_of_ble_eq_true rfl)⟩, (Nat.le_of_ble_eq_true rfl)⟩ ki_X9_refuse ks_X9_refuse rfl rfl (am_tab tk_X9_see 17 rfl) rfl ?_
      refine am_iret (Or.inl rfl) (Nat.le_of_ble_eq_true rfl) (Nat.le_of_ble_eq_true rfl) (am_tab tk_X9_see 18 rfl) ?_
      refine hQ _ _ ?_
      exact Or.inr ⟨se, rfl, rfl⟩
