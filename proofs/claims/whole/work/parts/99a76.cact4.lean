set_option maxRecDepth 100000 in
theorem c_chance_3 (σ : am_H) (f c : Nat) (hC : CI 3 σ) (hD : CDt 3 σ) (n : Int) (hR : RWr 32 σ (fun j => σ.2.1 96 j)) (hO : ROK (fun j => σ.2.1 96 j)) (hP : PAC f c σ) (hr : 0 ≤ σ.2.1 54 2 ∧ σ.2.1 54 2 ≤ 100000) (hx : 0 ≤ σ.2.1 55 71 ∧ σ.2.1 55 71 < 2147483648) (hdr : σ.2.1 0 16 = σ.2.1 55 71) : am_met M_X9_chance [am_r 0, am_i n] σ (fun r σ' => (chC σ n ∧ r = some (am_i (chS σ n.toNat).2.2) ∧ (∃ T, RMB f c σ T ∧ CB T σ') ∧ LF0 32 σ' (fun j => (chS σ n.toNat).1.2.1 96 j) ∧ RWr 32 σ' (fun j => (chS σ n.toNat).1.2.1 96 j) ∧ ROK (fun j => (chS σ n.toNat).1.2.1 96 j) ∧ σ'.2.1 0 16 = (chS σ n.toNat).2.1) ∨ (¬ chC σ n ∧ r = some (am_i (-1)) ∧ σ' = am_setN σ 54 2 (σ.2.1 54 2 + 1))) := by
  refine am_qq (fun Q hQ => ?_)
  refine am_enter (show plainFor yX9_chance = true by decide +kernel) rfl (Nat.le_of_ble_eq_true rfl) (fun _ _ _ => trivial) ?_
  have hL := hC.G.L
  have hN := hC.G.R.P
  have hY := hC.G.R.Y
  refine am_iload_n (q := 1) rfl (am_tab tk_X9_chance 0 rfl) rfl ?_
  refine am_iconst (q := 2) (n := 1) (by decide) (am_tab tk_X9_chance 1 rfl) rfl ?_
  refine am_icmp_lt (q := 5) (t := 26) (am_tab tk_X9_chance 2 rfl) (by decide) rfl (fun h2 => ?_) (fun h2 => ?_)
  · refine am_aload_n (q := 27) rfl (am_tab tk_X9_chance 13 rfl) rfl ?_
    refine am_iconst (q := 28) (n := 2) (by decide) (am_tab tk_X9_chance 14 rfl) rfl ?_
    refine am_callV0 (q := 31) (me2 := M_X9_refuse) (b := 0) (kb := 9) (nb := 17) (As := [am_i 2]) (rest := []) (out := [am_i ((-1))]) (c_refuse σ hL 2 (by decide) hr) ⟨rfl, rfl⟩ (Ls_0 hL) (by decide) ⟨Or.inl km_X9_92, kc_X9_refuse, kn_X9, kd_X9_refuse, ⟨(Nat.le_of_ble_eq_true rfl), (Nat.le_of_ble_eq_true rfl)⟩, ⟨(Nat.le_of_ble_eq_true rfl), (Nat.le_of_ble_eq_true rfl)⟩, (Nat.le_of_ble_eq_true rfl)⟩ ki_X9_refuse ks_X9_refuse rfl rfl (am_tab tk_X9_chance 15 rfl) rfl ?_
    refine am_iret (Or.inl rfl) (Nat.le_of_ble_eq_true rfl) (Nat.le_of_ble_eq_true rfl) (am_tab tk_X9_chance 16 rfl) ?_
    refine hQ _ _ ?_
    exact Or.inr ⟨fun hg => by unfold chC at hg; omega, rfl, rfl⟩
  · refine am_iload_n (q := 6) rfl (am_tab tk_X9_chance 3 rfl) rfl ?_
    refine am_bipush (q := 8) (n := 100) (by decide) rfl (am_tab tk_X9_chance 4 rfl) rfl ?_
    refine am_icmp_gt (q := 11) (t := 26) (am_tab tk_X9_chance 5 rfl) (by decide) rfl (fun h8 => ?_) (fun h8 => ?_)
    · refine am_aload_n (q := 27) rfl (am_tab tk_X9_chance 13 rfl) rfl ?_
      refine am_iconst (q := 28) (n := 2) (by decide) (am_tab tk_X9_chance 14 rfl) rfl ?_
      refine am_callV0 (q := 31) (me2 := M_X9_refuse) (b := 0) (kb := 9) (nb := 17) (As := [am_i 2]) (rest := []) (out := [am_i ((-1))]) (c_refuse σ hL 2 (by decide) hr) ⟨rfl, rfl⟩ (Ls_0 hL) (by decide) ⟨Or.inl km_X9_92, kc_X9_refuse, kn_X9, kd_X9_refuse, ⟨(Nat.le_of_ble_eq_true rfl), (Nat.le_of_ble_eq_true rfl)⟩, ⟨(Nat.le_of_ble_eq_true rfl), (Nat.le_of_ble_eq_true rfl)⟩, (Nat.le_of_ble_eq_true rfl)⟩ ki_X9_refuse ks_X9_refuse rfl rfl (am_tab tk_X9_chance 15 rfl) rfl ?_
      refine am_iret (Or.inl rfl) (Nat.le_of_ble_eq_true rfl) (Nat.le_of_ble_eq_true rfl) (am_tab tk_X9_chance 16 rfl) ?_
      refine hQ _ _ ?_
      exact Or.inr ⟨fun hg => by unfold chC at hg; omega, rfl, rfl⟩
    · refine am_iload_n (q := 12) rfl (am_tab tk_X9_chance 6 rfl) rfl ?_
      refine am_aload_n (q := 13) rfl (am_tab tk_X9_chance 7 rfl) rfl ?_
      refine am_getR (q := 16) (a := 0) (k := 9) (n := 17) (j := 4) (r := some (32)) (Ls_0 hL) (by decide) rfl (Lr_0_4 hL) (by decide) (Or.inl kf_X9_38) (am_tab tk_X9_chance 8 rfl) rfl ?_
      refine am_aload_n (q := 17) rfl (am_tab tk_X9_chance 9 rfl) rfl ?_
      refine am_getR (q := 20) (a := 0) (k := 9) (n := 17) (j := 2) (r := some (3)) (Ls_0 hL) (by decide) rfl hC.t (by decide) (Or.inl kf_X9_19) (am_tab tk_X9_chance 10 rfl) rfl ?_
      refine am_callV0 (q := 23) (me2 := M_X1_daysLeft) (b := 32) (kb := 1) (nb := 11) (As := [am_r 3]) (rest := [am_i n]) (out := [am_i (dlM σ), am_i n]) (c_daysLeft_3_32 σ σ hL hC.G hC.W hC.F) ⟨rfl, rfl⟩ (Ls_32 hL) (by decide) ⟨Or.inr km_X9_234, kc_X1_daysLeft, kn_X1, kd_X1_daysLeft, ⟨(Nat.le_of_ble_eq_true rfl), (Nat.le_of_ble_eq_true rfl)⟩, ⟨(Nat.le_of_ble_eq_true rfl), (Nat.le_of_ble_eq_true rfl)⟩, (Nat.le_of_ble_eq_true rfl)⟩ ki_X1_daysLeft ks_X1_daysLeft rfl rfl (am_tab tk_X9_chance 11 rfl) rfl ?_
      refine am_icmp_le (q := 26) (t := 32) (am_tab tk_X9_chance 12 rfl) (by decide) rfl (fun h23 => ?_) (fun h23 => ?_)
      · refine am_aload_n (q := 33) rfl (am_tab tk_X9_chance 17 rfl) rfl ?_
        refine am_getR (q := 36) (a := 0) (k := 9) (n := 17) (j := 6) (r := some (42)) (Ls_0 hL) (by decide) rfl (Lr_0_6 hL) (by decide) (Or.inl kf_X9_48) (am_tab tk_X9_chance 18 rfl) rfl ?_
        refine am_aload_n (q := 37) rfl (am_tab tk_X9_chance 19 rfl) rfl ?_
        refine am_getR (q := 40) (a := 0) (k := 9) (n := 17) (j := 4) (r := some (32)) (Ls_0 hL) (by decide) rfl (Lr_0_4 hL) (by decide) (Or.inl kf_X9_38) (am_tab tk_X9_chance 20 rfl) rfl ?_
        refine am_callV (q := 43) (me2 := M_X2_remember) (b := 42) (kb := 2) (nb := 3) (As := [am_r 32]) (rest := []) (c_remember σ hL hP.1.1 hP.1.2 hP.2.1.1 hP.2.1.2 hP.at) (Ls_42 hL) (by decide) ⟨Or.inr km_X9_297, kc_X2_remember, kn_X2, kd_X2_remember, ⟨(Nat.le_of_ble_eq_true rfl), (Nat.le_of_ble_eq_true rfl)⟩, ⟨(Nat.le_of_ble_eq_true rfl), (Nat.le_of_ble_eq_true rfl)⟩, (Nat.le_of_ble_eq_true rfl)⟩ ki_X2_remember ks_X2_remember rfl (am_tab tk_X9_chance 21 rfl) rfl ?_
        rintro r T1 ⟨rfl, hRM⟩
        obtain ⟨hL1, hT1, hF1, ht1, hc1⟩ := hRM.keep (Or.inl rfl) hC hD hP
        have hR1 : RWr 32 T1 (fun j => σ.2.1 96 j) := hR.cells (fun a j ha => hc1 a j (by omega) (by omega))
        refine am_aload_n (q := 44) rfl (am_tab tk_X9_chance 22 rfl) rfl ?_
        refine am_getR (q := 47) (a := 0) (k := 9) (n := 17) (j := 4) (r := some (32)) (Ls_0 hL1) (by decide) rfl (Lr_0_4 hL1) (by decide) (Or.inl kf_X9_38) (am_tab tk_X9_chance 23 rfl) rfl ?_
        refine am_getI (q := 50) (a := 32) (k := 1) (n := 11) (j := 4) (x := (T1.2.1 32 4)) (Ls_32 hL1) (by decide) rfl rfl (by decide) (Or.inr kf_X9_182) (am_tab tk_X9_chance 24 rfl) rfl ?_
        refine am_callS0 (q := 53) (me2 := M_J6_bitCount_0f7a4) (As := [am_i ((T1.2.1 32 4))]) (rest := []) (out := [am_i (bc (T1.2.1 32 4))]) (c_bc T1 (T1.2.1 32 4) (hF1.2.1)) ⟨rfl, rfl⟩ ⟨Or.inl km_X9_133, kc_J6_bitCount_0f7a4, kn_J6, kd_J6_bitCount_0f7a4, ⟨(Nat.le_of_ble_eq_true rfl), (Nat.le_of_ble_eq_true rfl)⟩, ⟨(Nat.le_of_ble_eq_true rfl), (Nat.le_of_ble_eq_true rfl)⟩, (Nat.le_of_ble_eq_true rfl)⟩ ki_J6_bitCount_0f7a4 rfl rfl (am_tab tk_X9_chance 25 rfl) rfl ?_
        refine am_istore_n (q := 54) (by decide) (ls2 := [(2, am_i (bc (T1.2.1 32 4))), (0, am_r 0), (1, am_i n)]) rfl (am_tab tk_X9_chance 26 rfl) rfl ?_
        refine am_iconst (q := 55) (n := 0) (by decide) (am_tab tk_X9_chance 27 rfl) rfl ?_
        refine am_istore_n (q := 56) (by decide) (ls2 := [(3, am_i 0), (2, am_i (bc (T1.2.1 32 4))), (0, am_r 0), (1, am_i n)]) rfl (am_tab tk_X9_chance 28 rfl) rfl ?_
        have L56 : ∀ (n56 : Nat) (k : Nat) (S : am_H), n.toNat - k < n56 → (k : Int) ≤ n → CB T1 S → LF0 32 S (fun j => (chS σ k).1.2.1 96 j) → RWr 32 S (fun j => (chS σ k).1.2.1 96 j) → ROK (fun j => (chS σ k).1.2.1 96 j) → S.2.1 0 16 = (chS σ k).2.1 → nd (fun j => (chS σ k).1.2.1 96 j) = nd (fun j => σ.2.1 96 j) + (chS σ k).2.2 → am_wp M_X9_chance Q 5 261 56 [(0, am_r 0), (1, am_i n), (2, am_i ((bc (T1.2.1 32 4)))), (3, am_i ((k : Int)))] [] S := by
          intro n56
          induction n56 with
          | zero => intro k S hn56; exact absurd hn56 (Nat.not_lt_zero _)
          | succ n56 ih56 =>
            intro k S hn56 hk hB hF hR9 hO9 hx9 hnd
            refine am_iload_n (q := 57) rfl (am_tab tk_X9_chance 29 rfl) rfl ?_
            refine am_iload_n (q := 58) rfl (am_tab tk_X9_chance 30 rfl) rfl ?_
            refine am_icmp_ge (q := 61) (t := 76) (am_tab tk_X9_chance 31 rfl) (by decide) rfl (fun h58 => ?_) (fun h58 => ?_)
            · refine am_aload_n (q := 77) rfl (am_tab tk_X9_chance 39 rfl) rfl ?_
              refine am_getR (q := 80) (a := 0) (k := 9) (n := 17) (j := 4) (r := some (32)) (Ls_0 (hB.L hL1)) (by decide) rfl (Lr_0_4 (hB.L hL1)) (by decide) (Or.inl kf_X9_38) (am_tab tk_X9_chance 40 rfl) rfl ?_
              refine am_getI (q := 83) (a := 32) (k := 1) (n := 11) (j := 4) (x := (S.2.1 32 4)) (Ls_32 (hB.L hL1)) (by decide) rfl rfl (by decide) (Or.inr kf_X9_182) (am_tab tk_X9_chance 41 rfl) rfl ?_
              refine am_callS0 (q := 86) (me2 := M_J6_bitCount_0f7a4) (As := [am_i ((S.2.1 32 4))]) (rest := []) (out := [am_i (bc (S.2.1 32 4))]) (c_bc S (S.2.1 32 4) (hF.2.1)) ⟨rfl, rfl⟩ ⟨Or.inl km_X9_133, kc_J6_bitCount_0f7a4, kn_J6, kd_J6_bitCount_0f7a4, ⟨(Nat.le_of_ble_eq_true rfl), (Nat.le_of_ble_eq_true rfl)⟩, ⟨(Nat.le_of_ble_eq_true rfl), (Nat.le_of_ble_eq_true rfl)⟩, (Nat.le_of_ble_eq_true rfl)⟩ ki_J6_bitCount_0f7a4 rfl rfl (am_tab tk_X9_chance 42 rfl) rfl ?_
              have hb8 := (bc1_eq hF.2.1).2
              have hb9 := (bc1_eq hF1.2.1).2
              refine am_iload_n (q := 87) rfl (am_tab tk_X9_chance 43 rfl) rfl ?_
              refine am_isub (q := 88) (by omega) (am_tab tk_X9_chance 44 rfl) rfl ?_
              refine am_iret (Or.inl rfl) (Nat.le_of_ble_eq_true rfl) (Nat.le_of_ble_eq_true rfl) (am_tab tk_X9_chance 45 rfl) ?_
              refine hQ _ _ ?_
              refine Or.inl ⟨⟨⟨dl_52 (by omega), by omega, by omega⟩, by omega⟩, congrArg (fun z => some (am_i z)) ?_, ⟨T1, hRM, hB⟩, ?_, ?_, ?_, ?_⟩
              · rw [← (show k = n.toNat by omega), hF.nd, hF1.nd]; omega
              · rw [← (show k = n.toNat by omega)]; exact hF
              · rw [← (show k = n.toNat by omega)]; exact hR9
              · rw [← (show k = n.toNat by omega)]; exact hO9
              · rw [← (show k = n.toNat by omega)]; exact hx9
            · have hLS : lay S := hB.L hL1
              have hSk := chS_GD hC.G hx k (by omega)
              have hDk := chD_ok hC.G hx k (by omega)
              refine am_aload_n (q := 62) rfl (am_tab tk_X9_chance 32 rfl) rfl ?_
              refine am_callVr (q := 65) (me2 := M_X9_drawDeaths) (b := 0) (kb := 9) (nb := 17) (As := []) (rest := []) (c_drawDeaths_3 S σ hLS hC.G (fun j => (chS σ k).1.2.1 96 j) (chS σ k).2.1 (hT1.cb (Or.inl rfl) hB) hF ((hB.2.1 0 2 (by omega)).trans ht1) hx9 hSk.2.1 (pN_8 hC.G.R)) ⟨rfl, rfl⟩ (Ls_0 (hB.L hL1)) (by decide) ⟨Or.inl km_X9_304, kc_X9_drawDeaths, kn_X9, kd_X9_drawDeaths, ⟨(Nat.le_of_ble_eq_true rfl), (Nat.le_of_ble_eq_true rfl)⟩, ⟨(Nat.le_of_ble_eq_true rfl), (Nat.le_of_ble_eq_true rfl)⟩, (Nat.le_of_ble_eq_true rfl)⟩ ki_X9_drawDeaths ks_X9_drawDeaths rfl (am_tab tk_X9_chance 33 rfl) rfl ?_
              rintro r T2 ⟨rfl, hF2, hx2, hFd⟩
              have hB2 : CB T1 T2 := hB.trans (dd_cb hFd)
              have hLT2 : lay T2 := hB2.L hL1
              have hT2 : TWr 3 T2 (chD σ k) := (hT1.cb (Or.inl rfl) hB2).H (fun a j g1 g2 => hDk.2.2.2.2.1 a j (by omega))
              have hR2 : RWr 32 T2 (fun j => (chD σ k).2.1 96 j) := (hR9.fr hFd (by unfold W_dd; omega) (by unfold W_dd; omega) (fun j => by unfold W_dd; omega)).g (fun j hj => hDk.2.2.2.1 j (by omega))
              have hO2 : ROK (fun j => (chD σ k).2.1 96 j) := hO9.g (fun j hj => hDk.2.2.2.1 j (by omega))
              refine am_aload_n (q := 66) rfl (am_tab tk_X9_chance 34 rfl) rfl ?_
              refine am_callVr (q := 69) (me2 := M_X9_liveOneDay) (b := 0) (kb := 9) (nb := 17) (As := []) (rest := []) (c_liveOneDay_3 T2 (chD σ k) hLT2 hDk.1 hT2 hF2 hR2 hO2 ((hB2.2.1 0 2 (by omega)).trans ht1) hDk.2.1) ⟨rfl, rfl⟩ (Ls_0 hLT2) (by decide) ⟨Or.inl km_X9_300, kc_X9_liveOneDay, kn_X9, kd_X9_liveOneDay, ⟨(Nat.le_of_ble_eq_true rfl), (Nat.le_of_ble_eq_true rfl)⟩, ⟨(Nat.le_of_ble_eq_true rfl), (Nat.le_of_ble_eq_true rfl)⟩, (Nat.le_of_ble_eq_true rfl)⟩ ki_X9_liveOneDay ks_X9_liveOneDay rfl (am_tab tk_X9_chance 35 rfl) rfl ?_
              rintro r T3 ⟨rfl, hF3, hR3, hO3, hA3⟩
              refine am_pop (q := 70) rfl (am_tab tk_X9_chance 36 rfl) rfl ?_
              refine am_iinc (q := 73) rfl (by omega) (by decide) (ls2 := [(3, am_i (((k : Int) + 1))), (0, am_r 0), (1, am_i n), (2, am_i ((bc (T1.2.1 32 4))))]) rfl (am_tab tk_X9_chance 37 rfl) rfl ?_
              refine am_goto (t := 56) (am_tab tk_X9_chance 38 rfl) (by decide) ?_
              exact am_less (by intro q hq; simp only [List.mem_cons, List.not_mem_nil, or_false] at hq; rcases hq with rfl | rfl | rfl | rfl <;> simp) (ih56 (k + 1) T3 (by omega) (by omega) (hB2.trans hA3.cb) hF3 hR3 hO3 ((hA3.2.2 0 16 (by unfold W_ca; omega)).trans hx2) (by rw [hDk.2.2.2.2.2, hnd]; show _ = _ + ((chS σ k).2.2 + _); omega))
        refine am_less (by intro q hq; simp only [List.mem_cons, List.not_mem_nil, or_false] at hq; rcases hq with rfl | rfl | rfl | rfl <;> simp) (L56 (_ + 1) 0 T1 (by exact Nat.lt_succ_self _) (by omega) (CB.refl T1) hF1 hR1 hO ((hc1 0 16 (by decide) (by decide)).trans hdr) (Int.add_zero (nd (fun j => σ.2.1 96 j))).symm)
      · refine am_aload_n (q := 27) rfl (am_tab tk_X9_chance 13 rfl) rfl ?_
        refine am_iconst (q := 28) (n := 2) (by decide) (am_tab tk_X9_chance 14 rfl) rfl ?_
        refine am_callV0 (q := 31) (me2 := M_X9_refuse) (b := 0) (kb := 9) (nb := 17) (As := [am_i 2]) (rest := []) (out := [am_i ((-1))]) (c_refuse σ hL 2 (by decide) hr) ⟨rfl, rfl⟩ (Ls_0 hL) (by decide) ⟨Or.inl km_X9_92, kc_X9_refuse, kn_X9, kd_X9_refuse, ⟨(Nat.le_of_ble_eq_true rfl), (Nat.le_of_ble_eq_true rfl)⟩, ⟨(Nat.le_of_ble_eq_true rfl), (Nat.le_of_ble_eq_true rfl)⟩, (Nat.le_of_ble_eq_true rfl)⟩ ki_X9_refuse ks_X9_refuse rfl rfl (am_tab tk_X9_chance 15 rfl) rfl ?_
        refine am_iret (Or.inl rfl) (Nat.le_of_ble_eq_true rfl) (Nat.le_of_ble_eq_true rfl) (am_tab tk_X9_chance 16 rfl) ?_
        refine hQ _ _ ?_
        exact Or.inr ⟨fun hg => by unfold chC at hg; omega, rfl, rfl⟩
set_option maxRecDepth 100000 in
theorem c_chance_15 (σ : am_H) (f c : Nat) (hC : CI 15 σ) (hD : CDt 15 σ) (n : Int) (hR : RWr 32 σ (fun j => σ.2.1 96 j)) (hO : ROK (fun j => σ.2.1 96 j)) (hP : PAC f c σ) (hr : 0 ≤ σ.2.1 54 2 ∧ σ.2.1 54 2 ≤ 100000) (hx : 0 ≤ σ.2.1 55 71 ∧ σ.2.1 55 71 < 2147483648) (hdr : σ.2.1 0 16 = σ.2.1 55 71) : am_met M_X9_chance [am_r 0, am_i n] σ (fun r σ' => (chC σ n ∧ r = some (am_i (chS σ n.toNat).2.2) ∧ (∃ T, RMB f c σ T ∧ CB T σ') ∧ LF0 32 σ' (fun j => (chS σ n.toNat).1.2.1 96 j) ∧ RWr 32 σ' (fun j => (chS σ n.toNat).1.2.1 96 j) ∧ ROK (fun j => (chS σ n.toNat).1.2.1 96 j) ∧ σ'.2.1 0 16 = (chS σ n.toNat).2.1) ∨ (¬ chC σ n ∧ r = some (am_i (-1)) ∧ σ' = am_setN σ 54 2 (σ.2.1 54 2 + 1))) := by
  refine am_qq (fun Q hQ => ?_)
  refine am_enter (show plainFor yX9_chance = true by decide +kernel) rfl (Nat.le_of_ble_eq_true rfl) (fun _ _ _ => trivial) ?_
  have hL := hC.G.L
  have hN := hC.G.R.P
  have hY := hC.G.R.Y
  refine am_iload_n (q := 1) rfl (am_tab tk_X9_chance 0 rfl) rfl ?_
  refine am_iconst (q := 2) (n := 1) (by decide) (am_tab tk_X9_chance 1 rfl) rfl ?_
  refine am_icmp_lt (q := 5) (t := 26) (am_tab tk_X9_chance 2 rfl) (by decide) rfl (fun h2 => ?_) (fun h2 => ?_)
  · refine am_aload_n (q := 27) rfl (am_tab tk_X9_chance 13 rfl) rfl ?_
    refine am_iconst (q := 28) (n := 2) (by decide) (am_tab tk_X9_chance 14 rfl) rfl ?_
    refine am_callV0 (q := 31) (me2 := M_X9_refuse) (b := 0) (kb := 9) (nb := 17) (As := [am_i 2]) (rest := []) (out := [am_i ((-1))]) (c_refuse σ hL 2 (by decide) hr) ⟨rfl, rfl⟩ (Ls_0 hL) (by decide) ⟨Or.inl km_X9_92, kc_X9_refuse, kn_X9, kd_X9_refuse, ⟨(Nat.le_of_ble_eq_true rfl), (Nat.le_of_ble_eq_true rfl)⟩, ⟨(Nat.le_of_ble_eq_true rfl), (Nat.le_of_ble_eq_true rfl)⟩, (Nat.le_of_ble_eq_true rfl)⟩ ki_X9_refuse ks_X9_refuse rfl rfl (am_tab tk_X9_chance 15 rfl) rfl ?_
    refine am_iret (Or.inl rfl) (Nat.le_of_ble_eq_true rfl) (Nat.le_of_ble_eq_true rfl) (am_tab tk_X9_chance 16 rfl) ?_
    refine hQ _ _ ?_
    exact Or.inr ⟨fun hg => by unfold chC at hg; omega, rfl, rfl⟩
  · refine am_iload_n (q := 6) rfl (am_tab tk_X9_chance 3 rfl) rfl ?_
    refine am_bipush (q := 8) (n := 100) (by decide) rfl (am_tab tk_X9_chance 4 rfl) rfl ?_
    refine am_icmp_gt (q := 11) (t := 26) (am_tab tk_X9_chance 5 rfl) (by decide) rfl (fun h8 => ?_) (fun h8 => ?_)
    · refine am_aload_n (q := 27) rfl (am_tab tk_X9_chance 13 rfl) rfl ?_
      refine am_iconst (q := 28) (n := 2) (by decide) (am_tab tk_X9_chance 14 rfl) rfl ?_
      refine am_callV0 (q := 31) (me2 := M_X9_refuse) (b := 0) (kb := 9) (nb := 17) (As := [am_i 2]) (rest := []) (out := [am_i ((-1))]) (c_refuse σ hL 2 (by decide) hr) ⟨rfl, rfl⟩ (Ls_0 hL) (by decide) ⟨Or.inl km_X9_92, kc_X9_refuse, kn_X9, kd_X9_refuse, ⟨(Nat.le_of_ble_eq_true rfl), (Nat.le_of_ble_eq_true rfl)⟩, ⟨(Nat.le_of_ble_eq_true rfl), (Nat.le_of_ble_eq_true rfl)⟩, (Nat.le_of_ble_eq_true rfl)⟩ ki_X9_refuse ks_X9_refuse rfl rfl (am_tab tk_X9_chance 15 rfl) rfl ?_
      refine am_iret (Or.inl rfl) (Nat.le_of_ble_eq_true rfl) (Nat.le_of_ble_eq_true rfl) (am_tab tk_X9_chance 16 rfl) ?_
      refine hQ _ _ ?_
      exact Or.inr ⟨fun hg => by unfold chC at hg; omega, rfl, rfl⟩
    · refine am_iload_n (q := 12) rfl (am_tab tk_X9_chance 6 rfl) rfl ?_
      refine am_aload_n (q := 13) rfl (am_tab tk_X9_chance 7 rfl) rfl ?_
      refine am_getR (q := 16) (a := 0) (k := 9) (n := 17) (j := 4) (r := some (32)) (Ls_0 hL) (by decide) rfl (Lr_0_4 hL) (by decide) (Or.inl kf_X9_38) (am_tab tk_X9_chance 8 rfl) rfl ?_
      refine am_aload_n (q := 17) rfl (am_tab tk_X9_chance 9 rfl) rfl ?_
      refine am_getR (q := 20) (a := 0) (k := 9) (n := 17) (j := 2) (r := some (15)) (Ls_0 hL) (by decide) rfl hC.t (by decide) (Or.inl kf_X9_19) (am_tab tk_X9_chance 10 rfl) rfl ?_
      refine am_callV0 (q := 23) (me2 := M_X1_daysLeft) (b := 32) (kb := 1) (nb := 11) (As := [am_r 15]) (rest := [am_i n]) (out := [am_i (dlM σ), am_i n]) (c_daysLeft_15_32 σ σ hL hC.G hC.W hC.F) ⟨rfl, rfl⟩ (Ls_32 hL) (by decide) ⟨Or.inr km_X9_234, kc_X1_daysLeft, kn_X1, kd_X1_daysLeft, ⟨(Nat.le_of_ble_eq_true rfl), (Nat.le_of_ble_eq_true rfl)⟩, ⟨(Nat.le_of_ble_eq_true rfl), (Nat.le_of_ble_eq_true rfl)⟩, (Nat.le_of_ble_eq_true rfl)⟩ ki_X1_daysLeft ks_X1_daysLeft rfl rfl (am_tab tk_X9_chance 11 rfl) rfl ?_
      refine am_icmp_le (q := 26) (t := 32) (am_tab tk_X9_chance 12 rfl) (by decide) rfl (fun h23 => ?_) (fun h23 => ?_)
      · refine am_aload_n (q := 33) rfl (am_tab tk_X9_chance 17 rfl) rfl ?_
        refine am_getR (q := 36) (a := 0) (k := 9) (n := 17) (j := 6) (r := some (42)) (Ls_0 hL) (by decide) rfl (Lr_0_6 hL) (by decide) (Or.inl kf_X9_48) (am_tab tk_X9_chance 18 rfl) rfl ?_
        refine am_aload_n (q := 37) rfl (am_tab tk_X9_chance 19 rfl) rfl ?_
        refine am_getR (q := 40) (a := 0) (k := 9) (n := 17) (j := 4) (r := some (32)) (Ls_0 hL) (by decide) rfl (Lr_0_4 hL) (by decide) (Or.inl kf_X9_38) (am_tab tk_X9_chance 20 rfl) rfl ?_
        refine am_callV (q := 43) (me2 := M_X2_remember) (b := 42) (kb := 2) (nb := 3) (As := [am_r 32]) (rest := []) (c_remember σ hL hP.1.1 hP.1.2 hP.2.1.1 hP.2.1.2 hP.at) (Ls_42 hL) (by decide) ⟨Or.inr km_X9_297, kc_X2_remember, kn_X2, kd_X2_remember, ⟨(Nat.le_of_ble_eq_true rfl), (Nat.le_of_ble_eq_true rfl)⟩, ⟨(Nat.le_of_ble_eq_true rfl), (Nat.le_of_ble_eq_true rfl)⟩, (Nat.le_of_ble_eq_true rfl)⟩ ki_X2_remember ks_X2_remember rfl (am_tab tk_X9_chance 21 rfl) rfl ?_
        rintro r T1 ⟨rfl, hRM⟩
        obtain ⟨hL1, hT1, hF1, ht1, hc1⟩ := hRM.keep (Or.inr rfl) hC hD hP
        have hR1 : RWr 32 T1 (fun j => σ.2.1 96 j) := hR.cells (fun a j ha => hc1 a j (by omega) (by omega))
        refine am_aload_n (q := 44) rfl (am_tab tk_X9_chance 22 rfl) rfl ?_
        refine am_getR (q := 47) (a := 0) (k := 9) (n := 17) (j := 4) (r := some (32)) (Ls_0 hL1) (by decide) rfl (Lr_0_4 hL1) (by decide) (Or.inl kf_X9_38) (am_tab tk_X9_chance 23 rfl) rfl ?_
        refine am_getI (q := 50) (a := 32) (k := 1) (n := 11) (j := 4) (x := (T1.2.1 32 4)) (Ls_32 hL1) (by decide) rfl rfl (by decide) (Or.inr kf_X9_182) (am_tab tk_X9_chance 24 rfl) rfl ?_
        refine am_callS0 (q := 53) (me2 := M_J6_bitCount_0f7a4) (As := [am_i ((T1.2.1 32 4))]) (rest := []) (out := [am_i (bc (T1.2.1 32 4))]) (c_bc T1 (T1.2.1 32 4) (hF1.2.1)) ⟨rfl, rfl⟩ ⟨Or.inl km_X9_133, kc_J6_bitCount_0f7a4, kn_J6, kd_J6_bitCount_0f7a4, ⟨(Nat.le_of_ble_eq_true rfl), (Nat.le_of_ble_eq_true rfl)⟩, ⟨(Nat.le_of_ble_eq_true rfl), (Nat.le_of_ble_eq_true rfl)⟩, (Nat.le_of_ble_eq_true rfl)⟩ ki_J6_bitCount_0f7a4 rfl rfl (am_tab tk_X9_chance 25 rfl) rfl ?_
        refine am_istore_n (q := 54) (by decide) (ls2 := [(2, am_i (bc (T1.2.1 32 4))), (0, am_r 0), (1, am_i n)]) rfl (am_tab tk_X9_chance 26 rfl) rfl ?_
        refine am_iconst (q := 55) (n := 0) (by decide) (am_tab tk_X9_chance 27 rfl) rfl ?_
        refine am_istore_n (q := 56) (by decide) (ls2 := [(3, am_i 0), (2, am_i (bc (T1.2.1 32 4))), (0, am_r 0), (1, am_i n)]) rfl (am_tab tk_X9_chance 28 rfl) rfl ?_
        have L56 : ∀ (n56 : Nat) (k : Nat) (S : am_H), n.toNat - k < n56 → (k : Int) ≤ n → CB T1 S → LF0 32 S (fun j => (chS σ k).1.2.1 96 j) → RWr 32 S (fun j => (chS σ k).1.2.1 96 j) → ROK (fun j => (chS σ k).1.2.1 96 j) → S.2.1 0 16 = (chS σ k).2.1 → nd (fun j => (chS σ k).1.2.1 96 j) = nd (fun j => σ.2.1 96 j) + (chS σ k).2.2 → am_wp M_X9_chance Q 5 261 56 [(0, am_r 0), (1, am_i n), (2, am_i ((bc (T1.2.1 32 4)))), (3, am_i ((k : Int)))] [] S := by
          intro n56
          induction n56 with
          | zero => intro k S hn56; exact absurd hn56 (Nat.not_lt_zero _)
          | succ n56 ih56 =>
            intro k S hn56 hk hB hF hR9 hO9 hx9 hnd
            refine am_iload_n (q := 57) rfl (am_tab tk_X9_chance 29 rfl) rfl ?_
            refine am_iload_n (q := 58) rfl (am_tab tk_X9_chance 30 rfl) rfl ?_
            refine am_icmp_ge (q := 61) (t := 76) (am_tab tk_X9_chance 31 rfl) (by decide) rfl (fun h58 => ?_) (fun h58 => ?_)
            · refine am_aload_n (q := 77) rfl (am_tab tk_X9_chance 39 rfl) rfl ?_
              refine am_getR (q := 80) (a := 0) (k := 9) (n := 17) (j := 4) (r := some (32)) (Ls_0 (hB.L hL1)) (by decide) rfl (Lr_0_4 (hB.L hL1)) (by decide) (Or.inl kf_X9_38) (am_tab tk_X9_chance 40 rfl) rfl ?_
              refine am_getI (q := 83) (a := 32) (k := 1) (n := 11) (j := 4) (x := (S.2.1 32 4)) (Ls_32 (hB.L hL1)) (by decide) rfl rfl (by decide) (Or.inr kf_X9_182) (am_tab tk_X9_chance 41 rfl) rfl ?_
              refine am_callS0 (q := 86) (me2 := M_J6_bitCount_0f7a4) (As := [am_i ((S.2.1 32 4))]) (rest := []) (out := [am_i (bc (S.2.1 32 4))]) (c_bc S (S.2.1 32 4) (hF.2.1)) ⟨rfl, rfl⟩ ⟨Or.inl km_X9_133, kc_J6_bitCount_0f7a4, kn_J6, kd_J6_bitCount_0f7a4, ⟨(Nat.le_of_ble_eq_true rfl), (Nat.le_of_ble_eq_true rfl)⟩, ⟨(Nat.le_of_ble_eq_true rfl), (Nat.le_of_ble_eq_true rfl)⟩, (Nat.le_of_ble_eq_true rfl)⟩ ki_J6_bitCount_0f7a4 rfl rfl (am_tab tk_X9_chance 42 rfl) rfl ?_
              have hb8 := (bc1_eq hF.2.1).2
              have hb9 := (bc1_eq hF1.2.1).2
              refine am_iload_n (q := 87) rfl (am_tab tk_X9_chance 43 rfl) rfl ?_
              refine am_isub (q := 88) (by omega) (am_tab tk_X9_chance 44 rfl) rfl ?_
              refine am_iret (Or.inl rfl) (Nat.le_of_ble_eq_true rfl) (Nat.le_of_ble_eq_true rfl) (am_tab tk_X9_chance 45 rfl) ?_
              refine hQ _ _ ?_
              refine Or.inl ⟨⟨⟨dl_52 (by omega), by omega, by omega⟩, by omega⟩, congrArg (fun z => some (am_i z)) ?_, ⟨T1, hRM, hB⟩, ?_, ?_, ?_, ?_⟩
              · rw [← (show k = n.toNat by omega), hF.nd, hF1.nd]; omega
              · rw [← (show k = n.toNat by omega)]; exact hF
              · rw [← (show k = n.toNat by omega)]; exact hR9
              · rw [← (show k = n.toNat by omega)]; exact hO9
              · rw [← (show k = n.toNat by omega)]; exact hx9
            · have hLS : lay S := hB.L hL1
              have hSk := chS_GD hC.G hx k (by omega)
              have hDk := chD_ok hC.G hx k (by omega)
              refine am_aload_n (q := 62) rfl (am_tab tk_X9_chance 32 rfl) rfl ?_
              refine am_callVr (q := 65) (me2 := M_X9_drawDeaths) (b := 0) (kb := 9) (nb := 17) (As := []) (rest := []) (c_drawDeaths_15 S σ hLS hC.G (fun j => (chS σ k).1.2.1 96 j) (chS σ k).2.1 (hT1.cb (Or.inr rfl) hB) hF ((hB.2.1 0 2 (by omega)).trans ht1) hx9 hSk.2.1 (pN_8 hC.G.R)) ⟨rfl, rfl⟩ (Ls_0 (hB.L hL1)) (by decide) ⟨Or.inl km_X9_304, kc_X9_drawDeaths, kn_X9, kd_X9_drawDeaths, ⟨(Nat.le_of_ble_eq_true rfl), (Nat.le_of_ble_eq_true rfl)⟩, ⟨(Nat.le_of_ble_eq_true rfl), (Nat.le_of_ble_eq_true rfl)⟩, (Nat.le_of_ble_eq_true rfl)⟩ ki_X9_drawDeaths ks_X9_drawDeaths rfl (am_tab tk_X9_chance 33 rfl) rfl ?_
              rintro r T2 ⟨rfl, hF2, hx2, hFd⟩
              have hB2 : CB T1 T2 := hB.trans (dd_cb hFd)
              have hLT2 : lay T2 := hB2.L hL1
              have hT2 : TWr 15 T2 (chD σ k) := (hT1.cb (Or.inr rfl) hB2).H (fun a j g1 g2 => hDk.2.2.2.2.1 a j (by omega))
              have hR2 : RWr 32 T2 (fun j => (chD σ k).2.1 96 j) := (hR9.fr hFd (by unfold W_dd; omega) (by unfold W_dd; omega) (fun j => by unfold W_dd; omega)).g (fun j hj => hDk.2.2.2.1 j (by omega))
              have hO2 : ROK (fun j => (chD σ k).2.1 96 j) := hO9.g (fun j hj => hDk.2.2.2.1 j (by omega))
              refine am_aload_n (q := 66) rfl (am_tab tk_X9_chance 34 rfl) rfl ?_
              refine am_callVr (q := 69) (me2 := M_X9_liveOneDay) (b := 0) (kb := 9) (nb := 17) (As := []) (rest := []) (c_liveOneDay_15 T2 (chD σ k) hLT2 hDk.1 hT2 hF2 hR2 hO2 ((hB2.2.1 0 2 (by omega)).trans ht1) hDk.2.1) ⟨rfl, rfl⟩ (Ls_0 hLT2) (by decide) ⟨Or.inl km_X9_300, kc_X9_liveOneDay, kn_X9, kd_X9_liveOneDay, ⟨(Nat.le_of_ble_eq_true rfl), (Nat.le_of_ble_eq_true rfl)⟩, ⟨(Nat.le_of_ble_eq_true rfl), (Nat.le_of_ble_eq_true rfl)⟩, (Nat.le_of_ble_eq_true rfl)⟩ ki_X9_liveOneDay ks_X9_liveOneDay rfl (am_tab tk_X9_chance 35 rfl) rfl ?_
              rintro r T3 ⟨rfl, hF3, hR3, hO3, hA3⟩
              refine am_pop (q := 70) rfl (am_tab tk_X9_chance 36 rfl) rfl ?_
              refine am_iinc (q := 73) rfl (by omega) (by decide) (ls2 := [(3, am_i (((k : Int) + 1))), (0, am_r 0), (1, am_i n), (2, am_i ((bc (T1.2.1 32 4))))]) rfl (am_tab tk_X9_chance 37 rfl) rfl ?_
              refine am_goto (t := 56) (am_tab tk_X9_chance 38 rfl) (by decide) ?_
              exact am_less (by intro q hq; simp only [List.mem_cons, List.not_mem_nil, or_false] at hq; rcases hq with rfl | rfl | rfl | rfl <;> simp) (ih56 (k + 1) T3 (by omega) (by omega) (hB2.trans hA3.cb) hF3 hR3 hO3 ((hA3.2.2 0 16 (by unfold W_ca; omega)).trans hx2) (by rw [hDk.2.2.2.2.2, hnd]; show _ = _ + ((chS σ k).2.2 + _); omega))
        refine am_less (by intro q hq; simp only [List.mem_cons, List.not_mem_nil, or_false] at hq; rcases hq with rfl | rfl | rfl | rfl <;> simp) (L56 (_ + 1) 0 T1 (by exact Nat.lt_succ_self _) (by omega) (CB.refl T1) hF1 hR1 hO ((hc1 0 16 (by decide) (by decide)).trans hdr) (Int.add_zero (nd (fun j => σ.2.1 96 j))).symm)
      · refine am_aload_n (q := 27) rfl (am_tab tk_X9_chance 13 rfl) rfl ?_
        refine am_iconst (q := 28) (n := 2) (by decide) (am_tab tk_X9_chance 14 rfl) rfl ?_
        refine am_callV0 (q := 31) (me2 := M_X9_refuse) (b := 0) (kb := 9) (nb := 17) (As := [am_i 2]) (rest := []) (out := [am_i ((-1))]) (c_refuse σ hL 2 (by decide) hr) ⟨rfl, rfl⟩ (Ls_0 hL) (by decide) ⟨Or.inl km_X9_92, kc_X9_refuse, kn_X9, kd_X9_refuse, ⟨(Nat.le_of_ble_eq_true rfl), (Nat.le_of_ble_eq_true rfl)⟩, ⟨(Nat.le_of_ble_eq_true rfl), (Nat.le_of_ble_eq_true rfl)⟩, (Nat.le_of_ble_eq_true rfl)⟩ ki_X9_refuse ks_X9_refuse rfl rfl (am_tab tk_X9_chance 15 rfl) rfl ?_
        refine am_iret (Or.inl rfl) (Nat.le_of_ble_eq_true rfl) (Nat.le_of_ble_eq_true rfl) (am_tab tk_X9_chance 16 rfl) ?_
        refine hQ _ _ ?_
        exact Or.inr ⟨fun hg => by unfold chC at hg; omega, rfl, rfl⟩
