set_option maxRecDepth 100000 in
theorem c_go_3 (σ : am_H) (f c : Nat) (hC : CI 3 σ) (hD : CDt 3 σ) (n : Int) (hR : RWr 32 σ (fun j => σ.2.1 96 j)) (hO : ROK (fun j => σ.2.1 96 j)) (hP : PAC f c σ) (hr : 0 ≤ σ.2.1 54 2 ∧ σ.2.1 54 2 ≤ 100000) : am_met M_X9_go [am_r 0, am_i n] σ (fun r σ' => (goC σ n ∧ r = some (am_i (sumN (feS σ) n.toNat)) ∧ (∃ T, RMB f c σ T ∧ CA T σ') ∧ LF0 32 σ' (fun j => (itS n.toNat σ).2.1 96 j) ∧ RWr 32 σ' (fun j => (itS n.toNat σ).2.1 96 j) ∧ ROK (fun j => (itS n.toNat σ).2.1 96 j)) ∨ (¬ goC σ n ∧ r = some (am_i (-1)) ∧ σ' = am_setN σ 54 2 (σ.2.1 54 2 + 1))) := by
  refine am_qq (fun Q hQ => ?_)
  refine am_enter (show plainFor yX9_go = true by decide +kernel) rfl (Nat.le_of_ble_eq_true rfl) (fun _ _ _ => trivial) ?_
  have hL := hC.G.L
  have hN := hC.G.R.P
  have hY := hC.G.R.Y
  refine am_iload_n (q := 1) rfl (am_tab tk_X9_go 0 rfl) rfl ?_
  refine am_iconst (q := 2) (n := 1) (by decide) (am_tab tk_X9_go 1 rfl) rfl ?_
  refine am_icmp_lt (q := 5) (t := 27) (am_tab tk_X9_go 2 rfl) (by decide) rfl (fun h2 => ?_) (fun h2 => ?_)
  · refine am_aload_n (q := 28) rfl (am_tab tk_X9_go 13 rfl) rfl ?_
    refine am_iconst (q := 29) (n := 2) (by decide) (am_tab tk_X9_go 14 rfl) rfl ?_
    refine am_callV0 (q := 32) (me2 := M_X9_refuse) (b := 0) (kb := 9) (nb := 17) (As := [am_i 2]) (rest := []) (out := [am_i ((-1))]) (c_refuse σ hL 2 (by decide) hr) ⟨rfl, rfl⟩ (Ls_0 hL) (by decide) ⟨Or.inl km_X9_92, kc_X9_refuse, kn_X9, kd_X9_refuse, ⟨(Nat.le_of_ble_eq_true rfl), (Nat.le_of_ble_eq_true rfl)⟩, ⟨(Nat.le_of_ble_eq_true rfl), (Nat.le_of_ble_eq_true rfl)⟩, (Nat.le_of_ble_eq_true rfl)⟩ ki_X9_refuse ks_X9_refuse rfl rfl (am_tab tk_X9_go 15 rfl) rfl ?_
    refine am_iret (Or.inl rfl) (Nat.le_of_ble_eq_true rfl) (Nat.le_of_ble_eq_true rfl) (am_tab tk_X9_go 16 rfl) ?_
    refine hQ _ _ ?_
    exact Or.inr ⟨fun hg => by unfold goC at hg; omega, rfl, rfl⟩
  · refine am_iload_n (q := 6) rfl (am_tab tk_X9_go 3 rfl) rfl ?_
    refine am_sipush (q := 9) (n := 200) (by decide) rfl (am_tab tk_X9_go 4 rfl) rfl ?_
    refine am_icmp_gt (q := 12) (t := 27) (am_tab tk_X9_go 5 rfl) (by decide) rfl (fun h9 => ?_) (fun h9 => ?_)
    · refine am_aload_n (q := 28) rfl (am_tab tk_X9_go 13 rfl) rfl ?_
      refine am_iconst (q := 29) (n := 2) (by decide) (am_tab tk_X9_go 14 rfl) rfl ?_
      refine am_callV0 (q := 32) (me2 := M_X9_refuse) (b := 0) (kb := 9) (nb := 17) (As := [am_i 2]) (rest := []) (out := [am_i ((-1))]) (c_refuse σ hL 2 (by decide) hr) ⟨rfl, rfl⟩ (Ls_0 hL) (by decide) ⟨Or.inl km_X9_92, kc_X9_refuse, kn_X9, kd_X9_refuse, ⟨(Nat.le_of_ble_eq_true rfl), (Nat.le_of_ble_eq_true rfl)⟩, ⟨(Nat.le_of_ble_eq_true rfl), (Nat.le_of_ble_eq_true rfl)⟩, (Nat.le_of_ble_eq_true rfl)⟩ ki_X9_refuse ks_X9_refuse rfl rfl (am_tab tk_X9_go 15 rfl) rfl ?_
      refine am_iret (Or.inl rfl) (Nat.le_of_ble_eq_true rfl) (Nat.le_of_ble_eq_true rfl) (am_tab tk_X9_go 16 rfl) ?_
      refine hQ _ _ ?_
      exact Or.inr ⟨fun hg => by unfold goC at hg; omega, rfl, rfl⟩
    · refine am_iload_n (q := 13) rfl (am_tab tk_X9_go 6 rfl) rfl ?_
      refine am_aload_n (q := 14) rfl (am_tab tk_X9_go 7 rfl) rfl ?_
      refine am_getR (q := 17) (a := 0) (k := 9) (n := 17) (j := 4) (r := some (32)) (Ls_0 hL) (by decide) rfl (Lr_0_4 hL) (by decide) (Or.inl kf_X9_38) (am_tab tk_X9_go 8 rfl) rfl ?_
      refine am_aload_n (q := 18) rfl (am_tab tk_X9_go 9 rfl) rfl ?_
      refine am_getR (q := 21) (a := 0) (k := 9) (n := 17) (j := 2) (r := some (3)) (Ls_0 hL) (by decide) rfl hC.t (by decide) (Or.inl kf_X9_19) (am_tab tk_X9_go 10 rfl) rfl ?_
      refine am_callV0 (q := 24) (me2 := M_X1_daysLeft) (b := 32) (kb := 1) (nb := 11) (As := [am_r 3]) (rest := [am_i n]) (out := [am_i (dlM σ), am_i n]) (c_daysLeft_3_32 σ σ hL hC.G hC.W hC.F) ⟨rfl, rfl⟩ (Ls_32 hL) (by decide) ⟨Or.inr km_X9_234, kc_X1_daysLeft, kn_X1, kd_X1_daysLeft, ⟨(Nat.le_of_ble_eq_true rfl), (Nat.le_of_ble_eq_true rfl)⟩, ⟨(Nat.le_of_ble_eq_true rfl), (Nat.le_of_ble_eq_true rfl)⟩, (Nat.le_of_ble_eq_true rfl)⟩ ki_X1_daysLeft ks_X1_daysLeft rfl rfl (am_tab tk_X9_go 11 rfl) rfl ?_
      refine am_icmp_le (q := 27) (t := 33) (am_tab tk_X9_go 12 rfl) (by decide) rfl (fun h24 => ?_) (fun h24 => ?_)
      · refine am_aload_n (q := 34) rfl (am_tab tk_X9_go 17 rfl) rfl ?_
        refine am_getR (q := 37) (a := 0) (k := 9) (n := 17) (j := 6) (r := some (42)) (Ls_0 hL) (by decide) rfl (Lr_0_6 hL) (by decide) (Or.inl kf_X9_48) (am_tab tk_X9_go 18 rfl) rfl ?_
        refine am_aload_n (q := 38) rfl (am_tab tk_X9_go 19 rfl) rfl ?_
        refine am_getR (q := 41) (a := 0) (k := 9) (n := 17) (j := 4) (r := some (32)) (Ls_0 hL) (by decide) rfl (Lr_0_4 hL) (by decide) (Or.inl kf_X9_38) (am_tab tk_X9_go 20 rfl) rfl ?_
        refine am_callV (q := 44) (me2 := M_X2_remember) (b := 42) (kb := 2) (nb := 3) (As := [am_r 32]) (rest := []) (c_remember σ hL hP.1.1 hP.1.2 hP.2.1.1 hP.2.1.2 hP.at) (Ls_42 hL) (by decide) ⟨Or.inr km_X9_297, kc_X2_remember, kn_X2, kd_X2_remember, ⟨(Nat.le_of_ble_eq_true rfl), (Nat.le_of_ble_eq_true rfl)⟩, ⟨(Nat.le_of_ble_eq_true rfl), (Nat.le_of_ble_eq_true rfl)⟩, (Nat.le_of_ble_eq_true rfl)⟩ ki_X2_remember ks_X2_remember rfl (am_tab tk_X9_go 21 rfl) rfl ?_
        rintro r T1 ⟨rfl, hRM⟩
        obtain ⟨hL1, hT1, hF1, ht1, hc1⟩ := hRM.keep (Or.inl rfl) hC hD hP
        have hR1 : RWr 32 T1 (fun j => σ.2.1 96 j) := hR.cells (fun a j ha => hc1 a j (by omega) (by omega))
        refine am_iconst (q := 45) (n := 0) (by decide) (am_tab tk_X9_go 22 rfl) rfl ?_
        refine am_istore_n (q := 46) (by decide) (ls2 := [(2, am_i 0), (0, am_r 0), (1, am_i n)]) rfl (am_tab tk_X9_go 23 rfl) rfl ?_
        refine am_iconst (q := 47) (n := 0) (by decide) (am_tab tk_X9_go 24 rfl) rfl ?_
        refine am_istore_n (q := 48) (by decide) (ls2 := [(3, am_i 0), (2, am_i 0), (0, am_r 0), (1, am_i n)]) rfl (am_tab tk_X9_go 25 rfl) rfl ?_
        have L48 : ∀ (n48 : Nat) (k : Nat) (S : am_H), n.toNat - k < n48 → (k : Int) ≤ n → CA T1 S → LF0 32 S (fun j => (itS k σ).2.1 96 j) → RWr 32 S (fun j => (itS k σ).2.1 96 j) → ROK (fun j => (itS k σ).2.1 96 j) → am_wp M_X9_go Q 5 261 48 [(0, am_r 0), (1, am_i n), (2, am_i ((sumN (feS σ) k))), (3, am_i ((k : Int)))] [] S := by
          intro n48
          induction n48 with
          | zero => intro k S hn48; exact absurd hn48 (Nat.not_lt_zero _)
          | succ n48 ih48 =>
            intro k S hn48 hk hA hF hR9 hO9
            refine am_iload_n (q := 49) rfl (am_tab tk_X9_go 26 rfl) rfl ?_
            refine am_iload_n (q := 50) rfl (am_tab tk_X9_go 27 rfl) rfl ?_
            refine am_icmp_ge (q := 53) (t := 66) (am_tab tk_X9_go 28 rfl) (by decide) rfl (fun h50 => ?_) (fun h50 => ?_)
            · refine am_iload_n (q := 67) rfl (am_tab tk_X9_go 36 rfl) rfl ?_
              refine am_iret (Or.inl rfl) (Nat.le_of_ble_eq_true rfl) (Nat.le_of_ble_eq_true rfl) (am_tab tk_X9_go 37 rfl) ?_
              refine hQ _ _ ?_
              refine Or.inl ⟨⟨⟨dl_52 (by omega), by omega, by omega⟩, by omega⟩, congrArg (fun z => some (am_i z)) ?_, ⟨T1, hRM, hA⟩, ?_, ?_, ?_⟩
              · rw [show k = n.toNat by omega]
              · rw [← show k = n.toNat by omega]; exact hF
              · rw [← show k = n.toNat by omega]; exact hR9
              · rw [← show k = n.toNat by omega]; exact hO9
            · have hLS : lay S := hA.L hL1
              have hGk := itS_GD hC.G k (by omega)
              have hsr := sumN_rng k (fun i _ => feS_01 σ i)
              have hfk := fsD01 (itS k σ)
              refine am_iload_n (q := 54) rfl (am_tab tk_X9_go 29 rfl) rfl ?_
              refine am_aload_n (q := 55) rfl (am_tab tk_X9_go 30 rfl) rfl ?_
              refine am_callVr (q := 58) (me2 := M_X9_liveOneDay) (b := 0) (kb := 9) (nb := 17) (As := []) (rest := [am_i ((sumN (feS σ) k))]) (c_liveOneDay_3 S (itS k σ) hLS hGk.1 ((hT1.ca hA (by decide)).it k) hF hR9 hO9 ((hA.2.1 0 2 (by omega)).trans ht1) (by rw [hGk.2]; omega)) ⟨rfl, rfl⟩ (Ls_0 (hA.L hL1)) (by decide) ⟨Or.inl km_X9_300, kc_X9_liveOneDay, kn_X9, kd_X9_liveOneDay, ⟨(Nat.le_of_ble_eq_true rfl), (Nat.le_of_ble_eq_true rfl)⟩, ⟨(Nat.le_of_ble_eq_true rfl), (Nat.le_of_ble_eq_true rfl)⟩, (Nat.le_of_ble_eq_true rfl)⟩ ki_X9_liveOneDay ks_X9_liveOneDay rfl (am_tab tk_X9_go 31 rfl) rfl ?_
              rintro r T2 ⟨rfl, hF2, hR2, hO2, hA2⟩
              refine am_iadd (q := 59) (by omega) (am_tab tk_X9_go 32 rfl) rfl ?_
              refine am_istore_n (q := 60) (by decide) (ls2 := [(2, am_i (((sumN (feS σ) k) + (fsD (itS k σ))))), (0, am_r 0), (1, am_i n), (3, am_i ((k : Int)))]) rfl (am_tab tk_X9_go 33 rfl) rfl ?_
              refine am_iinc (q := 63) rfl (by omega) (by decide) (ls2 := [(3, am_i (((k : Int) + 1))), (2, am_i (((sumN (feS σ) k) + (fsD (itS k σ))))), (0, am_r 0), (1, am_i n)]) rfl (am_tab tk_X9_go 34 rfl) rfl ?_
              refine am_goto (t := 48) (am_tab tk_X9_go 35 rfl) (by decide) ?_
              have he : sumN (feS σ) (k + 1) = ((sumN (feS σ) k) + (fsD (itS k σ))) := rfl
              exact am_less (by intro q hq; simp only [List.mem_cons, List.not_mem_nil, or_false] at hq; rcases hq with rfl | rfl | rfl | rfl <;> simp [he]) (ih48 (k + 1) T2 (by omega) (by omega) (hA.trans hA2) hF2 hR2 hO2)
        refine am_less (by intro q hq; simp only [List.mem_cons, List.not_mem_nil, or_false] at hq; rcases hq with rfl | rfl | rfl | rfl <;> simp [sumN]) (L48 (_ + 1) 0 T1 (by exact Nat.lt_succ_self _) (by omega) (CA.refl T1) hF1 hR1 hO)
      · refine am_aload_n (q := 28) rfl (am_tab tk_X9_go 13 rfl) rfl ?_
        refine am_iconst (q := 29) (n := 2) (by decide) (am_tab tk_X9_go 14 rfl) rfl ?_
        refine am_callV0 (q := 32) (me2 := M_X9_refuse) (b := 0) (kb := 9) (nb := 17) (As := [am_i 2]) (rest := []) (out := [am_i ((-1))]) (c_refuse σ hL 2 (by decide) hr) ⟨rfl, rfl⟩ (Ls_0 hL) (by decide) ⟨Or.inl km_X9_92, kc_X9_refuse, kn_X9, kd_X9_refuse, ⟨(Nat.le_of_ble_eq_true rfl), (Nat.le_of_ble_eq_true rfl)⟩, ⟨(Nat.le_of_ble_eq_true rfl), (Nat.le_of_ble_eq_true rfl)⟩, (Nat.le_of_ble_eq_true rfl)⟩ ki_X9_refuse ks_X9_refuse rfl rfl (am_tab tk_X9_go 15 rfl) rfl ?_
        refine am_iret (Or.inl rfl) (Nat.le_of_ble_eq_true rfl) (Nat.le_of_ble_eq_true rfl) (am_tab tk_X9_go 16 rfl) ?_
        refine hQ _ _ ?_
        exact Or.inr ⟨fun hg => by unfold goC at hg; omega, rfl, rfl⟩
set_option maxRecDepth 100000 in
theorem c_tell_3 (σ : am_H) (f c : Nat) (hC : CI 3 σ) (hD : CDt 3 σ) (p : Int) (d : Int) (hR : RWr 32 σ (fun j => σ.2.1 96 j)) (hO : ROK (fun j => σ.2.1 96 j)) (hP : PAC f c σ) (hZ : ZR (σ.2.1 85 9) (fun j => σ.2.1 96 j)) (hm : 0 ≤ stM σ 20 ∧ stM σ 20 ≤ 30) (hr : 0 ≤ σ.2.1 54 3 ∧ σ.2.1 54 3 ≤ 100000) : am_met M_X9_tell [am_r 0, am_i p, am_i d] σ (fun r σ' => (telC σ p d ∧ r = some (am_i (if tb (σ.2.1 96 (20 + d).toNat) p = 1 then 0 else 1)) ∧ ∃ T, RMB f c σ T ∧ σ' = am_setN T 34 d.toNat (ao_xor (T.2.1 34 d.toNat) (ao_shl 1 p))) ∨ (¬ telC σ p d ∧ r = some (am_i (-1)) ∧ σ' = am_setN σ 54 3 (σ.2.1 54 3 + 1))) := by
  refine am_qq (fun Q hQ => ?_)
  refine am_enter (show plainFor yX9_tell = true by decide +kernel) rfl (Nat.le_of_ble_eq_true rfl) (fun _ _ _ => trivial) ?_
  have hL := hC.G.L
  have hN := hC.G.R.P
  have hY := hC.G.R.Y
  refine am_aload_n (q := 1) rfl (am_tab tk_X9_tell 0 rfl) rfl ?_
  refine am_iload_n (q := 2) rfl (am_tab tk_X9_tell 1 rfl) rfl ?_
  refine am_callV0 (q := 5) (me2 := M_X9_isPerson) (b := 0) (kb := 9) (nb := 17) (As := [am_i p]) (rest := []) (out := [am_i (if 0 ≤ p ∧ p < σ.2.1 85 5 then 1 else 0)]) (c_isPerson_3 σ hC p) ⟨rfl, rfl⟩ (Ls_0 hL) (by decide) ⟨Or.inl km_X9_166, kc_X9_isPerson, kn_X9, kd_X9_isPerson, ⟨(Nat.le_of_ble_eq_true rfl), (Nat.le_of_ble_eq_true rfl)⟩, ⟨(Nat.le_of_ble_eq_true rfl), (Nat.le_of_ble_eq_true rfl)⟩, (Nat.le_of_ble_eq_true rfl)⟩ ki_X9_isPerson ks_X9_isPerson rfl rfl (am_tab tk_X9_tell 2 rfl) rfl ?_
  refine am_if_eq (q := 8) (t := 16) (am_tab tk_X9_tell 3 rfl) (by decide) rfl (fun h5 => ?_) (fun h5 => ?_)
  · replace h5 := b01z h5
    refine am_aload_n (q := 17) rfl (am_tab tk_X9_tell 8 rfl) rfl ?_
    refine am_iconst (q := 18) (n := 3) (by decide) (am_tab tk_X9_tell 9 rfl) rfl ?_
    refine am_callV0 (q := 21) (me2 := M_X9_refuse) (b := 0) (kb := 9) (nb := 17) (As := [am_i 3]) (rest := []) (out := [am_i ((-1))]) (c_refuse σ hL 3 (by decide) hr) ⟨rfl, rfl⟩ (Ls_0 hL) (by decide) ⟨Or.inl km_X9_92, kc_X9_refuse, kn_X9, kd_X9_refuse, ⟨(Nat.le_of_ble_eq_true rfl), (Nat.le_of_ble_eq_true rfl)⟩, ⟨(Nat.le_of_ble_eq_true rfl), (Nat.le_of_ble_eq_true rfl)⟩, (Nat.le_of_ble_eq_true rfl)⟩ ki_X9_refuse ks_X9_refuse rfl rfl (am_tab tk_X9_tell 10 rfl) rfl ?_
    refine am_iret (Or.inl rfl) (Nat.le_of_ble_eq_true rfl) (Nat.le_of_ble_eq_true rfl) (am_tab tk_X9_tell 11 rfl) ?_
    refine hQ _ _ ?_
    refine Or.inr ⟨fun hg => ?_, rfl, rfl⟩
    have := hg.1
    omega
  · replace h5 := b01n h5
    refine am_aload_n (q := 9) rfl (am_tab tk_X9_tell 4 rfl) rfl ?_
    refine am_iload_n (q := 10) rfl (am_tab tk_X9_tell 5 rfl) rfl ?_
    refine am_callV0 (q := 13) (me2 := M_X9_isDay) (b := 0) (kb := 9) (nb := 17) (As := [am_i d]) (rest := []) (out := [am_i (if 1 ≤ d ∧ d ≤ σ.2.1 85 9 then 1 else 0)]) (c_isDay_3 σ hC d) ⟨rfl, rfl⟩ (Ls_0 hL) (by decide) ⟨Or.inl km_X9_198, kc_X9_isDay, kn_X9, kd_X9_isDay, ⟨(Nat.le_of_ble_eq_true rfl), (Nat.le_of_ble_eq_true rfl)⟩, ⟨(Nat.le_of_ble_eq_true rfl), (Nat.le_of_ble_eq_true rfl)⟩, (Nat.le_of_ble_eq_true rfl)⟩ ki_X9_isDay ks_X9_isDay rfl rfl (am_tab tk_X9_tell 6 rfl) rfl ?_
    refine am_if_ne (q := 16) (t := 22) (am_tab tk_X9_tell 7 rfl) (by decide) rfl (fun h13 => ?_) (fun h13 => ?_)
    · replace h13 := b01n h13
      have ht9 : 0 ≤ σ.2.1 34 d.toNat ∧ σ.2.1 34 d.toNat < 256 := by rw [hC.F.2.2.2.2.1 d.toNat (by omega)]; exact hC.G.R.told d.toNat (by omega)
      have e20 : σ.2.1 34 d.toNat = σ.2.1 96 (20 + d).toNat := by rw [show (20 + d).toNat = 20 + d.toNat by omega]; exact hC.F.2.2.2.2.1 d.toNat (by omega)
      have t01 : tb (σ.2.1 34 d.toNat) p = 0 ∨ tb (σ.2.1 34 d.toNat) p = 1 := by unfold tb; omega
      refine am_aload_n (q := 23) rfl (am_tab tk_X9_tell 12 rfl) rfl ?_
      refine am_getR (q := 26) (a := 0) (k := 9) (n := 17) (j := 4) (r := some (32)) (Ls_0 hL) (by decide) rfl (Lr_0_4 hL) (by decide) (Or.inl kf_X9_38) (am_tab tk_X9_tell 13 rfl) rfl ?_
      refine am_getR (q := 29) (a := 32) (k := 1) (n := 11) (j := 6) (r := some (34)) (Ls_32 hL) (by decide) rfl (Lr_32_6 hL) (by decide) (Or.inr kf_X9_147) (am_tab tk_X9_tell 14 rfl) rfl ?_
      refine am_iload_n (q := 30) rfl (am_tab tk_X9_tell 15 rfl) rfl ?_
      refine am_iald (q := 31) (a := 34) (n := 91) (x := (σ.2.1 34 (Int.toNat d))) (Ls_34 hL) (by omega) (by omega) rfl (am_tab tk_X9_tell 16 rfl) rfl ?_
      refine am_iload_n (q := 32) rfl (am_tab tk_X9_tell 17 rfl) rfl ?_
      refine am_callS0 (q := 35) (me2 := M_X9_bit) (As := [am_i ((σ.2.1 34 (Int.toNat d))), am_i p]) (rest := []) (out := [am_i (tb (σ.2.1 34 (Int.toNat d)) p)]) (c_bit σ (σ.2.1 34 (Int.toNat d)) p ht9 (by omega)) ⟨rfl, rfl⟩ ⟨Or.inl km_X9_185, kc_X9_bit, kn_X9, kd_X9_bit, ⟨(Nat.le_of_ble_eq_true rfl), (Nat.le_of_ble_eq_true rfl)⟩, ⟨(Nat.le_of_ble_eq_true rfl), (Nat.le_of_ble_eq_true rfl)⟩, (Nat.le_of_ble_eq_true rfl)⟩ ki_X9_bit rfl rfl (am_tab tk_X9_tell 18 rfl) rfl ?_
      refine am_if_ne (q := 38) (t := 42) (am_tab tk_X9_tell 19 rfl) (by decide) rfl (fun h35 => ?_) (fun h35 => ?_)
      · refine am_iconst (q := 43) (n := 0) (by decide) (am_tab tk_X9_tell 22 rfl) rfl ?_
        refine am_istore_n (q := 44) (by decide) (ls2 := [(3, am_i 0), (0, am_r 0), (1, am_i p), (2, am_i d)]) rfl (am_tab tk_X9_tell 23 rfl) rfl ?_
        refine am_iload_n (q := 45) rfl (am_tab tk_X9_tell 24 rfl) rfl ?_
        refine am_if_eq (q := 48) (t := 69) (am_tab tk_X9_tell 25 rfl) (by decide) rfl (fun h45 => ?_) (fun h45 => ?_)
        · refine am_aload_n (q := 70) rfl (am_tab tk_X9_tell 36 rfl) rfl ?_
          refine am_getR (q := 73) (a := 0) (k := 9) (n := 17) (j := 6) (r := some (42)) (Ls_0 hL) (by decide) rfl (Lr_0_6 hL) (by decide) (Or.inl kf_X9_48) (am_tab tk_X9_tell 37 rfl) rfl ?_
          refine am_aload_n (q := 74) rfl (am_tab tk_X9_tell 38 rfl) rfl ?_
          refine am_getR (q := 77) (a := 0) (k := 9) (n := 17) (j := 4) (r := some (32)) (Ls_0 hL) (by decide) rfl (Lr_0_4 hL) (by decide) (Or.inl kf_X9_38) (am_tab tk_X9_tell 39 rfl) rfl ?_
          refine am_callV (q := 80) (me2 := M_X2_remember) (b := 42) (kb := 2) (nb := 3) (As := [am_r 32]) (rest := []) (c_remember σ hL hP.1.1 hP.1.2 hP.2.1.1 hP.2.1.2 hP.at) (Ls_42 hL) (by decide) ⟨Or.inr km_X9_297, kc_X2_remember, kn_X2, kd_X2_remember, ⟨(Nat.le_of_ble_eq_true rfl), (Nat.le_of_ble_eq_true rfl)⟩, ⟨(Nat.le_of_ble_eq_true rfl), (Nat.le_of_ble_eq_true rfl)⟩, (Nat.le_of_ble_eq_true rfl)⟩ ki_X2_remember ks_X2_remember rfl (am_tab tk_X9_tell 40 rfl) rfl ?_
          rintro r T1 ⟨rfl, hRM⟩
          obtain ⟨hL1, hT1, hF1, ht1, hc1⟩ := hRM.keep (Or.inl rfl) hC hD hP
          have hR1 : RWr 32 T1 (fun j => σ.2.1 96 j) := hR.cells (fun a j ha => hc1 a j (by omega) (by omega))
          refine am_aload_n (q := 81) rfl (am_tab tk_X9_tell 41 rfl) rfl ?_
          refine am_getR (q := 84) (a := 0) (k := 9) (n := 17) (j := 4) (r := some (32)) (Ls_0 hL1) (by decide) rfl (Lr_0_4 hL1) (by decide) (Or.inl kf_X9_38) (am_tab tk_X9_tell 42 rfl) rfl ?_
          refine am_getR (q := 87) (a := 32) (k := 1) (n := 11) (j := 6) (r := some (34)) (Ls_32 hL1) (by decide) rfl (Lr_32_6 hL1) (by decide) (Or.inr kf_X9_147) (am_tab tk_X9_tell 43 rfl) rfl ?_
          refine am_iload_n (q := 88) rfl (am_tab tk_X9_tell 44 rfl) rfl ?_
          refine am_dup2 (q := 89) rfl rfl (am_tab tk_X9_tell 45 rfl) rfl ?_
          refine am_iald (q := 90) (a := 34) (n := 91) (x := (T1.2.1 34 (Int.toNat d))) (Ls_34 hL1) (by omega) (by omega) rfl (am_tab tk_X9_tell 46 rfl) rfl ?_
          refine am_iconst (q := 91) (n := 1) (by decide) (am_tab tk_X9_tell 47 rfl) rfl ?_
          refine am_iload_n (q := 92) rfl (am_tab tk_X9_tell 48 rfl) rfl ?_
          refine am_ishl (q := 93) (am_tab tk_X9_tell 49 rfl) rfl ?_
          refine am_ixor (q := 94) (am_tab tk_X9_tell 50 rfl) rfl ?_
          refine am_iast (q := 95) (a := 34) (n := 91) (Ls_34 hL1) (by omega) (by omega) (am_tab tk_X9_tell 51 rfl) rfl ?_
          refine am_iload_n (q := 96) rfl (am_tab tk_X9_tell 52 rfl) rfl ?_
          refine am_if_eq (q := 99) (t := 103) (am_tab tk_X9_tell 53 rfl) (by decide) rfl (fun h96 => ?_) (fun h96 => ?_)
          · refine am_iconst (q := 104) (n := 0) (by decide) (am_tab tk_X9_tell 56 rfl) rfl ?_
            refine am_iret (Or.inl rfl) (Nat.le_of_ble_eq_true rfl) (Nat.le_of_ble_eq_true rfl) (am_tab tk_X9_tell 57 rfl) ?_
            refine hQ _ _ ?_
            have e34 : T1.2.1 34 d.toNat = σ.2.1 34 d.toNat := hc1 34 _ (by omega) (by omega)
            refine Or.inl ⟨?_, congrArg (fun z => some (am_i z)) ?_, T1, hRM, rfl⟩
            · refine ⟨⟨by omega, by omega⟩, ⟨by omega, by omega⟩, ?_⟩
              rw [← e20]; omega
            · rw [← e20]; split <;> omega
          · exact absurd h96 (by decide)
        · exact absurd h45 (by decide)
      · refine am_iconst (q := 39) (n := 1) (by decide) (am_tab tk_X9_tell 20 rfl) rfl ?_
        refine am_goto (t := 43) (am_tab tk_X9_tell 21 rfl) (by decide) ?_
        refine am_istore_n (q := 44) (by decide) (ls2 := [(3, am_i 1), (0, am_r 0), (1, am_i p), (2, am_i d)]) rfl (am_tab tk_X9_tell 23 rfl) rfl ?_
        refine am_iload_n (q := 45) rfl (am_tab tk_X9_tell 24 rfl) rfl ?_
        refine am_if_eq (q := 48) (t := 69) (am_tab tk_X9_tell 25 rfl) (by decide) rfl (fun h45 => ?_) (fun h45 => ?_)
        · exact absurd h45 (by decide)
        · refine am_aload_n (q := 49) rfl (am_tab tk_X9_tell 26 rfl) rfl ?_
          refine am_getR (q := 52) (a := 0) (k := 9) (n := 17) (j := 4) (r := some (32)) (Ls_0 hL) (by decide) rfl (Lr_0_4 hL) (by decide) (Or.inl kf_X9_38) (am_tab tk_X9_tell 27 rfl) rfl ?_
          refine am_getR (q := 55) (a := 32) (k := 1) (n := 11) (j := 6) (r := some (34)) (Ls_32 hL) (by decide) rfl (Lr_32_6 hL) (by decide) (Or.inr kf_X9_147) (am_tab tk_X9_tell 28 rfl) rfl ?_
          refine am_callSr (q := 58) (me2 := M_X9_countBits) (As := [am_r 34]) (rest := []) (c_countBits_34 σ hL (fun d hd => by rw [hC.F.2.2.2.2.1 d hd]; exact hC.G.R.told d hd)) ⟨rfl, rfl⟩ ⟨Or.inl km_X9_150, kc_X9_countBits, kn_X9, kd_X9_countBits, ⟨(Nat.le_of_ble_eq_true rfl), (Nat.le_of_ble_eq_true rfl)⟩, ⟨(Nat.le_of_ble_eq_true rfl), (Nat.le_of_ble_eq_true rfl)⟩, (Nat.le_of_ble_eq_true rfl)⟩ ki_X9_countBits rfl (am_tab tk_X9_tell 29 rfl) rfl ?_
          rintro r τ ⟨hr9, hτ⟩
          rw [show sumN (fun d => bc (σ.2.1 34 d)) 91 = stM σ 20 from sumN_sh (f := fun d => bc (σ.2.1 34 d)) (by show bc (σ.2.1 34 0) = 0; rw [show σ.2.1 34 0 = 0 from (hC.F.2.2.2.2.1 0 (by decide)).trans hZ.1]; exact bc0) 90 (fun d hd => by show bc (σ.2.1 34 (d + 1)) = bc (σ.2.1 96 (20 + 1 + d)); rw [show σ.2.1 34 (d + 1) = σ.2.1 96 (20 + 1 + d) from (hC.F.2.2.2.2.1 (d + 1) (by omega)).trans (by rw [show 20 + (d + 1) = 20 + 1 + d by omega])])] at hr9
          rw [hr9, hτ]
          refine am_st (st2 := [am_i (stM σ 20)]) rfl ?_
          refine am_bipush (q := 60) (n := 30) (by decide) rfl (am_tab tk_X9_tell 30 rfl) rfl ?_
          refine am_icmp_lt (q := 63) (t := 69) (am_tab tk_X9_tell 31 rfl) (by decide) rfl (fun h60 => ?_) (fun h60 => ?_)
          · refine am_aload_n (q := 70) rfl (am_tab tk_X9_tell 36 rfl) rfl ?_
            refine am_getR (q := 73) (a := 0) (k := 9) (n := 17) (j := 6) (r := some (42)) (Ls_0 hL) (by decide) rfl (Lr_0_6 hL) (by decide) (Or.inl kf_X9_48) (am_tab tk_X9_tell 37 rfl) rfl ?_
            refine am_aload_n (q := 74) rfl (am_tab tk_X9_tell 38 rfl) rfl ?_
            refine am_getR (q := 77) (a := 0) (k := 9) (n := 17) (j := 4) (r := some (32)) (Ls_0 hL) (by decide) rfl (Lr_0_4 hL) (by decide) (Or.inl kf_X9_38) (am_tab tk_X9_tell 39 rfl) rfl ?_
            refine am_callV (q := 80) (me2 := M_X2_remember) (b := 42) (kb := 2) (nb := 3) (As := [am_r 32]) (rest := []) (c_remember σ hL hP.1.1 hP.1.2 hP.2.1.1 hP.2.1.2 hP.at) (Ls_42 hL) (by decide) ⟨Or.inr km_X9_297, kc_X2_remember, kn_X2, kd_X2_remember, ⟨(Nat.le_of_ble_eq_true rfl), (Nat.le_of_ble_eq_true rfl)⟩, ⟨(Nat.le_of_ble_eq_true rfl), (Nat.le_of_ble_eq_true rfl)⟩, (Nat.le_of_ble_eq_true rfl)⟩ ki_X2_remember ks_X2_remember rfl (am_tab tk_X9_tell 40 rfl) rfl ?_
            rintro r T1 ⟨rfl, hRM⟩
            obtain ⟨hL1, hT1, hF1, ht1, hc1⟩ := hRM.keep (Or.inl rfl) hC hD hP
            have hR1 : RWr 32 T1 (fun j => σ.2.1 96 j) := hR.cells (fun a j ha => hc1 a j (by omega) (by omega))
            refine am_aload_n (q := 81) rfl (am_tab tk_X9_tell 41 rfl) rfl ?_
            refine am_getR (q := 84) (a := 0) (k := 9) (n := 17) (j := 4) (r := some (32)) (Ls_0 hL1) (by decide) rfl (Lr_0_4 hL1) (by decide) (Or.inl kf_X9_38) (am_tab tk_X9_tell 42 rfl) rfl ?_
            refine am_getR (q := 87) (a := 32) (k := 1) (n := 11) (j := 6) (r := some (34)) (Ls_32 hL1) (by decide) rfl (Lr_32_6 hL1) (by decide) (Or.inr kf_X9_147) (am_tab tk_X9_tell 43 rfl) rfl ?_
            refine am_iload_n (q := 88) rfl (am_tab tk_X9_tell 44 rfl) rfl ?_
            refine am_dup2 (q := 89) rfl rfl (am_tab tk_X9_tell 45 rfl) rfl ?_
            refine am_iald (q := 90) (a := 34) (n := 91) (x := (T1.2.1 34 (Int.toNat d))) (Ls_34 hL1) (by omega) (by omega) rfl (am_tab tk_X9_tell 46 rfl) rfl ?_
            refine am_iconst (q := 91) (n := 1) (by decide) (am_tab tk_X9_tell 47 rfl) rfl ?_
            refine am_iload_n (q := 92) rfl (am_tab tk_X9_tell 48 rfl) rfl ?_
            refine am_ishl (q := 93) (am_tab tk_X9_tell 49 rfl) rfl ?_
            refine am_ixor (q := 94) (am_tab tk_X9_tell 50 rfl) rfl ?_
            refine am_iast (q := 95) (a := 34) (n := 91) (Ls_34 hL1) (by omega) (by omega) (am_tab tk_X9_tell 51 rfl) rfl ?_
            refine am_iload_n (q := 96) rfl (am_tab tk_X9_tell 52 rfl) rfl ?_
            refine am_if_eq (q := 99) (t := 103) (am_tab tk_X9_tell 53 rfl) (by decide) rfl (fun h96 => ?_) (fun h96 => ?_)
            · exact absurd h96 (by decide)
            · refine am_iconst (q := 100) (n := 1) (by decide) (am_tab tk_X9_tell 54 rfl) rfl ?_
              refine am_goto (t := 104) (am_tab tk_X9_tell 55 rfl) (by decide) ?_
              refine am_iret (Or.inl rfl) (Nat.le_of_ble_eq_true rfl) (Nat.le_of_ble_eq_true rfl) (am_tab tk_X9_tell 57 rfl) ?_
              refine hQ _ _ ?_
              have e34 : T1.2.1 34 d.toNat = σ.2.1 34 d.toNat := hc1 34 _ (by omega) (by omega)
              refine Or.inl ⟨?_, congrArg (fun z => some (am_i z)) ?_, T1, hRM, rfl⟩
              · refine ⟨⟨by omega, by omega⟩, ⟨by omega, by omega⟩, ?_⟩
                rw [← e20]; omega
              · rw [← e20]; split <;> omega
          · refine am_aload_n (q := 64) rfl (am_tab tk_X9_tell 32 rfl) rfl ?_
            refine am_iconst (q := 65) (n := 3) (by decide) (am_tab tk_X9_tell 33 rfl) rfl ?_
            refine am_callV0 (q := 68) (me2 := M_X9_refuse) (b := 0) (kb := 9) (nb := 17) (As := [am_i 3]) (rest := []) (out := [am_i ((-1))]) (c_refuse σ hL 3 (by decide) hr) ⟨rfl, rfl⟩ (Ls_0 hL) (by decide) ⟨Or.inl km_X9_92, kc_X9_refuse, kn_X9, kd_X9_refuse, ⟨(Nat.le_of_ble_eq_true rfl), (Nat.le_of_ble_eq_true rfl)⟩, ⟨(Nat.le_of_ble_eq_true rfl), (Nat.le_of_ble_eq_true rfl)⟩, (Nat.le_of_ble_eq_true rfl)⟩ ki_X9_refuse ks_X9_refuse rfl rfl (am_tab tk_X9_tell 34 rfl) rfl ?_
            refine am_iret (Or.inl rfl) (Nat.le_of_ble_eq_true rfl) (Nat.le_of_ble_eq_true rfl) (am_tab tk_X9_tell 35 rfl) ?_
            refine hQ _ _ ?_
            refine Or.inr ⟨fun hg => ?_, rfl, rfl⟩
            have h9 := hg.2.2
            rw [← e20] at h9
            omega
    · replace h13 := b01z h13
      refine am_aload_n (q := 17) rfl (am_tab tk_X9_tell 8 rfl) rfl ?_
      refine am_iconst (q := 18) (n := 3) (by decide) (am_tab tk_X9_tell 9 rfl) rfl ?_
      refine am_callV0 (q := 21) (me2 := M_X9_refuse) (b := 0) (kb := 9) (nb := 17) (As := [am_i 3]) (rest := []) (out := [am_i ((-1))]) (c_refuse σ hL 3 (by decide) hr) ⟨rfl, rfl⟩ (Ls_0 hL) (by decide) ⟨Or.inl km_X9_92, kc_X9_refuse, kn_X9, kd_X9_refuse, ⟨(Nat.le_of_ble_eq_true rfl), (Nat.le_of_ble_eq_true rfl)⟩, ⟨(Nat.le_of_ble_eq_true rfl), (Nat.le_of_ble_eq_true rfl)⟩, (Nat.le_of_ble_eq_true rfl)⟩ ki_X9_refuse ks_X9_refuse rfl rfl (am_tab tk_X9_tell 10 rfl) rfl ?_
      refine am_iret (Or.inl rfl) (Nat.le_of_ble_eq_true rfl) (Nat.le_of_ble_eq_true rfl) (am_tab tk_X9_tell 11 rfl) ?_
      refine hQ _ _ ?_
      refine Or.inr ⟨fun hg => ?_, rfl, rfl⟩
      have := hg.2.1
      omega
set_option maxRecDepth 100000 in
theorem c_go_15 (σ : am_H) (f c : Nat) (hC : CI 15 σ) (hD : CDt 15 σ) (n : Int) (hR : RWr 32 σ (fun j => σ.2.1 96 j)) (hO : ROK (fun j => σ.2.1 96 j)) (hP : PAC f c σ) (hr : 0 ≤ σ.2.1 54 2 ∧ σ.2.1 54 2 ≤ 100000) : am_met M_X9_go [am_r 0, am_i n] σ (fun r σ' => (goC σ n ∧ r = some (am_i (sumN (feS σ) n.toNat)) ∧ (∃ T, RMB f c σ T ∧ CA T σ') ∧ LF0 32 σ' (fun j => (itS n.toNat σ).2.1 96 j) ∧ RWr 32 σ' (fun j => (itS n.toNat σ).2.1 96 j) ∧ ROK (fun j => (itS n.toNat σ).2.1 96 j)) ∨ (¬ goC σ n ∧ r = some (am_i (-1)) ∧ σ' = am_setN σ 54 2 (σ.2.1 54 2 + 1))) := by
  refine am_qq (fun Q hQ => ?_)
  refine am_enter (show plainFor yX9_go = true by decide +kernel) rfl (Nat.le_of_ble_eq_true rfl) (fun _ _ _ => trivial) ?_
  have hL := hC.G.L
  have hN := hC.G.R.P
  have hY := hC.G.R.Y
  refine am_iload_n (q := 1) rfl (am_tab tk_X9_go 0 rfl) rfl ?_
  refine am_iconst (q := 2) (n := 1) (by decide) (am_tab tk_X9_go 1 rfl) rfl ?_
  refine am_icmp_lt (q := 5) (t := 27) (am_tab tk_X9_go 2 rfl) (by decide) rfl (fun h2 => ?_) (fun h2 => ?_)
  · refine am_aload_n (q := 28) rfl (am_tab tk_X9_go 13 rfl) rfl ?_
    refine am_iconst (q := 29) (n := 2) (by decide) (am_tab tk_X9_go 14 rfl) rfl ?_
    refine am_callV0 (q := 32) (me2 := M_X9_refuse) (b := 0) (kb := 9) (nb := 17) (As := [am_i 2]) (rest := []) (out := [am_i ((-1))]) (c_refuse σ hL 2 (by decide) hr) ⟨rfl, rfl⟩ (Ls_0 hL) (by decide) ⟨Or.inl km_X9_92, kc_X9_refuse, kn_X9, kd_X9_refuse, ⟨(Nat.le_of_ble_eq_true rfl), (Nat.le_of_ble_eq_true rfl)⟩, ⟨(Nat.le_of_ble_eq_true rfl), (Nat.le_of_ble_eq_true rfl)⟩, (Nat.le_of_ble_eq_true rfl)⟩ ki_X9_refuse ks_X9_refuse rfl rfl (am_tab tk_X9_go 15 rfl) rfl ?_
    refine am_iret (Or.inl rfl) (Nat.le_of_ble_eq_true rfl) (Nat.le_of_ble_eq_true rfl) (am_tab tk_X9_go 16 rfl) ?_
    refine hQ _ _ ?_
    exact Or.inr ⟨fun hg => by unfold goC at hg; omega, rfl, rfl⟩
  · refine am_iload_n (q := 6) rfl (am_tab tk_X9_go 3 rfl) rfl ?_
    refine am_sipush (q := 9) (n := 200) (by decide) rfl (am_tab tk_X9_go 4 rfl) rfl ?_
    refine am_icmp_gt (q := 12) (t := 27) (am_tab tk_X9_go 5 rfl) (by decide) rfl (fun h9 => ?_) (fun h9 => ?_)
    · refine am_aload_n (q := 28) rfl (am_tab tk_X9_go 13 rfl) rfl ?_
      refine am_iconst (q := 29) (n := 2) (by decide) (am_tab tk_X9_go 14 rfl) rfl ?_
      refine am_callV0 (q := 32) (me2 := M_X9_refuse) (b := 0) (kb := 9) (nb := 17) (As := [am_i 2]) (rest := []) (out := [am_i ((-1))]) (c_refuse σ hL 2 (by decide) hr) ⟨rfl, rfl⟩ (Ls_0 hL) (by decide) ⟨Or.inl km_X9_92, kc_X9_refuse, kn_X9, kd_X9_refuse, ⟨(Nat.le_of_ble_eq_true rfl), (Nat.le_of_ble_eq_true rfl)⟩, ⟨(Nat.le_of_ble_eq_true rfl), (Nat.le_of_ble_eq_true rfl)⟩, (Nat.le_of_ble_eq_true rfl)⟩ ki_X9_refuse ks_X9_refuse rfl rfl (am_tab tk_X9_go 15 rfl) rfl ?_
      refine am_iret (Or.inl rfl) (Nat.le_of_ble_eq_true rfl) (Nat.le_of_ble_eq_true rfl) (am_tab tk_X9_go 16 rfl) ?_
      refine hQ _ _ ?_
      exact Or.inr ⟨fun hg => by unfold goC at hg; omega, rfl, rfl⟩
    · refine am_iload_n (q := 13) rfl (am_tab tk_X9_go 6 rfl) rfl ?_
      refine am_aload_n (q := 14) rfl (am_tab tk_X9_go 7 rfl) rfl ?_
      refine am_getR (q := 17) (a := 0) (k := 9) (n := 17) (j := 4) (r := some (32)) (Ls_0 hL) (by decide) rfl (Lr_0_4 hL) (by decide) (Or.inl kf_X9_38) (am_tab tk_X9_go 8 rfl) rfl ?_
      refine am_aload_n (q := 18) rfl (am_tab tk_X9_go 9 rfl) rfl ?_
      refine am_getR (q := 21) (a := 0) (k := 9) (n := 17) (j := 2) (r := some (15)) (Ls_0 hL) (by decide) rfl hC.t (by decide) (Or.inl kf_X9_19) (am_tab tk_X9_go 10 rfl) rfl ?_
      refine am_callV0 (q := 24) (me2 := M_X1_daysLeft) (b := 32) (kb := 1) (nb := 11) (As := [am_r 15]) (rest := [am_i n]) (out := [am_i (dlM σ), am_i n]) (c_daysLeft_15_32 σ σ hL hC.G hC.W hC.F) ⟨rfl, rfl⟩ (Ls_32 hL) (by decide) ⟨Or.inr km_X9_234, kc_X1_daysLeft, kn_X1, kd_X1_daysLeft, ⟨(Nat.le_of_ble_eq_true rfl), (Nat.le_of_ble_eq_true rfl)⟩, ⟨(Nat.le_of_ble_eq_true rfl), (Nat.le_of_ble_eq_true rfl)⟩, (Nat.le_of_ble_eq_true rfl)⟩ ki_X1_daysLeft ks_X1_daysLeft rfl rfl (am_tab tk_X9_go 11 rfl) rfl ?_
      refine am_icmp_le (q := 27) (t := 33) (am_tab tk_X9_go 12 rfl) (by decide) rfl (fun h24 => ?_) (fun h24 => ?_)
      · refine am_aload_n (q := 34) rfl (am_tab tk_X9_go 17 rfl) rfl ?_
        refine am_getR (q := 37) (a := 0) (k := 9) (n := 17) (j := 6) (r := some (42)) (Ls_0 hL) (by decide) rfl (Lr_0_6 hL) (by decide) (Or.inl kf_X9_48) (am_tab tk_X9_go 18 rfl) rfl ?_
        refine am_aload_n (q := 38) rfl (am_tab tk_X9_go 19 rfl) rfl ?_
        refine am_getR (q := 41) (a := 0) (k := 9) (n := 17) (j := 4) (r := some (32)) (Ls_0 hL) (by decide) rfl (Lr_0_4 hL) (by decide) (Or.inl kf_X9_38) (am_tab tk_X9_go 20 rfl) rfl ?_
        refine am_callV (q := 44) (me2 := M_X2_remember) (b := 42) (kb := 2) (nb := 3) (As := [am_r 32]) (rest := []) (c_remember σ hL hP.1.1 hP.1.2 hP.2.1.1 hP.2.1.2 hP.at) (Ls_42 hL) (by decide) ⟨Or.inr km_X9_297, kc_X2_remember, kn_X2, kd_X2_remember, ⟨(Nat.le_of_ble_eq_true rfl), (Nat.le_of_ble_eq_true rfl)⟩, ⟨(Nat.le_of_ble_eq_true rfl), (Nat.le_of_ble_eq_true rfl)⟩, (Nat.le_of_ble_eq_true rfl)⟩ ki_X2_remember ks_X2_remember rfl (am_tab tk_X9_go 21 rfl) rfl ?_
        rintro r T1 ⟨rfl, hRM⟩
        obtain ⟨hL1, hT1, hF1, ht1, hc1⟩ := hRM.keep (Or.inr rfl) hC hD hP
        have hR1 : RWr 32 T1 (fun j => σ.2.1 96 j) := hR.cells (fun a j ha => hc1 a j (by omega) (by omega))
        refine am_iconst (q := 45) (n := 0) (by decide) (am_tab tk_X9_go 22 rfl) rfl ?_
        refine am_istore_n (q := 46) (by decide) (ls2 := [(2, am_i 0), (0, am_r 0), (1, am_i n)]) rfl (am_tab tk_X9_go 23 rfl) rfl ?_
        refine am_iconst (q := 47) (n := 0) (by decide) (am_tab tk_X9_go 24 rfl) rfl ?_
        refine am_istore_n (q := 48) (by decide) (ls2 := [(3, am_i 0), (2, am_i 0), (0, am_r 0), (1, am_i n)]) rfl (am_tab tk_X9_go 25 rfl) rfl ?_
        have L48 : ∀ (n48 : Nat) (k : Nat) (S : am_H), n.toNat - k < n48 → (k : Int) ≤ n → CA T1 S → LF0 32 S (fun j => (itS k σ).2.1 96 j) → RWr 32 S (fun j => (itS k σ).2.1 96 j) → ROK (fun j => (itS k σ).2.1 96 j) → am_wp M_X9_go Q 5 261 48 [(0, am_r 0), (1, am_i n), (2, am_i ((sumN (feS σ) k))), (3, am_i ((k : Int)))] [] S := by
          intro n48
          induction n48 with
          | zero => intro k S hn48; exact absurd hn48 (Nat.not_lt_zero _)
          | succ n48 ih48 =>
            intro k S hn48 hk hA hF hR9 hO9
            refine am_iload_n (q := 49) rfl (am_tab tk_X9_go 26 rfl) rfl ?_
            refine am_iload_n (q := 50) rfl (am_tab tk_X9_go 27 rfl) rfl ?_
            refine am_icmp_ge (q := 53) (t := 66) (am_tab tk_X9_go 28 rfl) (by decide) rfl (fun h50 => ?_) (fun h50 => ?_)
            · refine am_iload_n (q := 67) rfl (am_tab tk_X9_go 36 rfl) rfl ?_
              refine am_iret (Or.inl rfl) (Nat.le_of_ble_eq_true rfl) (Nat.le_of_ble_eq_true rfl) (am_tab tk_X9_go 37 rfl) ?_
              refine hQ _ _ ?_
              refine Or.inl ⟨⟨⟨dl_52 (by omega), by omega, by omega⟩, by omega⟩, congrArg (fun z => some (am_i z)) ?_, ⟨T1, hRM, hA⟩, ?_, ?_, ?_⟩
              · rw [show k = n.toNat by omega]
              · rw [← show k = n.toNat by omega]; exact hF
              · rw [← show k = n.toNat by omega]; exact hR9
              · rw [← show k = n.toNat by omega]; exact hO9
            · have hLS : lay S := hA.L hL1
              have hGk := itS_GD hC.G k (by omega)
              have hsr := sumN_rng k (fun i _ => feS_01 σ i)
              have hfk := fsD01 (itS k σ)
              refine am_iload_n (q := 54) rfl (am_tab tk_X9_go 29 rfl) rfl ?_
              refine am_aload_n (q := 55) rfl (am_tab tk_X9_go 30 rfl) rfl ?_
              refine am_callVr (q := 58) (me2 := M_X9_liveOneDay) (b := 0) (kb := 9) (nb := 17) (As := []) (rest := [am_i ((sumN (feS σ) k))]) (c_liveOneDay_15 S (itS k σ) hLS hGk.1 ((hT1.ca hA (by decide)).it k) hF hR9 hO9 ((hA.2.1 0 2 (by omega)).trans ht1) (by rw [hGk.2]; omega)) ⟨rfl, rfl⟩ (Ls_0 (hA.L hL1)) (by decide) ⟨Or.inl km_X9_300, kc_X9_liveOneDay, kn_X9, kd_X9_liveOneDay, ⟨(Nat.le_of_ble_eq_true rfl), (Nat.le_of_ble_eq_true rfl)⟩, ⟨(Nat.le_of_ble_eq_true rfl), (Nat.le_of_ble_eq_true rfl)⟩, (Nat.le_of_ble_eq_true rfl)⟩ ki_X9_liveOneDay ks_X9_liveOneDay rfl (am_tab tk_X9_go 31 rfl) rfl ?_
              rintro r T2 ⟨rfl, hF2, hR2, hO2, hA2⟩
              refine am_iadd (q := 59) (by omega) (am_tab tk_X9_go 32 rfl) rfl ?_
              refine am_istore_n (q := 60) (by decide) (ls2 := [(2, am_i (((sumN (feS σ) k) + (fsD (itS k σ))))), (0, am_r 0), (1, am_i n), (3, am_i ((k : Int)))]) rfl (am_tab tk_X9_go 33 rfl) rfl ?_
              refine am_iinc (q := 63) rfl (by omega) (by decide) (ls2 := [(3, am_i (((k : Int) + 1))), (2, am_i (((sumN (feS σ) k) + (fsD (itS k σ))))), (0, am_r 0), (1, am_i n)]) rfl (am_tab tk_X9_go 34 rfl) rfl ?_
              refine am_goto (t := 48) (am_tab tk_X9_go 35 rfl) (by decide) ?_
              have he : sumN (feS σ) (k + 1) = ((sumN (feS σ) k) + (fsD (itS k σ))) := rfl
              exact am_less (by intro q hq; simp only [List.mem_cons, List.not_mem_nil, or_false] at hq; rcases hq with rfl | rfl | rfl | rfl <;> simp [he]) (ih48 (k + 1) T2 (by omega) (by omega) (hA.trans hA2) hF2 hR2 hO2)
        refine am_less (by intro q hq; simp only [List.mem_cons, List.not_mem_nil, or_false] at hq; rcases hq with rfl | rfl | rfl | rfl <;> simp [sumN]) (L48 (_ + 1) 0 T1 (by exact Nat.lt_succ_self _) (by omega) (CA.refl T1) hF1 hR1 hO)
      · refine am_aload_n (q := 28) rfl (am_tab tk_X9_go 13 rfl) rfl ?_
        refine am_iconst (q := 29) (n := 2) (by decide) (am_tab tk_X9_go 14 rfl) rfl ?_
        refine am_callV0 (q := 32) (me2 := M_X9_refuse) (b := 0) (kb := 9) (nb := 17) (As := [am_i 2]) (rest := []) (out := [am_i ((-1))]) (c_refuse σ hL 2 (by decide) hr) ⟨rfl, rfl⟩ (Ls_0 hL) (by decide) ⟨Or.inl km_X9_92, kc_X9_refuse, kn_X9, kd_X9_refuse, ⟨(Nat.le_of_ble_eq_true rfl), (Nat.le_of_ble_eq_true rfl)⟩, ⟨(Nat.le_of_ble_eq_true rfl), (Nat.le_of_ble_eq_true rfl)⟩, (Nat.le_of_ble_eq_true rfl)⟩ ki_X9_refuse ks_X9_refuse rfl rfl (am_tab tk_X9_go 15 rfl) rfl ?_
        refine am_iret (Or.inl rfl) (Nat.le_of_ble_eq_true rfl) (Nat.le_of_ble_eq_true rfl) (am_tab tk_X9_go 16 rfl) ?_
        refine hQ _ _ ?_
        exact Or.inr ⟨fun hg => by unfold goC at hg; omega, rfl, rfl⟩
set_option maxRecDepth 100000 in
theorem c_tell_15 (σ : am_H) (f c : Nat) (hC : CI 15 σ) (hD : CDt 15 σ) (p : Int) (d : Int) (hR : RWr 32 σ (fun j => σ.2.1 96 j)) (hO : ROK (fun j => σ.2.1 96 j)) (hP : PAC f c σ) (hZ : ZR (σ.2.1 85 9) (fun j => σ.2.1 96 j)) (hm : 0 ≤ stM σ 20 ∧ stM σ 20 ≤ 30) (hr : 0 ≤ σ.2.1 54 3 ∧ σ.2.1 54 3 ≤ 100000) : am_met M_X9_tell [am_r 0, am_i p, am_i d] σ (fun r σ' => (telC σ p d ∧ r = some (am_i (if tb (σ.2.1 96 (20 + d).toNat) p = 1 then 0 else 1)) ∧ ∃ T, RMB f c σ T ∧ σ' = am_setN T 34 d.toNat (ao_xor (T.2.1 34 d.toNat) (ao_shl 1 p))) ∨ (¬ telC σ p d ∧ r = some (am_i (-1)) ∧ σ' = am_setN σ 54 3 (σ.2.1 54 3 + 1))) := by
  refine am_qq (fun Q hQ => ?_)
  refine am_enter (show plainFor yX9_tell = true by decide +kernel) rfl (Nat.le_of_ble_eq_true rfl) (fun _ _ _ => trivial) ?_
  have hL := hC.G.L
  have hN := hC.G.R.P
  have hY := hC.G.R.Y
  refine am_aload_n (q := 1) rfl (am_tab tk_X9_tell 0 rfl) rfl ?_
  refine am_iload_n (q := 2) rfl (am_tab tk_X9_tell 1 rfl) rfl ?_
  refine am_callV0 (q := 5) (me2 := M_X9_isPerson) (b := 0) (kb := 9) (nb := 17) (As := [am_i p]) (rest := []) (out := [am_i (if 0 ≤ p ∧ p < σ.2.1 85 5 then 1 else 0)]) (c_isPerson_15 σ hC p) ⟨rfl, rfl⟩ (Ls_0 hL) (by decide) ⟨Or.inl km_X9_166, kc_X9_isPerson, kn_X9, kd_X9_isPerson, ⟨(Nat.le_of_ble_eq_true rfl), (Nat.le_of_ble_eq_true rfl)⟩, ⟨(Nat.le_of_ble_eq_true rfl), (Nat.le_of_ble_eq_true rfl)⟩, (Nat.le_of_ble_eq_true rfl)⟩ ki_X9_isPerson ks_X9_isPerson rfl rfl (am_tab tk_X9_tell 2 rfl) rfl ?_
  refine am_if_eq (q := 8) (t := 16) (am_tab tk_X9_tell 3 rfl) (by decide) rfl (fun h5 => ?_) (fun h5 => ?_)
  · replace h5 := b01z h5
    refine am_aload_n (q := 17) rfl (am_tab tk_X9_tell 8 rfl) rfl ?_
    refine am_iconst (q := 18) (n := 3) (by decide) (am_tab tk_X9_tell 9 rfl) rfl ?_
    refine am_callV0 (q := 21) (me2 := M_X9_refuse) (b := 0) (kb := 9) (nb := 17) (As := [am_i 3]) (rest := []) (out := [am_i ((-1))]) (c_refuse σ hL 3 (by decide) hr) ⟨rfl, rfl⟩ (Ls_0 hL) (by decide) ⟨Or.inl km_X9_92, kc_X9_refuse, kn_X9, kd_X9_refuse, ⟨(Nat.le_of_ble_eq_true rfl), (Nat.le_of_ble_eq_true rfl)⟩, ⟨(Nat.le_of_ble_eq_true rfl), (Nat.le_of_ble_eq_true rfl)⟩, (Nat.le_of_ble_eq_true rfl)⟩ ki_X9_refuse ks_X9_refuse rfl rfl (am_tab tk_X9_tell 10 rfl) rfl ?_
    refine am_iret (Or.inl rfl) (Nat.le_of_ble_eq_true rfl) (Nat.le_of_ble_eq_true rfl) (am_tab tk_X9_tell 11 rfl) ?_
    refine hQ _ _ ?_
    refine Or.inr ⟨fun hg => ?_, rfl, rfl⟩
    have := hg.1
    omega
  · replace h5 := b01n h5
    refine am_aload_n (q := 9) rfl (am_tab tk_X9_tell 4 rfl) rfl ?_
    refine am_iload_n (q := 10) rfl (am_tab tk_X9_tell 5 rfl) rfl ?_
    refine am_callV0 (q := 13) (me2 := M_X9_isDay) (b := 0) (kb := 9) (nb := 17) (As := [am_i d]) (rest := []) (out := [am_i (if 1 ≤ d ∧ d ≤ σ.2.1 85 9 then 1 else 0)]) (c_isDay_15 σ hC d) ⟨rfl, rfl⟩ (Ls_0 hL) (by decide) ⟨Or.inl km_X9_198, kc_X9_isDay, kn_X9, kd_X9_isDay, ⟨(Nat.le_of_ble_eq_true rfl), (Nat.le_of_ble_eq_true rfl)⟩, ⟨(Nat.le_of_ble_eq_true rfl), (Nat.le_of_ble_eq_true rfl)⟩, (Nat.le_of_ble_eq_true rfl)⟩ ki_X9_isDay ks_X9_isDay rfl rfl (am_tab tk_X9_tell 6 rfl) rfl ?_
    refine am_if_ne (q := 16) (t := 22) (am_tab tk_X9_tell 7 rfl) (by decide) rfl (fun h13 => ?_) (fun h13 => ?_)
    · replace h13 := b01n h13
      have ht9 : 0 ≤ σ.2.1 34 d.toNat ∧ σ.2.1 34 d.toNat < 256 := by rw [hC.F.2.2.2.2.1 d.toNat (by omega)]; exact hC.G.R.told d.toNat (by omega)
      have e20 : σ.2.1 34 d.toNat = σ.2.1 96 (20 + d).toNat := by rw [show (20 + d).toNat = 20 + d.toNat by omega]; exact hC.F.2.2.2.2.1 d.toNat (by omega)
      have t01 : tb (σ.2.1 34 d.toNat) p = 0 ∨ tb (σ.2.1 34 d.toNat) p = 1 := by unfold tb; omega
      refine am_aload_n (q := 23) rfl (am_tab tk_X9_tell 12 rfl) rfl ?_
      refine am_getR (q := 26) (a := 0) (k := 9) (n := 17) (j := 4) (r := some (32)) (Ls_0 hL) (by decide) rfl (Lr_0_4 hL) (by decide) (Or.inl kf_X9_38) (am_tab tk_X9_tell 13 rfl) rfl ?_
      refine am_getR (q := 29) (a := 32) (k := 1) (n := 11) (j := 6) (r := some (34)) (Ls_32 hL) (by decide) rfl (Lr_32_6 hL) (by decide) (Or.inr kf_X9_147) (am_tab tk_X9_tell 14 rfl) rfl ?_
      refine am_iload_n (q := 30) rfl (am_tab tk_X9_tell 15 rfl) rfl ?_
      refine am_iald (q := 31) (a := 34) (n := 91) (x := (σ.2.1 34 (Int.toNat d))) (Ls_34 hL) (by omega) (by omega) rfl (am_tab tk_X9_tell 16 rfl) rfl ?_
      refine am_iload_n (q := 32) rfl (am_tab tk_X9_tell 17 rfl) rfl ?_
      refine am_callS0 (q := 35) (me2 := M_X9_bit) (As := [am_i ((σ.2.1 34 (Int.toNat d))), am_i p]) (rest := []) (out := [am_i (tb (σ.2.1 34 (Int.toNat d)) p)]) (c_bit σ (σ.2.1 34 (Int.toNat d)) p ht9 (by omega)) ⟨rfl, rfl⟩ ⟨Or.inl km_X9_185, kc_X9_bit, kn_X9, kd_X9_bit, ⟨(Nat.le_of_ble_eq_true rfl), (Nat.le_of_ble_eq_true rfl)⟩, ⟨(Nat.le_of_ble_eq_true rfl), (Nat.le_of_ble_eq_true rfl)⟩, (Nat.le_of_ble_eq_true rfl)⟩ ki_X9_bit rfl rfl (am_tab tk_X9_tell 18 rfl) rfl ?_
      refine am_if_ne (q := 38) (t := 42) (am_tab tk_X9_tell 19 rfl) (by decide) rfl (fun h35 => ?_) (fun h35 => ?_)
      · refine am_iconst (q := 43) (n := 0) (by decide) (am_tab tk_X9_tell 22 rfl) rfl ?_
        refine am_istore_n (q := 44) (by decide) (ls2 := [(3, am_i 0), (0, am_r 0), (1, am_i p), (2, am_i d)]) rfl (am_tab tk_X9_tell 23 rfl) rfl ?_
        refine am_iload_n (q := 45) rfl (am_tab tk_X9_tell 24 rfl) rfl ?_
        refine am_if_eq (q := 48) (t := 69) (am_tab tk_X9_tell 25 rfl) (by decide) rfl (fun h45 => ?_) (fun h45 => ?_)
        · refine am_aload_n (q := 70) rfl (am_tab tk_X9_tell 36 rfl) rfl ?_
          refine am_getR (q := 73) (a := 0) (k := 9) (n := 17) (j := 6) (r := some (42)) (Ls_0 hL) (by decide) rfl (Lr_0_6 hL) (by decide) (Or.inl kf_X9_48) (am_tab tk_X9_tell 37 rfl) rfl ?_
          refine am_aload_n (q := 74) rfl (am_tab tk_X9_tell 38 rfl) rfl ?_
          refine am_getR (q := 77) (a := 0) (k := 9) (n := 17) (j := 4) (r := some (32)) (Ls_0 hL) (by decide) rfl (Lr_0_4 hL) (by decide) (Or.inl kf_X9_38) (am_tab tk_X9_tell 39 rfl) rfl ?_
          refine am_callV (q := 80) (me2 := M_X2_remember) (b := 42) (kb := 2) (nb := 3) (As := [am_r 32]) (rest := []) (c_remember σ hL hP.1.1 hP.1.2 hP.2.1.1 hP.2.1.2 hP.at) (Ls_42 hL) (by decide) ⟨Or.inr km_X9_297, kc_X2_remember, kn_X2, kd_X2_remember, ⟨(Nat.le_of_ble_eq_true rfl), (Nat.le_of_ble_eq_true rfl)⟩, ⟨(Nat.le_of_ble_eq_true rfl), (Nat.le_of_ble_eq_true rfl)⟩, (Nat.le_of_ble_eq_true rfl)⟩ ki_X2_remember ks_X2_remember rfl (am_tab tk_X9_tell 40 rfl) rfl ?_
          rintro r T1 ⟨rfl, hRM⟩
          obtain ⟨hL1, hT1, hF1, ht1, hc1⟩ := hRM.keep (Or.inr rfl) hC hD hP
          have hR1 : RWr 32 T1 (fun j => σ.2.1 96 j) := hR.cells (fun a j ha => hc1 a j (by omega) (by omega))
          refine am_aload_n (q := 81) rfl (am_tab tk_X9_tell 41 rfl) rfl ?_
          refine am_getR (q := 84) (a := 0) (k := 9) (n := 17) (j := 4) (r := some (32)) (Ls_0 hL1) (by decide) rfl (Lr_0_4 hL1) (by decide) (Or.inl kf_X9_38) (am_tab tk_X9_tell 42 rfl) rfl ?_
          refine am_getR (q := 87) (a := 32) (k := 1) (n := 11) (j := 6) (r := some (34)) (Ls_32 hL1) (by decide) rfl (Lr_32_6 hL1) (by decide) (Or.inr kf_X9_147) (am_tab tk_X9_tell 43 rfl) rfl ?_
          refine am_iload_n (q := 88) rfl (am_tab tk_X9_tell 44 rfl) rfl ?_
          refine am_dup2 (q := 89) rfl rfl (am_tab tk_X9_tell 45 rfl) rfl ?_
          refine am_iald (q := 90) (a := 34) (n := 91) (x := (T1.2.1 34 (Int.toNat d))) (Ls_34 hL1) (by omega) (by omega) rfl (am_tab tk_X9_tell 46 rfl) rfl ?_
          refine am_iconst (q := 91) (n := 1) (by decide) (am_tab tk_X9_tell 47 rfl) rfl ?_
          refine am_iload_n (q := 92) rfl (am_tab tk_X9_tell 48 rfl) rfl ?_
          refine am_ishl (q := 93) (am_tab tk_X9_tell 49 rfl) rfl ?_
          refine am_ixor (q := 94) (am_tab tk_X9_tell 50 rfl) rfl ?_
          refine am_iast (q := 95) (a := 34) (n := 91) (Ls_34 hL1) (by omega) (by omega) (am_tab tk_X9_tell 51 rfl) rfl ?_
          refine am_iload_n (q := 96) rfl (am_tab tk_X9_tell 52 rfl) rfl ?_
          refine am_if_eq (q := 99) (t := 103) (am_tab tk_X9_tell 53 rfl) (by decide) rfl (fun h96 => ?_) (fun h96 => ?_)
          · refine am_iconst (q := 104) (n := 0) (by decide) (am_tab tk_X9_tell 56 rfl) rfl ?_
            refine am_iret (Or.inl rfl) (Nat.le_of_ble_eq_true rfl) (Nat.le_of_ble_eq_true rfl) (am_tab tk_X9_tell 57 rfl) ?_
            refine hQ _ _ ?_
            have e34 : T1.2.1 34 d.toNat = σ.2.1 34 d.toNat := hc1 34 _ (by omega) (by omega)
            refine Or.inl ⟨?_, congrArg (fun z => some (am_i z)) ?_, T1, hRM, rfl⟩
            · refine ⟨⟨by omega, by omega⟩, ⟨by omega, by omega⟩, ?_⟩
              rw [← e20]; omega
            · rw [← e20]; split <;> omega
          · exact absurd h96 (by decide)
        · exact absurd h45 (by decide)
      · refine am_iconst (q := 39) (n := 1) (by decide) (am_tab tk_X9_tell 20 rfl) rfl ?_
        refine am_goto (t := 43) (am_tab tk_X9_tell 21 rfl) (by decide) ?_
        refine am_istore_n (q := 44) (by decide) (ls2 := [(3, am_i 1), (0, am_r 0), (1, am_i p), (2, am_i d)]) rfl (am_tab tk_X9_tell 23 rfl) rfl ?_
        refine am_iload_n (q := 45) rfl (am_tab tk_X9_tell 24 rfl) rfl ?_
        refine am_if_eq (q := 48) (t := 69) (am_tab tk_X9_tell 25 rfl) (by decide) rfl (fun h45 => ?_) (fun h45 => ?_)
        · exact absurd h45 (by decide)
        · refine am_aload_n (q := 49) rfl (am_tab tk_X9_tell 26 rfl) rfl ?_
          refine am_getR (q := 52) (a := 0) (k := 9) (n := 17) (j := 4) (r := some (32)) (Ls_0 hL) (by decide) rfl (Lr_0_4 hL) (by decide) (Or.inl kf_X9_38) (am_tab tk_X9_tell 27 rfl) rfl ?_
          refine am_getR (q := 55) (a := 32) (k := 1) (n := 11) (j := 6) (r := some (34)) (Ls_32 hL) (by decide) rfl (Lr_32_6 hL) (by decide) (Or.inr kf_X9_147) (am_tab tk_X9_tell 28 rfl) rfl ?_
          refine am_callSr (q := 58) (me2 := M_X9_countBits) (As := [am_r 34]) (rest := []) (c_countBits_34 σ hL (fun d hd => by rw [hC.F.2.2.2.2.1 d hd]; exact hC.G.R.told d hd)) ⟨rfl, rfl⟩ ⟨Or.inl km_X9_150, kc_X9_countBits, kn_X9, kd_X9_countBits, ⟨(Nat.le_of_ble_eq_true rfl), (Nat.le_of_ble_eq_true rfl)⟩, ⟨(Nat.le_of_ble_eq_true rfl), (Nat.le_of_ble_eq_true rfl)⟩, (Nat.le_of_ble_eq_true rfl)⟩ ki_X9_countBits rfl (am_tab tk_X9_tell 29 rfl) rfl ?_
          rintro r τ ⟨hr9, hτ⟩
          rw [show sumN (fun d => bc (σ.2.1 34 d)) 91 = stM σ 20 from sumN_sh (f := fun d => bc (σ.2.1 34 d)) (by show bc (σ.2.1 34 0) = 0; rw [show σ.2.1 34 0 = 0 from (hC.F.2.2.2.2.1 0 (by decide)).trans hZ.1]; exact bc0) 90 (fun d hd => by show bc (σ.2.1 34 (d + 1)) = bc (σ.2.1 96 (20 + 1 + d)); rw [show σ.2.1 34 (d + 1) = σ.2.1 96 (20 + 1 + d) from (hC.F.2.2.2.2.1 (d + 1) (by omega)).trans (by rw [show 20 + (d + 1) = 20 + 1 + d by omega])])] at hr9
          rw [hr9, hτ]
          refine am_st (st2 := [am_i (stM σ 20)]) rfl ?_
          refine am_bipush (q := 60) (n := 30) (by decide) rfl (am_tab tk_X9_tell 30 rfl) rfl ?_
          refine am_icmp_lt (q := 63) (t := 69) (am_tab tk_X9_tell 31 rfl) (by decide) rfl (fun h60 => ?_) (fun h60 => ?_)
          · refine am_aload_n (q := 70) rfl (am_tab tk_X9_tell 36 rfl) rfl ?_
            refine am_getR (q := 73) (a := 0) (k := 9) (n := 17) (j := 6) (r := some (42)) (Ls_0 hL) (by decide) rfl (Lr_0_6 hL) (by decide) (Or.inl kf_X9_48) (am_tab tk_X9_tell 37 rfl) rfl ?_
            refine am_aload_n (q := 74) rfl (am_tab tk_X9_tell 38 rfl) rfl ?_
            refine am_getR (q := 77) (a := 0) (k := 9) (n := 17) (j := 4) (r := some (32)) (Ls_0 hL) (by decide) rfl (Lr_0_4 hL) (by decide) (Or.inl kf_X9_38) (am_tab tk_X9_tell 39 rfl) rfl ?_
            refine am_callV (q := 80) (me2 := M_X2_remember) (b := 42) (kb := 2) (nb := 3) (As := [am_r 32]) (rest := []) (c_remember σ hL hP.1.1 hP.1.2 hP.2.1.1 hP.2.1.2 hP.at) (Ls_42 hL) (by decide) ⟨Or.inr km_X9_297, kc_X2_remember, kn_X2, kd_X2_remember, ⟨(Nat.le_of_ble_eq_true rfl), (Nat.le_of_ble_eq_true rfl)⟩, ⟨(Nat.le_of_ble_eq_true rfl), (Nat.le_of_ble_eq_true rfl)⟩, (Nat.le_of_ble_eq_true rfl)⟩ ki_X2_remember ks_X2_remember rfl (am_tab tk_X9_tell 40 rfl) rfl ?_
            rintro r T1 ⟨rfl, hRM⟩
            obtain ⟨hL1, hT1, hF1, ht1, hc1⟩ := hRM.keep (Or.inr rfl) hC hD hP
            have hR1 : RWr 32 T1 (fun j => σ.2.1 96 j) := hR.cells (fun a j ha => hc1 a j (by omega) (by omega))
            refine am_aload_n (q := 81) rfl (am_tab tk_X9_tell 41 rfl) rfl ?_
            refine am_getR (q := 84) (a := 0) (k := 9) (n := 17) (j := 4) (r := some (32)) (Ls_0 hL1) (by decide) rfl (Lr_0_4 hL1) (by decide) (Or.inl kf_X9_38) (am_tab tk_X9_tell 42 rfl) rfl ?_
            refine am_getR (q := 87) (a := 32) (k := 1) (n := 11) (j := 6) (r := some (34)) (Ls_32 hL1) (by decide) rfl (Lr_32_6 hL1) (by decide) (Or.inr kf_X9_147) (am_tab tk_X9_tell 43 rfl) rfl ?_
            refine am_iload_n (q := 88) rfl (am_tab tk_X9_tell 44 rfl) rfl ?_
            refine am_dup2 (q := 89) rfl rfl (am_tab tk_X9_tell 45 rfl) rfl ?_
            refine am_iald (q := 90) (a := 34) (n := 91) (x := (T1.2.1 34 (Int.toNat d))) (Ls_34 hL1) (by omega) (by omega) rfl (am_tab tk_X9_tell 46 rfl) rfl ?_
            refine am_iconst (q := 91) (n := 1) (by decide) (am_tab tk_X9_tell 47 rfl) rfl ?_
            refine am_iload_n (q := 92) rfl (am_tab tk_X9_tell 48 rfl) rfl ?_
            refine am_ishl (q := 93) (am_tab tk_X9_tell 49 rfl) rfl ?_
            refine am_ixor (q := 94) (am_tab tk_X9_tell 50 rfl) rfl ?_
            refine am_iast (q := 95) (a := 34) (n := 91) (Ls_34 hL1) (by omega) (by omega) (am_tab tk_X9_tell 51 rfl) rfl ?_
            refine am_iload_n (q := 96) rfl (am_tab tk_X9_tell 52 rfl) rfl ?_
            refine am_if_eq (q := 99) (t := 103) (am_tab tk_X9_tell 53 rfl) (by decide) rfl (fun h96 => ?_) (fun h96 => ?_)
            · exact absurd h96 (by decide)
            · refine am_iconst (q := 100) (n := 1) (by decide) (am_tab tk_X9_tell 54 rfl) rfl ?_
              refine am_goto (t := 104) (am_tab tk_X9_tell 55 rfl) (by decide) ?_
              refine am_iret (Or.inl rfl) (Nat.le_of_ble_eq_true rfl) (Nat.le_of_ble_eq_true rfl) (am_tab tk_X9_tell 57 rfl) ?_
              refine hQ _ _ ?_
              have e34 : T1.2.1 34 d.toNat = σ.2.1 34 d.toNat := hc1 34 _ (by omega) (by omega)
              refine Or.inl ⟨?_, congrArg (fun z => some (am_i z)) ?_, T1, hRM, rfl⟩
              · refine ⟨⟨by omega, by omega⟩, ⟨by omega, by omega⟩, ?_⟩
                rw [← e20]; omega
              · rw [← e20]; split <;> omega
          · refine am_aload_n (q := 64) rfl (am_tab tk_X9_tell 32 rfl) rfl ?_
            refine am_iconst (q := 65) (n := 3) (by decide) (am_tab tk_X9_tell 33 rfl) rfl ?_
            refine am_callV0 (q := 68) (me2 := M_X9_refuse) (b := 0) (kb := 9) (nb := 17) (As := [am_i 3]) (rest := []) (out := [am_i ((-1))]) (c_refuse σ hL 3 (by decide) hr) ⟨rfl, rfl⟩ (Ls_0 hL) (by decide) ⟨Or.inl km_X9_92, kc_X9_refuse, kn_X9, kd_X9_refuse, ⟨(Nat.le_of_ble_eq_true rfl), (Nat.le_of_ble_eq_true rfl)⟩, ⟨(Nat.le_of_ble_eq_true rfl), (Nat.le_of_ble_eq_true rfl)⟩, (Nat.le_of_ble_eq_true rfl)⟩ ki_X9_refuse ks_X9_refuse rfl rfl (am_tab tk_X9_tell 34 rfl) rfl ?_
            refine am_iret (Or.inl rfl) (Nat.le_of_ble_eq_true rfl) (Nat.le_of_ble_eq_true rfl) (am_tab tk_X9_tell 35 rfl) ?_
            refine hQ _ _ ?_
            refine Or.inr ⟨fun hg => ?_, rfl, rfl⟩
            have h9 := hg.2.2
            rw [← e20] at h9
            omega
    · replace h13 := b01z h13
      refine am_aload_n (q := 17) rfl (am_tab tk_X9_tell 8 rfl) rfl ?_
      refine am_iconst (q := 18) (n := 3) (by decide) (am_tab tk_X9_tell 9 rfl) rfl ?_
      refine am_callV0 (q := 21) (me2 := M_X9_refuse) (b := 0) (kb := 9) (nb := 17) (As := [am_i 3]) (rest := []) (out := [am_i ((-1))]) (c_refuse σ hL 3 (by decide) hr) ⟨rfl, rfl⟩ (Ls_0 hL) (by decide) ⟨Or.inl km_X9_92, kc_X9_refuse, kn_X9, kd_X9_refuse, ⟨(Nat.le_of_ble_eq_true rfl), (Nat.le_of_ble_eq_true rfl)⟩, ⟨(Nat.le_of_ble_eq_true rfl), (Nat.le_of_ble_eq_true rfl)⟩, (Nat.le_of_ble_eq_true rfl)⟩ ki_X9_refuse ks_X9_refuse rfl rfl (am_tab tk_X9_tell 10 rfl) rfl ?_
      refine am_iret (Or.inl rfl) (Nat.le_of_ble_eq_true rfl) (Nat.le_of_ble_eq_true rfl) (am_tab tk_X9_tell 11 rfl) ?_
      refine hQ _ _ ?_
      refine Or.inr ⟨fun hg => ?_, rfl, rfl⟩
      have := hg.2.1
      omega
