theorem liv_eq {σ S : am_H} (hG : GD σ) (hF : LF0 32 S (fun k => σ.2.1 96 k)) : ao_and (mkS (fun _ => true) (pN σ)) (ao_xor (S.2.1 32 4) (-1)) = lvM σ := by
  have h8 : pN σ ≤ 8 := by have := hG.R.P; unfold pN; omega
  have a1 := dif_tb (mkS_256 (fun _ => true) h8) hF.2.1
  refine mkS_ext a1.1 h8 (fun q hq => ?_)
  rw [a1.2 q hq, mkS_tb _ _ h8 q hq, hF.2.2.1 q hq]
  by_cases h1 : q < pN σ <;> by_cases h2 : σ.2.1 96 (12 + q) = 1 <;> simp [h1, h2]
theorem lv_tb {σ : am_H} (hG : GD σ) {p : Nat} (hp : p < 8) : tb (lvM σ) p = if p < pN σ ∧ ¬ σ.2.1 96 (12 + p) = 1 then 1 else 0 := by
  have h8 : pN σ ≤ 8 := by have := hG.R.P; unfold pN; omega
  unfold lvM
  rw [mkS_tb _ _ h8 p hp]
  simp
theorem CI.cq {t : Nat} {σ S : am_H} (h : CI t σ) (hQ : CQ σ S) (ht : t ≤ 15) : CI t S := by
  have e : ∀ a j, 55 ≤ a → S.2.1 a j = σ.2.1 a j := fun a j ha => hQ.2.2 a j (by unfold W_cq; omega)
  have hc : cn S = cn (am_setA σ 96 (fun k => σ.2.1 96 k)) := by
    rw [am_setA_self]
    exact cn_eq (fun a j h1 h2 => e a j (by omega))
  have hGS : GD S := by
    refine GD_now (f := fun k => σ.2.1 96 k) h.G (hQ.L h.G.L) hc (e 55 52 (by omega)) h.G.R.N ?_ ?_
    · rw [e 55 59 (by omega)]; exact h.G.o
    · rw [e 55 61 (by omega)]; exact h.G.t
  refine ⟨hGS, (hQ.2.1 0 2 (by omega)).trans h.t, (h.W.cq hQ ht).H (fun a j h1 _ => e a j (by omega)), ?_⟩
  have h4 := h.F.cq hQ
  rw [show (fun k => S.2.1 96 k) = (fun k => σ.2.1 96 k) from funext (fun k => e 96 k (by omega))]
  exact h4
theorem cM_dl {σ : am_H} (hR : MR σ) : cM σ ↔ 1 ≤ dlM σ := by
  have h1 := hR.year
  have h2 := hR.day
  have h3 := hR.Y
  constructor
  · intro h
    have hc := cM_cc hR h
    unfold dlM
    rw [if_neg h.1]
    rcases hc.2 with h4 | h4
    · have h5 : σ.2.1 85 9 ≤ (999 - σ.2.1 96 0) * σ.2.1 85 9 := by
        have := Int.mul_le_mul (show 1 ≤ 999 - σ.2.1 96 0 by omega) (Int.le_refl (σ.2.1 85 9)) (by omega) (by omega)
        omega
      have := hc.1
      omega
    · have h5 := mulr h1 h3
      omega
  · intro h
    have hc := cc_of hR h
    refine ⟨fun h0 => ?_, hc.2⟩
    unfold dlM at h
    rw [if_pos h0] at h
    omega
theorem enF_le {σ : am_H} : ∀ m, bc (enF σ m) ≤ bc (lvM σ)
  | 0 => Int.le_refl _
  | m + 1 => by
    have ih := enF_le (σ := σ) m
    unfold enF
    split
    · rename_i h; omega
    · exact ih
theorem enF_1 {σ : am_H} (hG : GD σ) (h : ¬ lvM σ = 0) : enF σ 1 = lvM σ := by
  have h8 : pN σ ≤ 8 := by have := hG.R.P; unfold pN; omega
  show (if _ then _ else _) = _
  rw [if_neg]
  · rfl
  · rintro ⟨_, _, h3⟩
    rw [(rmE_0 (B := bgS σ) (own := ((0 : Nat) : Int)) h8 (by decide)).mpr rfl] at h3
    exact h h3.symm
theorem enF_last {σ : am_H} (hG : GD σ) : enF σ ((lvM σ).toNat + 1) = enF σ (lvM σ).toNat := by
  have hl := lvM_rng hG.R
  show (if _ then _ else _) = _
  rw [if_neg]
  rintro ⟨_, h2, _⟩
  rw [show (((lvM σ).toNat : Nat) : Int) = lvM σ by omega] at h2
  have := enF_le (σ := σ) (lvM σ).toNat
  omega
set_option maxRecDepth 100000 in
theorem c_enough_3 (σ : am_H) (hC : CI 3 σ) (w : Int)  : am_met M_X9_enough [am_r 0, am_i w] σ (fun r σ' => r = some (am_i (enoM σ w)) ∧ CQ σ σ') := by
  refine am_qq (fun Q hQ => ?_)
  refine am_enter (show plainFor yX9_enough = true by decide +kernel) rfl (Nat.le_of_ble_eq_true rfl) (fun _ _ _ => trivial) ?_
  have hL := hC.G.L
  have hlv := lvM_rng hC.G.R
  by_cases cm : cM σ
  · refine am_aload_n (q := 1) rfl (am_tab tk_X9_enough 0 rfl) rfl ?_
    refine am_callVr (q := 4) (me2 := M_X9_living) (b := 0) (kb := 9) (nb := 17) (As := []) (rest := []) (c_living_3 σ hC) ⟨rfl, rfl⟩ (Ls_0 hL) (by decide) ⟨Or.inl km_X9_129, kc_X9_living, kn_X9, kd_X9_living, ⟨(Nat.le_of_ble_eq_true rfl), (Nat.le_of_ble_eq_true rfl)⟩, ⟨(Nat.le_of_ble_eq_true rfl), (Nat.le_of_ble_eq_true rfl)⟩, (Nat.le_of_ble_eq_true rfl)⟩ ki_X9_living ks_X9_living rfl (am_tab tk_X9_enough 1 rfl) rfl ?_
    rintro r τ ⟨hr9, hτ⟩
    rw [liv_eq hC.G hC.F] at hr9
    rw [hr9, hτ]
    refine am_st (st2 := [am_i (lvM σ)]) rfl ?_
    refine am_istore_n (q := 5) (by decide) (ls2 := [(2, am_i (lvM σ)), (0, am_r 0), (1, am_i w)]) rfl (am_tab tk_X9_enough 2 rfl) rfl ?_
    refine am_iload_n (q := 6) rfl (am_tab tk_X9_enough 3 rfl) rfl ?_
    refine am_if_eq (q := 9) (t := 14) (am_tab tk_X9_enough 4 rfl) (by decide) rfl (fun h6 => ?_) (fun h6 => ?_)
    · refine am_iload_n (q := 15) rfl (am_tab tk_X9_enough 8 rfl) rfl ?_
      refine am_if_eq (q := 18) (t := 36) (am_tab tk_X9_enough 9 rfl) (by decide) rfl (fun h15 => ?_) (fun h15 => ?_)
      · refine am_iconst (q := 37) (n := (-1)) (by decide) (am_tab tk_X9_enough 18 rfl) rfl ?_
        refine am_iret (Or.inl rfl) (Nat.le_of_ble_eq_true rfl) (Nat.le_of_ble_eq_true rfl) (am_tab tk_X9_enough 19 rfl) ?_
        refine hQ _ _ ?_
        refine ⟨congrArg (fun z => some (am_i z)) ?_, CQ.refl σ⟩
        unfold enoM
        rw [if_neg (fun h => by have := h.1.2; have := h.2; omega)]
      · refine am_aload_n (q := 19) rfl (am_tab tk_X9_enough 10 rfl) rfl ?_
        refine am_getR (q := 22) (a := 0) (k := 9) (n := 17) (j := 7) (r := some (44)) (Ls_0 hL) (by decide) rfl (Lr_0_7 hL) (by decide) (Or.inl kf_X9_57) (am_tab tk_X9_enough 11 rfl) rfl ?_
        refine am_aload_n (q := 23) rfl (am_tab tk_X9_enough 12 rfl) rfl ?_
        refine am_getR (q := 26) (a := 0) (k := 9) (n := 17) (j := 2) (r := some (3)) (Ls_0 hL) (by decide) rfl hC.t (by decide) (Or.inl kf_X9_19) (am_tab tk_X9_enough 13 rfl) rfl ?_
        refine am_aload_n (q := 27) rfl (am_tab tk_X9_enough 14 rfl) rfl ?_
        refine am_getR (q := 30) (a := 0) (k := 9) (n := 17) (j := 4) (r := some (32)) (Ls_0 hL) (by decide) rfl (Lr_0_4 hL) (by decide) (Or.inl kf_X9_38) (am_tab tk_X9_enough 15 rfl) rfl ?_
        refine am_callVr (q := 33) (me2 := M_X0_lookAt) (b := 44) (kb := 0) (nb := 14) (As := [am_r 3, am_r 32]) (rest := []) (c_lookAt_3_32 σ σ hL hC.G hC.W hC.F) ⟨rfl, rfl⟩ (Ls_44 hL) (by decide) ⟨Or.inr km_X9_247, kc_X0_lookAt, kn_X0, kd_X0_lookAt, ⟨(Nat.le_of_ble_eq_true rfl), (Nat.le_of_ble_eq_true rfl)⟩, ⟨(Nat.le_of_ble_eq_true rfl), (Nat.le_of_ble_eq_true rfl)⟩, (Nat.le_of_ble_eq_true rfl)⟩ ki_X0_lookAt ks_X0_lookAt rfl (am_tab tk_X9_enough 16 rfl) rfl ?_
        rintro r S0 hlk
        rw [if_pos ((cM_dl hC.G.R).mp cm)] at hlk
        obtain ⟨rfl, hDA, hFb⟩ := hlk
        have hq0 : CQ σ S0 := CQ.base hFb
        have hcc := cM_cc hC.G.R cm
        have hGB := bgS_GD hC.G hcc
        refine am_st (st2 := [am_i 1]) rfl ?_
        refine am_if_ne (q := 36) (t := 38) (am_tab tk_X9_enough 17 rfl) (by decide) rfl (fun h33 => ?_) (fun h33 => ?_)
        · refine am_iload_n (q := 39) rfl (am_tab tk_X9_enough 20 rfl) rfl ?_
          refine am_istore_n (q := 40) (by decide) (ls2 := [(3, am_i (lvM σ)), (2, am_i (lvM σ)), (0, am_r 0), (1, am_i w)]) rfl (am_tab tk_X9_enough 21 rfl) rfl ?_
          refine am_iconst (q := 41) (n := 1) (by decide) (am_tab tk_X9_enough 22 rfl) rfl ?_
          refine am_istore (q := 43) (by decide) (ls2 := [(4, am_i 1), (3, am_i (lvM σ)), (2, am_i (lvM σ)), (0, am_r 0), (1, am_i w)]) rfl (am_tab tk_X9_enough 23 rfl) rfl ?_
          have L43 : ∀ (n43 : Nat) (m : Nat) (S : am_H), 256 - m < n43 → 1 ≤ m → (m : Int) ≤ lvM σ → CQ σ S → DWr 3 32 S (bgS σ) → MEM S (bgS σ) → am_wp M_X9_enough Q 0 0 43 [(4, am_i ((m : Int))), (3, am_i ((enF σ m))), (2, am_i (lvM σ)), (0, am_r 0), (1, am_i w)] [] S := by
            intro n43
            induction n43 with
            | zero => intro m S hn43; exact absurd hn43 (Nat.not_lt_zero _)
            | succ n43 ih43 =>
              intro m S hn43 hm1 hm2 hq hD hM
              refine am_iload (q := 45) rfl (am_tab tk_X9_enough 24 rfl) rfl ?_
              refine am_iload_n (q := 46) rfl (am_tab tk_X9_enough 25 rfl) rfl ?_
              refine am_icmp_ge (q := 49) (t := 105) (am_tab tk_X9_enough 26 rfl) (by decide) rfl (fun h46 => ?_) (fun h46 => ?_)
              · refine am_iload_n (q := 106) rfl (am_tab tk_X9_enough 55 rfl) rfl ?_
                refine am_if_ne (q := 109) (t := 116) (am_tab tk_X9_enough 56 rfl) (by decide) rfl (fun h106 => ?_) (fun h106 => ?_)
                · exact absurd h6 h106
                · refine am_iload_n (q := 110) rfl (am_tab tk_X9_enough 57 rfl) rfl ?_
                  refine am_callS0 (q := 113) (me2 := M_J6_bitCount_0f7a4) (As := [am_i ((enF σ m))]) (rest := []) (out := [am_i (bc (enF σ m))]) (c_bc S (enF σ m) (enF_rng hC.G.R m (by omega))) ⟨rfl, rfl⟩ ⟨Or.inl km_X9_133, kc_J6_bitCount_0f7a4, kn_J6, kd_J6_bitCount_0f7a4, ⟨(Nat.le_of_ble_eq_true rfl), (Nat.le_of_ble_eq_true rfl)⟩, ⟨(Nat.le_of_ble_eq_true rfl), (Nat.le_of_ble_eq_true rfl)⟩, (Nat.le_of_ble_eq_true rfl)⟩ ki_J6_bitCount_0f7a4 rfl rfl (am_tab tk_X9_enough 58 rfl) rfl ?_
                  refine am_goto (t := 117) (am_tab tk_X9_enough 59 rfl) (by decide) ?_
                  refine am_iret (Or.inl rfl) (Nat.le_of_ble_eq_true rfl) (Nat.le_of_ble_eq_true rfl) (am_tab tk_X9_enough 61 rfl) ?_
                  refine hQ _ _ ?_
                  refine ⟨congrArg (fun z => some (am_i z)) ?_, hq⟩
                  unfold enoM
                  rw [if_pos ⟨⟨cm, by omega⟩, by omega⟩, enF_last hC.G, show (lvM σ).toNat = m by omega]
                  first | rw [if_pos (by omega)] | rw [if_neg (by omega)]
              · refine am_iload (q := 51) rfl (am_tab tk_X9_enough 27 rfl) rfl ?_
                refine am_callS0 (q := 54) (me2 := M_J6_bitCount_0f7a4) (As := [am_i ((m : Int))]) (rest := []) (out := [am_i (bc (m : Int))]) (c_bc S (m : Int) (by omega)) ⟨rfl, rfl⟩ ⟨Or.inl km_X9_133, kc_J6_bitCount_0f7a4, kn_J6, kd_J6_bitCount_0f7a4, ⟨(Nat.le_of_ble_eq_true rfl), (Nat.le_of_ble_eq_true rfl)⟩, ⟨(Nat.le_of_ble_eq_true rfl), (Nat.le_of_ble_eq_true rfl)⟩, (Nat.le_of_ble_eq_true rfl)⟩ ki_J6_bitCount_0f7a4 rfl rfl (am_tab tk_X9_enough 28 rfl) rfl ?_
                refine am_iload_n (q := 55) rfl (am_tab tk_X9_enough 29 rfl) rfl ?_
                refine am_callS0 (q := 58) (me2 := M_J6_bitCount_0f7a4) (As := [am_i ((enF σ m))]) (rest := [am_i (bc (m : Int))]) (out := [am_i (bc (enF σ m)), am_i (bc (m : Int))]) (c_bc S (enF σ m) (enF_rng hC.G.R m (by omega))) ⟨rfl, rfl⟩ ⟨Or.inl km_X9_133, kc_J6_bitCount_0f7a4, kn_J6, kd_J6_bitCount_0f7a4, ⟨(Nat.le_of_ble_eq_true rfl), (Nat.le_of_ble_eq_true rfl)⟩, ⟨(Nat.le_of_ble_eq_true rfl), (Nat.le_of_ble_eq_true rfl)⟩, (Nat.le_of_ble_eq_true rfl)⟩ ki_J6_bitCount_0f7a4 rfl rfl (am_tab tk_X9_enough 30 rfl) rfl ?_
                refine am_icmp_ge (q := 61) (t := 65) (am_tab tk_X9_enough 31 rfl) (by decide) rfl (fun h58 => ?_) (fun h58 => ?_)
                · refine am_iconst (q := 66) (n := 0) (by decide) (am_tab tk_X9_enough 34 rfl) rfl ?_
                  refine am_istore (q := 68) (by decide) (ls2 := [(5, am_i 0), (4, am_i ((m : Int))), (3, am_i ((enF σ m))), (2, am_i (lvM σ)), (0, am_r 0), (1, am_i w)]) rfl (am_tab tk_X9_enough 35 rfl) rfl ?_
                  refine am_iload (q := 70) rfl (am_tab tk_X9_enough 36 rfl) rfl ?_
                  refine am_if_eq (q := 73) (t := 99) (am_tab tk_X9_enough 37 rfl) (by decide) rfl (fun h70 => ?_) (fun h70 => ?_)
                  · refine am_iinc (q := 102) rfl (by omega) (by decide) (ls2 := [(4, am_i (((m : Int) + 1))), (5, am_i 0), (3, am_i ((enF σ m))), (2, am_i (lvM σ)), (0, am_r 0), (1, am_i w)]) rfl (am_tab tk_X9_enough 53 rfl) rfl ?_
                    refine am_goto (t := 43) (am_tab tk_X9_enough 54 rfl) (by decide) ?_
                    have he : enF σ (m + 1) = (enF σ m) := by
                      show (if _ then _ else _) = _
                      rw [if_neg (by omega)]
                    exact am_less (by intro q hq; simp only [List.mem_cons, List.not_mem_nil, or_false] at hq; rcases hq with rfl | rfl | rfl | rfl | rfl <;> simp [he]) (ih43 (m + 1) S (by omega) (by omega) (by omega) hq hD hM)
                  · exact absurd h70 (by decide)
                · refine am_iconst (q := 62) (n := 1) (by decide) (am_tab tk_X9_enough 32 rfl) rfl ?_
                  refine am_goto (t := 66) (am_tab tk_X9_enough 33 rfl) (by decide) ?_
                  refine am_istore (q := 68) (by decide) (ls2 := [(5, am_i 1), (4, am_i ((m : Int))), (3, am_i ((enF σ m))), (2, am_i (lvM σ)), (0, am_r 0), (1, am_i w)]) rfl (am_tab tk_X9_enough 35 rfl) rfl ?_
                  refine am_iload (q := 70) rfl (am_tab tk_X9_enough 36 rfl) rfl ?_
                  refine am_if_eq (q := 73) (t := 99) (am_tab tk_X9_enough 37 rfl) (by decide) rfl (fun h70 => ?_) (fun h70 => ?_)
                  · exact absurd h70 (by decide)
                  · refine am_iload (q := 75) rfl (am_tab tk_X9_enough 38 rfl) rfl ?_
                    refine am_iload_n (q := 76) rfl (am_tab tk_X9_enough 39 rfl) rfl ?_
                    refine am_iconst (q := 77) (n := (-1)) (by decide) (am_tab tk_X9_enough 40 rfl) rfl ?_
                    refine am_ixor (q := 78) (am_tab tk_X9_enough 41 rfl) rfl ?_
                    refine am_iand (q := 79) (am_tab tk_X9_enough 42 rfl) rfl ?_
                    refine am_if_ne (q := 82) (t := 99) (am_tab tk_X9_enough 43 rfl) (by decide) rfl (fun h79 => ?_) (fun h79 => ?_)
                    · refine am_iinc (q := 102) rfl (by omega) (by decide) (ls2 := [(4, am_i (((m : Int) + 1))), (5, am_i 1), (3, am_i ((enF σ m))), (2, am_i (lvM σ)), (0, am_r 0), (1, am_i w)]) rfl (am_tab tk_X9_enough 53 rfl) rfl ?_
                      refine am_goto (t := 43) (am_tab tk_X9_enough 54 rfl) (by decide) ?_
                      have he : enF σ (m + 1) = (enF σ m) := by
                        show (if _ then _ else _) = _
                        rw [if_neg (by omega)]
                      exact am_less (by intro q hq; simp only [List.mem_cons, List.not_mem_nil, or_false] at hq; rcases hq with rfl | rfl | rfl | rfl | rfl <;> simp [he]) (ih43 (m + 1) S (by omega) (by omega) (by omega) hq hD hM)
                    · refine am_aload_n (q := 83) rfl (am_tab tk_X9_enough 44 rfl) rfl ?_
                      refine am_getR (q := 86) (a := 0) (k := 9) (n := 17) (j := 7) (r := some (44)) (Ls_0 (hq.L hC.G.L)) (by decide) rfl (Lr_0_7 (hq.L hC.G.L)) (by decide) (Or.inl kf_X9_57) (am_tab tk_X9_enough 45 rfl) rfl ?_
                      refine am_iload (q := 88) rfl (am_tab tk_X9_enough 46 rfl) rfl ?_
                      refine am_iload_n (q := 89) rfl (am_tab tk_X9_enough 47 rfl) rfl ?_
                      refine am_callVr (q := 92) (me2 := M_X0_spread) (b := 44) (kb := 0) (nb := 14) (As := [am_i ((m : Int)), am_i (lvM σ)]) (rest := []) (c_spread_3_32 S (bgS σ) (hq.L hC.G.L) hGB hD (m : Int) (lvM σ) 0 (by omega) hlv (fun p hp => by rw [lv_tb hC.G (show p < 8 by have h5 : p < pN σ := hp; have := hC.G.R.P; unfold pN at h5; omega), show (bgS σ).2.1 96 (12 + p) = σ.2.1 96 (12 + p) from bgN_far (by omega), tb0]; have h5 : p < pN σ := hp; by_cases h6 : σ.2.1 96 (12 + p) = 1 <;> simp [h5, h6]) hM) ⟨rfl, rfl⟩ (Ls_44 (hq.L hC.G.L)) (by decide) ⟨Or.inr km_X9_266, kc_X0_spread, kn_X0, kd_X0_spread, ⟨(Nat.le_of_ble_eq_true rfl), (Nat.le_of_ble_eq_true rfl)⟩, ⟨(Nat.le_of_ble_eq_true rfl), (Nat.le_of_ble_eq_true rfl)⟩, (Nat.le_of_ble_eq_true rfl)⟩ ki_X0_spread ks_X0_spread rfl (am_tab tk_X9_enough 48 rfl) rfl ?_
                      rintro r T ⟨hr9, hMT, hFT⟩
                      have hr8 : r = some (am_i (rmE (bgS σ) (tsD σ) (m : Int) 0)) := hr9
                      subst hr8
                      have hqT : CQ σ T := hq.trans (hFT.cq (by unfold W_dw W_cq; omega))
                      have hDT := hD.fr hFT (by decide) (by decide)
                      refine am_st (st2 := [am_i (rmE (bgS σ) (tsD σ) (m : Int) 0)]) rfl ?_
                      refine am_iload_n (q := 93) rfl (am_tab tk_X9_enough 49 rfl) rfl ?_
                      refine am_icmp_ne (q := 96) (t := 99) (am_tab tk_X9_enough 50 rfl) (by decide) rfl (fun h93 => ?_) (fun h93 => ?_)
                      · refine am_iinc (q := 102) rfl (by omega) (by decide) (ls2 := [(4, am_i (((m : Int) + 1))), (5, am_i 1), (3, am_i ((enF σ m))), (2, am_i (lvM σ)), (0, am_r 0), (1, am_i w)]) rfl (am_tab tk_X9_enough 53 rfl) rfl ?_
                        refine am_goto (t := 43) (am_tab tk_X9_enough 54 rfl) (by decide) ?_
                        have he : enF σ (m + 1) = (enF σ m) := by
                          show (if _ then _ else _) = _
                          rw [if_neg (by omega)]
                        exact am_less (by intro q hq; simp only [List.mem_cons, List.not_mem_nil, or_false] at hq; rcases hq with rfl | rfl | rfl | rfl | rfl <;> simp [he]) (ih43 (m + 1) T (by omega) (by omega) (by omega) hqT hDT hMT)
                      · refine am_iload (q := 98) rfl (am_tab tk_X9_enough 51 rfl) rfl ?_
                        refine am_istore_n (q := 99) (by decide) (ls2 := [(3, am_i ((m : Int))), (5, am_i 1), (4, am_i ((m : Int))), (2, am_i (lvM σ)), (0, am_r 0), (1, am_i w)]) rfl (am_tab tk_X9_enough 52 rfl) rfl ?_
                        refine am_iinc (q := 102) rfl (by omega) (by decide) (ls2 := [(4, am_i (((m : Int) + 1))), (3, am_i ((m : Int))), (5, am_i 1), (2, am_i (lvM σ)), (0, am_r 0), (1, am_i w)]) rfl (am_tab tk_X9_enough 53 rfl) rfl ?_
                        refine am_goto (t := 43) (am_tab tk_X9_enough 54 rfl) (by decide) ?_
                        have he : enF σ (m + 1) = (m : Int) := by
                          show (if _ then _ else _) = _
                          rw [if_pos ⟨by omega, by omega, by omega⟩]
                        exact am_less (by intro q hq; simp only [List.mem_cons, List.not_mem_nil, or_false] at hq; rcases hq with rfl | rfl | rfl | rfl | rfl <;> simp [he]) (ih43 (m + 1) T (by omega) (by omega) (by omega) hqT hDT hMT)
          have he0 := enF_1 hC.G (show ¬ lvM σ = 0 by omega)
          refine am_less (by intro q hq; simp only [List.mem_cons, List.not_mem_nil, or_false] at hq; rcases hq with rfl | rfl | rfl | rfl | rfl <;> simp [he0]) (L43 (_ + 1) 1 S0 (by exact Nat.lt_succ_self _) (Nat.le_refl 1) (by omega) hq0 hDA.1 hDA.2.1)
        · exact absurd h33 (by decide)
    · refine am_iload_n (q := 10) rfl (am_tab tk_X9_enough 5 rfl) rfl ?_
      refine am_iconst (q := 11) (n := 1) (by decide) (am_tab tk_X9_enough 6 rfl) rfl ?_
      refine am_icmp_ne (q := 14) (t := 36) (am_tab tk_X9_enough 7 rfl) (by decide) rfl (fun h11 => ?_) (fun h11 => ?_)
      · refine am_iconst (q := 37) (n := (-1)) (by decide) (am_tab tk_X9_enough 18 rfl) rfl ?_
        refine am_iret (Or.inl rfl) (Nat.le_of_ble_eq_true rfl) (Nat.le_of_ble_eq_true rfl) (am_tab tk_X9_enough 19 rfl) ?_
        refine hQ _ _ ?_
        refine ⟨congrArg (fun z => some (am_i z)) ?_, CQ.refl σ⟩
        unfold enoM
        rw [if_neg (fun h => by have := h.1.2; have := h.2; omega)]
      · refine am_iload_n (q := 15) rfl (am_tab tk_X9_enough 8 rfl) rfl ?_
        refine am_if_eq (q := 18) (t := 36) (am_tab tk_X9_enough 9 rfl) (by decide) rfl (fun h15 => ?_) (fun h15 => ?_)
        · refine am_iconst (q := 37) (n := (-1)) (by decide) (am_tab tk_X9_enough 18 rfl) rfl ?_
          refine am_iret (Or.inl rfl) (Nat.le_of_ble_eq_true rfl) (Nat.le_of_ble_eq_true rfl) (am_tab tk_X9_enough 19 rfl) ?_
          refine hQ _ _ ?_
          refine ⟨congrArg (fun z => some (am_i z)) ?_, CQ.refl σ⟩
          unfold enoM
          rw [if_neg (fun h => by have := h.1.2; have := h.2; omega)]
        · refine am_aload_n (q := 19) rfl (am_tab tk_X9_enough 10 rfl) rfl ?_
          refine am_getR (q := 22) (a := 0) (k := 9) (n := 17) (j := 7) (r := some (44)) (Ls_0 hL) (by decide) rfl (Lr_0_7 hL) (by decide) (Or.inl kf_X9_57) (am_tab tk_X9_enough 11 rfl) rfl ?_
          refine am_aload_n (q := 23) rfl (am_tab tk_X9_enough 12 rfl) rfl ?_
          refine am_getR (q := 26) (a := 0) (k := 9) (n := 17) (j := 2) (r := some (3)) (Ls_0 hL) (by decide) rfl hC.t (by decide) (Or.inl kf_X9_19) (am_tab tk_X9_enough 13 rfl) rfl ?_
          refine am_aload_n (q := 27) rfl (am_tab tk_X9_enough 14 rfl) rfl ?_
          refine am_getR (q := 30) (a := 0) (k := 9) (n := 17) (j := 4) (r := some (32)) (Ls_0 hL) (by decide) rfl (Lr_0_4 hL) (by decide) (Or.inl kf_X9_38) (am_tab tk_X9_enough 15 rfl) rfl ?_
          refine am_callVr (q := 33) (me2 := M_X0_lookAt) (b := 44) (kb := 0) (nb := 14) (As := [am_r 3, am_r 32]) (rest := []) (c_lookAt_3_32 σ σ hL hC.G hC.W hC.F) ⟨rfl, rfl⟩ (Ls_44 hL) (by decide) ⟨Or.inr km_X9_247, kc_X0_lookAt, kn_X0, kd_X0_lookAt, ⟨(Nat.le_of_ble_eq_true rfl), (Nat.le_of_ble_eq_true rfl)⟩, ⟨(Nat.le_of_ble_eq_true rfl), (Nat.le_of_ble_eq_true rfl)⟩, (Nat.le_of_ble_eq_true rfl)⟩ ki_X0_lookAt ks_X0_lookAt rfl (am_tab tk_X9_enough 16 rfl) rfl ?_
          rintro r S0 hlk
          rw [if_pos ((cM_dl hC.G.R).mp cm)] at hlk
          obtain ⟨rfl, hDA, hFb⟩ := hlk
          have hq0 : CQ σ S0 := CQ.base hFb
          have hcc := cM_cc hC.G.R cm
          have hGB := bgS_GD hC.G hcc
          refine am_st (st2 := [am_i 1]) rfl ?_
          refine am_if_ne (q := 36) (t := 38) (am_tab tk_X9_enough 17 rfl) (by decide) rfl (fun h33 => ?_) (fun h33 => ?_)
          · refine am_iload_n (q := 39) rfl (am_tab tk_X9_enough 20 rfl) rfl ?_
            refine am_istore_n (q := 40) (by decide) (ls2 := [(3, am_i (lvM σ)), (2, am_i (lvM σ)), (0, am_r 0), (1, am_i w)]) rfl (am_tab tk_X9_enough 21 rfl) rfl ?_
            refine am_iconst (q := 41) (n := 1) (by decide) (am_tab tk_X9_enough 22 rfl) rfl ?_
            refine am_istore (q := 43) (by decide) (ls2 := [(4, am_i 1), (3, am_i (lvM σ)), (2, am_i (lvM σ)), (0, am_r 0), (1, am_i w)]) rfl (am_tab tk_X9_enough 23 rfl) rfl ?_
            have L43 : ∀ (n43 : Nat) (m : Nat) (S : am_H), 256 - m < n43 → 1 ≤ m → (m : Int) ≤ lvM σ → CQ σ S → DWr 3 32 S (bgS σ) → MEM S (bgS σ) → am_wp M_X9_enough Q 0 0 43 [(4, am_i ((m : Int))), (3, am_i ((enF σ m))), (2, am_i (lvM σ)), (0, am_r 0), (1, am_i w)] [] S := by
              intro n43
              induction n43 with
              | zero => intro m S hn43; exact absurd hn43 (Nat.not_lt_zero _)
              | succ n43 ih43 =>
                intro m S hn43 hm1 hm2 hq hD hM
                refine am_iload (q := 45) rfl (am_tab tk_X9_enough 24 rfl) rfl ?_
                refine am_iload_n (q := 46) rfl (am_tab tk_X9_enough 25 rfl) rfl ?_
                refine am_icmp_ge (q := 49) (t := 105) (am_tab tk_X9_enough 26 rfl) (by decide) rfl (fun h46 => ?_) (fun h46 => ?_)
                · refine am_iload_n (q := 106) rfl (am_tab tk_X9_enough 55 rfl) rfl ?_
                  refine am_if_ne (q := 109) (t := 116) (am_tab tk_X9_enough 56 rfl) (by decide) rfl (fun h106 => ?_) (fun h106 => ?_)
                  · refine am_iload_n (q := 117) rfl (am_tab tk_X9_enough 60 rfl) rfl ?_
                    refine am_iret (Or.inl rfl) (Nat.le_of_ble_eq_true rfl) (Nat.le_of_ble_eq_true rfl) (am_tab tk_X9_enough 61 rfl) ?_
                    refine hQ _ _ ?_
                    refine ⟨congrArg (fun z => some (am_i z)) ?_, hq⟩
                    unfold enoM
                    rw [if_pos ⟨⟨cm, by omega⟩, by omega⟩, enF_last hC.G, show (lvM σ).toNat = m by omega]
                    first | rw [if_pos (by omega)] | rw [if_neg (by omega)]
                  · exact absurd h106 h6
                · refine am_iload (q := 51) rfl (am_tab tk_X9_enough 27 rfl) rfl ?_
                  refine am_callS0 (q := 54) (me2 := M_J6_bitCount_0f7a4) (As := [am_i ((m : Int))]) (rest := []) (out := [am_i (bc (m : Int))]) (c_bc S (m : Int) (by omega)) ⟨rfl, rfl⟩ ⟨Or.inl km_X9_133, kc_J6_bitCount_0f7a4, kn_J6, kd_J6_bitCount_0f7a4, ⟨(Nat.le_of_ble_eq_true rfl), (Nat.le_of_ble_eq_true rfl)⟩, ⟨(Nat.le_of_ble_eq_true rfl), (Nat.le_of_ble_eq_true rfl)⟩, (Nat.le_of_ble_eq_true rfl)⟩ ki_J6_bitCount_0f7a4 rfl rfl (am_tab tk_X9_enough 28 rfl) rfl ?_
                  refine am_iload_n (q := 55) rfl (am_tab tk_X9_enough 29 rfl) rfl ?_
                  refine am_callS0 (q := 58) (me2 := M_J6_bitCount_0f7a4) (As := [am_i ((enF σ m))]) (rest := [am_i (bc (m : Int))]) (out := [am_i (bc (enF σ m)), am_i (bc (m : Int))]) (c_bc S (enF σ m) (enF_rng hC.G.R m (by omega))) ⟨rfl, rfl⟩ ⟨Or.inl km_X9_133, kc_J6_bitCount_0f7a4, kn_J6, kd_J6_bitCount_0f7a4, ⟨(Nat.le_of_ble_eq_true rfl), (Nat.le_of_ble_eq_true rfl)⟩, ⟨(Nat.le_of_ble_eq_true rfl), (Nat.le_of_ble_eq_true rfl)⟩, (Nat.le_of_ble_eq_true rfl)⟩ ki_J6_bitCount_0f7a4 rfl rfl (am_tab tk_X9_enough 30 rfl) rfl ?_
                  refine am_icmp_ge (q := 61) (t := 65) (am_tab tk_X9_enough 31 rfl) (by decide) rfl (fun h58 => ?_) (fun h58 => ?_)
                  · refine am_iconst (q := 66) (n := 0) (by decide) (am_tab tk_X9_enough 34 rfl) rfl ?_
                    refine am_istore (q := 68) (by decide) (ls2 := [(5, am_i 0), (4, am_i ((m : Int))), (3, am_i ((enF σ m))), (2, am_i (lvM σ)), (0, am_r 0), (1, am_i w)]) rfl (am_tab tk_X9_enough 35 rfl) rfl ?_
                    refine am_iload (q := 70) rfl (am_tab tk_X9_enough 36 rfl) rfl ?_
                    refine am_if_eq (q := 73) (t := 99) (am_tab tk_X9_enough 37 rfl) (by decide) rfl (fun h70 => ?_) (fun h70 => ?_)
                    · refine am_iinc (q := 102) rfl (by omega) (by decide) (ls2 := [(4, am_i (((m : Int) + 1))), (5, am_i 0), (3, am_i ((enF σ m))), (2, am_i (lvM σ)), (0, am_r 0), (1, am_i w)]) rfl (am_tab tk_X9_enough 53 rfl) rfl ?_
                      refine am_goto (t := 43) (am_tab tk_X9_enough 54 rfl) (by decide) ?_
                      have he : enF σ (m + 1) = (enF σ m) := by
                        show (if _ then _ else _) = _
                        rw [if_neg (by omega)]
                      exact am_less (by intro q hq; simp only [List.mem_cons, List.not_mem_nil, or_false] at hq; rcases hq with rfl | rfl | rfl | rfl | rfl <;> simp [he]) (ih43 (m + 1) S (by omega) (by omega) (by omega) hq hD hM)
                    · exact absurd h70 (by decide)
                  · refine am_iconst (q := 62) (n := 1) (by decide) (am_tab tk_X9_enough 32 rfl) rfl ?_
                    refine am_goto (t := 66) (am_tab tk_X9_enough 33 rfl) (by decide) ?_
                    refine am_istore (q := 68) (by decide) (ls2 := [(5, am_i 1), (4, am_i ((m : Int))), (3, am_i ((enF σ m))), (2, am_i (lvM σ)), (0, am_r 0), (1, am_i w)]) rfl (am_tab tk_X9_enough 35 rfl) rfl ?_
                    refine am_iload (q := 70) rfl (am_tab tk_X9_enough 36 rfl) rfl ?_
                    refine am_if_eq (q := 73) (t := 99) (am_tab tk_X9_enough 37 rfl) (by decide) rfl (fun h70 => ?_) (fun h70 => ?_)
                    · exact absurd h70 (by decide)
                    · refine am_iload (q := 75) rfl (am_tab tk_X9_enough 38 rfl) rfl ?_
                      refine am_iload_n (q := 76) rfl (am_tab tk_X9_enough 39 rfl) rfl ?_
                      refine am_iconst (q := 77) (n := (-1)) (by decide) (am_tab tk_X9_enough 40 rfl) rfl ?_
                      refine am_ixor (q := 78) (am_tab tk_X9_enough 41 rfl) rfl ?_
                      refine am_iand (q := 79) (am_tab tk_X9_enough 42 rfl) rfl ?_
                      refine am_if_ne (q := 82) (t := 99) (am_tab tk_X9_enough 43 rfl) (by decide) rfl (fun h79 => ?_) (fun h79 => ?_)
                      · refine am_iinc (q := 102) rfl (by omega) (by decide) (ls2 := [(4, am_i (((m : Int) + 1))), (5, am_i 1), (3, am_i ((enF σ m))), (2, am_i (lvM σ)), (0, am_r 0), (1, am_i w)]) rfl (am_tab tk_X9_enough 53 rfl) rfl ?_
                        refine am_goto (t := 43) (am_tab tk_X9_enough 54 rfl) (by decide) ?_
                        have he : enF σ (m + 1) = (enF σ m) := by
                          show (if _ then _ else _) = _
                          rw [if_neg (by omega)]
                        exact am_less (by intro q hq; simp only [List.mem_cons, List.not_mem_nil, or_false] at hq; rcases hq with rfl | rfl | rfl | rfl | rfl <;> simp [he]) (ih43 (m + 1) S (by omega) (by omega) (by omega) hq hD hM)
                      · refine am_aload_n (q := 83) rfl (am_tab tk_X9_enough 44 rfl) rfl ?_
                        refine am_getR (q := 86) (a := 0) (k := 9) (n := 17) (j := 7) (r := some (44)) (Ls_0 (hq.L hC.G.L)) (by decide) rfl (Lr_0_7 (hq.L hC.G.L)) (by decide) (Or.inl kf_X9_57) (am_tab tk_X9_enough 45 rfl) rfl ?_
                        refine am_iload (q := 88) rfl (am_tab tk_X9_enough 46 rfl) rfl ?_
                        refine am_iload_n (q := 89) rfl (am_tab tk_X9_enough 47 rfl) rfl ?_
                        refine am_callVr (q := 92) (me2 := M_X0_spread) (b := 44) (kb := 0) (nb := 14) (As := [am_i ((m : Int)), am_i (lvM σ)]) (rest := []) (c_spread_3_32 S (bgS σ) (hq.L hC.G.L) hGB hD (m : Int) (lvM σ) 0 (by omega) hlv (fun p hp => by rw [lv_tb hC.G (show p < 8 by have h5 : p < pN σ := hp; have := hC.G.R.P; unfold pN at h5; omega), show (bgS σ).2.1 96 (12 + p) = σ.2.1 96 (12 + p) from bgN_far (by omega), tb0]; have h5 : p < pN σ := hp; by_cases h6 : σ.2.1 96 (12 + p) = 1 <;> simp [h5, h6]) hM) ⟨rfl, rfl⟩ (Ls_44 (hq.L hC.G.L)) (by decide) ⟨Or.inr km_X9_266, kc_X0_spread, kn_X0, kd_X0_spread, ⟨(Nat.le_of_ble_eq_true rfl), (Nat.le_of_ble_eq_true rfl)⟩, ⟨(Nat.le_of_ble_eq_true rfl), (Nat.le_of_ble_eq_true rfl)⟩, (Nat.le_of_ble_eq_true rfl)⟩ ki_X0_spread ks_X0_spread rfl (am_tab tk_X9_enough 48 rfl) rfl ?_
                        rintro r T ⟨hr9, hMT, hFT⟩
                        have hr8 : r = some (am_i (rmE (bgS σ) (tsD σ) (m : Int) 0)) := hr9
                        subst hr8
                        have hqT : CQ σ T := hq.trans (hFT.cq (by unfold W_dw W_cq; omega))
                        have hDT := hD.fr hFT (by decide) (by decide)
                        refine am_st (st2 := [am_i (rmE (bgS σ) (tsD σ) (m : Int) 0)]) rfl ?_
                        refine am_iload_n (q := 93) rfl (am_tab tk_X9_enough 49 rfl) rfl ?_
                        refine am_icmp_ne (q := 96) (t := 99) (am_tab tk_X9_enough 50 rfl) (by decide) rfl (fun h93 => ?_) (fun h93 => ?_)
                        · refine am_iinc (q := 102) rfl (by omega) (by decide) (ls2 := [(4, am_i (((m : Int) + 1))), (5, am_i 1), (3, am_i ((enF σ m))), (2, am_i (lvM σ)), (0, am_r 0), (1, am_i w)]) rfl (am_tab tk_X9_enough 53 rfl) rfl ?_
                          refine am_goto (t := 43) (am_tab tk_X9_enough 54 rfl) (by decide) ?_
                          have he : enF σ (m + 1) = (enF σ m) := by
                            show (if _ then _ else _) = _
                            rw [if_neg (by omega)]
                          exact am_less (by intro q hq; simp only [List.mem_cons, List.not_mem_nil, or_false] at hq; rcases hq with rfl | rfl | rfl | rfl | rfl <;> simp [he]) (ih43 (m + 1) T (by omega) (by omega) (by omega) hqT hDT hMT)
                        · refine am_iload (q := 98) rfl (am_tab tk_X9_enough 51 rfl) rfl ?_
                          refine am_istore_n (q := 99) (by decide) (ls2 := [(3, am_i ((m : Int))), (5, am_i 1), (4, am_i ((m : Int))), (2, am_i (lvM σ)), (0, am_r 0), (1, am_i w)]) rfl (am_tab tk_X9_enough 52 rfl) rfl ?_
                          refine am_iinc (q := 102) rfl (by omega) (by decide) (ls2 := [(4, am_i (((m : Int) + 1))), (3, am_i ((m : Int))), (5, am_i 1), (2, am_i (lvM σ)), (0, am_r 0), (1, am_i w)]) rfl (am_tab tk_X9_enough 53 rfl) rfl ?_
                          refine am_goto (t := 43) (am_tab tk_X9_enough 54 rfl) (by decide) ?_
                          have he : enF σ (m + 1) = (m : Int) := by
                            show (if _ then _ else _) = _
                            rw [if_pos ⟨by omega, by omega, by omega⟩]
                          exact am_less (by intro q hq; simp only [List.mem_cons, List.not_mem_nil, or_false] at hq; rcases hq with rfl | rfl | rfl | rfl | rfl <;> simp [he]) (ih43 (m + 1) T (by omega) (by omega) (by omega) hqT hDT hMT)
            have he0 := enF_1 hC.G (show ¬ lvM σ = 0 by omega)
            refine am_less (by intro q hq; simp only [List.mem_cons, List.not_mem_nil, or_false] at hq; rcases hq with rfl | rfl | rfl | rfl | rfl <;> simp [he0]) (L43 (_ + 1) 1 S0 (by exact Nat.lt_succ_self _) (Nat.le_refl 1) (by omega) hq0 hDA.1 hDA.2.1)
          · exact absurd h33 (by decide)
  · refine am_aload_n (q := 1) rfl (am_tab tk_X9_enough 0 rfl) rfl ?_
    refine am_callVr (q := 4) (me2 := M_X9_living) (b := 0) (kb := 9) (nb := 17) (As := []) (rest := []) (c_living_3 σ hC) ⟨rfl, rfl⟩ (Ls_0 hL) (by decide) ⟨Or.inl km_X9_129, kc_X9_living, kn_X9, kd_X9_living, ⟨(Nat.le_of_ble_eq_true rfl), (Nat.le_of_ble_eq_true rfl)⟩, ⟨(Nat.le_of_ble_eq_true rfl), (Nat.le_of_ble_eq_true rfl)⟩, (Nat.le_of_ble_eq_true rfl)⟩ ki_X9_living ks_X9_living rfl (am_tab tk_X9_enough 1 rfl) rfl ?_
    rintro r τ ⟨hr9, hτ⟩
    rw [liv_eq hC.G hC.F] at hr9
    rw [hr9, hτ]
    refine am_st (st2 := [am_i (lvM σ)]) rfl ?_
    refine am_istore_n (q := 5) (by decide) (ls2 := [(2, am_i (lvM σ)), (0, am_r 0), (1, am_i w)]) rfl (am_tab tk_X9_enough 2 rfl) rfl ?_
    refine am_iload_n (q := 6) rfl (am_tab tk_X9_enough 3 rfl) rfl ?_
    refine am_if_eq (q := 9) (t := 14) (am_tab tk_X9_enough 4 rfl) (by decide) rfl (fun h6 => ?_) (fun h6 => ?_)
    · refine am_iload_n (q := 15) rfl (am_tab tk_X9_enough 8 rfl) rfl ?_
      refine am_if_eq (q := 18) (t := 36) (am_tab tk_X9_enough 9 rfl) (by decide) rfl (fun h15 => ?_) (fun h15 => ?_)
      · refine am_iconst (q := 37) (n := (-1)) (by decide) (am_tab tk_X9_enough 18 rfl) rfl ?_
        refine am_iret (Or.inl rfl) (Nat.le_of_ble_eq_true rfl) (Nat.le_of_ble_eq_true rfl) (am_tab tk_X9_enough 19 rfl) ?_
        refine hQ _ _ ?_
        refine ⟨congrArg (fun z => some (am_i z)) ?_, CQ.refl σ⟩
        unfold enoM
        rw [if_neg (fun h => by have := h.1.2; have := h.2; omega)]
      · refine am_aload_n (q := 19) rfl (am_tab tk_X9_enough 10 rfl) rfl ?_
        refine am_getR (q := 22) (a := 0) (k := 9) (n := 17) (j := 7) (r := some (44)) (Ls_0 hL) (by decide) rfl (Lr_0_7 hL) (by decide) (Or.inl kf_X9_57) (am_tab tk_X9_enough 11 rfl) rfl ?_
        refine am_aload_n (q := 23) rfl (am_tab tk_X9_enough 12 rfl) rfl ?_
        refine am_getR (q := 26) (a := 0) (k := 9) (n := 17) (j := 2) (r := some (3)) (Ls_0 hL) (by decide) rfl hC.t (by decide) (Or.inl kf_X9_19) (am_tab tk_X9_enough 13 rfl) rfl ?_
        refine am_aload_n (q := 27) rfl (am_tab tk_X9_enough 14 rfl) rfl ?_
        refine am_getR (q := 30) (a := 0) (k := 9) (n := 17) (j := 4) (r := some (32)) (Ls_0 hL) (by decide) rfl (Lr_0_4 hL) (by decide) (Or.inl kf_X9_38) (am_tab tk_X9_enough 15 rfl) rfl ?_
        refine am_callVr (q := 33) (me2 := M_X0_lookAt) (b := 44) (kb := 0) (nb := 14) (As := [am_r 3, am_r 32]) (rest := []) (c_lookAt_3_32 σ σ hL hC.G hC.W hC.F) ⟨rfl, rfl⟩ (Ls_44 hL) (by decide) ⟨Or.inr km_X9_247, kc_X0_lookAt, kn_X0, kd_X0_lookAt, ⟨(Nat.le_of_ble_eq_true rfl), (Nat.le_of_ble_eq_true rfl)⟩, ⟨(Nat.le_of_ble_eq_true rfl), (Nat.le_of_ble_eq_true rfl)⟩, (Nat.le_of_ble_eq_true rfl)⟩ ki_X0_lookAt ks_X0_lookAt rfl (am_tab tk_X9_enough 16 rfl) rfl ?_
        rintro r S0 hlk
        rw [if_neg (fun h => cm ((cM_dl hC.G.R).mpr h))] at hlk
        obtain ⟨rfl, hSS⟩ := hlk
        rw [hSS]
        refine am_st (st2 := [am_i 0]) rfl ?_
        refine am_if_ne (q := 36) (t := 38) (am_tab tk_X9_enough 17 rfl) (by decide) rfl (fun h33 => ?_) (fun h33 => ?_)
        · exact absurd h33 (by decide)
        · refine am_iconst (q := 37) (n := (-1)) (by decide) (am_tab tk_X9_enough 18 rfl) rfl ?_
          refine am_iret (Or.inl rfl) (Nat.le_of_ble_eq_true rfl) (Nat.le_of_ble_eq_true rfl) (am_tab tk_X9_enough 19 rfl) ?_
          refine hQ _ _ ?_
          refine ⟨congrArg (fun z => some (am_i z)) ?_, (((frw.refl W_cq σ).setN (a := 44) (j := 7) (x := 0) (by unfold W_cq; omega)).cq (fun _ _ h => h))⟩
          unfold enoM
          rw [if_neg (fun h => cm h.1.1)]
    · refine am_iload_n (q := 10) rfl (am_tab tk_X9_enough 5 rfl) rfl ?_
      refine am_iconst (q := 11) (n := 1) (by decide) (am_tab tk_X9_enough 6 rfl) rfl ?_
      refine am_icmp_ne (q := 14) (t := 36) (am_tab tk_X9_enough 7 rfl) (by decide) rfl (fun h11 => ?_) (fun h11 => ?_)
      · refine am_iconst (q := 37) (n := (-1)) (by decide) (am_tab tk_X9_enough 18 rfl) rfl ?_
        refine am_iret (Or.inl rfl) (Nat.le_of_ble_eq_true rfl) (Nat.le_of_ble_eq_true rfl) (am_tab tk_X9_enough 19 rfl) ?_
        refine hQ _ _ ?_
        refine ⟨congrArg (fun z => some (am_i z)) ?_, CQ.refl σ⟩
        unfold enoM
        rw [if_neg (fun h => by have := h.1.2; have := h.2; omega)]
      · refine am_iload_n (q := 15) rfl (am_tab tk_X9_enough 8 rfl) rfl ?_
        refine am_if_eq (q := 18) (t := 36) (am_tab tk_X9_enough 9 rfl) (by decide) rfl (fun h15 => ?_) (fun h15 => ?_)
        · refine am_iconst (q := 37) (n := (-1)) (by decide) (am_tab tk_X9_enough 18 rfl) rfl ?_
          refine am_iret (Or.inl rfl) (Nat.le_of_ble_eq_true rfl) (Nat.le_of_ble_eq_true rfl) (am_tab tk_X9_enough 19 rfl) ?_
          refine hQ _ _ ?_
          refine ⟨congrArg (fun z => some (am_i z)) ?_, CQ.refl σ⟩
          unfold enoM
          rw [if_neg (fun h => by have := h.1.2; have := h.2; omega)]
        · refine am_aload_n (q := 19) rfl (am_tab tk_X9_enough 10 rfl) rfl ?_
          refine am_getR (q := 22) (a := 0) (k := 9) (n := 17) (j := 7) (r := some (44)) (Ls_0 hL) (by decide) rfl (Lr_0_7 hL) (by decide) (Or.inl kf_X9_57) (am_tab tk_X9_enough 11 rfl) rfl ?_
          refine am_aload_n (q := 23) rfl (am_tab tk_X9_enough 12 rfl) rfl ?_
          refine am_getR (q := 26) (a := 0) (k := 9) (n := 17) (j := 2) (r := some (3)) (Ls_0 hL) (by decide) rfl hC.t (by decide) (Or.inl kf_X9_19) (am_tab tk_X9_enough 13 rfl) rfl ?_
          refine am_aload_n (q := 27) rfl (am_tab tk_X9_enough 14 rfl) rfl ?_
          refine am_getR (q := 30) (a := 0) (k := 9) (n := 17) (j := 4) (r := some (32)) (Ls_0 hL) (by decide) rfl (Lr_0_4 hL) (by decide) (Or.inl kf_X9_38) (am_tab tk_X9_enough 15 rfl) rfl ?_
          refine am_callVr (q := 33) (me2 := M_X0_lookAt) (b := 44) (kb := 0) (nb := 14) (As := [am_r 3, am_r 32]) (rest := []) (c_lookAt_3_32 σ σ hL hC.G hC.W hC.F) ⟨rfl, rfl⟩ (Ls_44 hL) (by decide) ⟨Or.inr km_X9_247, kc_X0_lookAt, kn_X0, kd_X0_lookAt, ⟨(Nat.le_of_ble_eq_true rfl), (Nat.le_of_ble_eq_true rfl)⟩, ⟨(Nat.le_of_ble_eq_true rfl), (Nat.le_of_ble_eq_true rfl)⟩, (Nat.le_of_ble_eq_true rfl)⟩ ki_X0_lookAt ks_X0_lookAt rfl (am_tab tk_X9_enough 16 rfl) rfl ?_
          rintro r S0 hlk
          rw [if_neg (fun h => cm ((cM_dl hC.G.R).mpr h))] at hlk
          obtain ⟨rfl, hSS⟩ := hlk
          rw [hSS]
          refine am_st (st2 := [am_i 0]) rfl ?_
          refine am_if_ne (q := 36) (t := 38) (am_tab tk_X9_enough 17 rfl) (by decide) rfl (fun h33 => ?_) (fun h33 => ?_)
          · exact absurd h33 (by decide)
          · refine am_iconst (q := 37) (n := (-1)) (by decide) (am_tab tk_X9_enough 18 rfl) rfl ?_
            refine am_iret (Or.inl rfl) (Nat.le_of_ble_eq_true rfl) (Nat.le_of_ble_eq_true rfl) (am_tab tk_X9_enough 19 rfl) ?_
            refine hQ _ _ ?_
            refine ⟨congrArg (fun z => some (am_i z)) ?_, (((frw.refl W_cq σ).setN (a := 44) (j := 7) (x := 0) (by unfold W_cq; omega)).cq (fun _ _ h => h))⟩
            unfold enoM
            rw [if_neg (fun h => cm h.1.1)]
set_option maxRecDepth 100000 in
theorem c_enough_15 (σ : am_H) (hC : CI 15 σ) (w : Int)  : am_met M_X9_enough [am_r 0, am_i w] σ (fun r σ' => r = some (am_i (enoM σ w)) ∧ CQ σ σ') := by
  refine am_qq (fun Q hQ => ?_)
  refine am_enter (show plainFor yX9_enough = true by decide +kernel) rfl (Nat.le_of_ble_eq_true rfl) (fun _ _ _ => trivial) ?_
  have hL := hC.G.L
  have hlv := lvM_rng hC.G.R
  by_cases cm : cM σ
  · refine am_aload_n (q := 1) rfl (am_tab tk_X9_enough 0 rfl) rfl ?_
    refine am_callVr (q := 4) (me2 := M_X9_living) (b := 0) (kb := 9) (nb := 17) (As := []) (rest := []) (c_living_15 σ hC) ⟨rfl, rfl⟩ (Ls_0 hL) (by decide) ⟨Or.inl km_X9_129, kc_X9_living, kn_X9, kd_X9_living, ⟨(Nat.le_of_ble_eq_true rfl), (Nat.le_of_ble_eq_true rfl)⟩, ⟨(Nat.le_of_ble_eq_true rfl), (Nat.le_of_ble_eq_true rfl)⟩, (Nat.le_of_ble_eq_true rfl)⟩ ki_X9_living ks_X9_living rfl (am_tab tk_X9_enough 1 rfl) rfl ?_
    rintro r τ ⟨hr9, hτ⟩
    rw [liv_eq hC.G hC.F] at hr9
    rw [hr9, hτ]
    refine am_st (st2 := [am_i (lvM σ)]) rfl ?_
    refine am_istore_n (q := 5) (by decide) (ls2 := [(2, am_i (lvM σ)), (0, am_r 0), (1, am_i w)]) rfl (am_tab tk_X9_enough 2 rfl) rfl ?_
    refine am_iload_n (q := 6) rfl (am_tab tk_X9_enough 3 rfl) rfl ?_
    refine am_if_eq (q := 9) (t := 14) (am_tab tk_X9_enough 4 rfl) (by decide) rfl (fun h6 => ?_) (fun h6 => ?_)
    · refine am_iload_n (q := 15) rfl (am_tab tk_X9_enough 8 rfl) rfl ?_
      refine am_if_eq (q := 18) (t := 36) (am_tab tk_X9_enough 9 rfl) (by decide) rfl (fun h15 => ?_) (fun h15 => ?_)
      · refine am_iconst (q := 37) (n := (-1)) (by decide) (am_tab tk_X9_enough 18 rfl) rfl ?_
        refine am_iret (Or.inl rfl) (Nat.le_of_ble_eq_true rfl) (Nat.le_of_ble_eq_true rfl) (am_tab tk_X9_enough 19 rfl) ?_
        refine hQ _ _ ?_
        refine ⟨congrArg (fun z => some (am_i z)) ?_, CQ.refl σ⟩
        unfold enoM
        rw [if_neg (fun h => by have := h.1.2; have := h.2; omega)]
      · refine am_aload_n (q := 19) rfl (am_tab tk_X9_enough 10 rfl) rfl ?_
        refine am_getR (q := 22) (a := 0) (k := 9) (n := 17) (j := 7) (r := some (44)) (Ls_0 hL) (by decide) rfl (Lr_0_7 hL) (by decide) (Or.inl kf_X9_57) (am_tab tk_X9_enough 11 rfl) rfl ?_
        refine am_aload_n (q := 23) rfl (am_tab tk_X9_enough 12 rfl) rfl ?_
        refine am_getR (q := 26) (a := 0) (k := 9) (n := 17) (j := 2) (r := some (15)) (Ls_0 hL) (by decide) rfl hC.t (by decide) (Or.inl kf_X9_19) (am_tab tk_X9_enough 13 rfl) rfl ?_
        refine am_aload_n (q := 27) rfl (am_tab tk_X9_enough 14 rfl) rfl ?_
        refine am_getR (q := 30) (a := 0) (k := 9) (n := 17) (j := 4) (r := some (32)) (Ls_0 hL) (by decide) rfl (Lr_0_4 hL) (by decide) (Or.inl kf_X9_38) (am_tab tk_X9_enough 15 rfl) rfl ?_
        refine am_callVr (q := 33) (me2 := M_X0_lookAt) (b := 44) (kb := 0) (nb := 14) (As := [am_r 15, am_r 32]) (rest := []) (c_lookAt_15_32 σ σ hL hC.G hC.W hC.F) ⟨rfl, rfl⟩ (Ls_44 hL) (by decide) ⟨Or.inr km_X9_247, kc_X0_lookAt, kn_X0, kd_X0_lookAt, ⟨(Nat.le_of_ble_eq_true rfl), (Nat.le_of_ble_eq_true rfl)⟩, ⟨(Nat.le_of_ble_eq_true rfl), (Nat.le_of_ble_eq_true rfl)⟩, (Nat.le_of_ble_eq_true rfl)⟩ ki_X0_lookAt ks_X0_lookAt rfl (am_tab tk_X9_enough 16 rfl) rfl ?_
        rintro r S0 hlk
        rw [if_pos ((cM_dl hC.G.R).mp cm)] at hlk
        obtain ⟨rfl, hDA, hFb⟩ := hlk
        have hq0 : CQ σ S0 := CQ.base hFb
        have hcc := cM_cc hC.G.R cm
        have hGB := bgS_GD hC.G hcc
        refine am_st (st2 := [am_i 1]) rfl ?_
        refine am_if_ne (q := 36) (t := 38) (am_tab tk_X9_enough 17 rfl) (by decide) rfl (fun h33 => ?_) (fun h33 => ?_)
        · refine am_iload_n (q := 39) rfl (am_tab tk_X9_enough 20 rfl) rfl ?_
          refine am_istore_n (q := 40) (by decide) (ls2 := [(3, am_i (lvM σ)), (2, am_i (lvM σ)), (0, am_r 0), (1, am_i w)]) rfl (am_tab tk_X9_enough 21 rfl) rfl ?_
          refine am_iconst (q := 41) (n := 1) (by decide) (am_tab tk_X9_enough 22 rfl) rfl ?_
          refine am_istore (q := 43) (by decide) (ls2 := [(4, am_i 1), (3, am_i (lvM σ)), (2, am_i (lvM σ)), (0, am_r 0), (1, am_i w)]) rfl (am_tab tk_X9_enough 23 rfl) rfl ?_
          have L43 : ∀ (n43 : Nat) (m : Nat) (S : am_H), 256 - m < n43 → 1 ≤ m → (m : Int) ≤ lvM σ → CQ σ S → DWr 15 32 S (bgS σ) → MEM S (bgS σ) → am_wp M_X9_enough Q 0 0 43 [(4, am_i ((m : Int))), (3, am_i ((enF σ m))), (2, am_i (lvM σ)), (0, am_r 0), (1, am_i w)] [] S := by
            intro n43
            induction n43 with
            | zero => intro m S hn43; exact absurd hn43 (Nat.not_lt_zero _)
            | succ n43 ih43 =>
              intro m S hn43 hm1 hm2 hq hD hM
              refine am_iload (q := 45) rfl (am_tab tk_X9_enough 24 rfl) rfl ?_
              refine am_iload_n (q := 46) rfl (am_tab tk_X9_enough 25 rfl) rfl ?_
              refine am_icmp_ge (q := 49) (t := 105) (am_tab tk_X9_enough 26 rfl) (by decide) rfl (fun h46 => ?_) (fun h46 => ?_)
              · refine am_iload_n (q := 106) rfl (am_tab tk_X9_enough 55 rfl) rfl ?_
                refine am_if_ne (q := 109) (t := 116) (am_tab tk_X9_enough 56 rfl) (by decide) rfl (fun h106 => ?_) (fun h106 => ?_)
                · exact absurd h6 h106
                · refine am_iload_n (q := 110) rfl (am_tab tk_X9_enough 57 rfl) rfl ?_
                  refine am_callS0 (q := 113) (me2 := M_J6_bitCount_0f7a4) (As := [am_i ((enF σ m))]) (rest := []) (out := [am_i (bc (enF σ m))]) (c_bc S (enF σ m) (enF_rng hC.G.R m (by omega))) ⟨rfl, rfl⟩ ⟨Or.inl km_X9_133, kc_J6_bitCount_0f7a4, kn_J6, kd_J6_bitCount_0f7a4, ⟨(Nat.le_of_ble_eq_true rfl), (Nat.le_of_ble_eq_true rfl)⟩, ⟨(Nat.le_of_ble_eq_true rfl), (Nat.le_of_ble_eq_true rfl)⟩, (Nat.le_of_ble_eq_true rfl)⟩ ki_J6_bitCount_0f7a4 rfl rfl (am_tab tk_X9_enough 58 rfl) rfl ?_
                  refine am_goto (t := 117) (am_tab tk_X9_enough 59 rfl) (by decide) ?_
                  refine am_iret (Or.inl rfl) (Nat.le_of_ble_eq_true rfl) (Nat.le_of_ble_eq_true rfl) (am_tab tk_X9_enough 61 rfl) ?_
                  refine hQ _ _ ?_
                  refine ⟨congrArg (fun z => some (am_i z)) ?_, hq⟩
                  unfold enoM
                  rw [if_pos ⟨⟨cm, by omega⟩, by omega⟩, enF_last hC.G, show (lvM σ).toNat = m by omega]
                  first | rw [if_pos (by omega)] | rw [if_neg (by omega)]
              · refine am_iload (q := 51) rfl (am_tab tk_X9_enough 27 rfl) rfl ?_
                refine am_callS0 (q := 54) (me2 := M_J6_bitCount_0f7a4) (As := [am_i ((m : Int))]) (rest := []) (out := [am_i (bc (m : Int))]) (c_bc S (m : Int) (by omega)) ⟨rfl, rfl⟩ ⟨Or.inl km_X9_133, kc_J6_bitCount_0f7a4, kn_J6, kd_J6_bitCount_0f7a4, ⟨(Nat.le_of_ble_eq_true rfl), (Nat.le_of_ble_eq_true rfl)⟩, ⟨(Nat.le_of_ble_eq_true rfl), (Nat.le_of_ble_eq_true rfl)⟩, (Nat.le_of_ble_eq_true rfl)⟩ ki_J6_bitCount_0f7a4 rfl rfl (am_tab tk_X9_enough 28 rfl) rfl ?_
                refine am_iload_n (q := 55) rfl (am_tab tk_X9_enough 29 rfl) rfl ?_
                refine am_callS0 (q := 58) (me2 := M_J6_bitCount_0f7a4) (As := [am_i ((enF σ m))]) (rest := [am_i (bc (m : Int))]) (out := [am_i (bc (enF σ m)), am_i (bc (m : Int))]) (c_bc S (enF σ m) (enF_rng hC.G.R m (by omega))) ⟨rfl, rfl⟩ ⟨Or.inl km_X9_133, kc_J6_bitCount_0f7a4, kn_J6, kd_J6_bitCount_0f7a4, ⟨(Nat.le_of_ble_eq_true rfl), (Nat.le_of_ble_eq_true rfl)⟩, ⟨(Nat.le_of_ble_eq_true rfl), (Nat.le_of_ble_eq_true rfl)⟩, (Nat.le_of_ble_eq_true rfl)⟩ ki_J6_bitCount_0f7a4 rfl rfl (am_tab tk_X9_enough 30 rfl) rfl ?_
                refine am_icmp_ge (q := 61) (t := 65) (am_tab tk_X9_enough 31 rfl) (by decide) rfl (fun h58 => ?_) (fun h58 => ?_)
                · refine am_iconst (q := 66) (n := 0) (by decide) (am_tab tk_X9_enough 34 rfl) rfl ?_
                  refine am_istore (q := 68) (by decide) (ls2 := [(5, am_i 0), (4, am_i ((m : Int))), (3, am_i ((enF σ m))), (2, am_i (lvM σ)), (0, am_r 0), (1, am_i w)]) rfl (am_tab tk_X9_enough 35 rfl) rfl ?_
                  refine am_iload (q := 70) rfl (am_tab tk_X9_enough 36 rfl) rfl ?_
                  refine am_if_eq (q := 73) (t := 99) (am_tab tk_X9_enough 37 rfl) (by decide) rfl (fun h70 => ?_) (fun h70 => ?_)
                  · refine am_iinc (q := 102) rfl (by omega) (by decide) (ls2 := [(4, am_i (((m : Int) + 1))), (5, am_i 0), (3, am_i ((enF σ m))), (2, am_i (lvM σ)), (0, am_r 0), (1, am_i w)]) rfl (am_tab tk_X9_enough 53 rfl) rfl ?_
                    refine am_goto (t := 43) (am_tab tk_X9_enough 54 rfl) (by decide) ?_
                    have he : enF σ (m + 1) = (enF σ m) := by
                      show (if _ then _ else _) = _
                      rw [if_neg (by omega)]
                    exact am_less (by intro q hq; simp only [List.mem_cons, List.not_mem_nil, or_false] at hq; rcases hq with rfl | rfl | rfl | rfl | rfl <;> simp [he]) (ih43 (m + 1) S (by omega) (by omega) (by omega) hq hD hM)
                  · exact absurd h70 (by decide)
                · refine am_iconst (q := 62) (n := 1) (by decide) (am_tab tk_X9_enough 32 rfl) rfl ?_
                  refine am_goto (t := 66) (am_tab tk_X9_enough 33 rfl) (by decide) ?_
                  refine am_istore (q := 68) (by decide) (ls2 := [(5, am_i 1), (4, am_i ((m : Int))), (3, am_i ((enF σ m))), (2, am_i (lvM σ)), (0, am_r 0), (1, am_i w)]) rfl (am_tab tk_X9_enough 35 rfl) rfl ?_
                  refine am_iload (q := 70) rfl (am_tab tk_X9_enough 36 rfl) rfl ?_
                  refine am_if_eq (q := 73) (t := 99) (am_tab tk_X9_enough 37 rfl) (by decide) rfl (fun h70 => ?_) (fun h70 => ?_)
                  · exact absurd h70 (by decide)
                  · refine am_iload (q := 75) rfl (am_tab tk_X9_enough 38 rfl) rfl ?_
                    refine am_iload_n (q := 76) rfl (am_tab tk_X9_enough 39 rfl) rfl ?_
                    refine am_iconst (q := 77) (n := (-1)) (by decide) (am_tab tk_X9_enough 40 rfl) rfl ?_
                    refine am_ixor (q := 78) (am_tab tk_X9_enough 41 rfl) rfl ?_
                    refine am_iand (q := 79) (am_tab tk_X9_enough 42 rfl) rfl ?_
                    refine am_if_ne (q := 82) (t := 99) (am_tab tk_X9_enough 43 rfl) (by decide) rfl (fun h79 => ?_) (fun h79 => ?_)
                    · refine am_iinc (q := 102) rfl (by omega) (by decide) (ls2 := [(4, am_i (((m : Int) + 1))), (5, am_i 1), (3, am_i ((enF σ m))), (2, am_i (lvM σ)), (0, am_r 0), (1, am_i w)]) rfl (am_tab tk_X9_enough 53 rfl) rfl ?_
                      refine am_goto (t := 43) (am_tab tk_X9_enough 54 rfl) (by decide) ?_
                      have he : enF σ (m + 1) = (enF σ m) := by
                        show (if _ then _ else _) = _
                        rw [if_neg (by omega)]
                      exact am_less (by intro q hq; simp only [List.mem_cons, List.not_mem_nil, or_false] at hq; rcases hq with rfl | rfl | rfl | rfl | rfl <;> simp [he]) (ih43 (m + 1) S (by omega) (by omega) (by omega) hq hD hM)
                    · refine am_aload_n (q := 83) rfl (am_tab tk_X9_enough 44 rfl) rfl ?_
                      refine am_getR (q := 86) (a := 0) (k := 9) (n := 17) (j := 7) (r := some (44)) (Ls_0 (hq.L hC.G.L)) (by decide) rfl (Lr_0_7 (hq.L hC.G.L)) (by decide) (Or.inl kf_X9_57) (am_tab tk_X9_enough 45 rfl) rfl ?_
                      refine am_iload (q := 88) rfl (am_tab tk_X9_enough 46 rfl) rfl ?_
                      refine am_iload_n (q := 89) rfl (am_tab tk_X9_enough 47 rfl) rfl ?_
                      refine am_callVr (q := 92) (me2 := M_X0_spread) (b := 44) (kb := 0) (nb := 14) (As := [am_i ((m : Int)), am_i (lvM σ)]) (rest := []) (c_spread_15_32 S (bgS σ) (hq.L hC.G.L) hGB hD (m : Int) (lvM σ) 0 (by omega) hlv (fun p hp => by rw [lv_tb hC.G (show p < 8 by have h5 : p < pN σ := hp; have := hC.G.R.P; unfold pN at h5; omega), show (bgS σ).2.1 96 (12 + p) = σ.2.1 96 (12 + p) from bgN_far (by omega), tb0]; have h5 : p < pN σ := hp; by_cases h6 : σ.2.1 96 (12 + p) = 1 <;> simp [h5, h6]) hM) ⟨rfl, rfl⟩ (Ls_44 (hq.L hC.G.L)) (by decide) ⟨Or.inr km_X9_266, kc_X0_spread, kn_X0, kd_X0_spread, ⟨(Nat.le_of_ble_eq_true rfl), (Nat.le_of_ble_eq_true rfl)⟩, ⟨(Nat.le_of_ble_eq_true rfl), (Nat.le_of_ble_eq_true rfl)⟩, (Nat.le_of_ble_eq_true rfl)⟩ ki_X0_spread ks_X0_spread rfl (am_tab tk_X9_enough 48 rfl) rfl ?_
                      rintro r T ⟨hr9, hMT, hFT⟩
                      have hr8 : r = some (am_i (rmE (bgS σ) (tsD σ) (m : Int) 0)) := hr9
                      subst hr8
                      have hqT : CQ σ T := hq.trans (hFT.cq (by unfold W_dw W_cq; omega))
                      have hDT := hD.fr hFT (by decide) (by decide)
                      refine am_st (st2 := [am_i (rmE (bgS σ) (tsD σ) (m : Int) 0)]) rfl ?_
                      refine am_iload_n (q := 93) rfl (am_tab tk_X9_enough 49 rfl) rfl ?_
                      refine am_icmp_ne (q := 96) (t := 99) (am_tab tk_X9_enough 50 rfl) (by decide) rfl (fun h93 => ?_) (fun h93 => ?_)
                      · refine am_iinc (q := 102) rfl (by omega) (by decide) (ls2 := [(4, am_i (((m : Int) + 1))), (5, am_i 1), (3, am_i ((enF σ m))), (2, am_i (lvM σ)), (0, am_r 0), (1, am_i w)]) rfl (am_tab tk_X9_enough 53 rfl) rfl ?_
                        refine am_goto (t := 43) (am_tab tk_X9_enough 54 rfl) (by decide) ?_
                        have he : enF σ (m + 1) = (enF σ m) := by
                          show (if _ then _ else _) = _
                          rw [if_neg (by omega)]
                        exact am_less (by intro q hq; simp only [List.mem_cons, List.not_mem_nil, or_false] at hq; rcases hq with rfl | rfl | rfl | rfl | rfl <;> simp [he]) (ih43 (m + 1) T (by omega) (by omega) (by omega) hqT hDT hMT)
                      · refine am_iload (q := 98) rfl (am_tab tk_X9_enough 51 rfl) rfl ?_
                        refine am_istore_n (q := 99) (by decide) (ls2 := [(3, am_i ((m : Int))), (5, am_i 1), (4, am_i ((m : Int))), (2, am_i (lvM σ)), (0, am_r 0), (1, am_i w)]) rfl (am_tab tk_X9_enough 52 rfl) rfl ?_
                        refine am_iinc (q := 102) rfl (by omega) (by decide) (ls2 := [(4, am_i (((m : Int) + 1))), (3, am_i ((m : Int))), (5, am_i 1), (2, am_i (lvM σ)), (0, am_r 0), (1, am_i w)]) rfl (am_tab tk_X9_enough 53 rfl) rfl ?_
                        refine am_goto (t := 43) (am_tab tk_X9_enough 54 rfl) (by decide) ?_
                        have he : enF σ (m + 1) = (m : Int) := by
                          show (if _ then _ else _) = _
                          rw [if_pos ⟨by omega, by omega, by omega⟩]
                        exact am_less (by intro q hq; simp only [List.mem_cons, List.not_mem_nil, or_false] at hq; rcases hq with rfl | rfl | rfl | rfl | rfl <;> simp [he]) (ih43 (m + 1) T (by omega) (by omega) (by omega) hqT hDT hMT)
          have he0 := enF_1 hC.G (show ¬ lvM σ = 0 by omega)
          refine am_less (by intro q hq; simp only [List.mem_cons, List.not_mem_nil, or_false] at hq; rcases hq with rfl | rfl | rfl | rfl | rfl <;> simp [he0]) (L43 (_ + 1) 1 S0 (by exact Nat.lt_succ_self _) (Nat.le_refl 1) (by omega) hq0 hDA.1 hDA.2.1)
        · exact absurd h33 (by decide)
    · refine am_iload_n (q := 10) rfl (am_tab tk_X9_enough 5 rfl) rfl ?_
      refine am_iconst (q := 11) (n := 1) (by decide) (am_tab tk_X9_enough 6 rfl) rfl ?_
      refine am_icmp_ne (q := 14) (t := 36) (am_tab tk_X9_enough 7 rfl) (by decide) rfl (fun h11 => ?_) (fun h11 => ?_)
      · refine am_iconst (q := 37) (n := (-1)) (by decide) (am_tab tk_X9_enough 18 rfl) rfl ?_
        refine am_iret (Or.inl rfl) (Nat.le_of_ble_eq_true rfl) (Nat.le_of_ble_eq_true rfl) (am_tab tk_X9_enough 19 rfl) ?_
        refine hQ _ _ ?_
        refine ⟨congrArg (fun z => some (am_i z)) ?_, CQ.refl σ⟩
        unfold enoM
        rw [if_neg (fun h => by have := h.1.2; have := h.2; omega)]
      · refine am_iload_n (q := 15) rfl (am_tab tk_X9_enough 8 rfl) rfl ?_
        refine am_if_eq (q := 18) (t := 36) (am_tab tk_X9_enough 9 rfl) (by decide) rfl (fun h15 => ?_) (fun h15 => ?_)
        · refine am_iconst (q := 37) (n := (-1)) (by decide) (am_tab tk_X9_enough 18 rfl) rfl ?_
          refine am_iret (Or.inl rfl) (Nat.le_of_ble_eq_true rfl) (Nat.le_of_ble_eq_true rfl) (am_tab tk_X9_enough 19 rfl) ?_
          refine hQ _ _ ?_
          refine ⟨congrArg (fun z => some (am_i z)) ?_, CQ.refl σ⟩
          unfold enoM
          rw [if_neg (fun h => by have := h.1.2; have := h.2; omega)]
        · refine am_aload_n (q := 19) rfl (am_tab tk_X9_enough 10 rfl) rfl ?_
          refine am_getR (q := 22) (a := 0) (k := 9) (n := 17) (j := 7) (r := some (44)) (Ls_0 hL) (by decide) rfl (Lr_0_7 hL) (by decide) (Or.inl kf_X9_57) (am_tab tk_X9_enough 11 rfl) rfl ?_
          refine am_aload_n (q := 23) rfl (am_tab tk_X9_enough 12 rfl) rfl ?_
          refine am_getR (q := 26) (a := 0) (k := 9) (n := 17) (j := 2) (r := some (15)) (Ls_0 hL) (by decide) rfl hC.t (by decide) (Or.inl kf_X9_19) (am_tab tk_X9_enough 13 rfl) rfl ?_
          refine am_aload_n (q := 27) rfl (am_tab tk_X9_enough 14 rfl) rfl ?_
          refine am_getR (q := 30) (a := 0) (k := 9) (n := 17) (j := 4) (r := some (32)) (Ls_0 hL) (by decide) rfl (Lr_0_4 hL) (by decide) (Or.inl kf_X9_38) (am_tab tk_X9_enough 15 rfl) rfl ?_
          refine am_callVr (q := 33) (me2 := M_X0_lookAt) (b := 44) (kb := 0) (nb := 14) (As := [am_r 15, am_r 32]) (rest := []) (c_lookAt_15_32 σ σ hL hC.G hC.W hC.F) ⟨rfl, rfl⟩ (Ls_44 hL) (by decide) ⟨Or.inr km_X9_247, kc_X0_lookAt, kn_X0, kd_X0_lookAt, ⟨(Nat.le_of_ble_eq_true rfl), (Nat.le_of_ble_eq_true rfl)⟩, ⟨(Nat.le_of_ble_eq_true rfl), (Nat.le_of_ble_eq_true rfl)⟩, (Nat.le_of_ble_eq_true rfl)⟩ ki_X0_lookAt ks_X0_lookAt rfl (am_tab tk_X9_enough 16 rfl) rfl ?_
          rintro r S0 hlk
          rw [if_pos ((cM_dl hC.G.R).mp cm)] at hlk
          obtain ⟨rfl, hDA, hFb⟩ := hlk
          have hq0 : CQ σ S0 := CQ.base hFb
          have hcc := cM_cc hC.G.R cm
          have hGB := bgS_GD hC.G hcc
          refine am_st (st2 := [am_i 1]) rfl ?_
          refine am_if_ne (q := 36) (t := 38) (am_tab tk_X9_enough 17 rfl) (by decide) rfl (fun h33 => ?_) (fun h33 => ?_)
          · refine am_iload_n (q := 39) rfl (am_tab tk_X9_enough 20 rfl) rfl ?_
            refine am_istore_n (q := 40) (by decide) (ls2 := [(3, am_i (lvM σ)), (2, am_i (lvM σ)), (0, am_r 0), (1, am_i w)]) rfl (am_tab tk_X9_enough 21 rfl) rfl ?_
            refine am_iconst (q := 41) (n := 1) (by decide) (am_tab tk_X9_enough 22 rfl) rfl ?_
            refine am_istore (q := 43) (by decide) (ls2 := [(4, am_i 1), (3, am_i (lvM σ)), (2, am_i (lvM σ)), (0, am_r 0), (1, am_i w)]) rfl (am_tab tk_X9_enough 23 rfl) rfl ?_
            have L43 : ∀ (n43 : Nat) (m : Nat) (S : am_H), 256 - m < n43 → 1 ≤ m → (m : Int) ≤ lvM σ → CQ σ S → DWr 15 32 S (bgS σ) → MEM S (bgS σ) → am_wp M_X9_enough Q 0 0 43 [(4, am_i ((m : Int))), (3, am_i ((enF σ m))), (2, am_i (lvM σ)), (0, am_r 0), (1, am_i w)] [] S := by
              intro n43
              induction n43 with
              | zero => intro m S hn43; exact absurd hn43 (Nat.not_lt_zero _)
              | succ n43 ih43 =>
                intro m S hn43 hm1 hm2 hq hD hM
                refine am_iload (q := 45) rfl (am_tab tk_X9_enough 24 rfl) rfl ?_
                refine am_iload_n (q := 46) rfl (am_tab tk_X9_enough 25 rfl) rfl ?_
                refine am_icmp_ge (q := 49) (t := 105) (am_tab tk_X9_enough 26 rfl) (by decide) rfl (fun h46 => ?_) (fun h46 => ?_)
                · refine am_iload_n (q := 106) rfl (am_tab tk_X9_enough 55 rfl) rfl ?_
                  refine am_if_ne (q := 109) (t := 116) (am_tab tk_X9_enough 56 rfl) (by decide) rfl (fun h106 => ?_) (fun h106 => ?_)
                  · refine am_iload_n (q := 117) rfl (am_tab tk_X9_enough 60 rfl) rfl ?_
                    refine am_iret (Or.inl rfl) (Nat.le_of_ble_eq_true rfl) (Nat.le_of_ble_eq_true rfl) (am_tab tk_X9_enough 61 rfl) ?_
                    refine hQ _ _ ?_
                    refine ⟨congrArg (fun z => some (am_i z)) ?_, hq⟩
                    unfold enoM
                    rw [if_pos ⟨⟨cm, by omega⟩, by omega⟩, enF_last hC.G, show (lvM σ).toNat = m by omega]
                    first | rw [if_pos (by omega)] | rw [if_neg (by omega)]
                  · exact absurd h106 h6
                · refine am_iload (q := 51) rfl (am_tab tk_X9_enough 27 rfl) rfl ?_
                  refine am_callS0 (q := 54) (me2 := M_J6_bitCount_0f7a4) (As := [am_i ((m : Int))]) (rest := []) (out := [am_i (bc (m : Int))]) (c_bc S (m : Int) (by omega)) ⟨rfl, rfl⟩ ⟨Or.inl km_X9_133, kc_J6_bitCount_0f7a4, kn_J6, kd_J6_bitCount_0f7a4, ⟨(Nat.le_of_ble_eq_true rfl), (Nat.le_of_ble_eq_true rfl)⟩, ⟨(Nat.le_of_ble_eq_true rfl), (Nat.le_of_ble_eq_true rfl)⟩, (Nat.le_of_ble_eq_true rfl)⟩ ki_J6_bitCount_0f7a4 rfl rfl (am_tab tk_X9_enough 28 rfl) rfl ?_
                  refine am_iload_n (q := 55) rfl (am_tab tk_X9_enough 29 rfl) rfl ?_
                  refine am_callS0 (q := 58) (me2 := M_J6_bitCount_0f7a4) (As := [am_i ((enF σ m))]) (rest := [am_i (bc (m : Int))]) (out := [am_i (bc (enF σ m)), am_i (bc (m : Int))]) (c_bc S (enF σ m) (enF_rng hC.G.R m (by omega))) ⟨rfl, rfl⟩ ⟨Or.inl km_X9_133, kc_J6_bitCount_0f7a4, kn_J6, kd_J6_bitCount_0f7a4, ⟨(Nat.le_of_ble_eq_true rfl), (Nat.le_of_ble_eq_true rfl)⟩, ⟨(Nat.le_of_ble_eq_true rfl), (Nat.le_of_ble_eq_true rfl)⟩, (Nat.le_of_ble_eq_true rfl)⟩ ki_J6_bitCount_0f7a4 rfl rfl (am_tab tk_X9_enough 30 rfl) rfl ?_
                  refine am_icmp_ge (q := 61) (t := 65) (am_tab tk_X9_enough 31 rfl) (by decide) rfl (fun h58 => ?_) (fun h58 => ?_)
                  · refine am_iconst (q := 66) (n := 0) (by decide) (am_tab tk_X9_enough 34 rfl) rfl ?_
                    refine am_istore (q := 68) (by decide) (ls2 := [(5, am_i 0), (4, am_i ((m : Int))), (3, am_i ((enF σ m))), (2, am_i (lvM σ)), (0, am_r 0), (1, am_i w)]) rfl (am_tab tk_X9_enough 35 rfl) rfl ?_
                    refine am_iload (q := 70) rfl (am_tab tk_X9_enough 36 rfl) rfl ?_
                    refine am_if_eq (q := 73) (t := 99) (am_tab tk_X9_enough 37 rfl) (by decide) rfl (fun h70 => ?_) (fun h70 => ?_)
                    · refine am_iinc (q := 102) rfl (by omega) (by decide) (ls2 := [(4, am_i (((m : Int) + 1))), (5, am_i 0), (3, am_i ((enF σ m))), (2, am_i (lvM σ)), (0, am_r 0), (1, am_i w)]) rfl (am_tab tk_X9_enough 53 rfl) rfl ?_
                      refine am_goto (t := 43) (am_tab tk_X9_enough 54 rfl) (by decide) ?_
                      have he : enF σ (m + 1) = (enF σ m) := by
                        show (if _ then _ else _) = _
                        rw [if_neg (by omega)]
                      exact am_less (by intro q hq; simp only [List.mem_cons, List.not_mem_nil, or_false] at hq; rcases hq with rfl | rfl | rfl | rfl | rfl <;> simp [he]) (ih43 (m + 1) S (by omega) (by omega) (by omega) hq hD hM)
                    · exact absurd h70 (by decide)
                  · refine am_iconst (q := 62) (n := 1) (by decide) (am_tab tk_X9_enough 32 rfl) rfl ?_
                    refine am_goto (t := 66) (am_tab tk_X9_enough 33 rfl) (by decide) ?_
                    refine am_istore (q := 68) (by decide) (ls2 := [(5, am_i 1), (4, am_i ((m : Int))), (3, am_i ((enF σ m))), (2, am_i (lvM σ)), (0, am_r 0), (1, am_i w)]) rfl (am_tab tk_X9_enough 35 rfl) rfl ?_
                    refine am_iload (q := 70) rfl (am_tab tk_X9_enough 36 rfl) rfl ?_
                    refine am_if_eq (q := 73) (t := 99) (am_tab tk_X9_enough 37 rfl) (by decide) rfl (fun h70 => ?_) (fun h70 => ?_)
                    · exact absurd h70 (by decide)
                    · refine am_iload (q := 75) rfl (am_tab tk_X9_enough 38 rfl) rfl ?_
                      refine am_iload_n (q := 76) rfl (am_tab tk_X9_enough 39 rfl) rfl ?_
                      refine am_iconst (q := 77) (n := (-1)) (by decide) (am_tab tk_X9_enough 40 rfl) rfl ?_
                      refine am_ixor (q := 78) (am_tab tk_X9_enough 41 rfl) rfl ?_
                      refine am_iand (q := 79) (am_tab tk_X9_enough 42 rfl) rfl ?_
                      refine am_if_ne (q := 82) (t := 99) (am_tab tk_X9_enough 43 rfl) (by decide) rfl (fun h79 => ?_) (fun h79 => ?_)
                      · refine am_iinc (q := 102) rfl (by omega) (by decide) (ls2 := [(4, am_i (((m : Int) + 1))), (5, am_i 1), (3, am_i ((enF σ m))), (2, am_i (lvM σ)), (0, am_r 0), (1, am_i w)]) rfl (am_tab tk_X9_enough 53 rfl) rfl ?_
                        refine am_goto (t := 43) (am_tab tk_X9_enough 54 rfl) (by decide) ?_
                        have he : enF σ (m + 1) = (enF σ m) := by
                          show (if _ then _ else _) = _
                          rw [if_neg (by omega)]
                        exact am_less (by intro q hq; simp only [List.mem_cons, List.not_mem_nil, or_false] at hq; rcases hq with rfl | rfl | rfl | rfl | rfl <;> simp [he]) (ih43 (m + 1) S (by omega) (by omega) (by omega) hq hD hM)
                      · refine am_aload_n (q := 83) rfl (am_tab tk_X9_enough 44 rfl) rfl ?_
                        refine am_getR (q := 86) (a := 0) (k := 9) (n := 17) (j := 7) (r := some (44)) (Ls_0 (hq.L hC.G.L)) (by decide) rfl (Lr_0_7 (hq.L hC.G.L)) (by decide) (Or.inl kf_X9_57) (am_tab tk_X9_enough 45 rfl) rfl ?_
                        refine am_iload (q := 88) rfl (am_tab tk_X9_enough 46 rfl) rfl ?_
                        refine am_iload_n (q := 89) rfl (am_tab tk_X9_enough 47 rfl) rfl ?_
                        refine am_callVr (q := 92) (me2 := M_X0_spread) (b := 44) (kb := 0) (nb := 14) (As := [am_i ((m : Int)), am_i (lvM σ)]) (rest := []) (c_spread_15_32 S (bgS σ) (hq.L hC.G.L) hGB hD (m : Int) (lvM σ) 0 (by omega) hlv (fun p hp => by rw [lv_tb hC.G (show p < 8 by have h5 : p < pN σ := hp; have := hC.G.R.P; unfold pN at h5; omega), show (bgS σ).2.1 96 (12 + p) = σ.2.1 96 (12 + p) from bgN_far (by omega), tb0]; have h5 : p < pN σ := hp; by_cases h6 : σ.2.1 96 (12 + p) = 1 <;> simp [h5, h6]) hM) ⟨rfl, rfl⟩ (Ls_44 (hq.L hC.G.L)) (by decide) ⟨Or.inr km_X9_266, kc_X0_spread, kn_X0, kd_X0_spread, ⟨(Nat.le_of_ble_eq_true rfl), (Nat.le_of_ble_eq_true rfl)⟩, ⟨(Nat.le_of_ble_eq_true rfl), (Nat.le_of_ble_eq_true rfl)⟩, (Nat.le_of_ble_eq_true rfl)⟩ ki_X0_spread ks_X0_spread rfl (am_tab tk_X9_enough 48 rfl) rfl ?_
                        rintro r T ⟨hr9, hMT, hFT⟩
                        have hr8 : r = some (am_i (rmE (bgS σ) (tsD σ) (m : Int) 0)) := hr9
                        subst hr8
                        have hqT : CQ σ T := hq.trans (hFT.cq (by unfold W_dw W_cq; omega))
                        have hDT := hD.fr hFT (by decide) (by decide)
                        refine am_st (st2 := [am_i (rmE (bgS σ) (tsD σ) (m : Int) 0)]) rfl ?_
                        refine am_iload_n (q := 93) rfl (am_tab tk_X9_enough 49 rfl) rfl ?_
                        refine am_icmp_ne (q := 96) (t := 99) (am_tab tk_X9_enough 50 rfl) (by decide) rfl (fun h93 => ?_) (fun h93 => ?_)
                        · refine am_iinc (q := 102) rfl (by omega) (by decide) (ls2 := [(4, am_i (((m : Int) + 1))), (5, am_i 1), (3, am_i ((enF σ m))), (2, am_i (lvM σ)), (0, am_r 0), (1, am_i w)]) rfl (am_tab tk_X9_enough 53 rfl) rfl ?_
                          refine am_goto (t := 43) (am_tab tk_X9_enough 54 rfl) (by decide) ?_
                          have he : enF σ (m + 1) = (enF σ m) := by
                            show (if _ then _ else _) = _
                            rw [if_neg (by omega)]
                          exact am_less (by intro q hq; simp only [List.mem_cons, List.not_mem_nil, or_false] at hq; rcases hq with rfl | rfl | rfl | rfl | rfl <;> simp [he]) (ih43 (m + 1) T (by omega) (by omega) (by omega) hqT hDT hMT)
                        · refine am_iload (q := 98) rfl (am_tab tk_X9_enough 51 rfl) rfl ?_
                          refine am_istore_n (q := 99) (by decide) (ls2 := [(3, am_i ((m : Int))), (5, am_i 1), (4, am_i ((m : Int))), (2, am_i (lvM σ)), (0, am_r 0), (1, am_i w)]) rfl (am_tab tk_X9_enough 52 rfl) rfl ?_
                          refine am_iinc (q := 102) rfl (by omega) (by decide) (ls2 := [(4, am_i (((m : Int) + 1))), (3, am_i ((m : Int))), (5, am_i 1), (2, am_i (lvM σ)), (0, am_r 0), (1, am_i w)]) rfl (am_tab tk_X9_enough 53 rfl) rfl ?_
                          refine am_goto (t := 43) (am_tab tk_X9_enough 54 rfl) (by decide) ?_
                          have he : enF σ (m + 1) = (m : Int) := by
                            show (if _ then _ else _) = _
                            rw [if_pos ⟨by omega, by omega, by omega⟩]
                          exact am_less (by intro q hq; simp only [List.mem_cons, List.not_mem_nil, or_false] at hq; rcases hq with rfl | rfl | rfl | rfl | rfl <;> simp [he]) (ih43 (m + 1) T (by omega) (by omega) (by omega) hqT hDT hMT)
            have he0 := enF_1 hC.G (show ¬ lvM σ = 0 by omega)
            refine am_less (by intro q hq; simp only [List.mem_cons, List.not_mem_nil, or_false] at hq; rcases hq with rfl | rfl | rfl | rfl | rfl <;> simp [he0]) (L43 (_ + 1) 1 S0 (by exact Nat.lt_succ_self _) (Nat.le_refl 1) (by omega) hq0 hDA.1 hDA.2.1)
          · exact absurd h33 (by decide)
  · refine am_aload_n (q := 1) rfl (am_tab tk_X9_enough 0 rfl) rfl ?_
    refine am_callVr (q := 4) (me2 := M_X9_living) (b := 0) (kb := 9) (nb := 17) (As := []) (rest := []) (c_living_15 σ hC) ⟨rfl, rfl⟩ (Ls_0 hL) (by decide) ⟨Or.inl km_X9_129, kc_X9_living, kn_X9, kd_X9_living, ⟨(Nat.le_of_ble_eq_true rfl), (Nat.le_of_ble_eq_true rfl)⟩, ⟨(Nat.le_of_ble_eq_true rfl), (Nat.le_of_ble_eq_true rfl)⟩, (Nat.le_of_ble_eq_true rfl)⟩ ki_X9_living ks_X9_living rfl (am_tab tk_X9_enough 1 rfl) rfl ?_
    rintro r τ ⟨hr9, hτ⟩
    rw [liv_eq hC.G hC.F] at hr9
    rw [hr9, hτ]
    refine am_st (st2 := [am_i (lvM σ)]) rfl ?_
    refine am_istore_n (q := 5) (by decide) (ls2 := [(2, am_i (lvM σ)), (0, am_r 0), (1, am_i w)]) rfl (am_tab tk_X9_enough 2 rfl) rfl ?_
    refine am_iload_n (q := 6) rfl (am_tab tk_X9_enough 3 rfl) rfl ?_
    refine am_if_eq (q := 9) (t := 14) (am_tab tk_X9_enough 4 rfl) (by decide) rfl (fun h6 => ?_) (fun h6 => ?_)
    · refine am_iload_n (q := 15) rfl (am_tab tk_X9_enough 8 rfl) rfl ?_
      refine am_if_eq (q := 18) (t := 36) (am_tab tk_X9_enough 9 rfl) (by decide) rfl (fun h15 => ?_) (fun h15 => ?_)
      · refine am_iconst (q := 37) (n := (-1)) (by decide) (am_tab tk_X9_enough 18 rfl) rfl ?_
        refine am_iret (Or.inl rfl) (Nat.le_of_ble_eq_true rfl) (Nat.le_of_ble_eq_true rfl) (am_tab tk_X9_enough 19 rfl) ?_
        refine hQ _ _ ?_
        refine ⟨congrArg (fun z => some (am_i z)) ?_, CQ.refl σ⟩
        unfold enoM
        rw [if_neg (fun h => by have := h.1.2; have := h.2; omega)]
      · refine am_aload_n (q := 19) rfl (am_tab tk_X9_enough 10 rfl) rfl ?_
        refine am_getR (q := 22) (a := 0) (k := 9) (n := 17) (j := 7) (r := some (44)) (Ls_0 hL) (by decide) rfl (Lr_0_7 hL) (by decide) (Or.inl kf_X9_57) (am_tab tk_X9_enough 11 rfl) rfl ?_
        refine am_aload_n (q := 23) rfl (am_tab tk_X9_enough 12 rfl) rfl ?_
        refine am_getR (q := 26) (a := 0) (k := 9) (n := 17) (j := 2) (r := some (15)) (Ls_0 hL) (by decide) rfl hC.t (by decide) (Or.inl kf_X9_19) (am_tab tk_X9_enough 13 rfl) rfl ?_
        refine am_aload_n (q := 27) rfl (am_tab tk_X9_enough 14 rfl) rfl ?_
        refine am_getR (q := 30) (a := 0) (k := 9) (n := 17) (j := 4) (r := some (32)) (Ls_0 hL) (by decide) rfl (Lr_0_4 hL) (by decide) (Or.inl kf_X9_38) (am_tab tk_X9_enough 15 rfl) rfl ?_
        refine am_callVr (q := 33) (me2 := M_X0_lookAt) (b := 44) (kb := 0) (nb := 14) (As := [am_r 15, am_r 32]) (rest := []) (c_lookAt_15_32 σ σ hL hC.G hC.W hC.F) ⟨rfl, rfl⟩ (Ls_44 hL) (by decide) ⟨Or.inr km_X9_247, kc_X0_lookAt, kn_X0, kd_X0_lookAt, ⟨(Nat.le_of_ble_eq_true rfl), (Nat.le_of_ble_eq_true rfl)⟩, ⟨(Nat.le_of_ble_eq_true rfl), (Nat.le_of_ble_eq_true rfl)⟩, (Nat.le_of_ble_eq_true rfl)⟩ ki_X0_lookAt ks_X0_lookAt rfl (am_tab tk_X9_enough 16 rfl) rfl ?_
        rintro r S0 hlk
        rw [if_neg (fun h => cm ((cM_dl hC.G.R).mpr h))] at hlk
        obtain ⟨rfl, hSS⟩ := hlk
        rw [hSS]
        refine am_st (st2 := [am_i 0]) rfl ?_
        refine am_if_ne (q := 36) (t := 38) (am_tab tk_X9_enough 17 rfl) (by decide) rfl (fun h33 => ?_) (fun h33 => ?_)
        · exact absurd h33 (by decide)
        · refine am_iconst (q := 37) (n := (-1)) (by decide) (am_tab tk_X9_enough 18 rfl) rfl ?_
          refine am_iret (Or.inl rfl) (Nat.le_of_ble_eq_true rfl) (Nat.le_of_ble_eq_true rfl) (am_tab tk_X9_enough 19 rfl) ?_
          refine hQ _ _ ?_
          refine ⟨congrArg (fun z => some (am_i z)) ?_, (((frw.refl W_cq σ).setN (a := 44) (j := 7) (x := 0) (by unfold W_cq; omega)).cq (fun _ _ h => h))⟩
          unfold enoM
          rw [if_neg (fun h => cm h.1.1)]
    · refine am_iload_n (q := 10) rfl (am_tab tk_X9_enough 5 rfl) rfl ?_
      refine am_iconst (q := 11) (n := 1) (by decide) (am_tab tk_X9_enough 6 rfl) rfl ?_
      refine am_icmp_ne (q := 14) (t := 36) (am_tab tk_X9_enough 7 rfl) (by decide) rfl (fun h11 => ?_) (fun h11 => ?_)
      · refine am_iconst (q := 37) (n := (-1)) (by decide) (am_tab tk_X9_enough 18 rfl) rfl ?_
        refine am_iret (Or.inl rfl) (Nat.le_of_ble_eq_true rfl) (Nat.le_of_ble_eq_true rfl) (am_tab tk_X9_enough 19 rfl) ?_
        refine hQ _ _ ?_
        refine ⟨congrArg (fun z => some (am_i z)) ?_, CQ.refl σ⟩
        unfold enoM
        rw [if_neg (fun h => by have := h.1.2; have := h.2; omega)]
      · refine am_iload_n (q := 15) rfl (am_tab tk_X9_enough 8 rfl) rfl ?_
        refine am_if_eq (q := 18) (t := 36) (am_tab tk_X9_enough 9 rfl) (by decide) rfl (fun h15 => ?_) (fun h15 => ?_)
        · refine am_iconst (q := 37) (n := (-1)) (by decide) (am_tab tk_X9_enough 18 rfl) rfl ?_
          refine am_iret (Or.inl rfl) (Nat.le_of_ble_eq_true rfl) (Nat.le_of_ble_eq_true rfl) (am_tab tk_X9_enough 19 rfl) ?_
          refine hQ _ _ ?_
          refine ⟨congrArg (fun z => some (am_i z)) ?_, CQ.refl σ⟩
          unfold enoM
          rw [if_neg (fun h => by have := h.1.2; have := h.2; omega)]
        · refine am_aload_n (q := 19) rfl (am_tab tk_X9_enough 10 rfl) rfl ?_
          refine am_getR (q := 22) (a := 0) (k := 9) (n := 17) (j := 7) (r := some (44)) (Ls_0 hL) (by decide) rfl (Lr_0_7 hL) (by decide) (Or.inl kf_X9_57) (am_tab tk_X9_enough 11 rfl) rfl ?_
          refine am_aload_n (q := 23) rfl (am_tab tk_X9_enough 12 rfl) rfl ?_
          refine am_getR (q := 26) (a := 0) (k := 9) (n := 17) (j := 2) (r := some (15)) (Ls_0 hL) (by decide) rfl hC.t (by decide) (Or.inl kf_X9_19) (am_tab tk_X9_enough 13 rfl) rfl ?_
          refine am_aload_n (q := 27) rfl (am_tab tk_X9_enough 14 rfl) rfl ?_
          refine am_getR (q := 30) (a := 0) (k := 9) (n := 17) (j := 4) (r := some (32)) (Ls_0 hL) (by decide) rfl (Lr_0_4 hL) (by decide) (Or.inl kf_X9_38) (am_tab tk_X9_enough 15 rfl) rfl ?_
          refine am_callVr (q := 33) (me2 := M_X0_lookAt) (b := 44) (kb := 0) (nb := 14) (As := [am_r 15, am_r 32]) (rest := []) (c_lookAt_15_32 σ σ hL hC.G hC.W hC.F) ⟨rfl, rfl⟩ (Ls_44 hL) (by decide) ⟨Or.inr km_X9_247, kc_X0_lookAt, kn_X0, kd_X0_lookAt, ⟨(Nat.le_of_ble_eq_true rfl), (Nat.le_of_ble_eq_true rfl)⟩, ⟨(Nat.le_of_ble_eq_true rfl), (Nat.le_of_ble_eq_true rfl)⟩, (Nat.le_of_ble_eq_true rfl)⟩ ki_X0_lookAt ks_X0_lookAt rfl (am_tab tk_X9_enough 16 rfl) rfl ?_
          rintro r S0 hlk
          rw [if_neg (fun h => cm ((cM_dl hC.G.R).mpr h))] at hlk
          obtain ⟨rfl, hSS⟩ := hlk
          rw [hSS]
          refine am_st (st2 := [am_i 0]) rfl ?_
          refine am_if_ne (q := 36) (t := 38) (am_tab tk_X9_enough 17 rfl) (by decide) rfl (fun h33 => ?_) (fun h33 => ?_)
          · exact absurd h33 (by decide)
          · refine am_iconst (q := 37) (n := (-1)) (by decide) (am_tab tk_X9_enough 18 rfl) rfl ?_
            refine am_iret (Or.inl rfl) (Nat.le_of_ble_eq_true rfl) (Nat.le_of_ble_eq_true rfl) (am_tab tk_X9_enough 19 rfl) ?_
            refine hQ _ _ ?_
            refine ⟨congrArg (fun z => some (am_i z)) ?_, (((frw.refl W_cq σ).setN (a := 44) (j := 7) (x := 0) (by unfold W_cq; omega)).cq (fun _ _ h => h))⟩
            unfold enoM
            rw [if_neg (fun h => cm h.1.1)]
