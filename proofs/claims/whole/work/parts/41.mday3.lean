theorem cn_setN {σ : am_H} {a j : Nat} {x : Int} (h : a < 85 ∨ 96 < a) : cn (am_setN σ a j x) = cn σ := cn_eq (fun b i h1 h2 => by
  show (if b = a ∧ i = j then x else σ.2.1 b i) = σ.2.1 b i
  rw [if_neg (by omega)])
theorem cn_setA {σ : am_H} {a : Nat} {f : Nat → Int} (h : a < 85 ∨ 96 < a) : cn (am_setA σ a f) = cn σ := cn_eq (fun b i h1 h2 => by
  show (if b = a then f i else σ.2.1 b i) = σ.2.1 b i
  rw [if_neg (by omega)])
theorem c_X10_dayGoes (σ : am_H) (hG : GD σ)  (hc : cc σ) : am_met M_X10_dayGoes [am_r 55] σ (fun r σ' => r = none ∧ frw W_day σ σ' ∧ (∀ k, σ'.2.1 96 k = nwD σ k) ∧ σ'.2.1 55 60 = sfD σ ∧ σ'.2.1 55 61 = thD σ ∧ σ'.2.1 55 62 = fsD σ ∧ (0 ≤ σ'.2.1 55 59 ∧ σ'.2.1 55 59 ≤ 99)) := by
  refine am_qq (fun Q hQ => ?_)
  refine am_enter (show plainFor yX10_dayGoes = true by decide +kernel) rfl (Nat.le_of_ble_eq_true rfl) (fun _ _ _ => trivial) ?_
  have hL := hG.L
  have hts := tsD_rng hG.R hc
  have hbs := bsD_rng hG.R hc
  have hG0 := bgS_GD hG hc
  have hd := bgN_day hG.R hc
  have hsf := sfD_rng hG hc
  have hth := thD_rng hG hc
  have hN := pN_eq hG.R
  have h8 := pN_8 hG.R
  have hag := (bgN_MN hG.R hc).2.2.2.2.1
  refine am_aload_n (q := 1) rfl (am_tab tk_X10_dayGoes 0 rfl) rfl ?_
  refine am_callV0 (q := 4) (me2 := M_X10_begins) (b := 55) (kb := 10) (nb := 108) (As := []) (rest := []) (out := []) (c_X10_begins σ hG.L hG.R) ⟨rfl, rfl⟩ (Ls_55 hL) (by decide) ⟨Or.inl km_X10_449, kc_X10_begins, kn_X10, kd_X10_begins, ⟨(Nat.le_of_ble_eq_true rfl), (Nat.le_of_ble_eq_true rfl)⟩, ⟨(Nat.le_of_ble_eq_true rfl), (Nat.le_of_ble_eq_true rfl)⟩, (Nat.le_of_ble_eq_true rfl)⟩ ki_X10_begins ks_X10_begins rfl rfl (am_tab tk_X10_dayGoes 1 rfl) rfl ?_
  refine am_hp2 (begH_S σ) ?_
  refine am_aload_n (q := 5) rfl (am_tab tk_X10_dayGoes 2 rfl) rfl ?_
  refine am_aload_n (q := 6) rfl (am_tab tk_X10_dayGoes 3 rfl) rfl ?_
  refine am_aload_n (q := 7) rfl (am_tab tk_X10_dayGoes 4 rfl) rfl ?_
  refine am_getR (q := 10) (a := 55) (k := 10) (n := 108) (j := 54) (r := some (96)) (Ls_55 hL) (by decide) rfl (Lr_55_54 hL) (by decide) (Or.inl kf_X10_136) (am_tab tk_X10_dayGoes 5 rfl) rfl ?_
  refine am_bipush (q := 12) (n := 20) (by decide) rfl (am_tab tk_X10_dayGoes 6 rfl) rfl ?_
  refine am_aload_n (q := 13) rfl (am_tab tk_X10_dayGoes 7 rfl) rfl ?_
  refine am_getR (q := 16) (a := 55) (k := 10) (n := 108) (j := 54) (r := some (96)) (Ls_55 hL) (by decide) rfl (Lr_55_54 hL) (by decide) (Or.inl kf_X10_136) (am_tab tk_X10_dayGoes 8 rfl) rfl ?_
  refine am_iconst (q := 17) (n := 1) (by decide) (am_tab tk_X10_dayGoes 9 rfl) rfl ?_
  refine am_iald (q := 18) (a := 96) (n := 443) (x := (bgN σ 1)) (Ls_96 hL) (by omega) (by omega) rfl (am_tab tk_X10_dayGoes 10 rfl) rfl ?_
  refine am_iadd (q := 19) (by omega) (am_tab tk_X10_dayGoes 11 rfl) rfl ?_
  refine am_iald (q := 20) (a := 96) (n := 443) (x := (bgN σ (Int.toNat (20 + (bgN σ 1))))) (Ls_96 hL) (by omega) (by omega) rfl (am_tab tk_X10_dayGoes 12 rfl) rfl ?_
  refine am_aload_n (q := 21) rfl (am_tab tk_X10_dayGoes 13 rfl) rfl ?_
  refine am_getR (q := 24) (a := 55) (k := 10) (n := 108) (j := 54) (r := some (96)) (Ls_55 hL) (by decide) rfl (Lr_55_54 hL) (by decide) (Or.inl kf_X10_136) (am_tab tk_X10_dayGoes 14 rfl) rfl ?_
  refine am_bipush (q := 26) (n := 111) (by decide) rfl (am_tab tk_X10_dayGoes 15 rfl) rfl ?_
  refine am_aload_n (q := 27) rfl (am_tab tk_X10_dayGoes 16 rfl) rfl ?_
  refine am_getR (q := 30) (a := 55) (k := 10) (n := 108) (j := 54) (r := some (96)) (Ls_55 hL) (by decide) rfl (Lr_55_54 hL) (by decide) (Or.inl kf_X10_136) (am_tab tk_X10_dayGoes 17 rfl) rfl ?_
  refine am_iconst (q := 31) (n := 1) (by decide) (am_tab tk_X10_dayGoes 18 rfl) rfl ?_
  refine am_iald (q := 32) (a := 96) (n := 443) (x := (bgN σ 1)) (Ls_96 hL) (by omega) (by omega) rfl (am_tab tk_X10_dayGoes 19 rfl) rfl ?_
  refine am_iadd (q := 33) (by omega) (am_tab tk_X10_dayGoes 20 rfl) rfl ?_
  refine am_iald (q := 34) (a := 96) (n := 443) (x := (bgN σ (Int.toNat (111 + (bgN σ 1))))) (Ls_96 hL) (by omega) (by omega) rfl (am_tab tk_X10_dayGoes 21 rfl) rfl ?_
  refine am_callVr (q := 37) (me2 := M_X10_selves) (b := 55) (kb := 10) (nb := 108) (As := [am_i ((bgN σ (Int.toNat (20 + (bgN σ 1))))), am_i ((bgN σ (Int.toNat (111 + (bgN σ 1)))))]) (rest := [am_r 55]) (c_sel2 (bgS σ) hG0 (tsD σ) (bsD σ) hts hbs) ⟨rfl, rfl⟩ (Ls_55 hL) (by decide) ⟨Or.inl km_X10_452, kc_X10_selves, kn_X10, kd_X10_selves, ⟨(Nat.le_of_ble_eq_true rfl), (Nat.le_of_ble_eq_true rfl)⟩, ⟨(Nat.le_of_ble_eq_true rfl), (Nat.le_of_ble_eq_true rfl)⟩, (Nat.le_of_ble_eq_true rfl)⟩ ki_X10_selves ks_X10_selves rfl (am_tab tk_X10_dayGoes 22 rfl) rfl ?_
  rintro r τ1 ⟨rfl, hF1, e56, e57, e58⟩
  have hL1 : lay τ1 := hF1.L hG0.L
  have hG1 : GD τ1 := GD_fr hG0 hF1 (by unfold W_sel; omega) (by rw [hF1.2.2 55 59 (by unfold W_sel; omega)]; exact hG0.o) (by rw [hF1.2.2 55 61 (by unfold W_sel; omega)]; exact hG0.t)
  have hc1 : cn τ1 = cn (bgS σ) := cn_eq (fun a j h1 h2 => hF1.2.2 a j (by unfold W_sel; omega))
  refine am_st (st2 := [am_i (sfD σ), am_r 55]) rfl ?_
  refine am_putI (q := 40) (k := 10) (n := 108) (j := 60) (Ls_55 hL1) (by decide) rfl (by decide) (Or.inl ⟨kf_X10_455, rfl⟩) (am_tab tk_X10_dayGoes 23 rfl) rfl ?_
  refine am_aload_n (q := 41) rfl (am_tab tk_X10_dayGoes 24 rfl) rfl ?_
  refine am_aload_n (q := 42) rfl (am_tab tk_X10_dayGoes 25 rfl) rfl ?_
  refine am_aload_n (q := 43) rfl (am_tab tk_X10_dayGoes 26 rfl) rfl ?_
  refine am_getI (q := 46) (a := 55) (k := 10) (n := 108) (j := 60) (x := sfD σ) (Ls_55 hL1) (by decide) rfl rfl (by decide) (Or.inl kf_X10_455) (am_tab tk_X10_dayGoes 27 rfl) rfl ?_
  refine am_aload_n (q := 47) rfl (am_tab tk_X10_dayGoes 28 rfl) rfl ?_
  refine am_getR (q := 50) (a := 55) (k := 10) (n := 108) (j := 54) (r := some (96)) (Ls_55 hL1) (by decide) rfl (Lr_55_54 hL1) (by decide) (Or.inl kf_X10_136) (am_tab tk_X10_dayGoes 29 rfl) rfl ?_
  refine am_bipush (q := 52) (n := 111) (by decide) rfl (am_tab tk_X10_dayGoes 30 rfl) rfl ?_
  refine am_aload_n (q := 53) rfl (am_tab tk_X10_dayGoes 31 rfl) rfl ?_
  refine am_getR (q := 56) (a := 55) (k := 10) (n := 108) (j := 54) (r := some (96)) (Ls_55 hL1) (by decide) rfl (Lr_55_54 hL1) (by decide) (Or.inl kf_X10_136) (am_tab tk_X10_dayGoes 32 rfl) rfl ?_
  refine am_iconst (q := 57) (n := 1) (by decide) (am_tab tk_X10_dayGoes 33 rfl) rfl ?_
  refine am_iald (q := 58) (a := 96) (n := 443) (x := (bgN σ 1)) (Ls_96 hL1) (by omega) (by omega) (hF1.2.2 96 1 (by unfold W_sel; omega)) (am_tab tk_X10_dayGoes 34 rfl) rfl ?_
  refine am_iadd (q := 59) (by omega) (am_tab tk_X10_dayGoes 35 rfl) rfl ?_
  refine am_iald (q := 60) (a := 96) (n := 443) (x := (bgN σ (Int.toNat (111 + (bgN σ 1))))) (Ls_96 hL1) (by omega) (by omega) (hF1.2.2 96 (Int.toNat (111 + (bgN σ 1))) (by unfold W_sel; omega)) (am_tab tk_X10_dayGoes 36 rfl) rfl ?_
  refine am_callVr (q := 63) (me2 := M_X10_reminded) (b := 55) (kb := 10) (nb := 108) (As := [am_i (sfD σ), am_i ((bgN σ (Int.toNat (111 + (bgN σ 1)))))]) (rest := [am_r 55]) (c_rem2 (am_setN τ1 55 60 (sfD σ)) hG1 (sfD σ) (bsD σ) (tsD σ) hsf hbs hts e56 (e57.trans (ffM_eq (τ := (am_setN τ1 55 60 (sfD σ))) (σ := bgS σ) ((cn_setN (by omega)).trans hc1)).symm) (e58.trans (fzM_eq (τ := (am_setN τ1 55 60 (sfD σ))) (σ := bgS σ) ((cn_setN (by omega)).trans hc1)).symm)) ⟨rfl, rfl⟩ (Ls_55 hL1) (by decide) ⟨Or.inl km_X10_458, kc_X10_reminded, kn_X10, kd_X10_reminded, ⟨(Nat.le_of_ble_eq_true rfl), (Nat.le_of_ble_eq_true rfl)⟩, ⟨(Nat.le_of_ble_eq_true rfl), (Nat.le_of_ble_eq_true rfl)⟩, (Nat.le_of_ble_eq_true rfl)⟩ ki_X10_reminded ks_X10_reminded rfl (am_tab tk_X10_dayGoes 37 rfl) rfl ?_
  rintro r τ2 ⟨rfl, hF2, e59⟩
  have hL2 : lay τ2 := hF2.L hL1
  have eth : rmE (am_setN τ1 55 60 (sfD σ)) (tsD σ) (sfD σ) (bsD σ) = thD σ := rmE_eq (τ := (am_setN τ1 55 60 (sfD σ))) (σ := bgS σ) ((cn_setN (by omega)).trans hc1) _ _ _
  rw [eth]
  refine am_st (st2 := [am_i (thD σ), am_r 55]) rfl ?_
  refine am_putI (q := 66) (k := 10) (n := 108) (j := 61) (Ls_55 hL2) (by decide) rfl (by decide) (Or.inl ⟨kf_X10_461, rfl⟩) (am_tab tk_X10_dayGoes 38 rfl) rfl ?_
  refine am_aload_n (q := 67) rfl (am_tab tk_X10_dayGoes 39 rfl) rfl ?_
  refine am_aload_n (q := 68) rfl (am_tab tk_X10_dayGoes 40 rfl) rfl ?_
  refine am_getR (q := 71) (a := 55) (k := 10) (n := 108) (j := 54) (r := some (96)) (Ls_55 hL2) (by decide) rfl (Lr_55_54 hL2) (by decide) (Or.inl kf_X10_136) (am_tab tk_X10_dayGoes 41 rfl) rfl ?_
  refine am_iconst (q := 72) (n := 2) (by decide) (am_tab tk_X10_dayGoes 42 rfl) rfl ?_
  refine am_iald (q := 73) (a := 96) (n := 443) (x := (bgN σ 2)) (Ls_96 hL2) (by omega) (by omega) (Eq.trans (hF2.2.2 96 2 (by unfold W_rem; omega)) (hF1.2.2 96 2 (by unfold W_sel; omega))) (am_tab tk_X10_dayGoes 43 rfl) rfl ?_
  refine am_if_ne (q := 76) (t := 87) (am_tab tk_X10_dayGoes 44 rfl) (by decide) rfl (fun h73 => ?_) (fun h73 => ?_)
  · refine am_iconst (q := 88) (n := 0) (by decide) (am_tab tk_X10_dayGoes 50 rfl) rfl ?_
    refine am_putZ (q := 91) (k := 10) (n := 108) (j := 62) (Ls_55 hL2) (by decide) rfl (by first | exact Or.inl rfl | exact Or.inr rfl | omega) (by decide) (Or.inl ⟨kf_X10_464, rfl⟩) (am_tab tk_X10_dayGoes 51 rfl) rfl ?_
    refine am_aload_n (q := 92) rfl (am_tab tk_X10_dayGoes 52 rfl) rfl ?_
    refine am_getI (q := 95) (a := 55) (k := 10) (n := 108) (j := 62) (x := 0) (Ls_55 hL2) (by decide) rfl rfl (by decide) (Or.inl kf_X10_464) (am_tab tk_X10_dayGoes 53 rfl) rfl ?_
    refine am_if_eq (q := 98) (t := 110) (am_tab tk_X10_dayGoes 54 rfl) (by decide) rfl (fun h95 => ?_) (fun h95 => ?_)
    · refine am_iconst (q := 111) (n := 0) (by decide) (am_tab tk_X10_dayGoes 63 rfl) rfl ?_
      refine am_istore_n (q := 112) (by decide) (ls2 := [(1, am_i 0), (0, am_r 55)]) rfl (am_tab tk_X10_dayGoes 64 rfl) rfl ?_
      have hFd : frw W_day σ τ2 := by
        refine ⟨hF2.1.trans hF1.1, hF2.2.1.trans hF1.2.1, fun a j hw => ?_⟩
        rw [hF2.2.2 a j (by unfold W_day at hw; unfold W_rem; omega)]
        show (if a = 55 ∧ j = 60 then _ else τ1.2.1 a j) = _
        rw [if_neg (by unfold W_day at hw; omega), hF1.2.2 a j (by unfold W_day at hw; unfold W_sel; omega)]
        show (if a = 96 then _ else σ.2.1 a j) = _
        rw [if_neg (by unfold W_day at hw; omega)]
      have e96 : ∀ k, τ2.2.1 96 k = bgN σ k := fun k => (hF2.2.2 96 k (by unfold W_rem; omega)).trans (hF1.2.2 96 k (by unfold W_sel; omega))
      have L112 : ∀ (n112 : Nat) (i : Nat) (S : am_H), pN σ - i < n112 → i ≤ pN σ → frw W_day σ S → (∀ k, S.2.1 96 k = if 4 ≤ k ∧ k < 4 + i then agD σ (k - 4) else bsN σ k) → S.2.1 55 60 = sfD σ → S.2.1 55 61 = thD σ → S.2.1 55 62 = fsD σ → (0 ≤ S.2.1 55 59 ∧ S.2.1 55 59 ≤ 99) → am_wp M_X10_dayGoes Q 0 0 112 [(1, am_i ((i : Int))), (0, am_r 55)] [] S := by
        intro n112
        induction n112 with
        | zero => intro i S hn112; exact absurd hn112 (Nat.not_lt_zero _)
        | succ n112 ih112 =>
          intro i S hn112 hi hF h96 h60 h61 h62 h59
          have hLS : lay S := hF.L hL
          have e4 : ((4 : Int) + (i : Int)).toNat = 4 + i := by omega
          have hfs := fsD_01 σ
          have h96n : ∀ v, v = agD σ i → ∀ k, (am_setN S 96 (Int.toNat (4 + (i : Int))) v).2.1 96 k = if 4 ≤ k ∧ k < 4 + (i + 1) then agD σ (k - 4) else bsN σ k := by
            intro v hv k
            show (if 96 = 96 ∧ k = Int.toNat (4 + (i : Int)) then v else S.2.1 96 k) = _
            rw [e4]
            by_cases hk : k = 4 + i
            · rw [if_pos ⟨rfl, hk⟩, if_pos (by omega), hv, hk, show 4 + i - 4 = i by omega]
            · rw [if_neg (fun hc => hk hc.2), h96 k]
              by_cases hk2 : 4 ≤ k ∧ k < 4 + i
              · rw [if_pos hk2, if_pos (by omega)]
              · rw [if_neg hk2, if_neg (by omega)]
          refine am_iload_n (q := 113) rfl (am_tab tk_X10_dayGoes 65 rfl) rfl ?_
          refine am_aload_n (q := 114) rfl (am_tab tk_X10_dayGoes 66 rfl) rfl ?_
          refine am_callV0 (q := 117) (me2 := M_X10_peopleMany) (b := 55) (kb := 10) (nb := 108) (As := []) (rest := [am_i ((i : Int))]) (out := [am_i (S.2.1 85 5), am_i ((i : Int))]) (c_X10_peopleMany S hLS  ) ⟨rfl, rfl⟩ (Ls_55 hLS) (by decide) ⟨Or.inl km_X10_394, kc_X10_peopleMany, kn_X10, kd_X10_peopleMany, ⟨(Nat.le_of_ble_eq_true rfl), (Nat.le_of_ble_eq_true rfl)⟩, ⟨(Nat.le_of_ble_eq_true rfl), (Nat.le_of_ble_eq_true rfl)⟩, (Nat.le_of_ble_eq_true rfl)⟩ ki_X10_peopleMany ks_X10_peopleMany rfl rfl (am_tab tk_X10_dayGoes 67 rfl) rfl ?_
          refine am_st (st2 := [am_i ((σ.2.1 85 5)), am_i ((i : Int))]) (by simp only [(show S.2.1 85 5 = σ.2.1 85 5 from (hF.2.2 85 5 (by unfold W_day; omega)))]) ?_
          refine am_icmp_ge (q := 120) (t := 189) (am_tab tk_X10_dayGoes 68 rfl) (by decide) rfl (fun h117 => ?_) (fun h117 => ?_)
          · refine am_aload_n (q := 190) rfl (am_tab tk_X10_dayGoes 108 rfl) rfl ?_
            refine am_getR (q := 193) (a := 55) (k := 10) (n := 108) (j := 54) (r := some (96)) (Ls_55 hLS) (by decide) rfl (Lr_55_54 hLS) (by decide) (Or.inl kf_X10_136) (am_tab tk_X10_dayGoes 109 rfl) rfl ?_
            refine am_bipush (q := 195) (n := 111) (by decide) rfl (am_tab tk_X10_dayGoes 110 rfl) rfl ?_
            refine am_aload_n (q := 196) rfl (am_tab tk_X10_dayGoes 111 rfl) rfl ?_
            refine am_getR (q := 199) (a := 55) (k := 10) (n := 108) (j := 54) (r := some (96)) (Ls_55 hLS) (by decide) rfl (Lr_55_54 hLS) (by decide) (Or.inl kf_X10_136) (am_tab tk_X10_dayGoes 112 rfl) rfl ?_
            refine am_iconst (q := 200) (n := 1) (by decide) (am_tab tk_X10_dayGoes 113 rfl) rfl ?_
            refine am_iald (q := 201) (a := 96) (n := 443) (x := (bgN σ 1)) (Ls_96 hLS) (by omega) (by omega) (h96 1) (am_tab tk_X10_dayGoes 114 rfl) rfl ?_
            refine am_iadd (q := 202) (by omega) (am_tab tk_X10_dayGoes 115 rfl) rfl ?_
            refine am_iconst (q := 203) (n := 0) (by decide) (am_tab tk_X10_dayGoes 116 rfl) rfl ?_
            refine am_iast (q := 204) (a := 96) (n := 443) (Ls_96 hLS) (by omega) (by omega) (am_tab tk_X10_dayGoes 117 rfl) rfl ?_
            refine am_aload_n (q := 205) rfl (am_tab tk_X10_dayGoes 118 rfl) rfl ?_
            have hnoS : ∀ k, ((am_setN S 96 (Int.toNat (111 + (bgN σ 1))) 0)).2.1 96 k = noD σ k := by
              intro k
              show (if 96 = 96 ∧ k = Int.toNat (111 + (bgN σ 1)) then 0 else S.2.1 96 k) = noD σ k
              unfold noD
              rw [show Int.toNat (111 + bgN σ 1) = 111 + (bgN σ 1).toNat by omega, h96 k, show i = pN σ by omega]
              by_cases hk : k = 111 + (bgN σ 1).toNat
              · rw [if_pos ⟨rfl, hk⟩, if_pos hk]
              · rw [if_neg (fun hc => hk hc.2), if_neg hk]
            have hRn : MR (am_setN S 96 (Int.toNat (111 + (bgN σ 1))) 0) := hG.R.up (f := noD σ) (cn_eq (fun a j h1 h2 => by
                by_cases ha : a = 96
                · subst ha; exact hnoS j
                · show (if a = 96 ∧ _ then _ else S.2.1 a j) = (if a = 96 then _ else σ.2.1 a j)
                  rw [if_neg (fun hc => ha hc.1), if_neg ha]; exact hF.2.2 a j (by unfold W_day; omega))) (hF.2.2 55 52 (by unfold W_day; omega)) (noD_MN hG.R hc)
            refine am_callV0 (q := 208) (me2 := M_X10_isKept) (b := 55) (kb := 10) (nb := 108) (As := []) (rest := []) (out := []) (c_X10_isKept (am_setN S 96 (Int.toNat (111 + (bgN σ 1))) 0) hLS hRn (by show 0 ≤ S.2.1 55 61 ∧ S.2.1 55 61 < 256; rw [h61]; exact hth)) ⟨rfl, rfl⟩ (Ls_55 hLS) (by decide) ⟨Or.inl km_X10_470, kc_X10_isKept, kn_X10, kd_X10_isKept, ⟨(Nat.le_of_ble_eq_true rfl), (Nat.le_of_ble_eq_true rfl)⟩, ⟨(Nat.le_of_ble_eq_true rfl), (Nat.le_of_ble_eq_true rfl)⟩, (Nat.le_of_ble_eq_true rfl)⟩ ki_X10_isKept ks_X10_isKept rfl rfl (am_tab tk_X10_dayGoes 119 rfl) rfl ?_
            refine am_vret rfl (Nat.le_of_ble_eq_true rfl) (Nat.le_of_ble_eq_true rfl) (am_tab tk_X10_dayGoes 120 rfl) ?_
            refine hQ _ _ ?_
            have hno : (fun k => (am_setN S 96 (Int.toNat (111 + (bgN σ 1))) 0).2.1 96 k) = noD σ := by
              funext k
              show (if 96 = 96 ∧ k = Int.toNat (111 + (bgN σ 1)) then 0 else S.2.1 96 k) = noD σ k
              unfold noD
              rw [show Int.toNat (111 + bgN σ 1) = 111 + (bgN σ 1).toNat by omega, h96 k, show i = pN σ by omega]
              by_cases hk : k = 111 + (bgN σ 1).toNat
              · rw [if_pos ⟨rfl, hk⟩, if_pos hk]
              · rw [if_neg (fun hc => hk hc.2), if_neg hk]
            refine ⟨rfl, (hF.setN (by unfold W_day; omega)).setA (fun j => by unfold W_day; omega), ?_, h60, h61, h62, h59⟩
            intro k
            show kpA (fun k => (am_setN S 96 (Int.toNat (111 + (bgN σ 1))) 0).2.1 96 k) ((fun k => (am_setN S 96 (Int.toNat (111 + (bgN σ 1))) 0).2.1 96 k) 0) ((fun k => (am_setN S 96 (Int.toNat (111 + (bgN σ 1))) 0).2.1 96 k) 1) (bc (S.2.1 55 61)) (if S.2.1 55 62 = 0 then 0 else 1) k = nwD σ k
            rw [hno, h61, h62, show (if fsD σ = 0 then (0 : Int) else 1) = fsD σ from by rcases fsD_01 σ with h | h <;> rw [h] <;> rfl]
            rfl
          · refine am_aload_n (q := 121) rfl (am_tab tk_X10_dayGoes 69 rfl) rfl ?_
            refine am_getI (q := 124) (a := 55) (k := 10) (n := 108) (j := 62) (x := (fsD σ)) (Ls_55 hLS) (by decide) rfl h62 (by decide) (Or.inl kf_X10_464) (am_tab tk_X10_dayGoes 70 rfl) rfl ?_
            refine am_if_ne (q := 127) (t := 139) (am_tab tk_X10_dayGoes 71 rfl) (by decide) rfl (fun h124 => ?_) (fun h124 => ?_)
            · refine am_iconst (q := 140) (n := 1) (by decide) (am_tab tk_X10_dayGoes 80 rfl) rfl ?_
              refine am_goto (t := 144) (am_tab tk_X10_dayGoes 81 rfl) (by decide) ?_
              refine am_istore_n (q := 145) (by decide) (ls2 := [(2, am_i 1), (1, am_i ((i : Int))), (0, am_r 55)]) rfl (am_tab tk_X10_dayGoes 83 rfl) rfl ?_
              refine am_aload_n (q := 146) rfl (am_tab tk_X10_dayGoes 84 rfl) rfl ?_
              refine am_getR (q := 149) (a := 55) (k := 10) (n := 108) (j := 54) (r := some (96)) (Ls_55 hLS) (by decide) rfl (Lr_55_54 hLS) (by decide) (Or.inl kf_X10_136) (am_tab tk_X10_dayGoes 85 rfl) rfl ?_
              refine am_iconst (q := 150) (n := 4) (by decide) (am_tab tk_X10_dayGoes 86 rfl) rfl ?_
              refine am_iload_n (q := 151) rfl (am_tab tk_X10_dayGoes 87 rfl) rfl ?_
              refine am_iadd (q := 152) (by omega) (am_tab tk_X10_dayGoes 88 rfl) rfl ?_
              refine am_iload_n (q := 153) rfl (am_tab tk_X10_dayGoes 89 rfl) rfl ?_
              refine am_if_eq (q := 156) (t := 160) (am_tab tk_X10_dayGoes 90 rfl) (by decide) rfl (fun h153 => ?_) (fun h153 => ?_)
              · exact absurd h153 (by decide)
              · refine am_iconst (q := 157) (n := 0) (by decide) (am_tab tk_X10_dayGoes 91 rfl) rfl ?_
                refine am_goto (t := 182) (am_tab tk_X10_dayGoes 92 rfl) (by decide) ?_
                refine am_iast (q := 183) (a := 96) (n := 443) (Ls_96 hLS) (by omega) (by omega) (am_tab tk_X10_dayGoes 105 rfl) rfl ?_
                refine am_iinc (q := 186) rfl (by omega) (by decide) (ls2 := [(1, am_i (((i : Int) + 1))), (2, am_i 1), (0, am_r 55)]) rfl (am_tab tk_X10_dayGoes 106 rfl) rfl ?_
                refine am_goto (t := 112) (am_tab tk_X10_dayGoes 107 rfl) (by decide) ?_
                have hag : 0 = agD σ i := by
                  unfold agD
                  try rw [tb_eq hth ⟨by omega, by omega⟩] at h136
                  first
                    | rw [if_pos (Or.inl (by omega))]
                    | rw [if_pos (Or.inr (by assumption))]
                    | (rw [if_neg (by intro hc; rcases hc with hc | hc <;> omega)]; first | rw [if_pos (by omega)] | rw [if_neg (by omega)])
                exact am_less (by intro q hq; simp only [List.mem_cons, List.not_mem_nil, or_false] at hq; rcases hq with rfl | rfl <;> simp) (ih112 (i + 1) (am_setN S 96 (Int.toNat (4 + (i : Int))) 0) (by omega) (by omega) (hF.setN (by unfold W_day; omega)) (h96n _ hag) h60 h61 h62 h59)
            · refine am_aload_n (q := 128) rfl (am_tab tk_X10_dayGoes 72 rfl) rfl ?_
              refine am_getI (q := 131) (a := 55) (k := 10) (n := 108) (j := 61) (x := (thD σ)) (Ls_55 hLS) (by decide) rfl h61 (by decide) (Or.inl kf_X10_461) (am_tab tk_X10_dayGoes 73 rfl) rfl ?_
              refine am_iload_n (q := 132) rfl (am_tab tk_X10_dayGoes 74 rfl) rfl ?_
              refine am_ishr (q := 133) (am_tab tk_X10_dayGoes 75 rfl) rfl ?_
              refine am_iconst (q := 134) (n := 1) (by decide) (am_tab tk_X10_dayGoes 76 rfl) rfl ?_
              refine am_iand (q := 135) (am_tab tk_X10_dayGoes 77 rfl) rfl ?_
              refine am_iconst (q := 136) (n := 1) (by decide) (am_tab tk_X10_dayGoes 78 rfl) rfl ?_
              refine am_icmp_ne (q := 139) (t := 143) (am_tab tk_X10_dayGoes 79 rfl) (by decide) rfl (fun h136 => ?_) (fun h136 => ?_)
              · refine am_iconst (q := 144) (n := 0) (by decide) (am_tab tk_X10_dayGoes 82 rfl) rfl ?_
                refine am_istore_n (q := 145) (by decide) (ls2 := [(2, am_i 0), (1, am_i ((i : Int))), (0, am_r 55)]) rfl (am_tab tk_X10_dayGoes 83 rfl) rfl ?_
                refine am_aload_n (q := 146) rfl (am_tab tk_X10_dayGoes 84 rfl) rfl ?_
                refine am_getR (q := 149) (a := 55) (k := 10) (n := 108) (j := 54) (r := some (96)) (Ls_55 hLS) (by decide) rfl (Lr_55_54 hLS) (by decide) (Or.inl kf_X10_136) (am_tab tk_X10_dayGoes 85 rfl) rfl ?_
                refine am_iconst (q := 150) (n := 4) (by decide) (am_tab tk_X10_dayGoes 86 rfl) rfl ?_
                refine am_iload_n (q := 151) rfl (am_tab tk_X10_dayGoes 87 rfl) rfl ?_
                refine am_iadd (q := 152) (by omega) (am_tab tk_X10_dayGoes 88 rfl) rfl ?_
                refine am_iload_n (q := 153) rfl (am_tab tk_X10_dayGoes 89 rfl) rfl ?_
                refine am_if_eq (q := 156) (t := 160) (am_tab tk_X10_dayGoes 90 rfl) (by decide) rfl (fun h153 => ?_) (fun h153 => ?_)
                · refine am_aload_n (q := 161) rfl (am_tab tk_X10_dayGoes 93 rfl) rfl ?_
                  refine am_iload_n (q := 162) rfl (am_tab tk_X10_dayGoes 94 rfl) rfl ?_
                  refine am_callV0 (q := 165) (me2 := M_X10_agoOf) (b := 55) (kb := 10) (nb := 108) (As := [am_i ((i : Int))]) (rest := [am_i ((4 + (i : Int))), am_r 96]) (out := [am_i (S.2.1 96 (4 + (i : Int)).toNat), am_i ((4 + (i : Int))), am_r 96]) (c_X10_agoOf S hLS (i : Int) (by omega)) ⟨rfl, rfl⟩ (Ls_55 hLS) (by decide) ⟨Or.inl km_X10_467, kc_X10_agoOf, kn_X10, kd_X10_agoOf, ⟨(Nat.le_of_ble_eq_true rfl), (Nat.le_of_ble_eq_true rfl)⟩, ⟨(Nat.le_of_ble_eq_true rfl), (Nat.le_of_ble_eq_true rfl)⟩, (Nat.le_of_ble_eq_true rfl)⟩ ki_X10_agoOf ks_X10_agoOf rfl rfl (am_tab tk_X10_dayGoes 95 rfl) rfl ?_
                  refine am_st (st2 := [am_i ((bgN σ (4 + i))), am_i ((4 + (i : Int))), am_r 96]) (by simp only [(show S.2.1 96 (4 + (i : Int)).toNat = (bgN σ (4 + i)) from (by rw [e4, h96 (4 + i), if_neg (by omega)]; unfold bsN; rw [if_neg (by omega)]))]) ?_
                  refine am_bipush (q := 167) (n := 99) (by decide) rfl (am_tab tk_X10_dayGoes 96 rfl) rfl ?_
                  refine am_icmp_ge (q := 170) (t := 180) (am_tab tk_X10_dayGoes 97 rfl) (by decide) rfl (fun h167 => ?_) (fun h167 => ?_)
                  · refine am_bipush (q := 182) (n := 99) (by decide) rfl (am_tab tk_X10_dayGoes 104 rfl) rfl ?_
                    refine am_iast (q := 183) (a := 96) (n := 443) (Ls_96 hLS) (by omega) (by omega) (am_tab tk_X10_dayGoes 105 rfl) rfl ?_
                    refine am_iinc (q := 186) rfl (by omega) (by decide) (ls2 := [(1, am_i (((i : Int) + 1))), (2, am_i 0), (0, am_r 55)]) rfl (am_tab tk_X10_dayGoes 106 rfl) rfl ?_
                    refine am_goto (t := 112) (am_tab tk_X10_dayGoes 107 rfl) (by decide) ?_
                    have hag : 99 = agD σ i := by
                      unfold agD
                      try rw [tb_eq hth ⟨by omega, by omega⟩] at h136
                      first
                        | rw [if_pos (Or.inl (by omega))]
                        | rw [if_pos (Or.inr (by assumption))]
                        | (rw [if_neg (by intro hc; rcases hc with hc | hc <;> omega)]; first | rw [if_pos (by omega)] | rw [if_neg (by omega)])
                    exact am_less (by intro q hq; simp only [List.mem_cons, List.not_mem_nil, or_false] at hq; rcases hq with rfl | rfl <;> simp) (ih112 (i + 1) (am_setN S 96 (Int.toNat (4 + (i : Int))) 99) (by omega) (by omega) (hF.setN (by unfold W_day; omega)) (h96n _ hag) h60 h61 h62 h59)
                  · refine am_aload_n (q := 171) rfl (am_tab tk_X10_dayGoes 98 rfl) rfl ?_
                    refine am_iload_n (q := 172) rfl (am_tab tk_X10_dayGoes 99 rfl) rfl ?_
                    refine am_callV0 (q := 175) (me2 := M_X10_agoOf) (b := 55) (kb := 10) (nb := 108) (As := [am_i ((i : Int))]) (rest := [am_i ((4 + (i : Int))), am_r 96]) (out := [am_i (S.2.1 96 (4 + (i : Int)).toNat), am_i ((4 + (i : Int))), am_r 96]) (c_X10_agoOf S hLS (i : Int) (by omega)) ⟨rfl, rfl⟩ (Ls_55 hLS) (by decide) ⟨Or.inl km_X10_467, kc_X10_agoOf, kn_X10, kd_X10_agoOf, ⟨(Nat.le_of_ble_eq_true rfl), (Nat.le_of_ble_eq_true rfl)⟩, ⟨(Nat.le_of_ble_eq_true rfl), (Nat.le_of_ble_eq_true rfl)⟩, (Nat.le_of_ble_eq_true rfl)⟩ ki_X10_agoOf ks_X10_agoOf rfl rfl (am_tab tk_X10_dayGoes 100 rfl) rfl ?_
                    refine am_st (st2 := [am_i ((bgN σ (4 + i))), am_i ((4 + (i : Int))), am_r 96]) (by simp only [(show S.2.1 96 (4 + (i : Int)).toNat = (bgN σ (4 + i)) from (by rw [e4, h96 (4 + i), if_neg (by omega)]; unfold bsN; rw [if_neg (by omega)]))]) ?_
                    refine am_iconst (q := 176) (n := 1) (by decide) (am_tab tk_X10_dayGoes 101 rfl) rfl ?_
                    refine am_iadd (q := 177) (by have := hag i (by omega); omega) (am_tab tk_X10_dayGoes 102 rfl) rfl ?_
                    refine am_goto (t := 182) (am_tab tk_X10_dayGoes 103 rfl) (by decide) ?_
                    refine am_iast (q := 183) (a := 96) (n := 443) (Ls_96 hLS) (by omega) (by omega) (am_tab tk_X10_dayGoes 105 rfl) rfl ?_
                    refine am_iinc (q := 186) rfl (by omega) (by decide) (ls2 := [(1, am_i (((i : Int) + 1))), (2, am_i 0), (0, am_r 55)]) rfl (am_tab tk_X10_dayGoes 106 rfl) rfl ?_
                    refine am_goto (t := 112) (am_tab tk_X10_dayGoes 107 rfl) (by decide) ?_
                    have hag : ((bgN σ (4 + i)) + 1) = agD σ i := by
                      unfold agD
                      try rw [tb_eq hth ⟨by omega, by omega⟩] at h136
                      first
                        | rw [if_pos (Or.inl (by omega))]
                        | rw [if_pos (Or.inr (by assumption))]
                        | (rw [if_neg (by intro hc; rcases hc with hc | hc <;> omega)]; first | rw [if_pos (by omega)] | rw [if_neg (by omega)])
                    exact am_less (by intro q hq; simp only [List.mem_cons, List.not_mem_nil, or_false] at hq; rcases hq with rfl | rfl <;> simp) (ih112 (i + 1) (am_setN S 96 (Int.toNat (4 + (i : Int))) ((bgN σ (4 + i)) + 1)) (by omega) (by omega) (hF.setN (by unfold W_day; omega)) (h96n _ hag) h60 h61 h62 h59)
                · exact absurd h153 (by decide)
              · refine am_iconst (q := 140) (n := 1) (by decide) (am_tab tk_X10_dayGoes 80 rfl) rfl ?_
                refine am_goto (t := 144) (am_tab tk_X10_dayGoes 81 rfl) (by decide) ?_
                refine am_istore_n (q := 145) (by decide) (ls2 := [(2, am_i 1), (1, am_i ((i : Int))), (0, am_r 55)]) rfl (am_tab tk_X10_dayGoes 83 rfl) rfl ?_
                refine am_aload_n (q := 146) rfl (am_tab tk_X10_dayGoes 84 rfl) rfl ?_
                refine am_getR (q := 149) (a := 55) (k := 10) (n := 108) (j := 54) (r := some (96)) (Ls_55 hLS) (by decide) rfl (Lr_55_54 hLS) (by decide) (Or.inl kf_X10_136) (am_tab tk_X10_dayGoes 85 rfl) rfl ?_
                refine am_iconst (q := 150) (n := 4) (by decide) (am_tab tk_X10_dayGoes 86 rfl) rfl ?_
                refine am_iload_n (q := 151) rfl (am_tab tk_X10_dayGoes 87 rfl) rfl ?_
                refine am_iadd (q := 152) (by omega) (am_tab tk_X10_dayGoes 88 rfl) rfl ?_
                refine am_iload_n (q := 153) rfl (am_tab tk_X10_dayGoes 89 rfl) rfl ?_
                refine am_if_eq (q := 156) (t := 160) (am_tab tk_X10_dayGoes 90 rfl) (by decide) rfl (fun h153 => ?_) (fun h153 => ?_)
                · exact absurd h153 (by decide)
                · refine am_iconst (q := 157) (n := 0) (by decide) (am_tab tk_X10_dayGoes 91 rfl) rfl ?_
                  refine am_goto (t := 182) (am_tab tk_X10_dayGoes 92 rfl) (by decide) ?_
                  refine am_iast (q := 183) (a := 96) (n := 443) (Ls_96 hLS) (by omega) (by omega) (am_tab tk_X10_dayGoes 105 rfl) rfl ?_
                  refine am_iinc (q := 186) rfl (by omega) (by decide) (ls2 := [(1, am_i (((i : Int) + 1))), (2, am_i 1), (0, am_r 55)]) rfl (am_tab tk_X10_dayGoes 106 rfl) rfl ?_
                  refine am_goto (t := 112) (am_tab tk_X10_dayGoes 107 rfl) (by decide) ?_
                  have hag : 0 = agD σ i := by
                    unfold agD
                    try rw [tb_eq hth ⟨by omega, by omega⟩] at h136
                    first
                      | rw [if_pos (Or.inl (by omega))]
                      | rw [if_pos (Or.inr (by assumption))]
                      | (rw [if_neg (by intro hc; rcases hc with hc | hc <;> omega)]; first | rw [if_pos (by omega)] | rw [if_neg (by omega)])
                  exact am_less (by intro q hq; simp only [List.mem_cons, List.not_mem_nil, or_false] at hq; rcases hq with rfl | rfl <;> simp) (ih112 (i + 1) (am_setN S 96 (Int.toNat (4 + (i : Int))) 0) (by omega) (by omega) (hF.setN (by unfold W_day; omega)) (h96n _ hag) h60 h61 h62 h59)
      have hfd : fsD σ = 0 := by unfold fsD; rw [if_neg (by omega)]
      have h96i : ∀ k, ((am_setN (am_setN τ2 55 61 (thD σ)) 55 62 0)).2.1 96 k = if 4 ≤ k ∧ k < 4 + 0 then agD σ (k - 4) else bsN σ k := by
        intro k
        rw [if_neg (by omega)]
        unfold bsN
        rw [hfd]
        by_cases hk : k = 2
        · subst hk; simp; exact e96 2
        · rw [if_neg hk]; exact e96 k
      refine am_less (by intro q hq; simp only [List.mem_cons, List.not_mem_nil, or_false] at hq; rcases hq with rfl | rfl <;> simp) (L112 (_ + 1) 0 (am_setN (am_setN τ2 55 61 (thD σ)) 55 62 0) (by exact Nat.lt_succ_self _) (by omega) (by repeat (first | exact hFd | refine frw.setN ?_ (by unfold W_day; omega))) h96i (hF2.2.2 55 60 (by unfold W_rem; omega)) rfl hfd.symm e59)
    · exact absurd h95 (by decide)
  · refine am_aload_n (q := 77) rfl (am_tab tk_X10_dayGoes 45 rfl) rfl ?_
    refine am_getI (q := 80) (a := 55) (k := 10) (n := 108) (j := 61) (x := thD σ) (Ls_55 hL2) (by decide) rfl rfl (by decide) (Or.inl kf_X10_461) (am_tab tk_X10_dayGoes 46 rfl) rfl ?_
    refine am_if_ne (q := 83) (t := 87) (am_tab tk_X10_dayGoes 47 rfl) (by decide) rfl (fun h80 => ?_) (fun h80 => ?_)
    · refine am_iconst (q := 88) (n := 0) (by decide) (am_tab tk_X10_dayGoes 50 rfl) rfl ?_
      refine am_putZ (q := 91) (k := 10) (n := 108) (j := 62) (Ls_55 hL2) (by decide) rfl (by first | exact Or.inl rfl | exact Or.inr rfl | omega) (by decide) (Or.inl ⟨kf_X10_464, rfl⟩) (am_tab tk_X10_dayGoes 51 rfl) rfl ?_
      refine am_aload_n (q := 92) rfl (am_tab tk_X10_dayGoes 52 rfl) rfl ?_
      refine am_getI (q := 95) (a := 55) (k := 10) (n := 108) (j := 62) (x := 0) (Ls_55 hL2) (by decide) rfl rfl (by decide) (Or.inl kf_X10_464) (am_tab tk_X10_dayGoes 53 rfl) rfl ?_
      refine am_if_eq (q := 98) (t := 110) (am_tab tk_X10_dayGoes 54 rfl) (by decide) rfl (fun h95 => ?_) (fun h95 => ?_)
      · refine am_iconst (q := 111) (n := 0) (by decide) (am_tab tk_X10_dayGoes 63 rfl) rfl ?_
        refine am_istore_n (q := 112) (by decide) (ls2 := [(1, am_i 0), (0, am_r 55)]) rfl (am_tab tk_X10_dayGoes 64 rfl) rfl ?_
        have hFd : frw W_day σ τ2 := by
          refine ⟨hF2.1.trans hF1.1, hF2.2.1.trans hF1.2.1, fun a j hw => ?_⟩
          rw [hF2.2.2 a j (by unfold W_day at hw; unfold W_rem; omega)]
          show (if a = 55 ∧ j = 60 then _ else τ1.2.1 a j) = _
          rw [if_neg (by unfold W_day at hw; omega), hF1.2.2 a j (by unfold W_day at hw; unfold W_sel; omega)]
          show (if a = 96 then _ else σ.2.1 a j) = _
          rw [if_neg (by unfold W_day at hw; omega)]
        have e96 : ∀ k, τ2.2.1 96 k = bgN σ k := fun k => (hF2.2.2 96 k (by unfold W_rem; omega)).trans (hF1.2.2 96 k (by unfold W_sel; omega))
        have L112 : ∀ (n112 : Nat) (i : Nat) (S : am_H), pN σ - i < n112 → i ≤ pN σ → frw W_day σ S → (∀ k, S.2.1 96 k = if 4 ≤ k ∧ k < 4 + i then agD σ (k - 4) else bsN σ k) → S.2.1 55 60 = sfD σ → S.2.1 55 61 = thD σ → S.2.1 55 62 = fsD σ → (0 ≤ S.2.1 55 59 ∧ S.2.1 55 59 ≤ 99) → am_wp M_X10_dayGoes Q 0 0 112 [(1, am_i ((i : Int))), (0, am_r 55)] [] S := by
          intro n112
          induction n112 with
          | zero => intro i S hn112; exact absurd hn112 (Nat.not_lt_zero _)
          | succ n112 ih112 =>
            intro i S hn112 hi hF h96 h60 h61 h62 h59
            have hLS : lay S := hF.L hL
            have e4 : ((4 : Int) + (i : Int)).toNat = 4 + i := by omega
            have hfs := fsD_01 σ
            have h96n : ∀ v, v = agD σ i → ∀ k, (am_setN S 96 (Int.toNat (4 + (i : Int))) v).2.1 96 k = if 4 ≤ k ∧ k < 4 + (i + 1) then agD σ (k - 4) else bsN σ k := by
              intro v hv k
              show (if 96 = 96 ∧ k = Int.toNat (4 + (i : Int)) then v else S.2.1 96 k) = _
              rw [e4]
              by_cases hk : k = 4 + i
              · rw [if_pos ⟨rfl, hk⟩, if_pos (by omega), hv, hk, show 4 + i - 4 = i by omega]
              · rw [if_neg (fun hc => hk hc.2), h96 k]
                by_cases hk2 : 4 ≤ k ∧ k < 4 + i
                · rw [if_pos hk2, if_pos (by omega)]
                · rw [if_neg hk2, if_neg (by omega)]
            refine am_iload_n (q := 113) rfl (am_tab tk_X10_dayGoes 65 rfl) rfl ?_
            refine am_aload_n (q := 114) rfl (am_tab tk_X10_dayGoes 66 rfl) rfl ?_
            refine am_callV0 (q := 117) (me2 := M_X10_peopleMany) (b := 55) (kb := 10) (nb := 108) (As := []) (rest := [am_i ((i : Int))]) (out := [am_i (S.2.1 85 5), am_i ((i : Int))]) (c_X10_peopleMany S hLS  ) ⟨rfl, rfl⟩ (Ls_55 hLS) (by decide) ⟨Or.inl km_X10_394, kc_X10_peopleMany, kn_X10, kd_X10_peopleMany, ⟨(Nat.le_of_ble_eq_true rfl), (Nat.le_of_ble_eq_true rfl)⟩, ⟨(Nat.le_of_ble_eq_true rfl), (Nat.le_of_ble_eq_true rfl)⟩, (Nat.le_of_ble_eq_true rfl)⟩ ki_X10_peopleMany ks_X10_peopleMany rfl rfl (am_tab tk_X10_dayGoes 67 rfl) rfl ?_
            refine am_st (st2 := [am_i ((σ.2.1 85 5)), am_i ((i : Int))]) (by simp only [(show S.2.1 85 5 = σ.2.1 85 5 from (hF.2.2 85 5 (by unfold W_day; omega)))]) ?_
            refine am_icmp_ge (q := 120) (t := 189) (am_tab tk_X10_dayGoes 68 rfl) (by decide) rfl (fun h117 => ?_) (fun h117 => ?_)
            · refine am_aload_n (q := 190) rfl (am_tab tk_X10_dayGoes 108 rfl) rfl ?_
              refine am_getR (q := 193) (a := 55) (k := 10) (n := 108) (j := 54) (r := some (96)) (Ls_55 hLS) (by decide) rfl (Lr_55_54 hLS) (by decide) (Or.inl kf_X10_136) (am_tab tk_X10_dayGoes 109 rfl) rfl ?_
              refine am_bipush (q := 195) (n := 111) (by decide) rfl (am_tab tk_X10_dayGoes 110 rfl) rfl ?_
              refine am_aload_n (q := 196) rfl (am_tab tk_X10_dayGoes 111 rfl) rfl ?_
              refine am_getR (q := 199) (a := 55) (k := 10) (n := 108) (j := 54) (r := some (96)) (Ls_55 hLS) (by decide) rfl (Lr_55_54 hLS) (by decide) (Or.inl kf_X10_136) (am_tab tk_X10_dayGoes 112 rfl) rfl ?_
              refine am_iconst (q := 200) (n := 1) (by decide) (am_tab tk_X10_dayGoes 113 rfl) rfl ?_
              refine am_iald (q := 201) (a := 96) (n := 443) (x := (bgN σ 1)) (Ls_96 hLS) (by omega) (by omega) (h96 1) (am_tab tk_X10_dayGoes 114 rfl) rfl ?_
              refine am_iadd (q := 202) (by omega) (am_tab tk_X10_dayGoes 115 rfl) rfl ?_
              refine am_iconst (q := 203) (n := 0) (by decide) (am_tab tk_X10_dayGoes 116 rfl) rfl ?_
              refine am_iast (q := 204) (a := 96) (n := 443) (Ls_96 hLS) (by omega) (by omega) (am_tab tk_X10_dayGoes 117 rfl) rfl ?_
              refine am_aload_n (q := 205) rfl (am_tab tk_X10_dayGoes 118 rfl) rfl ?_
              have hnoS : ∀ k, ((am_setN S 96 (Int.toNat (111 + (bgN σ 1))) 0)).2.1 96 k = noD σ k := by
                intro k
                show (if 96 = 96 ∧ k = Int.toNat (111 + (bgN σ 1)) then 0 else S.2.1 96 k) = noD σ k
                unfold noD
                rw [show Int.toNat (111 + bgN σ 1) = 111 + (bgN σ 1).toNat by omega, h96 k, show i = pN σ by omega]
                by_cases hk : k = 111 + (bgN σ 1).toNat
                · rw [if_pos ⟨rfl, hk⟩, if_pos hk]
                · rw [if_neg (fun hc => hk hc.2), if_neg hk]
              have hRn : MR (am_setN S 96 (Int.toNat (111 + (bgN σ 1))) 0) := hG.R.up (f := noD σ) (cn_eq (fun a j h1 h2 => by
                  by_cases ha : a = 96
                  · subst ha; exact hnoS j
                  · show (if a = 96 ∧ _ then _ else S.2.1 a j) = (if a = 96 then _ else σ.2.1 a j)
                    rw [if_neg (fun hc => ha hc.1), if_neg ha]; exact hF.2.2 a j (by unfold W_day; omega))) (hF.2.2 55 52 (by unfold W_day; omega)) (noD_MN hG.R hc)
              refine am_callV0 (q := 208) (me2 := M_X10_isKept) (b := 55) (kb := 10) (nb := 108) (As := []) (rest := []) (out := []) (c_X10_isKept (am_setN S 96 (Int.toNat (111 + (bgN σ 1))) 0) hLS hRn (by show 0 ≤ S.2.1 55 61 ∧ S.2.1 55 61 < 256; rw [h61]; exact hth)) ⟨rfl, rfl⟩ (Ls_55 hLS) (by decide) ⟨Or.inl km_X10_470, kc_X10_isKept, kn_X10, kd_X10_isKept, ⟨(Nat.le_of_ble_eq_true rfl), (Nat.le_of_ble_eq_true rfl)⟩, ⟨(Nat.le_of_ble_eq_true rfl), (Nat.le_of_ble_eq_true rfl)⟩, (Nat.le_of_ble_eq_true rfl)⟩ ki_X10_isKept ks_X10_isKept rfl rfl (am_tab tk_X10_dayGoes 119 rfl) rfl ?_
              refine am_vret rfl (Nat.le_of_ble_eq_true rfl) (Nat.le_of_ble_eq_true rfl) (am_tab tk_X10_dayGoes 120 rfl) ?_
              refine hQ _ _ ?_
              have hno : (fun k => (am_setN S 96 (Int.toNat (111 + (bgN σ 1))) 0).2.1 96 k) = noD σ := by
                funext k
                show (if 96 = 96 ∧ k = Int.toNat (111 + (bgN σ 1)) then 0 else S.2.1 96 k) = noD σ k
                unfold noD
                rw [show Int.toNat (111 + bgN σ 1) = 111 + (bgN σ 1).toNat by omega, h96 k, show i = pN σ by omega]
                by_cases hk : k = 111 + (bgN σ 1).toNat
                · rw [if_pos ⟨rfl, hk⟩, if_pos hk]
                · rw [if_neg (fun hc => hk hc.2), if_neg hk]
              refine ⟨rfl, (hF.setN (by unfold W_day; omega)).setA (fun j => by unfold W_day; omega), ?_, h60, h61, h62, h59⟩
              intro k
              show kpA (fun k => (am_setN S 96 (Int.toNat (111 + (bgN σ 1))) 0).2.1 96 k) ((fun k => (am_setN S 96 (Int.toNat (111 + (bgN σ 1))) 0).2.1 96 k) 0) ((fun k => (am_setN S 96 (Int.toNat (111 + (bgN σ 1))) 0).2.1 96 k) 1) (bc (S.2.1 55 61)) (if S.2.1 55 62 = 0 then 0 else 1) k = nwD σ k
              rw [hno, h61, h62, show (if fsD σ = 0 then (0 : Int) else 1) = fsD σ from by rcases fsD_01 σ with h | h <;> rw [h] <;> rfl]
              rfl
            · refine am_aload_n (q := 121) rfl (am_tab tk_X10_dayGoes 69 rfl) rfl ?_
              refine am_getI (q := 124) (a := 55) (k := 10) (n := 108) (j := 62) (x := (fsD σ)) (Ls_55 hLS) (by decide) rfl h62 (by decide) (Or.inl kf_X10_464) (am_tab tk_X10_dayGoes 70 rfl) rfl ?_
              refine am_if_ne (q := 127) (t := 139) (am_tab tk_X10_dayGoes 71 rfl) (by decide) rfl (fun h124 => ?_) (fun h124 => ?_)
              · refine am_iconst (q := 140) (n := 1) (by decide) (am_tab tk_X10_dayGoes 80 rfl) rfl ?_
                refine am_goto (t := 144) (am_tab tk_X10_dayGoes 81 rfl) (by decide) ?_
                refine am_istore_n (q := 145) (by decide) (ls2 := [(2, am_i 1), (1, am_i ((i : Int))), (0, am_r 55)]) rfl (am_tab tk_X10_dayGoes 83 rfl) rfl ?_
                refine am_aload_n (q := 146) rfl (am_tab tk_X10_dayGoes 84 rfl) rfl ?_
                refine am_getR (q := 149) (a := 55) (k := 10) (n := 108) (j := 54) (r := some (96)) (Ls_55 hLS) (by decide) rfl (Lr_55_54 hLS) (by decide) (Or.inl kf_X10_136) (am_tab tk_X10_dayGoes 85 rfl) rfl ?_
                refine am_iconst (q := 150) (n := 4) (by decide) (am_tab tk_X10_dayGoes 86 rfl) rfl ?_
                refine am_iload_n (q := 151) rfl (am_tab tk_X10_dayGoes 87 rfl) rfl ?_
                refine am_iadd (q := 152) (by omega) (am_tab tk_X10_dayGoes 88 rfl) rfl ?_
                refine am_iload_n (q := 153) rfl (am_tab tk_X10_dayGoes 89 rfl) rfl ?_
                refine am_if_eq (q := 156) (t := 160) (am_tab tk_X10_dayGoes 90 rfl) (by decide) rfl (fun h153 => ?_) (fun h153 => ?_)
                · exact absurd h153 (by decide)
                · refine am_iconst (q := 157) (n := 0) (by decide) (am_tab tk_X10_dayGoes 91 rfl) rfl ?_
                  refine am_goto (t := 182) (am_tab tk_X10_dayGoes 92 rfl) (by decide) ?_
                  refine am_iast (q := 183) (a := 96) (n := 443) (Ls_96 hLS) (by omega) (by omega) (am_tab tk_X10_dayGoes 105 rfl) rfl ?_
                  refine am_iinc (q := 186) rfl (by omega) (by decide) (ls2 := [(1, am_i (((i : Int) + 1))), (2, am_i 1), (0, am_r 55)]) rfl (am_tab tk_X10_dayGoes 106 rfl) rfl ?_
                  refine am_goto (t := 112) (am_tab tk_X10_dayGoes 107 rfl) (by decide) ?_
                  have hag : 0 = agD σ i := by
                    unfold agD
                    try rw [tb_eq hth ⟨by omega, by omega⟩] at h136
                    first
                      | rw [if_pos (Or.inl (by omega))]
                      | rw [if_pos (Or.inr (by assumption))]
                      | (rw [if_neg (by intro hc; rcases hc with hc | hc <;> omega)]; first | rw [if_pos (by omega)] | rw [if_neg (by omega)])
                  exact am_less (by intro q hq; simp only [List.mem_cons, List.not_mem_nil, or_false] at hq; rcases hq with rfl | rfl <;> simp) (ih112 (i + 1) (am_setN S 96 (Int.toNat (4 + (i : Int))) 0) (by omega) (by omega) (hF.setN (by unfold W_day; omega)) (h96n _ hag) h60 h61 h62 h59)
              · refine am_aload_n (q := 128) rfl (am_tab tk_X10_dayGoes 72 rfl) rfl ?_
                refine am_getI (q := 131) (a := 55) (k := 10) (n := 108) (j := 61) (x := (thD σ)) (Ls_55 hLS) (by decide) rfl h61 (by decide) (Or.inl kf_X10_461) (am_tab tk_X10_dayGoes 73 rfl) rfl ?_
                refine am_iload_n (q := 132) rfl (am_tab tk_X10_dayGoes 74 rfl) rfl ?_
                refine am_ishr (q := 133) (am_tab tk_X10_dayGoes 75 rfl) rfl ?_
                refine am_iconst (q := 134) (n := 1) (by decide) (am_tab tk_X10_dayGoes 76 rfl) rfl ?_
                refine am_iand (q := 135) (am_tab tk_X10_dayGoes 77 rfl) rfl ?_
                refine am_iconst (q := 136) (n := 1) (by decide) (am_tab tk_X10_dayGoes 78 rfl) rfl ?_
                refine am_icmp_ne (q := 139) (t := 143) (am_tab tk_X10_dayGoes 79 rfl) (by decide) rfl (fun h136 => ?_) (fun h136 => ?_)
                · refine am_iconst (q := 144) (n := 0) (by decide) (am_tab tk_X10_dayGoes 82 rfl) rfl ?_
                  refine am_istore_n (q := 145) (by decide) (ls2 := [(2, am_i 0), (1, am_i ((i : Int))), (0, am_r 55)]) rfl (am_tab tk_X10_dayGoes 83 rfl) rfl ?_
                  refine am_aload_n (q := 146) rfl (am_tab tk_X10_dayGoes 84 rfl) rfl ?_
                  refine am_getR (q := 149) (a := 55) (k := 10) (n := 108) (j := 54) (r := some (96)) (Ls_55 hLS) (by decide) rfl (Lr_55_54 hLS) (by decide) (Or.inl kf_X10_136) (am_tab tk_X10_dayGoes 85 rfl) rfl ?_
                  refine am_iconst (q := 150) (n := 4) (by decide) (am_tab tk_X10_dayGoes 86 rfl) rfl ?_
                  refine am_iload_n (q := 151) rfl (am_tab tk_X10_dayGoes 87 rfl) rfl ?_
                  refine am_iadd (q := 152) (by omega) (am_tab tk_X10_dayGoes 88 rfl) rfl ?_
                  refine am_iload_n (q := 153) rfl (am_tab tk_X10_dayGoes 89 rfl) rfl ?_
                  refine am_if_eq (q := 156) (t := 160) (am_tab tk_X10_dayGoes 90 rfl) (by decide) rfl (fun h153 => ?_) (fun h153 => ?_)
                  · refine am_aload_n (q := 161) rfl (am_tab tk_X10_dayGoes 93 rfl) rfl ?_
                    refine am_iload_n (q := 162) rfl (am_tab tk_X10_dayGoes 94 rfl) rfl ?_
                    refine am_callV0 (q := 165) (me2 := M_X10_agoOf) (b := 55) (kb := 10) (nb := 108) (As := [am_i ((i : Int))]) (rest := [am_i ((4 + (i : Int))), am_r 96]) (out := [am_i (S.2.1 96 (4 + (i : Int)).toNat), am_i ((4 + (i : Int))), am_r 96]) (c_X10_agoOf S hLS (i : Int) (by omega)) ⟨rfl, rfl⟩ (Ls_55 hLS) (by decide) ⟨Or.inl km_X10_467, kc_X10_agoOf, kn_X10, kd_X10_agoOf, ⟨(Nat.le_of_ble_eq_true rfl), (Nat.le_of_ble_eq_true rfl)⟩, ⟨(Nat.le_of_ble_eq_true rfl), (Nat.le_of_ble_eq_true rfl)⟩, (Nat.le_of_ble_eq_true rfl)⟩ ki_X10_agoOf ks_X10_agoOf rfl rfl (am_tab tk_X10_dayGoes 95 rfl) rfl ?_
                    refine am_st (st2 := [am_i ((bgN σ (4 + i))), am_i ((4 + (i : Int))), am_r 96]) (by simp only [(show S.2.1 96 (4 + (i : Int)).toNat = (bgN σ (4 + i)) from (by rw [e4, h96 (4 + i), if_neg (by omega)]; unfold bsN; rw [if_neg (by omega)]))]) ?_
                    refine am_bipush (q := 167) (n := 99) (by decide) rfl (am_tab tk_X10_dayGoes 96 rfl) rfl ?_
                    refine am_icmp_ge (q := 170) (t := 180) (am_tab tk_X10_dayGoes 97 rfl) (by decide) rfl (fun h167 => ?_) (fun h167 => ?_)
                    · refine am_bipush (q := 182) (n := 99) (by decide) rfl (am_tab tk_X10_dayGoes 104 rfl) rfl ?_
                      refine am_iast (q := 183) (a := 96) (n := 443) (Ls_96 hLS) (by omega) (by omega) (am_tab tk_X10_dayGoes 105 rfl) rfl ?_
                      refine am_iinc (q := 186) rfl (by omega) (by decide) (ls2 := [(1, am_i (((i : Int) + 1))), (2, am_i 0), (0, am_r 55)]) rfl (am_tab tk_X10_dayGoes 106 rfl) rfl ?_
                      refine am_goto (t := 112) (am_tab tk_X10_dayGoes 107 rfl) (by decide) ?_
                      have hag : 99 = agD σ i := by
                        unfold agD
                        try rw [tb_eq hth ⟨by omega, by omega⟩] at h136
                        first
                          | rw [if_pos (Or.inl (by omega))]
                          | rw [if_pos (Or.inr (by assumption))]
                          | (rw [if_neg (by intro hc; rcases hc with hc | hc <;> omega)]; first | rw [if_pos (by omega)] | rw [if_neg (by omega)])
                      exact am_less (by intro q hq; simp only [List.mem_cons, List.not_mem_nil, or_false] at hq; rcases hq with rfl | rfl <;> simp) (ih112 (i + 1) (am_setN S 96 (Int.toNat (4 + (i : Int))) 99) (by omega) (by omega) (hF.setN (by unfold W_day; omega)) (h96n _ hag) h60 h61 h62 h59)
                    · refine am_aload_n (q := 171) rfl (am_tab tk_X10_dayGoes 98 rfl) rfl ?_
                      refine am_iload_n (q := 172) rfl (am_tab tk_X10_dayGoes 99 rfl) rfl ?_
                      refine am_callV0 (q := 175) (me2 := M_X10_agoOf) (b := 55) (kb := 10) (nb := 108) (As := [am_i ((i : Int))]) (rest := [am_i ((4 + (i : Int))), am_r 96]) (out := [am_i (S.2.1 96 (4 + (i : Int)).toNat), am_i ((4 + (i : Int))), am_r 96]) (c_X10_agoOf S hLS (i : Int) (by omega)) ⟨rfl, rfl⟩ (Ls_55 hLS) (by decide) ⟨Or.inl km_X10_467, kc_X10_agoOf, kn_X10, kd_X10_agoOf, ⟨(Nat.le_of_ble_eq_true rfl), (Nat.le_of_ble_eq_true rfl)⟩, ⟨(Nat.le_of_ble_eq_true rfl), (Nat.le_of_ble_eq_true rfl)⟩, (Nat.le_of_ble_eq_true rfl)⟩ ki_X10_agoOf ks_X10_agoOf rfl rfl (am_tab tk_X10_dayGoes 100 rfl) rfl ?_
                      refine am_st (st2 := [am_i ((bgN σ (4 + i))), am_i ((4 + (i : Int))), am_r 96]) (by simp only [(show S.2.1 96 (4 + (i : Int)).toNat = (bgN σ (4 + i)) from (by rw [e4, h96 (4 + i), if_neg (by omega)]; unfold bsN; rw [if_neg (by omega)]))]) ?_
                      refine am_iconst (q := 176) (n := 1) (by decide) (am_tab tk_X10_dayGoes 101 rfl) rfl ?_
                      refine am_iadd (q := 177) (by have := hag i (by omega); omega) (am_tab tk_X10_dayGoes 102 rfl) rfl ?_
                      refine am_goto (t := 182) (am_tab tk_X10_dayGoes 103 rfl) (by decide) ?_
                      refine am_iast (q := 183) (a := 96) (n := 443) (Ls_96 hLS) (by omega) (by omega) (am_tab tk_X10_dayGoes 105 rfl) rfl ?_
                      refine am_iinc (q := 186) rfl (by omega) (by decide) (ls2 := [(1, am_i (((i : Int) + 1))), (2, am_i 0), (0, am_r 55)]) rfl (am_tab tk_X10_dayGoes 106 rfl) rfl ?_
                      refine am_goto (t := 112) (am_tab tk_X10_dayGoes 107 rfl) (by decide) ?_
                      have hag : ((bgN σ (4 + i)) + 1) = agD σ i := by
                        unfold agD
                        try rw [tb_eq hth ⟨by omega, by omega⟩] at h136
                        first
                          | rw [if_pos (Or.inl (by omega))]
                          | rw [if_pos (Or.inr (by assumption))]
                          | (rw [if_neg (by intro hc; rcases hc with hc | hc <;> omega)]; first | rw [if_pos (by omega)] | rw [if_neg (by omega)])
                      exact am_less (by intro q hq; simp only [List.mem_cons, List.not_mem_nil, or_false] at hq; rcases hq with rfl | rfl <;> simp) (ih112 (i + 1) (am_setN S 96 (Int.toNat (4 + (i : Int))) ((bgN σ (4 + i)) + 1)) (by omega) (by omega) (hF.setN (by unfold W_day; omega)) (h96n _ hag) h60 h61 h62 h59)
                  · exact absurd h153 (by decide)
                · refine am_iconst (q := 140) (n := 1) (by decide) (am_tab tk_X10_dayGoes 80 rfl) rfl ?_
                  refine am_goto (t := 144) (am_tab tk_X10_dayGoes 81 rfl) (by decide) ?_
                  refine am_istore_n (q := 145) (by decide) (ls2 := [(2, am_i 1), (1, am_i ((i : Int))), (0, am_r 55)]) rfl (am_tab tk_X10_dayGoes 83 rfl) rfl ?_
                  refine am_aload_n (q := 146) rfl (am_tab tk_X10_dayGoes 84 rfl) rfl ?_
                  refine am_getR (q := 149) (a := 55) (k := 10) (n := 108) (j := 54) (r := some (96)) (Ls_55 hLS) (by decide) rfl (Lr_55_54 hLS) (by decide) (Or.inl kf_X10_136) (am_tab tk_X10_dayGoes 85 rfl) rfl ?_
                  refine am_iconst (q := 150) (n := 4) (by decide) (am_tab tk_X10_dayGoes 86 rfl) rfl ?_
                  refine am_iload_n (q := 151) rfl (am_tab tk_X10_dayGoes 87 rfl) rfl ?_
                  refine am_iadd (q := 152) (by omega) (am_tab tk_X10_dayGoes 88 rfl) rfl ?_
                  refine am_iload_n (q := 153) rfl (am_tab tk_X10_dayGoes 89 rfl) rfl ?_
                  refine am_if_eq (q := 156) (t := 160) (am_tab tk_X10_dayGoes 90 rfl) (by decide) rfl (fun h153 => ?_) (fun h153 => ?_)
                  · exact absurd h153 (by decide)
                  · refine am_iconst (q := 157) (n := 0) (by decide) (am_tab tk_X10_dayGoes 91 rfl) rfl ?_
                    refine am_goto (t := 182) (am_tab tk_X10_dayGoes 92 rfl) (by decide) ?_
                    refine am_iast (q := 183) (a := 96) (n := 443) (Ls_96 hLS) (by omega) (by omega) (am_tab tk_X10_dayGoes 105 rfl) rfl ?_
                    refine am_iinc (q := 186) rfl (by omega) (by decide) (ls2 := [(1, am_i (((i : Int) + 1))), (2, am_i 1), (0, am_r 55)]) rfl (am_tab tk_X10_dayGoes 106 rfl) rfl ?_
                    refine am_goto (t := 112) (am_tab tk_X10_dayGoes 107 rfl) (by decide) ?_
                    have hag : 0 = agD σ i := by
                      unfold agD
                      try rw [tb_eq hth ⟨by omega, by omega⟩] at h136
                      first
                        | rw [if_pos (Or.inl (by omega))]
                        | rw [if_pos (Or.inr (by assumption))]
                        | (rw [if_neg (by intro hc; rcases hc with hc | hc <;> omega)]; first | rw [if_pos (by omega)] | rw [if_neg (by omega)])
                    exact am_less (by intro q hq; simp only [List.mem_cons, List.not_mem_nil, or_false] at hq; rcases hq with rfl | rfl <;> simp) (ih112 (i + 1) (am_setN S 96 (Int.toNat (4 + (i : Int))) 0) (by omega) (by omega) (hF.setN (by unfold W_day; omega)) (h96n _ hag) h60 h61 h62 h59)
        have hfd : fsD σ = 0 := by unfold fsD; rw [if_neg (by omega)]
        have h96i : ∀ k, ((am_setN (am_setN τ2 55 61 (thD σ)) 55 62 0)).2.1 96 k = if 4 ≤ k ∧ k < 4 + 0 then agD σ (k - 4) else bsN σ k := by
          intro k
          rw [if_neg (by omega)]
          unfold bsN
          rw [hfd]
          by_cases hk : k = 2
          · subst hk; simp; exact e96 2
          · rw [if_neg hk]; exact e96 k
        refine am_less (by intro q hq; simp only [List.mem_cons, List.not_mem_nil, or_false] at hq; rcases hq with rfl | rfl <;> simp) (L112 (_ + 1) 0 (am_setN (am_setN τ2 55 61 (thD σ)) 55 62 0) (by exact Nat.lt_succ_self _) (by omega) (by repeat (first | exact hFd | refine frw.setN ?_ (by unfold W_day; omega))) h96i (hF2.2.2 55 60 (by unfold W_rem; omega)) rfl hfd.symm e59)
      · exact absurd h95 (by decide)
    · refine am_iconst (q := 84) (n := 1) (by decide) (am_tab tk_X10_dayGoes 48 rfl) rfl ?_
      refine am_goto (t := 88) (am_tab tk_X10_dayGoes 49 rfl) (by decide) ?_
      refine am_putZ (q := 91) (k := 10) (n := 108) (j := 62) (Ls_55 hL2) (by decide) rfl (by first | exact Or.inl rfl | exact Or.inr rfl | omega) (by decide) (Or.inl ⟨kf_X10_464, rfl⟩) (am_tab tk_X10_dayGoes 51 rfl) rfl ?_
      refine am_aload_n (q := 92) rfl (am_tab tk_X10_dayGoes 52 rfl) rfl ?_
      refine am_getI (q := 95) (a := 55) (k := 10) (n := 108) (j := 62) (x := 1) (Ls_55 hL2) (by decide) rfl rfl (by decide) (Or.inl kf_X10_464) (am_tab tk_X10_dayGoes 53 rfl) rfl ?_
      refine am_if_eq (q := 98) (t := 110) (am_tab tk_X10_dayGoes 54 rfl) (by decide) rfl (fun h95 => ?_) (fun h95 => ?_)
      · exact absurd h95 (by decide)
      · refine am_aload_n (q := 99) rfl (am_tab tk_X10_dayGoes 55 rfl) rfl ?_
        refine am_getR (q := 102) (a := 55) (k := 10) (n := 108) (j := 54) (r := some (96)) (Ls_55 hL2) (by decide) rfl (Lr_55_54 hL2) (by decide) (Or.inl kf_X10_136) (am_tab tk_X10_dayGoes 56 rfl) rfl ?_
        refine am_iconst (q := 103) (n := 2) (by decide) (am_tab tk_X10_dayGoes 57 rfl) rfl ?_
        refine am_aload_n (q := 104) rfl (am_tab tk_X10_dayGoes 58 rfl) rfl ?_
        refine am_getR (q := 107) (a := 55) (k := 10) (n := 108) (j := 54) (r := some (96)) (Ls_55 hL2) (by decide) rfl (Lr_55_54 hL2) (by decide) (Or.inl kf_X10_136) (am_tab tk_X10_dayGoes 59 rfl) rfl ?_
        refine am_iconst (q := 108) (n := 1) (by decide) (am_tab tk_X10_dayGoes 60 rfl) rfl ?_
        refine am_iald (q := 109) (a := 96) (n := 443) (x := (bgN σ 1)) (Ls_96 hL2) (by omega) (by omega) (Eq.trans (hF2.2.2 96 1 (by unfold W_rem; omega)) (hF1.2.2 96 1 (by unfold W_sel; omega))) (am_tab tk_X10_dayGoes 61 rfl) rfl ?_
        refine am_iast (q := 110) (a := 96) (n := 443) (Ls_96 hL2) (by omega) (by omega) (am_tab tk_X10_dayGoes 62 rfl) rfl ?_
        refine am_iconst (q := 111) (n := 0) (by decide) (am_tab tk_X10_dayGoes 63 rfl) rfl ?_
        refine am_istore_n (q := 112) (by decide) (ls2 := [(1, am_i 0), (0, am_r 55)]) rfl (am_tab tk_X10_dayGoes 64 rfl) rfl ?_
        have hFd : frw W_day σ τ2 := by
          refine ⟨hF2.1.trans hF1.1, hF2.2.1.trans hF1.2.1, fun a j hw => ?_⟩
          rw [hF2.2.2 a j (by unfold W_day at hw; unfold W_rem; omega)]
          show (if a = 55 ∧ j = 60 then _ else τ1.2.1 a j) = _
          rw [if_neg (by unfold W_day at hw; omega), hF1.2.2 a j (by unfold W_day at hw; unfold W_sel; omega)]
          show (if a = 96 then _ else σ.2.1 a j) = _
          rw [if_neg (by unfold W_day at hw; omega)]
        have e96 : ∀ k, τ2.2.1 96 k = bgN σ k := fun k => (hF2.2.2 96 k (by unfold W_rem; omega)).trans (hF1.2.2 96 k (by unfold W_sel; omega))
        have L112 : ∀ (n112 : Nat) (i : Nat) (S : am_H), pN σ - i < n112 → i ≤ pN σ → frw W_day σ S → (∀ k, S.2.1 96 k = if 4 ≤ k ∧ k < 4 + i then agD σ (k - 4) else bsN σ k) → S.2.1 55 60 = sfD σ → S.2.1 55 61 = thD σ → S.2.1 55 62 = fsD σ → (0 ≤ S.2.1 55 59 ∧ S.2.1 55 59 ≤ 99) → am_wp M_X10_dayGoes Q 0 0 112 [(1, am_i ((i : Int))), (0, am_r 55)] [] S := by
          intro n112
          induction n112 with
          | zero => intro i S hn112; exact absurd hn112 (Nat.not_lt_zero _)
          | succ n112 ih112 =>
            intro i S hn112 hi hF h96 h60 h61 h62 h59
            have hLS : lay S := hF.L hL
            have e4 : ((4 : Int) + (i : Int)).toNat = 4 + i := by omega
            have hfs := fsD_01 σ
            have h96n : ∀ v, v = agD σ i → ∀ k, (am_setN S 96 (Int.toNat (4 + (i : Int))) v).2.1 96 k = if 4 ≤ k ∧ k < 4 + (i + 1) then agD σ (k - 4) else bsN σ k := by
              intro v hv k
              show (if 96 = 96 ∧ k = Int.toNat (4 + (i : Int)) then v else S.2.1 96 k) = _
              rw [e4]
              by_cases hk : k = 4 + i
              · rw [if_pos ⟨rfl, hk⟩, if_pos (by omega), hv, hk, show 4 + i - 4 = i by omega]
              · rw [if_neg (fun hc => hk hc.2), h96 k]
                by_cases hk2 : 4 ≤ k ∧ k < 4 + i
                · rw [if_pos hk2, if_pos (by omega)]
                · rw [if_neg hk2, if_neg (by omega)]
            refine am_iload_n (q := 113) rfl (am_tab tk_X10_dayGoes 65 rfl) rfl ?_
            refine am_aload_n (q := 114) rfl (am_tab tk_X10_dayGoes 66 rfl) rfl ?_
            refine am_callV0 (q := 117) (me2 := M_X10_peopleMany) (b := 55) (kb := 10) (nb := 108) (As := []) (rest := [am_i ((i : Int))]) (out := [am_i (S.2.1 85 5), am_i ((i : Int))]) (c_X10_peopleMany S hLS  ) ⟨rfl, rfl⟩ (Ls_55 hLS) (by decide) ⟨Or.inl km_X10_394, kc_X10_peopleMany, kn_X10, kd_X10_peopleMany, ⟨(Nat.le_of_ble_eq_true rfl), (Nat.le_of_ble_eq_true rfl)⟩, ⟨(Nat.le_of_ble_eq_true rfl), (Nat.le_of_ble_eq_true rfl)⟩, (Nat.le_of_ble_eq_true rfl)⟩ ki_X10_peopleMany ks_X10_peopleMany rfl rfl (am_tab tk_X10_dayGoes 67 rfl) rfl ?_
            refine am_st (st2 := [am_i ((σ.2.1 85 5)), am_i ((i : Int))]) (by simp only [(show S.2.1 85 5 = σ.2.1 85 5 from (hF.2.2 85 5 (by unfold W_day; omega)))]) ?_
            refine am_icmp_ge (q := 120) (t := 189) (am_tab tk_X10_dayGoes 68 rfl) (by decide) rfl (fun h117 => ?_) (fun h117 => ?_)
            · refine am_aload_n (q := 190) rfl (am_tab tk_X10_dayGoes 108 rfl) rfl ?_
              refine am_getR (q := 193) (a := 55) (k := 10) (n := 108) (j := 54) (r := some (96)) (Ls_55 hLS) (by decide) rfl (Lr_55_54 hLS) (by decide) (Or.inl kf_X10_136) (am_tab tk_X10_dayGoes 109 rfl) rfl ?_
              refine am_bipush (q := 195) (n := 111) (by decide) rfl (am_tab tk_X10_dayGoes 110 rfl) rfl ?_
              refine am_aload_n (q := 196) rfl (am_tab tk_X10_dayGoes 111 rfl) rfl ?_
              refine am_getR (q := 199) (a := 55) (k := 10) (n := 108) (j := 54) (r := some (96)) (Ls_55 hLS) (by decide) rfl (Lr_55_54 hLS) (by decide) (Or.inl kf_X10_136) (am_tab tk_X10_dayGoes 112 rfl) rfl ?_
              refine am_iconst (q := 200) (n := 1) (by decide) (am_tab tk_X10_dayGoes 113 rfl) rfl ?_
              refine am_iald (q := 201) (a := 96) (n := 443) (x := (bgN σ 1)) (Ls_96 hLS) (by omega) (by omega) (h96 1) (am_tab tk_X10_dayGoes 114 rfl) rfl ?_
              refine am_iadd (q := 202) (by omega) (am_tab tk_X10_dayGoes 115 rfl) rfl ?_
              refine am_iconst (q := 203) (n := 0) (by decide) (am_tab tk_X10_dayGoes 116 rfl) rfl ?_
              refine am_iast (q := 204) (a := 96) (n := 443) (Ls_96 hLS) (by omega) (by omega) (am_tab tk_X10_dayGoes 117 rfl) rfl ?_
              refine am_aload_n (q := 205) rfl (am_tab tk_X10_dayGoes 118 rfl) rfl ?_
              have hnoS : ∀ k, ((am_setN S 96 (Int.toNat (111 + (bgN σ 1))) 0)).2.1 96 k = noD σ k := by
                intro k
                show (if 96 = 96 ∧ k = Int.toNat (111 + (bgN σ 1)) then 0 else S.2.1 96 k) = noD σ k
                unfold noD
                rw [show Int.toNat (111 + bgN σ 1) = 111 + (bgN σ 1).toNat by omega, h96 k, show i = pN σ by omega]
                by_cases hk : k = 111 + (bgN σ 1).toNat
                · rw [if_pos ⟨rfl, hk⟩, if_pos hk]
                · rw [if_neg (fun hc => hk hc.2), if_neg hk]
              have hRn : MR (am_setN S 96 (Int.toNat (111 + (bgN σ 1))) 0) := hG.R.up (f := noD σ) (cn_eq (fun a j h1 h2 => by
                  by_cases ha : a = 96
                  · subst ha; exact hnoS j
                  · show (if a = 96 ∧ _ then _ else S.2.1 a j) = (if a = 96 then _ else σ.2.1 a j)
                    rw [if_neg (fun hc => ha hc.1), if_neg ha]; exact hF.2.2 a j (by unfold W_day; omega))) (hF.2.2 55 52 (by unfold W_day; omega)) (noD_MN hG.R hc)
              refine am_callV0 (q := 208) (me2 := M_X10_isKept) (b := 55) (kb := 10) (nb := 108) (As := []) (rest := []) (out := []) (c_X10_isKept (am_setN S 96 (Int.toNat (111 + (bgN σ 1))) 0) hLS hRn (by show 0 ≤ S.2.1 55 61 ∧ S.2.1 55 61 < 256; rw [h61]; exact hth)) ⟨rfl, rfl⟩ (Ls_55 hLS) (by decide) ⟨Or.inl km_X10_470, kc_X10_isKept, kn_X10, kd_X10_isKept, ⟨(Nat.le_of_ble_eq_true rfl), (Nat.le_of_ble_eq_true rfl)⟩, ⟨(Nat.le_of_ble_eq_true rfl), (Nat.le_of_ble_eq_true rfl)⟩, (Nat.le_of_ble_eq_true rfl)⟩ ki_X10_isKept ks_X10_isKept rfl rfl (am_tab tk_X10_dayGoes 119 rfl) rfl ?_
              refine am_vret rfl (Nat.le_of_ble_eq_true rfl) (Nat.le_of_ble_eq_true rfl) (am_tab tk_X10_dayGoes 120 rfl) ?_
              refine hQ _ _ ?_
              have hno : (fun k => (am_setN S 96 (Int.toNat (111 + (bgN σ 1))) 0).2.1 96 k) = noD σ := by
                funext k
                show (if 96 = 96 ∧ k = Int.toNat (111 + (bgN σ 1)) then 0 else S.2.1 96 k) = noD σ k
                unfold noD
                rw [show Int.toNat (111 + bgN σ 1) = 111 + (bgN σ 1).toNat by omega, h96 k, show i = pN σ by omega]
                by_cases hk : k = 111 + (bgN σ 1).toNat
                · rw [if_pos ⟨rfl, hk⟩, if_pos hk]
                · rw [if_neg (fun hc => hk hc.2), if_neg hk]
              refine ⟨rfl, (hF.setN (by unfold W_day; omega)).setA (fun j => by unfold W_day; omega), ?_, h60, h61, h62, h59⟩
              intro k
              show kpA (fun k => (am_setN S 96 (Int.toNat (111 + (bgN σ 1))) 0).2.1 96 k) ((fun k => (am_setN S 96 (Int.toNat (111 + (bgN σ 1))) 0).2.1 96 k) 0) ((fun k => (am_setN S 96 (Int.toNat (111 + (bgN σ 1))) 0).2.1 96 k) 1) (bc (S.2.1 55 61)) (if S.2.1 55 62 = 0 then 0 else 1) k = nwD σ k
              rw [hno, h61, h62, show (if fsD σ = 0 then (0 : Int) else 1) = fsD σ from by rcases fsD_01 σ with h | h <;> rw [h] <;> rfl]
              rfl
            · refine am_aload_n (q := 121) rfl (am_tab tk_X10_dayGoes 69 rfl) rfl ?_
              refine am_getI (q := 124) (a := 55) (k := 10) (n := 108) (j := 62) (x := (fsD σ)) (Ls_55 hLS) (by decide) rfl h62 (by decide) (Or.inl kf_X10_464) (am_tab tk_X10_dayGoes 70 rfl) rfl ?_
              refine am_if_ne (q := 127) (t := 139) (am_tab tk_X10_dayGoes 71 rfl) (by decide) rfl (fun h124 => ?_) (fun h124 => ?_)
              · refine am_iconst (q := 140) (n := 1) (by decide) (am_tab tk_X10_dayGoes 80 rfl) rfl ?_
                refine am_goto (t := 144) (am_tab tk_X10_dayGoes 81 rfl) (by decide) ?_
                refine am_istore_n (q := 145) (by decide) (ls2 := [(2, am_i 1), (1, am_i ((i : Int))), (0, am_r 55)]) rfl (am_tab tk_X10_dayGoes 83 rfl) rfl ?_
                refine am_aload_n (q := 146) rfl (am_tab tk_X10_dayGoes 84 rfl) rfl ?_
                refine am_getR (q := 149) (a := 55) (k := 10) (n := 108) (j := 54) (r := some (96)) (Ls_55 hLS) (by decide) rfl (Lr_55_54 hLS) (by decide) (Or.inl kf_X10_136) (am_tab tk_X10_dayGoes 85 rfl) rfl ?_
                refine am_iconst (q := 150) (n := 4) (by decide) (am_tab tk_X10_dayGoes 86 rfl) rfl ?_
                refine am_iload_n (q := 151) rfl (am_tab tk_X10_dayGoes 87 rfl) rfl ?_
                refine am_iadd (q := 152) (by omega) (am_tab tk_X10_dayGoes 88 rfl) rfl ?_
                refine am_iload_n (q := 153) rfl (am_tab tk_X10_dayGoes 89 rfl) rfl ?_
                refine am_if_eq (q := 156) (t := 160) (am_tab tk_X10_dayGoes 90 rfl) (by decide) rfl (fun h153 => ?_) (fun h153 => ?_)
                · exact absurd h153 (by decide)
                · refine am_iconst (q := 157) (n := 0) (by decide) (am_tab tk_X10_dayGoes 91 rfl) rfl ?_
                  refine am_goto (t := 182) (am_tab tk_X10_dayGoes 92 rfl) (by decide) ?_
                  refine am_iast (q := 183) (a := 96) (n := 443) (Ls_96 hLS) (by omega) (by omega) (am_tab tk_X10_dayGoes 105 rfl) rfl ?_
                  refine am_iinc (q := 186) rfl (by omega) (by decide) (ls2 := [(1, am_i (((i : Int) + 1))), (2, am_i 1), (0, am_r 55)]) rfl (am_tab tk_X10_dayGoes 106 rfl) rfl ?_
                  refine am_goto (t := 112) (am_tab tk_X10_dayGoes 107 rfl) (by decide) ?_
                  have hag : 0 = agD σ i := by
                    unfold agD
                    try rw [tb_eq hth ⟨by omega, by omega⟩] at h136
                    first
                      | rw [if_pos (Or.inl (by omega))]
                      | rw [if_pos (Or.inr (by assumption))]
                      | (rw [if_neg (by intro hc; rcases hc with hc | hc <;> omega)]; first | rw [if_pos (by omega)] | rw [if_neg (by omega)])
                  exact am_less (by intro q hq; simp only [List.mem_cons, List.not_mem_nil, or_false] at hq; rcases hq with rfl | rfl <;> simp) (ih112 (i + 1) (am_setN S 96 (Int.toNat (4 + (i : Int))) 0) (by omega) (by omega) (hF.setN (by unfold W_day; omega)) (h96n _ hag) h60 h61 h62 h59)
              · refine am_aload_n (q := 128) rfl (am_tab tk_X10_dayGoes 72 rfl) rfl ?_
                refine am_getI (q := 131) (a := 55) (k := 10) (n := 108) (j := 61) (x := (thD σ)) (Ls_55 hLS) (by decide) rfl h61 (by decide) (Or.inl kf_X10_461) (am_tab tk_X10_dayGoes 73 rfl) rfl ?_
                refine am_iload_n (q := 132) rfl (am_tab tk_X10_dayGoes 74 rfl) rfl ?_
                refine am_ishr (q := 133) (am_tab tk_X10_dayGoes 75 rfl) rfl ?_
                refine am_iconst (q := 134) (n := 1) (by decide) (am_tab tk_X10_dayGoes 76 rfl) rfl ?_
                refine am_iand (q := 135) (am_tab tk_X10_dayGoes 77 rfl) rfl ?_
                refine am_iconst (q := 136) (n := 1) (by decide) (am_tab tk_X10_dayGoes 78 rfl) rfl ?_
                refine am_icmp_ne (q := 139) (t := 143) (am_tab tk_X10_dayGoes 79 rfl) (by decide) rfl (fun h136 => ?_) (fun h136 => ?_)
                · refine am_iconst (q := 144) (n := 0) (by decide) (am_tab tk_X10_dayGoes 82 rfl) rfl ?_
                  refine am_istore_n (q := 145) (by decide) (ls2 := [(2, am_i 0), (1, am_i ((i : Int))), (0, am_r 55)]) rfl (am_tab tk_X10_dayGoes 83 rfl) rfl ?_
                  refine am_aload_n (q := 146) rfl (am_tab tk_X10_dayGoes 84 rfl) rfl ?_
                  refine am_getR (q := 149) (a := 55) (k := 10) (n := 108) (j := 54) (r := some (96)) (Ls_55 hLS) (by decide) rfl (Lr_55_54 hLS) (by decide) (Or.inl kf_X10_136) (am_tab tk_X10_dayGoes 85 rfl) rfl ?_
                  refine am_iconst (q := 150) (n := 4) (by decide) (am_tab tk_X10_dayGoes 86 rfl) rfl ?_
                  refine am_iload_n (q := 151) rfl (am_tab tk_X10_dayGoes 87 rfl) rfl ?_
                  refine am_iadd (q := 152) (by omega) (am_tab tk_X10_dayGoes 88 rfl) rfl ?_
                  refine am_iload_n (q := 153) rfl (am_tab tk_X10_dayGoes 89 rfl) rfl ?_
                  refine am_if_eq (q := 156) (t := 160) (am_tab tk_X10_dayGoes 90 rfl) (by decide) rfl (fun h153 => ?_) (fun h153 => ?_)
                  · refine am_aload_n (q := 161) rfl (am_tab tk_X10_dayGoes 93 rfl) rfl ?_
                    refine am_iload_n (q := 162) rfl (am_tab tk_X10_dayGoes 94 rfl) rfl ?_
                    refine am_callV0 (q := 165) (me2 := M_X10_agoOf) (b := 55) (kb := 10) (nb := 108) (As := [am_i ((i : Int))]) (rest := [am_i ((4 + (i : Int))), am_r 96]) (out := [am_i (S.2.1 96 (4 + (i : Int)).toNat), am_i ((4 + (i : Int))), am_r 96]) (c_X10_agoOf S hLS (i : Int) (by omega)) ⟨rfl, rfl⟩ (Ls_55 hLS) (by decide) ⟨Or.inl km_X10_467, kc_X10_agoOf, kn_X10, kd_X10_agoOf, ⟨(Nat.le_of_ble_eq_true rfl), (Nat.le_of_ble_eq_true rfl)⟩, ⟨(Nat.le_of_ble_eq_true rfl), (Nat.le_of_ble_eq_true rfl)⟩, (Nat.le_of_ble_eq_true rfl)⟩ ki_X10_agoOf ks_X10_agoOf rfl rfl (am_tab tk_X10_dayGoes 95 rfl) rfl ?_
                    refine am_st (st2 := [am_i ((bgN σ (4 + i))), am_i ((4 + (i : Int))), am_r 96]) (by simp only [(show S.2.1 96 (4 + (i : Int)).toNat = (bgN σ (4 + i)) from (by rw [e4, h96 (4 + i), if_neg (by omega)]; unfold bsN; rw [if_neg (by omega)]))]) ?_
                    refine am_bipush (q := 167) (n := 99) (by decide) rfl (am_tab tk_X10_dayGoes 96 rfl) rfl ?_
                    refine am_icmp_ge (q := 170) (t := 180) (am_tab tk_X10_dayGoes 97 rfl) (by decide) rfl (fun h167 => ?_) (fun h167 => ?_)
                    · refine am_bipush (q := 182) (n := 99) (by decide) rfl (am_tab tk_X10_dayGoes 104 rfl) rfl ?_
                      refine am_iast (q := 183) (a := 96) (n := 443) (Ls_96 hLS) (by omega) (by omega) (am_tab tk_X10_dayGoes 105 rfl) rfl ?_
                      refine am_iinc (q := 186) rfl (by omega) (by decide) (ls2 := [(1, am_i (((i : Int) + 1))), (2, am_i 0), (0, am_r 55)]) rfl (am_tab tk_X10_dayGoes 106 rfl) rfl ?_
                      refine am_goto (t := 112) (am_tab tk_X10_dayGoes 107 rfl) (by decide) ?_
                      have hag : 99 = agD σ i := by
                        unfold agD
                        try rw [tb_eq hth ⟨by omega, by omega⟩] at h136
                        first
                          | rw [if_pos (Or.inl (by omega))]
                          | rw [if_pos (Or.inr (by assumption))]
                          | (rw [if_neg (by intro hc; rcases hc with hc | hc <;> omega)]; first | rw [if_pos (by omega)] | rw [if_neg (by omega)])
                      exact am_less (by intro q hq; simp only [List.mem_cons, List.not_mem_nil, or_false] at hq; rcases hq with rfl | rfl <;> simp) (ih112 (i + 1) (am_setN S 96 (Int.toNat (4 + (i : Int))) 99) (by omega) (by omega) (hF.setN (by unfold W_day; omega)) (h96n _ hag) h60 h61 h62 h59)
                    · refine am_aload_n (q := 171) rfl (am_tab tk_X10_dayGoes 98 rfl) rfl ?_
                      refine am_iload_n (q := 172) rfl (am_tab tk_X10_dayGoes 99 rfl) rfl ?_
                      refine am_callV0 (q := 175) (me2 := M_X10_agoOf) (b := 55) (kb := 10) (nb := 108) (As := [am_i ((i : Int))]) (rest := [am_i ((4 + (i : Int))), am_r 96]) (out := [am_i (S.2.1 96 (4 + (i : Int)).toNat), am_i ((4 + (i : Int))), am_r 96]) (c_X10_agoOf S hLS (i : Int) (by omega)) ⟨rfl, rfl⟩ (Ls_55 hLS) (by decide) ⟨Or.inl km_X10_467, kc_X10_agoOf, kn_X10, kd_X10_agoOf, ⟨(Nat.le_of_ble_eq_true rfl), (Nat.le_of_ble_eq_true rfl)⟩, ⟨(Nat.le_of_ble_eq_true rfl), (Nat.le_of_ble_eq_true rfl)⟩, (Nat.le_of_ble_eq_true rfl)⟩ ki_X10_agoOf ks_X10_agoOf rfl rfl (am_tab tk_X10_dayGoes 100 rfl) rfl ?_
                      refine am_st (st2 := [am_i ((bgN σ (4 + i))), am_i ((4 + (i : Int))), am_r 96]) (by simp only [(show S.2.1 96 (4 + (i : Int)).toNat = (bgN σ (4 + i)) from (by rw [e4, h96 (4 + i), if_neg (by omega)]; unfold bsN; rw [if_neg (by omega)]))]) ?_
                      refine am_iconst (q := 176) (n := 1) (by decide) (am_tab tk_X10_dayGoes 101 rfl) rfl ?_
                      refine am_iadd (q := 177) (by have := hag i (by omega); omega) (am_tab tk_X10_dayGoes 102 rfl) rfl ?_
                      refine am_goto (t := 182) (am_tab tk_X10_dayGoes 103 rfl) (by decide) ?_
                      refine am_iast (q := 183) (a := 96) (n := 443) (Ls_96 hLS) (by omega) (by omega) (am_tab tk_X10_dayGoes 105 rfl) rfl ?_
                      refine am_iinc (q := 186) rfl (by omega) (by decide) (ls2 := [(1, am_i (((i : Int) + 1))), (2, am_i 0), (0, am_r 55)]) rfl (am_tab tk_X10_dayGoes 106 rfl) rfl ?_
                      refine am_goto (t := 112) (am_tab tk_X10_dayGoes 107 rfl) (by decide) ?_
                      have hag : ((bgN σ (4 + i)) + 1) = agD σ i := by
                        unfold agD
                        try rw [tb_eq hth ⟨by omega, by omega⟩] at h136
                        first
                          | rw [if_pos (Or.inl (by omega))]
                          | rw [if_pos (Or.inr (by assumption))]
                          | (rw [if_neg (by intro hc; rcases hc with hc | hc <;> omega)]; first | rw [if_pos (by omega)] | rw [if_neg (by omega)])
                      exact am_less (by intro q hq; simp only [List.mem_cons, List.not_mem_nil, or_false] at hq; rcases hq with rfl | rfl <;> simp) (ih112 (i + 1) (am_setN S 96 (Int.toNat (4 + (i : Int))) ((bgN σ (4 + i)) + 1)) (by omega) (by omega) (hF.setN (by unfold W_day; omega)) (h96n _ hag) h60 h61 h62 h59)
                  · exact absurd h153 (by decide)
                · refine am_iconst (q := 140) (n := 1) (by decide) (am_tab tk_X10_dayGoes 80 rfl) rfl ?_
                  refine am_goto (t := 144) (am_tab tk_X10_dayGoes 81 rfl) (by decide) ?_
                  refine am_istore_n (q := 145) (by decide) (ls2 := [(2, am_i 1), (1, am_i ((i : Int))), (0, am_r 55)]) rfl (am_tab tk_X10_dayGoes 83 rfl) rfl ?_
                  refine am_aload_n (q := 146) rfl (am_tab tk_X10_dayGoes 84 rfl) rfl ?_
                  refine am_getR (q := 149) (a := 55) (k := 10) (n := 108) (j := 54) (r := some (96)) (Ls_55 hLS) (by decide) rfl (Lr_55_54 hLS) (by decide) (Or.inl kf_X10_136) (am_tab tk_X10_dayGoes 85 rfl) rfl ?_
                  refine am_iconst (q := 150) (n := 4) (by decide) (am_tab tk_X10_dayGoes 86 rfl) rfl ?_
                  refine am_iload_n (q := 151) rfl (am_tab tk_X10_dayGoes 87 rfl) rfl ?_
                  refine am_iadd (q := 152) (by omega) (am_tab tk_X10_dayGoes 88 rfl) rfl ?_
                  refine am_iload_n (q := 153) rfl (am_tab tk_X10_dayGoes 89 rfl) rfl ?_
                  refine am_if_eq (q := 156) (t := 160) (am_tab tk_X10_dayGoes 90 rfl) (by decide) rfl (fun h153 => ?_) (fun h153 => ?_)
                  · exact absurd h153 (by decide)
                  · refine am_iconst (q := 157) (n := 0) (by decide) (am_tab tk_X10_dayGoes 91 rfl) rfl ?_
                    refine am_goto (t := 182) (am_tab tk_X10_dayGoes 92 rfl) (by decide) ?_
                    refine am_iast (q := 183) (a := 96) (n := 443) (Ls_96 hLS) (by omega) (by omega) (am_tab tk_X10_dayGoes 105 rfl) rfl ?_
                    refine am_iinc (q := 186) rfl (by omega) (by decide) (ls2 := [(1, am_i (((i : Int) + 1))), (2, am_i 1), (0, am_r 55)]) rfl (am_tab tk_X10_dayGoes 106 rfl) rfl ?_
                    refine am_goto (t := 112) (am_tab tk_X10_dayGoes 107 rfl) (by decide) ?_
                    have hag : 0 = agD σ i := by
                      unfold agD
                      try rw [tb_eq hth ⟨by omega, by omega⟩] at h136
                      first
                        | rw [if_pos (Or.inl (by omega))]
                        | rw [if_pos (Or.inr (by assumption))]
                        | (rw [if_neg (by intro hc; rcases hc with hc | hc <;> omega)]; first | rw [if_pos (by omega)] | rw [if_neg (by omega)])
                    exact am_less (by intro q hq; simp only [List.mem_cons, List.not_mem_nil, or_false] at hq; rcases hq with rfl | rfl <;> simp) (ih112 (i + 1) (am_setN S 96 (Int.toNat (4 + (i : Int))) 0) (by omega) (by omega) (hF.setN (by unfold W_day; omega)) (h96n _ hag) h60 h61 h62 h59)
        have hfd : fsD σ = 1 := by unfold fsD; rw [if_pos (by omega)]
        have h96i : ∀ k, ((am_setN (am_setN (am_setN τ2 55 61 (thD σ)) 55 62 1) 96 2 (bgN σ 1))).2.1 96 k = if 4 ≤ k ∧ k < 4 + 0 then agD σ (k - 4) else bsN σ k := by
          intro k
          rw [if_neg (by omega)]
          unfold bsN
          rw [hfd]
          show (if 96 = 96 ∧ k = 2 then _ else τ2.2.1 96 k) = _
          by_cases hk : k = 2
          · subst hk; simp
          · rw [if_neg (by omega), if_neg hk]; exact e96 k
        refine am_less (by intro q hq; simp only [List.mem_cons, List.not_mem_nil, or_false] at hq; rcases hq with rfl | rfl <;> simp) (L112 (_ + 1) 0 (am_setN (am_setN (am_setN τ2 55 61 (thD σ)) 55 62 1) 96 2 (bgN σ 1)) (by exact Nat.lt_succ_self _) (by omega) (by repeat (first | exact hFd | refine frw.setN ?_ (by unfold W_day; omega))) h96i (hF2.2.2 55 60 (by unfold W_rem; omega)) rfl hfd.symm e59)
