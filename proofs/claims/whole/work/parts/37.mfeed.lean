/-- byte k of twenty -/
def fdB (a b c d e : Int) (k : Nat) : Int := ao_and (ao_shr (if k < 4 then a else if k < 8 then b else if k < 12 then c else if k < 16 then d else e) (8 * (3 - Int.tmod (k : Int) 4))) 255
def fdF (σ : am_H) (a b c d e : Int) (T i : Nat) : Nat → Int := fun j => if T ≤ j ∧ j < T + i then fdB a b c d e (j - T) else σ.2.1 56 j
theorem nfF (σ : am_H) (f : Nat → Int) (j : Nat) (x v y : Int) : am_setN (am_setN (am_setN (am_setA σ 56 f) 55 1 x) 56 j v) 55 1 y = am_setN (am_setA σ 56 (fun k => if k = j then v else f k)) 55 1 y := by
  refine am_Hext rfl (fun b i => ?_) (fun _ _ => rfl)
  simp only [am_setN, am_setA]
  by_cases h1 : b = 55 ∧ i = 1
  · simp [h1]
  · by_cases h2 : b = 56
    · simp [h2]
    · simp [h1, h2]
theorem feed_loop (σ : am_H) (hL : lay σ) (a b c d e : Int) (T : Nat) (hT : σ.2.1 55 1 = T) (hT2 : T + 20 ≤ 1600) : ∀ m i : Nat, i + m = 20 → am_wp M_X10_feed (fun r σ' => (1600 < σ.2.1 55 1 + 20 ∧ r = some (am_i (-1)) ∧ σ' = am_setN σ 57 0 (σ.2.1 57 0 + 1)) ∨ (¬ 1600 < σ.2.1 55 1 + 20 ∧ r = some (am_i (σ.2.1 55 1 + 20)) ∧ σ' = am_setN (am_setA σ 56 (fdF σ a b c d e (σ.2.1 55 1).toNat 20)) 55 1 (σ.2.1 55 1 + 20))) 0 0 28 [(6, am_i ((i : Int))), (0, am_r 55), (1, am_i a), (2, am_i b), (3, am_i c), (4, am_i d), (5, am_i e)] [] (am_setN (am_setA σ 56 (fdF σ a b c d e T i)) 55 1 ((T : Int) + (i : Int))) := by
  intro m
  induction m with
  | zero =>
    intro i hi
    refine am_iload (q := 30) rfl (am_tab tk_X10_feed 18 rfl) rfl ?_
    refine am_bipush (q := 32) (n := 20) (by decide) rfl (am_tab tk_X10_feed 19 rfl) rfl ?_
    refine am_icmp_ge (q := 35) (t := 124) (am_tab tk_X10_feed 20 rfl) (by decide) rfl (fun h32 => ?_) (fun h32 => ?_)
    · refine am_aload_n (q := 125) rfl (am_tab tk_X10_feed 67 rfl) rfl ?_
      refine am_getI (q := 128) (a := 55) (k := 10) (n := 108) (j := 1) (x := ((T : Int) + (i : Int))) (Ls_55 hL) (by decide) rfl rfl (by decide) (Or.inl kf_X10_245) (am_tab tk_X10_feed 68 rfl) rfl ?_
      refine am_iret (Or.inl rfl) (Nat.le_of_ble_eq_true rfl) (Nat.le_of_ble_eq_true rfl) (am_tab tk_X10_feed 69 rfl) ?_
      have e0 : i = 20 := by omega
      subst e0
      refine Or.inr ⟨by omega, by rw [hT]; rfl, ?_⟩
      rw [hT, Int.toNat_natCast]; rfl
    · exact absurd h32 (by omega)
  | succ m ih =>
    intro i hi
    have hm0 := Int.tmod_nonneg (a := (i : Int)) 4 (by omega)
    have hm4 := Int.tmod_lt_of_pos (i : Int) (b := 4) (by omega)
    have e1 : ((T : Int) + (i : Int)).toNat = T + i := by omega
    refine am_iload (q := 30) rfl (am_tab tk_X10_feed 18 rfl) rfl ?_
    refine am_bipush (q := 32) (n := 20) (by decide) rfl (am_tab tk_X10_feed 19 rfl) rfl ?_
    refine am_icmp_ge (q := 35) (t := 124) (am_tab tk_X10_feed 20 rfl) (by decide) rfl (fun h32 => ?_) (fun h32 => ?_)
    · exact absurd h32 (by omega)
    · refine am_iload (q := 37) rfl (am_tab tk_X10_feed 21 rfl) rfl ?_
      refine am_iconst (q := 38) (n := 4) (by decide) (am_tab tk_X10_feed 22 rfl) rfl ?_
      refine am_icmp_ge (q := 41) (t := 45) (am_tab tk_X10_feed 23 rfl) (by decide) rfl (fun h38 => ?_) (fun h38 => ?_)
      · refine am_iload (q := 47) rfl (am_tab tk_X10_feed 26 rfl) rfl ?_
        refine am_bipush (q := 49) (n := 8) (by decide) rfl (am_tab tk_X10_feed 27 rfl) rfl ?_
        refine am_icmp_ge (q := 52) (t := 56) (am_tab tk_X10_feed 28 rfl) (by decide) rfl (fun h49 => ?_) (fun h49 => ?_)
        · refine am_iload (q := 58) rfl (am_tab tk_X10_feed 31 rfl) rfl ?_
          refine am_bipush (q := 60) (n := 12) (by decide) rfl (am_tab tk_X10_feed 32 rfl) rfl ?_
          refine am_icmp_ge (q := 63) (t := 67) (am_tab tk_X10_feed 33 rfl) (by decide) rfl (fun h60 => ?_) (fun h60 => ?_)
          · refine am_iload (q := 69) rfl (am_tab tk_X10_feed 36 rfl) rfl ?_
            refine am_bipush (q := 71) (n := 16) (by decide) rfl (am_tab tk_X10_feed 37 rfl) rfl ?_
            refine am_icmp_ge (q := 74) (t := 79) (am_tab tk_X10_feed 38 rfl) (by decide) rfl (fun h71 => ?_) (fun h71 => ?_)
            · refine am_iload (q := 81) rfl (am_tab tk_X10_feed 41 rfl) rfl ?_
              refine am_istore (q := 83) (by decide) (ls2 := [(7, am_i e), (6, am_i ((i : Int))), (0, am_r 55), (1, am_i a), (2, am_i b), (3, am_i c), (4, am_i d), (5, am_i e)]) rfl (am_tab tk_X10_feed 42 rfl) rfl ?_
              refine am_aload_n (q := 84) rfl (am_tab tk_X10_feed 43 rfl) rfl ?_
              refine am_getR (q := 87) (a := 55) (k := 10) (n := 108) (j := 0) (r := some (56)) (Ls_55 hL) (by decide) rfl (Lr_55_0 hL) (by decide) (Or.inl kf_X10_7) (am_tab tk_X10_feed 44 rfl) rfl ?_
              refine am_aload_n (q := 88) rfl (am_tab tk_X10_feed 45 rfl) rfl ?_
              refine am_getI (q := 91) (a := 55) (k := 10) (n := 108) (j := 1) (x := ((T : Int) + (i : Int))) (Ls_55 hL) (by decide) rfl rfl (by decide) (Or.inl kf_X10_245) (am_tab tk_X10_feed 46 rfl) rfl ?_
              refine am_iload (q := 93) rfl (am_tab tk_X10_feed 47 rfl) rfl ?_
              refine am_bipush (q := 95) (n := 8) (by decide) rfl (am_tab tk_X10_feed 48 rfl) rfl ?_
              refine am_iconst (q := 96) (n := 3) (by decide) (am_tab tk_X10_feed 49 rfl) rfl ?_
              refine am_iload (q := 98) rfl (am_tab tk_X10_feed 50 rfl) rfl ?_
              refine am_iconst (q := 99) (n := 4) (by decide) (am_tab tk_X10_feed 51 rfl) rfl ?_
              refine am_irem (q := 100) (by omega) (by omega) (am_tab tk_X10_feed 52 rfl) rfl ?_
              refine am_isub (q := 101) (by omega) (am_tab tk_X10_feed 53 rfl) rfl ?_
              refine am_imul (q := 102) (by omega) (am_tab tk_X10_feed 54 rfl) rfl ?_
              refine am_ishr (q := 103) (am_tab tk_X10_feed 55 rfl) rfl ?_
              refine am_sipush (q := 106) (n := 255) (by decide) rfl (am_tab tk_X10_feed 56 rfl) rfl ?_
              refine am_iand (q := 107) (am_tab tk_X10_feed 57 rfl) rfl ?_
              refine am_iast (q := 108) (a := 56) (n := 1600) (Ls_56 hL) (by omega) (by omega) (am_tab tk_X10_feed 58 rfl) rfl ?_
              refine am_aload_n (q := 109) rfl (am_tab tk_X10_feed 59 rfl) rfl ?_
              refine am_dup (q := 110) rfl (am_tab tk_X10_feed 60 rfl) rfl ?_
              refine am_getI (q := 113) (a := 55) (k := 10) (n := 108) (j := 1) (x := ((T : Int) + (i : Int))) (Ls_55 hL) (by decide) rfl rfl (by decide) (Or.inl kf_X10_245) (am_tab tk_X10_feed 61 rfl) rfl ?_
              refine am_iconst (q := 114) (n := 1) (by decide) (am_tab tk_X10_feed 62 rfl) rfl ?_
              refine am_iadd (q := 115) (by omega) (am_tab tk_X10_feed 63 rfl) rfl ?_
              refine am_putI (q := 118) (k := 10) (n := 108) (j := 1) (Ls_55 hL) (by decide) rfl (by decide) (Or.inl ⟨kf_X10_245, rfl⟩) (am_tab tk_X10_feed 64 rfl) rfl ?_
              refine am_iinc (q := 121) rfl (by omega) (by decide) (ls2 := [(6, am_i (((i : Int) + 1))), (7, am_i e), (0, am_r 55), (1, am_i a), (2, am_i b), (3, am_i c), (4, am_i d), (5, am_i e)]) rfl (am_tab tk_X10_feed 65 rfl) rfl ?_
              refine am_goto (t := 28) (am_tab tk_X10_feed 66 rfl) (by decide) ?_
              have hw : (if i < 4 then a else if i < 8 then b else if i < 12 then c else if i < 16 then d else e) = e := by
                first | rw [if_pos (by omega)] | rw [if_neg (by omega), if_pos (by omega)] | rw [if_neg (by omega), if_neg (by omega), if_pos (by omega)] | rw [if_neg (by omega), if_neg (by omega), if_neg (by omega), if_pos (by omega)] | rw [if_neg (by omega), if_neg (by omega), if_neg (by omega), if_neg (by omega)]
              refine am_hp2 (σ1 := am_setN (am_setA σ 56 (fdF σ a b c d e T (i + 1))) 55 1 ((T : Int) + ((i + 1 : Nat) : Int))) ?_ ?_
              · rw [nfF, e1]
                rw [show (fun k => if k = T + i then ao_and (ao_shr e (8 * (3 - Int.tmod (i : Int) 4))) 255 else fdF σ a b c d e T i k) = fdF σ a b c d e T (i + 1) from ?_]
                · rw [show ((T : Int) + (i : Int)) + 1 = (T : Int) + ((i + 1 : Nat) : Int) by omega]
                · funext k
                  by_cases hk : k = T + i
                  · subst hk
                    rw [if_pos rfl]
                    unfold fdF
                    rw [if_pos (by omega), Nat.add_sub_cancel_left]
                    unfold fdB
                    rw [hw]
                  · rw [if_neg hk]
                    unfold fdF
                    by_cases hc : T ≤ k ∧ k < T + i
                    · rw [if_pos hc, if_pos (by omega)]
                    · rw [if_neg hc, if_neg (by omega)]
              · exact am_less (by intro q hq; simp only [List.mem_cons, List.not_mem_nil, or_false] at hq; rcases hq with rfl | rfl | rfl | rfl | rfl | rfl | rfl <;> simp) (ih (i + 1) (by omega))
            · refine am_iload (q := 76) rfl (am_tab tk_X10_feed 39 rfl) rfl ?_
              refine am_goto (t := 81) (am_tab tk_X10_feed 40 rfl) (by decide) ?_
              refine am_istore (q := 83) (by decide) (ls2 := [(7, am_i d), (6, am_i ((i : Int))), (0, am_r 55), (1, am_i a), (2, am_i b), (3, am_i c), (4, am_i d), (5, am_i e)]) rfl (am_tab tk_X10_feed 42 rfl) rfl ?_
              refine am_aload_n (q := 84) rfl (am_tab tk_X10_feed 43 rfl) rfl ?_
              refine am_getR (q := 87) (a := 55) (k := 10) (n := 108) (j := 0) (r := some (56)) (Ls_55 hL) (by decide) rfl (Lr_55_0 hL) (by decide) (Or.inl kf_X10_7) (am_tab tk_X10_feed 44 rfl) rfl ?_
              refine am_aload_n (q := 88) rfl (am_tab tk_X10_feed 45 rfl) rfl ?_
              refine am_getI (q := 91) (a := 55) (k := 10) (n := 108) (j := 1) (x := ((T : Int) + (i : Int))) (Ls_55 hL) (by decide) rfl rfl (by decide) (Or.inl kf_X10_245) (am_tab tk_X10_feed 46 rfl) rfl ?_
              refine am_iload (q := 93) rfl (am_tab tk_X10_feed 47 rfl) rfl ?_
              refine am_bipush (q := 95) (n := 8) (by decide) rfl (am_tab tk_X10_feed 48 rfl) rfl ?_
              refine am_iconst (q := 96) (n := 3) (by decide) (am_tab tk_X10_feed 49 rfl) rfl ?_
              refine am_iload (q := 98) rfl (am_tab tk_X10_feed 50 rfl) rfl ?_
              refine am_iconst (q := 99) (n := 4) (by decide) (am_tab tk_X10_feed 51 rfl) rfl ?_
              refine am_irem (q := 100) (by omega) (by omega) (am_tab tk_X10_feed 52 rfl) rfl ?_
              refine am_isub (q := 101) (by omega) (am_tab tk_X10_feed 53 rfl) rfl ?_
              refine am_imul (q := 102) (by omega) (am_tab tk_X10_feed 54 rfl) rfl ?_
              refine am_ishr (q := 103) (am_tab tk_X10_feed 55 rfl) rfl ?_
              refine am_sipush (q := 106) (n := 255) (by decide) rfl (am_tab tk_X10_feed 56 rfl) rfl ?_
              refine am_iand (q := 107) (am_tab tk_X10_feed 57 rfl) rfl ?_
              refine am_iast (q := 108) (a := 56) (n := 1600) (Ls_56 hL) (by omega) (by omega) (am_tab tk_X10_feed 58 rfl) rfl ?_
              refine am_aload_n (q := 109) rfl (am_tab tk_X10_feed 59 rfl) rfl ?_
              refine am_dup (q := 110) rfl (am_tab tk_X10_feed 60 rfl) rfl ?_
              refine am_getI (q := 113) (a := 55) (k := 10) (n := 108) (j := 1) (x := ((T : Int) + (i : Int))) (Ls_55 hL) (by decide) rfl rfl (by decide) (Or.inl kf_X10_245) (am_tab tk_X10_feed 61 rfl) rfl ?_
              refine am_iconst (q := 114) (n := 1) (by decide) (am_tab tk_X10_feed 62 rfl) rfl ?_
              refine am_iadd (q := 115) (by omega) (am_tab tk_X10_feed 63 rfl) rfl ?_
              refine am_putI (q := 118) (k := 10) (n := 108) (j := 1) (Ls_55 hL) (by decide) rfl (by decide) (Or.inl ⟨kf_X10_245, rfl⟩) (am_tab tk_X10_feed 64 rfl) rfl ?_
              refine am_iinc (q := 121) rfl (by omega) (by decide) (ls2 := [(6, am_i (((i : Int) + 1))), (7, am_i d), (0, am_r 55), (1, am_i a), (2, am_i b), (3, am_i c), (4, am_i d), (5, am_i e)]) rfl (am_tab tk_X10_feed 65 rfl) rfl ?_
              refine am_goto (t := 28) (am_tab tk_X10_feed 66 rfl) (by decide) ?_
              have hw : (if i < 4 then a else if i < 8 then b else if i < 12 then c else if i < 16 then d else e) = d := by
                first | rw [if_pos (by omega)] | rw [if_neg (by omega), if_pos (by omega)] | rw [if_neg (by omega), if_neg (by omega), if_pos (by omega)] | rw [if_neg (by omega), if_neg (by omega), if_neg (by omega), if_pos (by omega)] | rw [if_neg (by omega), if_neg (by omega), if_neg (by omega), if_neg (by omega)]
              refine am_hp2 (σ1 := am_setN (am_setA σ 56 (fdF σ a b c d e T (i + 1))) 55 1 ((T : Int) + ((i + 1 : Nat) : Int))) ?_ ?_
              · rw [nfF, e1]
                rw [show (fun k => if k = T + i then ao_and (ao_shr d (8 * (3 - Int.tmod (i : Int) 4))) 255 else fdF σ a b c d e T i k) = fdF σ a b c d e T (i + 1) from ?_]
                · rw [show ((T : Int) + (i : Int)) + 1 = (T : Int) + ((i + 1 : Nat) : Int) by omega]
                · funext k
                  by_cases hk : k = T + i
                  · subst hk
                    rw [if_pos rfl]
                    unfold fdF
                    rw [if_pos (by omega), Nat.add_sub_cancel_left]
                    unfold fdB
                    rw [hw]
                  · rw [if_neg hk]
                    unfold fdF
                    by_cases hc : T ≤ k ∧ k < T + i
                    · rw [if_pos hc, if_pos (by omega)]
                    · rw [if_neg hc, if_neg (by omega)]
              · exact am_less (by intro q hq; simp only [List.mem_cons, List.not_mem_nil, or_false] at hq; rcases hq with rfl | rfl | rfl | rfl | rfl | rfl | rfl <;> simp) (ih (i + 1) (by omega))
          · refine am_iload_n (q := 64) rfl (am_tab tk_X10_feed 34 rfl) rfl ?_
            refine am_goto (t := 81) (am_tab tk_X10_feed 35 rfl) (by decide) ?_
            refine am_istore (q := 83) (by decide) (ls2 := [(7, am_i c), (6, am_i ((i : Int))), (0, am_r 55), (1, am_i a), (2, am_i b), (3, am_i c), (4, am_i d), (5, am_i e)]) rfl (am_tab tk_X10_feed 42 rfl) rfl ?_
            refine am_aload_n (q := 84) rfl (am_tab tk_X10_feed 43 rfl) rfl ?_
            refine am_getR (q := 87) (a := 55) (k := 10) (n := 108) (j := 0) (r := some (56)) (Ls_55 hL) (by decide) rfl (Lr_55_0 hL) (by decide) (Or.inl kf_X10_7) (am_tab tk_X10_feed 44 rfl) rfl ?_
            refine am_aload_n (q := 88) rfl (am_tab tk_X10_feed 45 rfl) rfl ?_
            refine am_getI (q := 91) (a := 55) (k := 10) (n := 108) (j := 1) (x := ((T : Int) + (i : Int))) (Ls_55 hL) (by decide) rfl rfl (by decide) (Or.inl kf_X10_245) (am_tab tk_X10_feed 46 rfl) rfl ?_
            refine am_iload (q := 93) rfl (am_tab tk_X10_feed 47 rfl) rfl ?_
            refine am_bipush (q := 95) (n := 8) (by decide) rfl (am_tab tk_X10_feed 48 rfl) rfl ?_
            refine am_iconst (q := 96) (n := 3) (by decide) (am_tab tk_X10_feed 49 rfl) rfl ?_
            refine am_iload (q := 98) rfl (am_tab tk_X10_feed 50 rfl) rfl ?_
            refine am_iconst (q := 99) (n := 4) (by decide) (am_tab tk_X10_feed 51 rfl) rfl ?_
            refine am_irem (q := 100) (by omega) (by omega) (am_tab tk_X10_feed 52 rfl) rfl ?_
            refine am_isub (q := 101) (by omega) (am_tab tk_X10_feed 53 rfl) rfl ?_
            refine am_imul (q := 102) (by omega) (am_tab tk_X10_feed 54 rfl) rfl ?_
            refine am_ishr (q := 103) (am_tab tk_X10_feed 55 rfl) rfl ?_
            refine am_sipush (q := 106) (n := 255) (by decide) rfl (am_tab tk_X10_feed 56 rfl) rfl ?_
            refine am_iand (q := 107) (am_tab tk_X10_feed 57 rfl) rfl ?_
            refine am_iast (q := 108) (a := 56) (n := 1600) (Ls_56 hL) (by omega) (by omega) (am_tab tk_X10_feed 58 rfl) rfl ?_
            refine am_aload_n (q := 109) rfl (am_tab tk_X10_feed 59 rfl) rfl ?_
            refine am_dup (q := 110) rfl (am_tab tk_X10_feed 60 rfl) rfl ?_
            refine am_getI (q := 113) (a := 55) (k := 10) (n := 108) (j := 1) (x := ((T : Int) + (i : Int))) (Ls_55 hL) (by decide) rfl rfl (by decide) (Or.inl kf_X10_245) (am_tab tk_X10_feed 61 rfl) rfl ?_
            refine am_iconst (q := 114) (n := 1) (by decide) (am_tab tk_X10_feed 62 rfl) rfl ?_
            refine am_iadd (q := 115) (by omega) (am_tab tk_X10_feed 63 rfl) rfl ?_
            refine am_putI (q := 118) (k := 10) (n := 108) (j := 1) (Ls_55 hL) (by decide) rfl (by decide) (Or.inl ⟨kf_X10_245, rfl⟩) (am_tab tk_X10_feed 64 rfl) rfl ?_
            refine am_iinc (q := 121) rfl (by omega) (by decide) (ls2 := [(6, am_i (((i : Int) + 1))), (7, am_i c), (0, am_r 55), (1, am_i a), (2, am_i b), (3, am_i c), (4, am_i d), (5, am_i e)]) rfl (am_tab tk_X10_feed 65 rfl) rfl ?_
            refine am_goto (t := 28) (am_tab tk_X10_feed 66 rfl) (by decide) ?_
            have hw : (if i < 4 then a else if i < 8 then b else if i < 12 then c else if i < 16 then d else e) = c := by
              first | rw [if_pos (by omega)] | rw [if_neg (by omega), if_pos (by omega)] | rw [if_neg (by omega), if_neg (by omega), if_pos (by omega)] | rw [if_neg (by omega), if_neg (by omega), if_neg (by omega), if_pos (by omega)] | rw [if_neg (by omega), if_neg (by omega), if_neg (by omega), if_neg (by omega)]
            refine am_hp2 (σ1 := am_setN (am_setA σ 56 (fdF σ a b c d e T (i + 1))) 55 1 ((T : Int) + ((i + 1 : Nat) : Int))) ?_ ?_
            · rw [nfF, e1]
              rw [show (fun k => if k = T + i then ao_and (ao_shr c (8 * (3 - Int.tmod (i : Int) 4))) 255 else fdF σ a b c d e T i k) = fdF σ a b c d e T (i + 1) from ?_]
              · rw [show ((T : Int) + (i : Int)) + 1 = (T : Int) + ((i + 1 : Nat) : Int) by omega]
              · funext k
                by_cases hk : k = T + i
                · subst hk
                  rw [if_pos rfl]
                  unfold fdF
                  rw [if_pos (by omega), Nat.add_sub_cancel_left]
                  unfold fdB
                  rw [hw]
                · rw [if_neg hk]
                  unfold fdF
                  by_cases hc : T ≤ k ∧ k < T + i
                  · rw [if_pos hc, if_pos (by omega)]
                  · rw [if_neg hc, if_neg (by omega)]
            · exact am_less (by intro q hq; simp only [List.mem_cons, List.not_mem_nil, or_false] at hq; rcases hq with rfl | rfl | rfl | rfl | rfl | rfl | rfl <;> simp) (ih (i + 1) (by omega))
        · refine am_iload_n (q := 53) rfl (am_tab tk_X10_feed 29 rfl) rfl ?_
          refine am_goto (t := 81) (am_tab tk_X10_feed 30 rfl) (by decide) ?_
          refine am_istore (q := 83) (by decide) (ls2 := [(7, am_i b), (6, am_i ((i : Int))), (0, am_r 55), (1, am_i a), (2, am_i b), (3, am_i c), (4, am_i d), (5, am_i e)]) rfl (am_tab tk_X10_feed 42 rfl) rfl ?_
          refine am_aload_n (q := 84) rfl (am_tab tk_X10_feed 43 rfl) rfl ?_
          refine am_getR (q := 87) (a := 55) (k := 10) (n := 108) (j := 0) (r := some (56)) (Ls_55 hL) (by decide) rfl (Lr_55_0 hL) (by decide) (Or.inl kf_X10_7) (am_tab tk_X10_feed 44 rfl) rfl ?_
          refine am_aload_n (q := 88) rfl (am_tab tk_X10_feed 45 rfl) rfl ?_
          refine am_getI (q := 91) (a := 55) (k := 10) (n := 108) (j := 1) (x := ((T : Int) + (i : Int))) (Ls_55 hL) (by decide) rfl rfl (by decide) (Or.inl kf_X10_245) (am_tab tk_X10_feed 46 rfl) rfl ?_
          refine am_iload (q := 93) rfl (am_tab tk_X10_feed 47 rfl) rfl ?_
          refine am_bipush (q := 95) (n := 8) (by decide) rfl (am_tab tk_X10_feed 48 rfl) rfl ?_
          refine am_iconst (q := 96) (n := 3) (by decide) (am_tab tk_X10_feed 49 rfl) rfl ?_
          refine am_iload (q := 98) rfl (am_tab tk_X10_feed 50 rfl) rfl ?_
          refine am_iconst (q := 99) (n := 4) (by decide) (am_tab tk_X10_feed 51 rfl) rfl ?_
          refine am_irem (q := 100) (by omega) (by omega) (am_tab tk_X10_feed 52 rfl) rfl ?_
          refine am_isub (q := 101) (by omega) (am_tab tk_X10_feed 53 rfl) rfl ?_
          refine am_imul (q := 102) (by omega) (am_tab tk_X10_feed 54 rfl) rfl ?_
          refine am_ishr (q := 103) (am_tab tk_X10_feed 55 rfl) rfl ?_
          refine am_sipush (q := 106) (n := 255) (by decide) rfl (am_tab tk_X10_feed 56 rfl) rfl ?_
          refine am_iand (q := 107) (am_tab tk_X10_feed 57 rfl) rfl ?_
          refine am_iast (q := 108) (a := 56) (n := 1600) (Ls_56 hL) (by omega) (by omega) (am_tab tk_X10_feed 58 rfl) rfl ?_
          refine am_aload_n (q := 109) rfl (am_tab tk_X10_feed 59 rfl) rfl ?_
          refine am_dup (q := 110) rfl (am_tab tk_X10_feed 60 rfl) rfl ?_
          refine am_getI (q := 113) (a := 55) (k := 10) (n := 108) (j := 1) (x := ((T : Int) + (i : Int))) (Ls_55 hL) (by decide) rfl rfl (by decide) (Or.inl kf_X10_245) (am_tab tk_X10_feed 61 rfl) rfl ?_
          refine am_iconst (q := 114) (n := 1) (by decide) (am_tab tk_X10_feed 62 rfl) rfl ?_
          refine am_iadd (q := 115) (by omega) (am_tab tk_X10_feed 63 rfl) rfl ?_
          refine am_putI (q := 118) (k := 10) (n := 108) (j := 1) (Ls_55 hL) (by decide) rfl (by decide) (Or.inl ⟨kf_X10_245, rfl⟩) (am_tab tk_X10_feed 64 rfl) rfl ?_
          refine am_iinc (q := 121) rfl (by omega) (by decide) (ls2 := [(6, am_i (((i : Int) + 1))), (7, am_i b), (0, am_r 55), (1, am_i a), (2, am_i b), (3, am_i c), (4, am_i d), (5, am_i e)]) rfl (am_tab tk_X10_feed 65 rfl) rfl ?_
          refine am_goto (t := 28) (am_tab tk_X10_feed 66 rfl) (by decide) ?_
          have hw : (if i < 4 then a else if i < 8 then b else if i < 12 then c else if i < 16 then d else e) = b := by
            first | rw [if_pos (by omega)] | rw [if_neg (by omega), if_pos (by omega)] | rw [if_neg (by omega), if_neg (by omega), if_pos (by omega)] | rw [if_neg (by omega), if_neg (by omega), if_neg (by omega), if_pos (by omega)] | rw [if_neg (by omega), if_neg (by omega), if_neg (by omega), if_neg (by omega)]
          refine am_hp2 (σ1 := am_setN (am_setA σ 56 (fdF σ a b c d e T (i + 1))) 55 1 ((T : Int) + ((i + 1 : Nat) : Int))) ?_ ?_
          · rw [nfF, e1]
            rw [show (fun k => if k = T + i then ao_and (ao_shr b (8 * (3 - Int.tmod (i : Int) 4))) 255 else fdF σ a b c d e T i k) = fdF σ a b c d e T (i + 1) from ?_]
            · rw [show ((T : Int) + (i : Int)) + 1 = (T : Int) + ((i + 1 : Nat) : Int) by omega]
            · funext k
              by_cases hk : k = T + i
              · subst hk
                rw [if_pos rfl]
                unfold fdF
                rw [if_pos (by omega), Nat.add_sub_cancel_left]
                unfold fdB
                rw [hw]
              · rw [if_neg hk]
                unfold fdF
                by_cases hc : T ≤ k ∧ k < T + i
                · rw [if_pos hc, if_pos (by omega)]
                · rw [if_neg hc, if_neg (by omega)]
          · exact am_less (by intro q hq; simp only [List.mem_cons, List.not_mem_nil, or_false] at hq; rcases hq with rfl | rfl | rfl | rfl | rfl | rfl | rfl <;> simp) (ih (i + 1) (by omega))
      · refine am_iload_n (q := 42) rfl (am_tab tk_X10_feed 24 rfl) rfl ?_
        refine am_goto (t := 81) (am_tab tk_X10_feed 25 rfl) (by decide) ?_
        refine am_istore (q := 83) (by decide) (ls2 := [(7, am_i a), (6, am_i ((i : Int))), (0, am_r 55), (1, am_i a), (2, am_i b), (3, am_i c), (4, am_i d), (5, am_i e)]) rfl (am_tab tk_X10_feed 42 rfl) rfl ?_
        refine am_aload_n (q := 84) rfl (am_tab tk_X10_feed 43 rfl) rfl ?_
        refine am_getR (q := 87) (a := 55) (k := 10) (n := 108) (j := 0) (r := some (56)) (Ls_55 hL) (by decide) rfl (Lr_55_0 hL) (by decide) (Or.inl kf_X10_7) (am_tab tk_X10_feed 44 rfl) rfl ?_
        refine am_aload_n (q := 88) rfl (am_tab tk_X10_feed 45 rfl) rfl ?_
        refine am_getI (q := 91) (a := 55) (k := 10) (n := 108) (j := 1) (x := ((T : Int) + (i : Int))) (Ls_55 hL) (by decide) rfl rfl (by decide) (Or.inl kf_X10_245) (am_tab tk_X10_feed 46 rfl) rfl ?_
        refine am_iload (q := 93) rfl (am_tab tk_X10_feed 47 rfl) rfl ?_
        refine am_bipush (q := 95) (n := 8) (by decide) rfl (am_tab tk_X10_feed 48 rfl) rfl ?_
        refine am_iconst (q := 96) (n := 3) (by decide) (am_tab tk_X10_feed 49 rfl) rfl ?_
        refine am_iload (q := 98) rfl (am_tab tk_X10_feed 50 rfl) rfl ?_
        refine am_iconst (q := 99) (n := 4) (by decide) (am_tab tk_X10_feed 51 rfl) rfl ?_
        refine am_irem (q := 100) (by omega) (by omega) (am_tab tk_X10_feed 52 rfl) rfl ?_
        refine am_isub (q := 101) (by omega) (am_tab tk_X10_feed 53 rfl) rfl ?_
        refine am_imul (q := 102) (by omega) (am_tab tk_X10_feed 54 rfl) rfl ?_
        refine am_ishr (q := 103) (am_tab tk_X10_feed 55 rfl) rfl ?_
        refine am_sipush (q := 106) (n := 255) (by decide) rfl (am_tab tk_X10_feed 56 rfl) rfl ?_
        refine am_iand (q := 107) (am_tab tk_X10_feed 57 rfl) rfl ?_
        refine am_iast (q := 108) (a := 56) (n := 1600) (Ls_56 hL) (by omega) (by omega) (am_tab tk_X10_feed 58 rfl) rfl ?_
        refine am_aload_n (q := 109) rfl (am_tab tk_X10_feed 59 rfl) rfl ?_
        refine am_dup (q := 110) rfl (am_tab tk_X10_feed 60 rfl) rfl ?_
        refine am_getI (q := 113) (a := 55) (k := 10) (n := 108) (j := 1) (x := ((T : Int) + (i : Int))) (Ls_55 hL) (by decide) rfl rfl (by decide) (Or.inl kf_X10_245) (am_tab tk_X10_feed 61 rfl) rfl ?_
        refine am_iconst (q := 114) (n := 1) (by decide) (am_tab tk_X10_feed 62 rfl) rfl ?_
        refine am_iadd (q := 115) (by omega) (am_tab tk_X10_feed 63 rfl) rfl ?_
        refine am_putI (q := 118) (k := 10) (n := 108) (j := 1) (Ls_55 hL) (by decide) rfl (by decide) (Or.inl ⟨kf_X10_245, rfl⟩) (am_tab tk_X10_feed 64 rfl) rfl ?_
        refine am_iinc (q := 121) rfl (by omega) (by decide) (ls2 := [(6, am_i (((i : Int) + 1))), (7, am_i a), (0, am_r 55), (1, am_i a), (2, am_i b), (3, am_i c), (4, am_i d), (5, am_i e)]) rfl (am_tab tk_X10_feed 65 rfl) rfl ?_
        refine am_goto (t := 28) (am_tab tk_X10_feed 66 rfl) (by decide) ?_
        have hw : (if i < 4 then a else if i < 8 then b else if i < 12 then c else if i < 16 then d else e) = a := by
          first | rw [if_pos (by omega)] | rw [if_neg (by omega), if_pos (by omega)] | rw [if_neg (by omega), if_neg (by omega), if_pos (by omega)] | rw [if_neg (by omega), if_neg (by omega), if_neg (by omega), if_pos (by omega)] | rw [if_neg (by omega), if_neg (by omega), if_neg (by omega), if_neg (by omega)]
        refine am_hp2 (σ1 := am_setN (am_setA σ 56 (fdF σ a b c d e T (i + 1))) 55 1 ((T : Int) + ((i + 1 : Nat) : Int))) ?_ ?_
        · rw [nfF, e1]
          rw [show (fun k => if k = T + i then ao_and (ao_shr a (8 * (3 - Int.tmod (i : Int) 4))) 255 else fdF σ a b c d e T i k) = fdF σ a b c d e T (i + 1) from ?_]
          · rw [show ((T : Int) + (i : Int)) + 1 = (T : Int) + ((i + 1 : Nat) : Int) by omega]
          · funext k
            by_cases hk : k = T + i
            · subst hk
              rw [if_pos rfl]
              unfold fdF
              rw [if_pos (by omega), Nat.add_sub_cancel_left]
              unfold fdB
              rw [hw]
            · rw [if_neg hk]
              unfold fdF
              by_cases hc : T ≤ k ∧ k < T + i
              · rw [if_pos hc, if_pos (by omega)]
              · rw [if_neg hc, if_neg (by omega)]
        · exact am_less (by intro q hq; simp only [List.mem_cons, List.not_mem_nil, or_false] at hq; rcases hq with rfl | rfl | rfl | rfl | rfl | rfl | rfl <;> simp) (ih (i + 1) (by omega))
theorem c_X10_feed (σ : am_H) (hL : lay σ) (a : Int) (b : Int) (c : Int) (d : Int) (e : Int) (hT : 0 ≤ σ.2.1 55 1 ∧ σ.2.1 55 1 ≤ 1600) (hr : 0 ≤ σ.2.1 57 0 ∧ σ.2.1 57 0 ≤ 100000) : am_met M_X10_feed [am_r 55, am_i a, am_i b, am_i c, am_i d, am_i e] σ (fun r σ' => (1600 < σ.2.1 55 1 + 20 ∧ r = some (am_i (-1)) ∧ σ' = am_setN σ 57 0 (σ.2.1 57 0 + 1)) ∨ (¬ 1600 < σ.2.1 55 1 + 20 ∧ r = some (am_i (σ.2.1 55 1 + 20)) ∧ σ' = am_setN (am_setA σ 56 (fdF σ a b c d e (σ.2.1 55 1).toNat 20)) 55 1 (σ.2.1 55 1 + 20))) := by
  refine am_enter (show plainFor yX10_feed = true by decide +kernel) rfl (Nat.le_of_ble_eq_true rfl) (fun _ _ _ => trivial) ?_
  refine am_aload_n (q := 1) rfl (am_tab tk_X10_feed 0 rfl) rfl ?_
  refine am_getI (q := 4) (a := 55) (k := 10) (n := 108) (j := 1) (x := (σ.2.1 55 1)) (Ls_55 hL) (by decide) rfl rfl (by decide) (Or.inl kf_X10_245) (am_tab tk_X10_feed 1 rfl) rfl ?_
  refine am_bipush (q := 6) (n := 20) (by decide) rfl (am_tab tk_X10_feed 2 rfl) rfl ?_
  refine am_iadd (q := 7) (by omega) (am_tab tk_X10_feed 3 rfl) rfl ?_
  refine am_sipush (q := 10) (n := 1600) (by decide) rfl (am_tab tk_X10_feed 4 rfl) rfl ?_
  refine am_icmp_le (q := 13) (t := 25) (am_tab tk_X10_feed 5 rfl) (by decide) rfl (fun h10 => ?_) (fun h10 => ?_)
  · refine am_iconst (q := 26) (n := 0) (by decide) (am_tab tk_X10_feed 16 rfl) rfl ?_
    refine am_istore (q := 28) (by decide) (ls2 := [(6, am_i 0), (0, am_r 55), (1, am_i a), (2, am_i b), (3, am_i c), (4, am_i d), (5, am_i e)]) rfl (am_tab tk_X10_feed 17 rfl) rfl ?_
    have h0 := feed_loop σ hL a b c d e (σ.2.1 55 1).toNat (by omega) (by omega) 20 0 (by omega)
    rw [show fdF σ a b c d e (σ.2.1 55 1).toNat 0 = (fun k => σ.2.1 56 k) from funext fun k => if_neg (by omega), am_setA_self, show (((σ.2.1 55 1).toNat : Int) + ((0 : Nat) : Int)) = σ.2.1 55 1 by omega, am_setN_self] at h0
    exact h0
  · refine am_aload_n (q := 14) rfl (am_tab tk_X10_feed 6 rfl) rfl ?_
    refine am_getR (q := 17) (a := 55) (k := 10) (n := 108) (j := 9) (r := some (57)) (Ls_55 hL) (by decide) rfl (Lr_55_9 hL) (by decide) (Or.inl kf_X10_17) (am_tab tk_X10_feed 7 rfl) rfl ?_
    refine am_iconst (q := 18) (n := 0) (by decide) (am_tab tk_X10_feed 8 rfl) rfl ?_
    refine am_dup2 (q := 19) rfl rfl (am_tab tk_X10_feed 9 rfl) rfl ?_
    refine am_iald (q := 20) (a := 57) (n := 6) (x := (σ.2.1 57 0)) (Ls_57 hL) (by omega) (by omega) rfl (am_tab tk_X10_feed 10 rfl) rfl ?_
    refine am_iconst (q := 21) (n := 1) (by decide) (am_tab tk_X10_feed 11 rfl) rfl ?_
    refine am_iadd (q := 22) (by omega) (am_tab tk_X10_feed 12 rfl) rfl ?_
    refine am_iast (q := 23) (a := 57) (n := 6) (Ls_57 hL) (by omega) (by omega) (am_tab tk_X10_feed 13 rfl) rfl ?_
    refine am_iconst (q := 24) (n := (-1)) (by decide) (am_tab tk_X10_feed 14 rfl) rfl ?_
    refine am_iret (Or.inl rfl) (Nat.le_of_ble_eq_true rfl) (Nat.le_of_ble_eq_true rfl) (am_tab tk_X10_feed 15 rfl) ?_
    exact Or.inl ⟨by omega, rfl, rfl⟩
