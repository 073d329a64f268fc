theorem LRG_sd {S : am_H} (h : LRG S) : LRG (sdH S) := by
  have e : ∀ a k, (87 ≤ a ∧ a ≤ 89) ∨ a = 91 → k < 8 → (sdH S).2.1 a k = S.2.1 a k := fun a k h1 h2 => by
    show (if a = 85 then cpA S 85 5 5 k else if (86 ≤ a ∧ a ≤ 89) ∨ a = 91 then cpA S a 8 8 k else _) = _
    rw [if_neg (by omega), if_pos (by omega)]
    unfold cpA
    rw [if_neg (by omega)]
  refine ⟨fun p hp => ?_, fun k hk => ?_⟩
  · rw [e 87 p (by omega) hp, e 88 p (by omega) hp, e 89 p (by omega) hp]
    exact h.1 p hp
  · rw [e 91 k (by omega) hk]
    exact h.2 k hk
set_option maxRecDepth 100000 in
theorem c_town9 (b : Nat → Int) (E : Nat) (S : am_H) (hL : lay S) (hWD : WD S) (hX : (∀ j, S.2.1 56 j = b j) ∧ S.2.1 55 1 = (E : Int) ∧ E ≤ 1600 ∧ (∀ j, j < 1600 → 0 ≤ b j ∧ b j ≤ 255)) (hRM : RM b E)  (hr : 0 ≤ S.2.1 57 1 ∧ S.2.1 57 1 ≤ 100000) : am_met M_X10_town [am_r 55] S (fun r σ' => tnP S r σ' (tnR b E S) ∧ (LRG S → LRG σ')) := by
  refine am_qq (fun Q hQ => ?_)
  refine am_enter (show plainFor yX10_town = true by decide +kernel) rfl (Nat.le_of_ble_eq_true rfl) (fun _ _ _ => trivial) ?_
  refine am_aload_n (q := 1) rfl (am_tab tk_X10_town 0 rfl) rfl ?_
  refine am_aload_n (q := 2) rfl (am_tab tk_X10_town 1 rfl) rfl ?_
  refine am_getI (q := 5) (a := 55) (k := 10) (n := 108) (j := 1) (x := (S.2.1 55 1)) (Ls_55 hL) (by decide) rfl rfl (by decide) (Or.inl kf_X10_245) (am_tab tk_X10_town 2 rfl) rfl ?_
  refine am_putI (q := 8) (k := 10) (n := 108) (j := 3) (Ls_55 hL) (by decide) rfl (by decide) (Or.inl ⟨kf_X10_257, rfl⟩) (am_tab tk_X10_town 3 rfl) rfl ?_
  refine am_aload_n (q := 9) rfl (am_tab tk_X10_town 4 rfl) rfl ?_
  refine am_iconst (q := 10) (n := 0) (by decide) (am_tab tk_X10_town 5 rfl) rfl ?_
  refine am_putI (q := 13) (k := 10) (n := 108) (j := 1) (Ls_55 hL) (by decide) rfl (by decide) (Or.inl ⟨kf_X10_245, rfl⟩) (am_tab tk_X10_town 6 rfl) rfl ?_
  refine am_aload_n (q := 14) rfl (am_tab tk_X10_town 7 rfl) rfl ?_
  refine am_iconst (q := 15) (n := 0) (by decide) (am_tab tk_X10_town 8 rfl) rfl ?_
  refine am_putI (q := 18) (k := 10) (n := 108) (j := 2) (Ls_55 hL) (by decide) rfl (by decide) (Or.inl ⟨kf_X10_254, rfl⟩) (am_tab tk_X10_town 9 rfl) rfl ?_
  refine am_aload_n (q := 19) rfl (am_tab tk_X10_town 10 rfl) rfl ?_
  refine am_iconst (q := 20) (n := (-1)) (by decide) (am_tab tk_X10_town 11 rfl) rfl ?_
  refine am_putI (q := 23) (k := 10) (n := 108) (j := 4) (Ls_55 hL) (by decide) rfl (by decide) (Or.inl ⟨kf_X10_268, rfl⟩) (am_tab tk_X10_town 12 rfl) rfl ?_
  refine am_aload_n (q := 24) rfl (am_tab tk_X10_town 13 rfl) rfl ?_
  refine am_iconst (q := 25) (n := 0) (by decide) (am_tab tk_X10_town 14 rfl) rfl ?_
  refine am_putI (q := 28) (k := 10) (n := 108) (j := 5) (Ls_55 hL) (by decide) rfl (by decide) (Or.inl ⟨kf_X10_248, rfl⟩) (am_tab tk_X10_town 15 rfl) rfl ?_
  refine am_aload_n (q := 29) rfl (am_tab tk_X10_town 16 rfl) rfl ?_
  refine am_iconst (q := 30) (n := (-1)) (by decide) (am_tab tk_X10_town 17 rfl) rfl ?_
  refine am_putI (q := 33) (k := 10) (n := 108) (j := 6) (Ls_55 hL) (by decide) rfl (by decide) (Or.inl ⟨kf_X10_251, rfl⟩) (am_tab tk_X10_town 18 rfl) rfl ?_
  refine am_aload_n (q := 34) rfl (am_tab tk_X10_town 19 rfl) rfl ?_
  refine am_iconst (q := 35) (n := 0) (by decide) (am_tab tk_X10_town 20 rfl) rfl ?_
  refine am_putI (q := 38) (k := 10) (n := 108) (j := 50) (Ls_55 hL) (by decide) rfl (by decide) (Or.inl ⟨kf_X10_351, rfl⟩) (am_tab tk_X10_town 21 rfl) rfl ?_
  refine am_iconst (q := 39) (n := 0) (by decide) (am_tab tk_X10_town 22 rfl) rfl ?_
  refine am_istore_n (q := 40) (by decide) (ls2 := [(1, am_i 0), (0, am_r 55)]) rfl (am_tab tk_X10_town 23 rfl) rfl ?_
  have L40 : ∀ (n40 : Nat) (k1 : Nat) (T1 : am_H), 5 - k1 < n40 → frw W_z1 (am_setN (am_setN (am_setN (am_setN (am_setN (am_setN (am_setN S 55 3 (S.2.1 55 1)) 55 1 0) 55 2 0) 55 4 (-1)) 55 5 0) 55 6 (-1)) 55 50 0) T1 → (∀ j, T1.2.1 85 j = if j < k1 then 0 else S.2.1 85 j) → k1 ≤ 5 → am_wp M_X10_town Q 0 0 40 [(1, am_i ((k1 : Int))), (0, am_r 55)] [] T1 := by
    intro n40
    induction n40 with
    | zero => intro k1 T1 hn40; exact absurd hn40 (Nat.not_lt_zero _)
    | succ n40 ih40 =>
      intro k1 T1 hn40 hT1 hzT1 hk1
      have hL_T1 : lay T1 := hT1.L hL
      refine am_iload_n (q := 41) rfl (am_tab tk_X10_town 24 rfl) rfl ?_
      refine am_iconst (q := 42) (n := 5) (by decide) (am_tab tk_X10_town 25 rfl) rfl ?_
      refine am_icmp_ge (q := 45) (t := 58) (am_tab tk_X10_town 26 rfl) (by decide) rfl (fun h42 => ?_) (fun h42 => ?_)
      · refine am_iconst (q := 59) (n := 0) (by decide) (am_tab tk_X10_town 34 rfl) rfl ?_
        refine am_istore_n (q := 60) (by decide) (ls2 := [(1, am_i 0), (0, am_r 55)]) rfl (am_tab tk_X10_town 35 rfl) rfl ?_
        have L60 : ∀ (n60 : Nat) (k2 : Nat) (T2 : am_H), 91 - k2 < n60 → frw W_z2 T1 T2 → (∀ j, T2.2.1 90 j = if j < k2 then 0 else S.2.1 90 j) → k2 ≤ 91 → am_wp M_X10_town Q 0 0 60 [(1, am_i ((k2 : Int))), (0, am_r 55)] [] T2 := by
          intro n60
          induction n60 with
          | zero => intro k2 T2 hn60; exact absurd hn60 (Nat.not_lt_zero _)
          | succ n60 ih60 =>
            intro k2 T2 hn60 hT2 hzT2 hk2
            have hL_T2 : lay T2 := hT2.L hL_T1
            refine am_iload_n (q := 61) rfl (am_tab tk_X10_town 36 rfl) rfl ?_
            refine am_bipush (q := 63) (n := 90) (by decide) rfl (am_tab tk_X10_town 37 rfl) rfl ?_
            refine am_icmp_gt (q := 66) (t := 79) (am_tab tk_X10_town 38 rfl) (by decide) rfl (fun h63 => ?_) (fun h63 => ?_)
            · refine am_aload_n (q := 80) rfl (am_tab tk_X10_town 46 rfl) rfl ?_
              refine am_getR (q := 83) (a := 55) (k := 10) (n := 108) (j := 46) (r := some (92)) (Ls_55 hL_T2) (by decide) rfl (Lr_55_46 hL_T2) (by decide) (Or.inl kf_X10_124) (am_tab tk_X10_town 47 rfl) rfl ?_
              refine am_iconst (q := 84) (n := 0) (by decide) (am_tab tk_X10_town 48 rfl) rfl ?_
              refine am_iconst (q := 85) (n := 0) (by decide) (am_tab tk_X10_town 49 rfl) rfl ?_
              refine am_iast (q := 86) (a := 92) (n := 4) (Ls_92 hL_T2) (by omega) (by omega) (am_tab tk_X10_town 50 rfl) rfl ?_
              refine am_aload_n (q := 87) rfl (am_tab tk_X10_town 51 rfl) rfl ?_
              refine am_getR (q := 90) (a := 55) (k := 10) (n := 108) (j := 46) (r := some (92)) (Ls_55 hL_T2) (by decide) rfl (Lr_55_46 hL_T2) (by decide) (Or.inl kf_X10_124) (am_tab tk_X10_town 52 rfl) rfl ?_
              refine am_iconst (q := 91) (n := 1) (by decide) (am_tab tk_X10_town 53 rfl) rfl ?_
              refine am_iconst (q := 92) (n := 0) (by decide) (am_tab tk_X10_town 54 rfl) rfl ?_
              refine am_iast (q := 93) (a := 92) (n := 4) (Ls_92 hL_T2) (by omega) (by omega) (am_tab tk_X10_town 55 rfl) rfl ?_
              refine am_aload_n (q := 94) rfl (am_tab tk_X10_town 56 rfl) rfl ?_
              refine am_getR (q := 97) (a := 55) (k := 10) (n := 108) (j := 47) (r := some (93)) (Ls_55 hL_T2) (by decide) rfl (Lr_55_47 hL_T2) (by decide) (Or.inl kf_X10_127) (am_tab tk_X10_town 57 rfl) rfl ?_
              refine am_iconst (q := 98) (n := 0) (by decide) (am_tab tk_X10_town 58 rfl) rfl ?_
              refine am_iconst (q := 99) (n := (-1)) (by decide) (am_tab tk_X10_town 59 rfl) rfl ?_
              refine am_iast (q := 100) (a := 93) (n := 4) (Ls_93 hL_T2) (by omega) (by omega) (am_tab tk_X10_town 60 rfl) rfl ?_
              refine am_aload_n (q := 101) rfl (am_tab tk_X10_town 61 rfl) rfl ?_
              refine am_getR (q := 104) (a := 55) (k := 10) (n := 108) (j := 47) (r := some (93)) (Ls_55 hL_T2) (by decide) rfl (Lr_55_47 hL_T2) (by decide) (Or.inl kf_X10_127) (am_tab tk_X10_town 62 rfl) rfl ?_
              refine am_iconst (q := 105) (n := 1) (by decide) (am_tab tk_X10_town 63 rfl) rfl ?_
              refine am_iconst (q := 106) (n := (-1)) (by decide) (am_tab tk_X10_town 64 rfl) rfl ?_
              refine am_iast (q := 107) (a := 93) (n := 4) (Ls_93 hL_T2) (by omega) (by omega) (am_tab tk_X10_town 65 rfl) rfl ?_
              have frs : frw W_tx (t1H S) (am_setN (am_setN (am_setN (am_setN (am_setN (am_setN (am_setN S 55 3 (S.2.1 55 1)) 55 1 0) 55 2 0) 55 4 (-1)) 55 5 0) 55 6 (-1)) 55 50 0) := ((((((frw.refl W_tx (t1H S)).setN (by unfold W_tx W_tw W_t W_p W_sc; omega)).setN (by unfold W_tx W_tw W_t W_p W_sc; omega)).setN (by unfold W_tx W_tw W_t W_p W_sc; omega)).setN (by unfold W_tx W_tw W_t W_p W_sc; omega)).setN (by unfold W_tx W_tw; omega))
              have hZ1 : ZS b E 0 (am_setN (am_setN (am_setN (am_setN (am_setN (am_setN (am_setN S 55 3 (S.2.1 55 1)) 55 1 0) 55 2 0) 55 4 (-1)) 55 5 0) 55 6 (-1)) 55 50 0) := ⟨hL, hWD.fr (W := fun a _ => a = 55) ⟨rfl, rfl, fun a j h => by
                  show (if a = 55 ∧ j = 50 then 0 else if a = 55 ∧ j = 6 then -1 else if a = 55 ∧ j = 5 then 0 else if a = 55 ∧ j = 4 then -1 else if a = 55 ∧ j = 2 then 0 else if a = 55 ∧ j = 1 then 0 else if a = 55 ∧ j = 3 then S.2.1 55 1 else S.2.1 a j) = _
                  rw [if_neg (by omega), if_neg (by omega), if_neg (by omega), if_neg (by omega), if_neg (by omega), if_neg (by omega), if_neg (by omega)]⟩ (fun a j h => by show ¬ a = 55; omega), ⟨hX.1, hX.2.1, hX.2.2⟩, rfl, rfl, ⟨Int.le_refl 0, Int.natCast_nonneg E⟩, (by show (-1 : Int) ≤ 0; decide), rfl, ⟨fun h => absurd (show false = true from h) (by decide), fun h => absurd (show (-1 : Int) = (zP b E 0 : Int) from h) (by omega)⟩⟩
              have hZ3 : ZS b E 0 (am_setN (am_setN (am_setN (am_setN T2 92 0 0) 92 1 0) 93 0 (-1)) 93 1 (-1)) := hZ1.st ((((((hT1.mono (fun _ _ h => by unfold W_z1 at h; unfold W_st; omega)).trans (hT2.mono (fun _ _ h => by unfold W_z2 at h; unfold W_st; omega))).setN (by unfold W_st; omega)).setN (by unfold W_st; omega)).setN (by unfold W_st; omega)).setN (by unfold W_st; omega))
              refine am_aload_n (q := 108) rfl (am_tab tk_X10_town 66 rfl) rfl ?_
              refine am_callVr (q := 111) (me2 := M_X10_daysTold) (b := 55) (kb := 10) (nb := 108) (As := []) (rest := []) (c_X10_daysTold (am_setN (am_setN (am_setN (am_setN T2 92 0 0) 92 1 0) 93 0 (-1)) 93 1 (-1)) (show ZZ b E _ (.inl 0) from hZ3)) ⟨rfl, rfl⟩ (Ls_55 hL_T2) (by decide) ⟨Or.inl km_X10_372, kc_X10_daysTold, kn_X10, kd_X10_daysTold, ⟨(Nat.le_of_ble_eq_true rfl), (Nat.le_of_ble_eq_true rfl)⟩, ⟨(Nat.le_of_ble_eq_true rfl), (Nat.le_of_ble_eq_true rfl)⟩, (Nat.le_of_ble_eq_true rfl)⟩ ki_X10_daysTold ks_X10_daysTold rfl (am_tab tk_X10_town 67 rfl) rfl ?_
              rintro r T4 ⟨rfl, v, hvr, hZ4, hF4, hv⟩
              refine am_st (st2 := []) rfl ?_
              refine am_aload_n (q := 112) rfl (am_tab tk_X10_town 68 rfl) rfl ?_
              refine am_iconst (q := 113) (n := 1) (by decide) (am_tab tk_X10_town 69 rfl) rfl ?_
              refine am_putI (q := 116) (k := 10) (n := 108) (j := 51) (Ls_55 hZ4.L) (by decide) rfl (by decide) (Or.inl ⟨kf_X10_354, rfl⟩) (am_tab tk_X10_town 70 rfl) rfl ?_
              have L116 : ∀ (n116 : Nat) (f : Nat) (p : Nat ⊕ (Int × Int)) (H : am_H) (T : am_H), f < n116 → ZZ b E T p → iZ b E p → tnR b E S = tnF b E f H p → (∀ i, p = .inl i → frw W_t H T ∧ TWI H i ∧ 75 ≤ (f : Int) + H.2.1 55 51) → frw W_tx (t1H S) T → 0 < f → (LRG S → LRG T) → am_wp M_X10_town Q 0 0 116 [(0, am_r 55), (1, am_i ((k2 : Int)))] [] T := by
                intro n116
                induction n116 with
                | zero => intro f p H T hn116; exact absurd hn116 (Nat.not_lt_zero _)
                | succ n116 ih116 =>
                  intro f p H T hn116 hZp hip hres hH hW hf hLR
                  obtain ⟨g, rfl⟩ : ∃ g, f = g + 1 := ⟨f - 1, by omega⟩
                  by_cases lf : p.isLeft = true
                  · obtain ⟨i, hpi⟩ := sumL lf
                    rw [hpi] at hZp hip hres
                    have hZ : ZS b E i T := hZp
                    have hii : i ≤ zP b E i := hip
                    have hzr := zP_rng b E i
                    obtain ⟨hHT, hTW, hfu⟩ := hH i hpi
                    have hTW2 := hTW
                    obtain ⟨_, _, _, _, _, hC2, hM2⟩ := hTW2
                    have hHZ : frw W_t H (am_setN T 55 2 (zP b E i : Int)) := hHT.setN (by unfold W_t W_p W_sc; omega)
                    refine am_aload_n (q := 117) rfl (am_tab tk_X10_town 71 rfl) rfl ?_
                    refine am_getI (q := 120) (a := 55) (k := 10) (n := 108) (j := 5) (x := 0) (Ls_55 hZ.1) (by decide) rfl hZ.2.2.2.1 (by decide) (Or.inl kf_X10_248) (am_tab tk_X10_town 72 rfl) rfl ?_
                    refine am_if_ne (q := 123) (t := 138) (am_tab tk_X10_town 73 rfl) (by decide) rfl (fun h120 => ?_) (fun h120 => ?_)
                    · exact absurd h120 (by decide)
                    · refine am_aload_n (q := 124) rfl (am_tab tk_X10_town 74 rfl) rfl ?_
                      refine am_callV0 (q := 127) (me2 := M_X10_look) (b := 55) (kb := 10) (nb := 108) (As := []) (rest := []) (out := [am_i (byt b E i)]) (c_X10_look b E i T hZ.1 hZ.2.2) ⟨rfl, rfl⟩ (Ls_55 hZ.1) (by decide) ⟨Or.inl km_X10_260, kc_X10_look, kn_X10, kd_X10_look, ⟨(Nat.le_of_ble_eq_true rfl), (Nat.le_of_ble_eq_true rfl)⟩, ⟨(Nat.le_of_ble_eq_true rfl), (Nat.le_of_ble_eq_true rfl)⟩, (Nat.le_of_ble_eq_true rfl)⟩ ki_X10_look ks_X10_look rfl rfl (am_tab tk_X10_town 75 rfl) rfl ?_
                      by_cases fin : zK b E i = 6
                      · refine am_iconst (q := 128) (n := (-1)) (by decide) (am_tab tk_X10_town 76 rfl) rfl ?_
                        refine am_icmp_eq (q := 131) (t := 138) (am_tab tk_X10_town 77 rfl) (by decide) rfl (fun h128 => ?_) (fun h128 => ?_)
                        · refine am_aload_n (q := 139) rfl (am_tab tk_X10_town 81 rfl) rfl ?_
                          refine am_aload_n (q := 140) rfl (am_tab tk_X10_town 82 rfl) rfl ?_
                          refine am_getI (q := 143) (a := 55) (k := 10) (n := 108) (j := 5) (x := 0) (Ls_55 hZ.1) (by decide) rfl hZ.2.2.2.1 (by decide) (Or.inl kf_X10_248) (am_tab tk_X10_town 83 rfl) rfl ?_
                          refine am_putI (q := 146) (k := 10) (n := 108) (j := 7) (Ls_55 hZ.1) (by decide) rfl (by decide) (Or.inl ⟨kf_X10_378, rfl⟩) (am_tab tk_X10_town 84 rfl) rfl ?_
                          refine am_aload_n (q := 147) rfl (am_tab tk_X10_town 85 rfl) rfl ?_
                          refine am_aload_n (q := 148) rfl (am_tab tk_X10_town 86 rfl) rfl ?_
                          refine am_getI (q := 151) (a := 55) (k := 10) (n := 108) (j := 6) (x := (-1)) (Ls_55 hZ.1) (by decide) rfl hZ.2.2.2.2.1 (by decide) (Or.inl kf_X10_251) (am_tab tk_X10_town 87 rfl) rfl ?_
                          refine am_putI (q := 154) (k := 10) (n := 108) (j := 8) (Ls_55 hZ.1) (by decide) rfl (by decide) (Or.inl ⟨kf_X10_13, rfl⟩) (am_tab tk_X10_town 88 rfl) rfl ?_
                          refine am_aload_n (q := 155) rfl (am_tab tk_X10_town 89 rfl) rfl ?_
                          refine am_getI (q := 158) (a := 55) (k := 10) (n := 108) (j := 5) (x := 0) (Ls_55 hZ.1) (by decide) rfl hZ.2.2.2.1 (by decide) (Or.inl kf_X10_248) (am_tab tk_X10_town 90 rfl) rfl ?_
                          refine am_if_eq (q := 161) (t := 173) (am_tab tk_X10_town 91 rfl) (by decide) rfl (fun h158 => ?_) (fun h158 => ?_)
                          · refine am_aload_n (q := 174) rfl (am_tab tk_X10_town 102 rfl) rfl ?_
                            refine am_callV0 (q := 177) (me2 := M_X10_stands) (b := 55) (kb := 10) (nb := 108) (As := []) (rest := []) (out := []) (c_X10_stands (am_setN (am_setN (am_setN T 55 2 (zP b E i : Int)) 55 7 0) 55 8 (-1)) hZ.1 (by show 0 ≤ T.2.1 55 50 ∧ T.2.1 55 50 ≤ 1600; rw [tE50 hHT]; have := hX.2.2.1; omega)) ⟨rfl, rfl⟩ (Ls_55 hZ.1) (by decide) ⟨Or.inl km_X10_381, kc_X10_stands, kn_X10, kd_X10_stands, ⟨(Nat.le_of_ble_eq_true rfl), (Nat.le_of_ble_eq_true rfl)⟩, ⟨(Nat.le_of_ble_eq_true rfl), (Nat.le_of_ble_eq_true rfl)⟩, (Nat.le_of_ble_eq_true rfl)⟩ ki_X10_stands ks_X10_stands rfl rfl (am_tab tk_X10_town 103 rfl) rfl ?_
                            refine am_aload_n (q := 178) rfl (am_tab tk_X10_town 104 rfl) rfl ?_
                            refine am_getI (q := 181) (a := 55) (k := 10) (n := 108) (j := 51) (x := (H.2.1 55 51)) (Ls_55 hZ.1) (by decide) rfl (show T.2.1 55 51 = H.2.1 55 51 from tE51 hHT) (by decide) (Or.inl kf_X10_354) (am_tab tk_X10_town 105 rfl) rfl ?_
                            refine am_iret (Or.inl rfl) (Nat.le_of_ble_eq_true rfl) (Nat.le_of_ble_eq_true rfl) (am_tab tk_X10_town 106 rfl) ?_
                            refine hQ _ _ ?_
                            rw [show tnR b E S = .inl H from hres.trans (by show (if _ then _ else _) = _; rw [if_pos fin])]
                            refine ⟨⟨rfl, sdH_t ((hHZ.both 55 7 0).both 55 8 (-1))⟩, fun h => LRG_sd (((hLR h).c (fun a j ha => ?_)))⟩
                            simp (disch := omega) only [set_nn]
                          · exact absurd h158 (by decide)
                        · exact absurd (byt_6 fin) h128
                      · refine am_iconst (q := 128) (n := (-1)) (by decide) (am_tab tk_X10_town 76 rfl) rfl ?_
                        refine am_icmp_eq (q := 131) (t := 138) (am_tab tk_X10_town 77 rfl) (by decide) rfl (fun h128 => ?_) (fun h128 => ?_)
                        · exact absurd h128 (byt_n6 fin hX.2.2.2 hX.2.2.1)
                        · refine am_aload_n (q := 132) rfl (am_tab tk_X10_town 78 rfl) rfl ?_
                          refine am_callVr (q := 135) (me2 := M_X10_statementTold) (b := 55) (kb := 10) (nb := 108) (As := []) (rest := []) (c_statementTold9 b E i (am_setN T 55 2 (zP b E i : Int)) hZ.look rfl hii (TWI_t hHZ hTW) hRM) ⟨rfl, rfl⟩ (Ls_55 hZ.1) (by decide) ⟨Or.inl km_X10_375, kc_X10_statementTold, kn_X10, kd_X10_statementTold, ⟨(Nat.le_of_ble_eq_true rfl), (Nat.le_of_ble_eq_true rfl)⟩, ⟨(Nat.le_of_ble_eq_true rfl), (Nat.le_of_ble_eq_true rfl)⟩, (Nat.le_of_ble_eq_true rfl)⟩ ki_X10_statementTold ks_X10_statementTold rfl (am_tab tk_X10_town 79 rfl) rfl ?_
                          rintro r T9 ⟨rfl, hZ9, hI9, hX9, hG9, hL9⟩
                          rw [stF_t hHZ] at hZ9 hI9 hG9
                          refine am_st (st2 := []) rfl ?_
                          refine am_goto (t := 116) (am_tab tk_X10_town 80 rfl) (by decide) ?_
                          exact am_less (by intro q hq; simp only [List.mem_cons, List.not_mem_nil, or_false] at hq; rcases hq with rfl | rfl <;> simp) (ih116 g (stF b E H i) (stH b E H i) T9 (by omega) hZ9 hI9 (hres.trans (by show (if _ then _ else _) = _; rw [if_neg fin])) (fun j hj => ⟨(stH_t hHZ i).trans (hG9 (by rw [hj]; rfl)), (TWI_on hRM hTW hj).1, by rw [(TWI_on hRM hTW hj).2]; omega⟩) (hW.trans (((frw.refl W_tx T).setN (by unfold W_tx W_tw W_t W_p W_sc; omega)).trans hX9)) (by omega) (fun h => hL9 ((hLR h).c (fun a j ha => set_nn (by omega)))))
                  · obtain ⟨e, hpe⟩ := sumR lf
                    rw [hpe] at hZp hres
                    have hB : ZB b E e.1 e.2 T := hZp
                    refine am_aload_n (q := 117) rfl (am_tab tk_X10_town 71 rfl) rfl ?_
                    refine am_getI (q := 120) (a := 55) (k := 10) (n := 108) (j := 5) (x := e.1) (Ls_55 hB.1) (by decide) rfl hB.2.2.2.1 (by decide) (Or.inl kf_X10_248) (am_tab tk_X10_town 72 rfl) rfl ?_
                    refine am_if_ne (q := 123) (t := 138) (am_tab tk_X10_town 73 rfl) (by decide) rfl (fun h120 => ?_) (fun h120 => ?_)
                    · refine am_aload_n (q := 139) rfl (am_tab tk_X10_town 81 rfl) rfl ?_
                      refine am_aload_n (q := 140) rfl (am_tab tk_X10_town 82 rfl) rfl ?_
                      refine am_getI (q := 143) (a := 55) (k := 10) (n := 108) (j := 5) (x := e.1) (Ls_55 hB.1) (by decide) rfl hB.2.2.2.1 (by decide) (Or.inl kf_X10_248) (am_tab tk_X10_town 83 rfl) rfl ?_
                      refine am_putI (q := 146) (k := 10) (n := 108) (j := 7) (Ls_55 hB.1) (by decide) rfl (by decide) (Or.inl ⟨kf_X10_378, rfl⟩) (am_tab tk_X10_town 84 rfl) rfl ?_
                      refine am_aload_n (q := 147) rfl (am_tab tk_X10_town 85 rfl) rfl ?_
                      refine am_aload_n (q := 148) rfl (am_tab tk_X10_town 86 rfl) rfl ?_
                      refine am_getI (q := 151) (a := 55) (k := 10) (n := 108) (j := 6) (x := e.2) (Ls_55 hB.1) (by decide) rfl hB.2.2.2.2.2.1 (by decide) (Or.inl kf_X10_251) (am_tab tk_X10_town 87 rfl) rfl ?_
                      refine am_putI (q := 154) (k := 10) (n := 108) (j := 8) (Ls_55 hB.1) (by decide) rfl (by decide) (Or.inl ⟨kf_X10_13, rfl⟩) (am_tab tk_X10_town 88 rfl) rfl ?_
                      refine am_aload_n (q := 155) rfl (am_tab tk_X10_town 89 rfl) rfl ?_
                      refine am_getI (q := 158) (a := 55) (k := 10) (n := 108) (j := 5) (x := e.1) (Ls_55 hB.1) (by decide) rfl hB.2.2.2.1 (by decide) (Or.inl kf_X10_248) (am_tab tk_X10_town 90 rfl) rfl ?_
                      refine am_if_eq (q := 161) (t := 173) (am_tab tk_X10_town 91 rfl) (by decide) rfl (fun h158 => ?_) (fun h158 => ?_)
                      · exact absurd h158 hB.2.2.2.2.1
                      · refine am_aload_n (q := 162) rfl (am_tab tk_X10_town 92 rfl) rfl ?_
                        refine am_getR (q := 165) (a := 55) (k := 10) (n := 108) (j := 9) (r := some (57)) (Ls_55 hB.1) (by decide) rfl (Lr_55_9 hB.1) (by decide) (Or.inl kf_X10_17) (am_tab tk_X10_town 93 rfl) rfl ?_
                        refine am_iconst (q := 166) (n := 1) (by decide) (am_tab tk_X10_town 94 rfl) rfl ?_
                        refine am_dup2 (q := 167) rfl rfl (am_tab tk_X10_town 95 rfl) rfl ?_
                        refine am_iald (q := 168) (a := 57) (n := 6) (x := (S.2.1 57 1)) (Ls_57 hB.1) (by omega) (by omega) (hW.2.2 57 1 (by unfold W_tx W_tw W_t W_p W_sc W_q; omega)) (am_tab tk_X10_town 96 rfl) rfl ?_
                        refine am_iconst (q := 169) (n := 1) (by decide) (am_tab tk_X10_town 97 rfl) rfl ?_
                        refine am_iadd (q := 170) (by omega) (am_tab tk_X10_town 98 rfl) rfl ?_
                        refine am_iast (q := 171) (a := 57) (n := 6) (Ls_57 hB.1) (by omega) (by omega) (am_tab tk_X10_town 99 rfl) rfl ?_
                        refine am_iconst (q := 172) (n := (-1)) (by decide) (am_tab tk_X10_town 100 rfl) rfl ?_
                        refine am_iret (Or.inl rfl) (Nat.le_of_ble_eq_true rfl) (Nat.le_of_ble_eq_true rfl) (am_tab tk_X10_town 101 rfl) ?_
                        refine hQ _ _ ?_
                        rw [show tnR b E S = .inr e from hres]
                        refine ⟨⟨rfl, hB.2.2.2.2.1, ((hW.both 55 7 _).both 55 8 _).both 57 1 _⟩, fun h => (hLR h).c (fun a j ha => ?_)⟩
                        simp (disch := omega) only [set_nn]
                    · exact absurd h120 hB.2.2.2.2.1
              have hW5 : frw W_tx (t1H S) (am_setN T4 55 51 1) := (((((frs.trans (hT1.mono (fun _ _ h => by unfold W_z1 at h; unfold W_tx W_tw; omega))).trans (hT2.mono (fun _ _ h => by unfold W_z2 at h; unfold W_tx W_tw; omega))).trans (((((frw.refl W_tx T2).setN (by unfold W_tx W_tw; omega)).setN (by unfold W_tx W_tw; omega)).setN (by unfold W_tx W_tw; omega)).setN (by unfold W_tx W_tw; omega))).setN (a := 85) (j := 4) (x := v) (by unfold W_tx W_tw; omega)).trans ((W_sc_t hF4).mono (fun _ _ h => Or.inl (Or.inl h)))).setN (by unfold W_tx; omega)
              have hH5 : ∀ i, dyF b E (.inl 0) = .inl i → frw W_t (t0H S (vZ b E (akF b E 0 (.inl 0)))) (am_setN T4 55 51 1) ∧ TWI (t0H S (vZ b E (akF b E 0 (.inl 0)))) i ∧ 75 ≤ ((80 : Nat) : Int) + (t0H S (vZ b E (akF b E 0 (.inl 0)))).2.1 55 51 := by
                intro i hi
                obtain ⟨ev, h5⟩ := hv (by rw [hi]; rfl)
                rw [← ev]
                refine ⟨⟨hW5.1, hW5.2.1, fun a j hw => ?_⟩, ⟨by show (0 : Int) ≤ 0 ∧ (0 : Int) ≤ 8; decide, by show (0 : Int) ≤ 0 ∧ (0 : Int) ≤ 30; decide, by show (0 : Int) ≤ 0 ∧ (0 : Int) ≤ 20; decide, by show (0 : Int) ≤ 0 ∧ (0 : Int) ≤ 4; decide, h5, by show (0 : Int) ≤ 0 ∧ (0 : Int) ≤ (i : Int); omega, by show (0 : Int) ≤ 1 ∧ (1 : Int) ≤ 70; decide⟩, by show (75 : Int) ≤ ((80 : Nat) : Int) + 1; decide⟩
                have hw2 : ¬ W_sc a j := fun h => hw (Or.inl (Or.inl h))
                show (if a = 55 ∧ j = 51 then 1 else T4.2.1 a j) = (if a = 85 ∧ j < 4 then 0 else if a = 85 ∧ j = 4 then v else if a = 90 ∧ j < 91 then 0 else if a = 92 ∧ j < 2 then 0 else if a = 93 ∧ j < 2 then -1 else if a = 55 ∧ j = 1 then 0 else if a = 55 ∧ j = 3 then S.2.1 55 1 else if a = 55 ∧ j = 50 then 0 else if a = 55 ∧ j = 51 then 1 else S.2.1 a j)
                rw [hF4.2.2 a j hw2]
                show (if a = 55 ∧ j = 51 then 1 else if a = 85 ∧ j = 4 then v else if a = 93 ∧ j = 1 then -1 else if a = 93 ∧ j = 0 then -1 else if a = 92 ∧ j = 1 then 0 else if a = 92 ∧ j = 0 then 0 else T2.2.1 a j) = _
                by_cases g1 : a = 85
                · have e : T2.2.1 a j = if j < 5 then 0 else S.2.1 a j := by rw [g1, hT2.2.2 85 j (by unfold W_z2; omega), hzT1 j, show k1 = 5 by omega]
                  rw [if_neg (by omega)]
                  by_cases g2 : j = 4
                  · rw [if_pos ⟨g1, g2⟩, if_neg (by omega), if_pos ⟨g1, g2⟩]
                  · rw [if_neg (by omega), if_neg (by omega), if_neg (by omega), if_neg (by omega), if_neg (by omega), e]
                    by_cases g3 : j < 4
                    · rw [if_pos (by omega), if_pos ⟨g1, g3⟩]
                    · rw [if_neg (by omega), if_neg (by omega), if_neg (by omega), if_neg (by omega), if_neg (by omega), if_neg (by omega), if_neg (by omega), if_neg (by omega), if_neg (by omega), if_neg (by omega)]
                · by_cases g4 : a = 90
                  · rw [g4, if_neg (by omega), if_neg (by omega), if_neg (by omega), if_neg (by omega), if_neg (by omega), if_neg (by omega), hzT2 j, show k2 = 91 by omega, if_neg (show ¬ (90 = 85 ∧ j < 4) by omega), if_neg (show ¬ (90 = 85 ∧ j = 4) by omega)]
                    by_cases g5 : j < 91
                    · rw [if_pos g5, if_pos ⟨rfl, g5⟩]
                    · rw [if_neg g5, if_neg (fun h => g5 h.2), if_neg (by omega), if_neg (by omega), if_neg (by omega), if_neg (by omega), if_neg (by omega), if_neg (by omega)]
                  · have e : T2.2.1 a j = (am_setN (am_setN (am_setN (am_setN (am_setN (am_setN (am_setN S 55 3 (S.2.1 55 1)) 55 1 0) 55 2 0) 55 4 (-1)) 55 5 0) 55 6 (-1)) 55 50 0).2.1 a j := by rw [hT2.2.2 a j (by unfold W_z2; omega), hT1.2.2 a j (by unfold W_z1; omega)]
                    rw [e, if_neg (show ¬ (a = 85 ∧ j = 4) by omega), if_neg (show ¬ (a = 85 ∧ j < 4) by omega), if_neg (show ¬ (a = 85 ∧ j = 4) by omega), if_neg (show ¬ (a = 90 ∧ j < 91) by omega)]
                    show _ = _
                    have e2 : (am_setN (am_setN (am_setN (am_setN (am_setN (am_setN (am_setN S 55 3 (S.2.1 55 1)) 55 1 0) 55 2 0) 55 4 (-1)) 55 5 0) 55 6 (-1)) 55 50 0).2.1 a j = if a = 55 ∧ j = 1 then 0 else if a = 55 ∧ j = 3 then S.2.1 55 1 else if a = 55 ∧ j = 50 then 0 else S.2.1 a j := by
                      unfold W_sc at hw2
                      show (if a = 55 ∧ j = 50 then 0 else if a = 55 ∧ j = 6 then -1 else if a = 55 ∧ j = 5 then 0 else if a = 55 ∧ j = 4 then -1 else if a = 55 ∧ j = 2 then 0 else if a = 55 ∧ j = 1 then 0 else if a = 55 ∧ j = 3 then S.2.1 55 1 else S.2.1 a j) = _
                      rw [if_neg (show ¬ (a = 55 ∧ j = 6) by omega), if_neg (show ¬ (a = 55 ∧ j = 5) by omega), if_neg (show ¬ (a = 55 ∧ j = 4) by omega), if_neg (show ¬ (a = 55 ∧ j = 2) by omega)]
                      by_cases q1 : a = 55 ∧ j = 50
                      · rw [if_pos q1, if_neg (by omega), if_neg (by omega), if_pos q1]
                      · rw [if_neg q1, if_neg q1]
                    rw [e2]
                    by_cases q1 : a = 55
                    · rw [if_neg (show ¬ (a = 93 ∧ j = 1) by omega), if_neg (show ¬ (a = 93 ∧ j = 0) by omega), if_neg (show ¬ (a = 92 ∧ j = 1) by omega), if_neg (show ¬ (a = 92 ∧ j = 0) by omega), if_neg (show ¬ (a = 92 ∧ j < 2) by omega), if_neg (show ¬ (a = 93 ∧ j < 2) by omega)]
                      by_cases q2 : a = 55 ∧ j = 51
                      · rw [if_pos q2, if_neg (by omega), if_neg (by omega), if_neg (by omega), if_pos q2]
                      · rw [if_neg q2]
                        try rw [if_neg q2]
                    · rw [if_neg (show ¬ (a = 55 ∧ j = 51) by omega), if_neg (show ¬ (a = 55 ∧ j = 51) by omega), if_neg (show ¬ (a = 55 ∧ j = 1) by omega), if_neg (show ¬ (a = 55 ∧ j = 3) by omega), if_neg (show ¬ (a = 55 ∧ j = 50) by omega)]
                      by_cases q3 : a = 93 ∧ j < 2
                      · rw [if_neg (show ¬ (a = 92 ∧ j < 2) by omega), if_pos q3]
                        by_cases q4 : a = 93 ∧ j = 1
                        · rw [if_pos q4]
                        · rw [if_neg q4, if_pos (by omega)]
                      · rw [if_neg (show ¬ (a = 93 ∧ j = 1) by omega), if_neg (show ¬ (a = 93 ∧ j = 0) by omega), if_neg q3]
                        by_cases q5 : a = 92 ∧ j < 2
                        · rw [if_pos q5]
                          by_cases q6 : a = 92 ∧ j = 1
                          · rw [if_pos q6]
                          · rw [if_neg q6, if_pos (by omega)]
                        · rw [if_neg (show ¬ (a = 92 ∧ j = 1) by omega), if_neg (show ¬ (a = 92 ∧ j = 0) by omega), if_neg q5]
              have hLg : LRG S → LRG (am_setN T4 55 51 1) := fun h => h.c (fun a j ha => by
                rw [set_nn (by omega), hF4.2.2 a j (by unfold W_sc; omega)]
                simp (disch := omega) only [set_nn]
                rw [hT2.2.2 a j (by unfold W_z2; omega), hT1.2.2 a j (by unfold W_z1; omega)]
                simp (disch := omega) only [set_nn])
              refine am_less (by intro q hq; simp only [List.mem_cons, List.not_mem_nil, or_false] at hq; rcases hq with rfl | rfl <;> simp) (L116 (_ + 1) 80 (dyF b E (.inl 0)) (t0H S (vZ b E (akF b E 0 (.inl 0)))) (am_setN T4 55 51 1) (by exact Nat.lt_succ_self _) (hZ4.st ((frw.refl W_st T4).setN (by unfold W_st; omega))) (sgF_i (by decide) (nuF_i (akF_i (show iZ b E (.inl 0) from Nat.zero_le _)))) rfl hH5 hW5 (by decide) hLg)
            · refine am_aload_n (q := 67) rfl (am_tab tk_X10_town 39 rfl) rfl ?_
              refine am_getR (q := 70) (a := 55) (k := 10) (n := 108) (j := 44) (r := some (90)) (Ls_55 hL_T2) (by decide) rfl (Lr_55_44 hL_T2) (by decide) (Or.inl kf_X10_118) (am_tab tk_X10_town 40 rfl) rfl ?_
              refine am_iload_n (q := 71) rfl (am_tab tk_X10_town 41 rfl) rfl ?_
              refine am_iconst (q := 72) (n := 0) (by decide) (am_tab tk_X10_town 42 rfl) rfl ?_
              refine am_iast (q := 73) (a := 90) (n := 91) (Ls_90 hL_T2) (by omega) (by omega) (am_tab tk_X10_town 43 rfl) rfl ?_
              refine am_iinc (q := 76) rfl (by omega) (by decide) (ls2 := [(1, am_i (((k2 : Int) + 1))), (0, am_r 55)]) rfl (am_tab tk_X10_town 44 rfl) rfl ?_
              refine am_goto (t := 60) (am_tab tk_X10_town 45 rfl) (by decide) ?_
              exact am_less (by intro q hq; simp only [List.mem_cons, List.not_mem_nil, or_false] at hq; rcases hq with rfl | rfl <;> simp) (ih60 (k2 + 1) (am_setN T2 90 (Int.toNat (k2 : Int)) 0) (by omega) (hT2.setN (by unfold W_z2; omega)) (zl_on (by omega) hzT2) (by omega))
        refine am_less (by intro q hq; simp only [List.mem_cons, List.not_mem_nil, or_false] at hq; rcases hq with rfl | rfl <;> simp) (L60 (_ + 1) 0 T1 (by exact Nat.lt_succ_self _) (frw.refl _ _) (fun j => by rw [if_neg (by omega)]; exact hT1.2.2 90 j (by unfold W_z1; omega)) (Nat.zero_le _))
      · refine am_aload_n (q := 46) rfl (am_tab tk_X10_town 27 rfl) rfl ?_
        refine am_getR (q := 49) (a := 55) (k := 10) (n := 108) (j := 39) (r := some (85)) (Ls_55 hL_T1) (by decide) rfl (Lr_55_39 hL_T1) (by decide) (Or.inl kf_X10_102) (am_tab tk_X10_town 28 rfl) rfl ?_
        refine am_iload_n (q := 50) rfl (am_tab tk_X10_town 29 rfl) rfl ?_
        refine am_iconst (q := 51) (n := 0) (by decide) (am_tab tk_X10_town 30 rfl) rfl ?_
        refine am_iast (q := 52) (a := 85) (n := 10) (Ls_85 hL_T1) (by omega) (by omega) (am_tab tk_X10_town 31 rfl) rfl ?_
        refine am_iinc (q := 55) rfl (by omega) (by decide) (ls2 := [(1, am_i (((k1 : Int) + 1))), (0, am_r 55)]) rfl (am_tab tk_X10_town 32 rfl) rfl ?_
        refine am_goto (t := 40) (am_tab tk_X10_town 33 rfl) (by decide) ?_
        exact am_less (by intro q hq; simp only [List.mem_cons, List.not_mem_nil, or_false] at hq; rcases hq with rfl | rfl <;> simp) (ih40 (k1 + 1) (am_setN T1 85 (Int.toNat (k1 : Int)) 0) (by omega) (hT1.setN (by unfold W_z1; omega)) (zl_on (by omega) hzT1) (by omega))
  refine am_less (by intro q hq; simp only [List.mem_cons, List.not_mem_nil, or_false] at hq; rcases hq with rfl | rfl <;> simp) (L40 (_ + 1) 0 (am_setN (am_setN (am_setN (am_setN (am_setN (am_setN (am_setN S 55 3 (S.2.1 55 1)) 55 1 0) 55 2 0) 55 4 (-1)) 55 5 0) 55 6 (-1)) 55 50 0) (by exact Nat.lt_succ_self _) (frw.refl _ _) (fun j => by rw [if_neg (by omega)]; rfl) (Nat.zero_le _))
