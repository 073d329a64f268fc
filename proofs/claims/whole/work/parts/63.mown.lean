theorem bd1 {p : Prop} [Decidable p] (h : ¬ b2i (decide p) = 0) : p := by
  by_cases hp : p
  · exact hp
  · rw [decide_eq_false hp] at h; exact absurd rfl h
theorem bd0 {p : Prop} [Decidable p] (h : b2i (decide p) = 0) : ¬ p := by
  intro hp
  rw [decide_eq_true hp] at h
  exact absurd h (by decide)
def ownB (b : Nat → Int) (E i : Nat) : Bool := decide (128 ≤ zK b E i ∧ zK b E i ≤ 154)
set_option maxRecDepth 100000 in
theorem c_X10_isOwnHere (b : Nat → Int) (E i : Nat) (S : am_H) (hZ : ZS b E i S)   : am_met M_X10_isOwnHere [am_r 55] S (fun r σ' => r = some (am_i (b2i (ownB b E i))) ∧ σ' = am_setN S 55 2 (zP b E i : Int)) := by
  refine am_qq (fun Q hQ => ?_)
  refine am_enter (show plainFor yX10_isOwnHere = true by decide +kernel) rfl (Nat.le_of_ble_eq_true rfl) (fun _ _ _ => trivial) ?_
  have hL := hZ.1
  refine am_aload_n (q := 1) rfl (am_tab tk_X10_isOwnHere 0 rfl) rfl ?_
  refine am_aload_n (q := 2) rfl (am_tab tk_X10_isOwnHere 1 rfl) rfl ?_
  refine am_getR (q := 5) (a := 55) (k := 10) (n := 108) (j := 11) (r := some (58)) (Ls_55 hL) (by decide) rfl (Lr_55_11 hL) (by decide) (Or.inl kf_X10_20) (am_tab tk_X10_isOwnHere 2 rfl) rfl ?_
  refine am_callVr (q := 8) (me2 := M_X10_isHere) (b := 55) (kb := 10) (nb := 108) (As := [am_r 58]) (rest := []) (c_hereX b E i S hZ 58 0 (by decide)) ⟨rfl, rfl⟩ (Ls_55 hL) (by decide) ⟨Or.inl km_X10_271, kc_X10_isHere, kn_X10, kd_X10_isHere, ⟨(Nat.le_of_ble_eq_true rfl), (Nat.le_of_ble_eq_true rfl)⟩, ⟨(Nat.le_of_ble_eq_true rfl), (Nat.le_of_ble_eq_true rfl)⟩, (Nat.le_of_ble_eq_true rfl)⟩ ki_X10_isHere ks_X10_isHere rfl (am_tab tk_X10_isOwnHere 3 rfl) rfl ?_
  rintro r τ ⟨rfl, rfl⟩
  refine am_st (st2 := [am_i (b2i (decide (zK b E i = 128 + ((0 : Nat) : Int))))]) rfl ?_
  refine am_if_ne (q := 11) (t := 66) (am_tab tk_X10_isOwnHere 4 rfl) (by decide) rfl (fun h8 => ?_) (fun h8 => ?_)
  · refine am_iconst (q := 67) (n := 1) (by decide) (am_tab tk_X10_isOwnHere 30 rfl) rfl ?_
    refine am_goto (t := 71) (am_tab tk_X10_isOwnHere 31 rfl) (by decide) ?_
    refine am_istore_n (q := 72) (by decide) (ls2 := [(1, am_i 1), (0, am_r 55)]) rfl (am_tab tk_X10_isOwnHere 33 rfl) rfl ?_
    refine am_iload_n (q := 73) rfl (am_tab tk_X10_isOwnHere 34 rfl) rfl ?_
    refine am_if_ne (q := 76) (t := 142) (am_tab tk_X10_isOwnHere 35 rfl) (by decide) rfl (fun h73 => ?_) (fun h73 => ?_)
    · refine am_iconst (q := 143) (n := 1) (by decide) (am_tab tk_X10_isOwnHere 66 rfl) rfl ?_
      refine am_goto (t := 147) (am_tab tk_X10_isOwnHere 67 rfl) (by decide) ?_
      refine am_istore_n (q := 148) (by decide) (ls2 := [(1, am_i 1), (0, am_r 55)]) rfl (am_tab tk_X10_isOwnHere 69 rfl) rfl ?_
      refine am_iload_n (q := 149) rfl (am_tab tk_X10_isOwnHere 70 rfl) rfl ?_
      refine am_if_ne (q := 152) (t := 218) (am_tab tk_X10_isOwnHere 71 rfl) (by decide) rfl (fun h149 => ?_) (fun h149 => ?_)
      · refine am_iconst (q := 219) (n := 1) (by decide) (am_tab tk_X10_isOwnHere 102 rfl) rfl ?_
        refine am_goto (t := 223) (am_tab tk_X10_isOwnHere 103 rfl) (by decide) ?_
        refine am_istore_n (q := 224) (by decide) (ls2 := [(1, am_i 1), (0, am_r 55)]) rfl (am_tab tk_X10_isOwnHere 105 rfl) rfl ?_
        refine am_iload_n (q := 225) rfl (am_tab tk_X10_isOwnHere 106 rfl) rfl ?_
        refine am_if_ne (q := 228) (t := 294) (am_tab tk_X10_isOwnHere 107 rfl) (by decide) rfl (fun h225 => ?_) (fun h225 => ?_)
        · refine am_iconst (q := 295) (n := 1) (by decide) (am_tab tk_X10_isOwnHere 138 rfl) rfl ?_
          refine am_goto (t := 299) (am_tab tk_X10_isOwnHere 139 rfl) (by decide) ?_
          refine am_istore_n (q := 300) (by decide) (ls2 := [(1, am_i 1), (0, am_r 55)]) rfl (am_tab tk_X10_isOwnHere 141 rfl) rfl ?_
          refine am_iload_n (q := 301) rfl (am_tab tk_X10_isOwnHere 142 rfl) rfl ?_
          refine am_if_ne (q := 304) (t := 337) (am_tab tk_X10_isOwnHere 143 rfl) (by decide) rfl (fun h301 => ?_) (fun h301 => ?_)
          · refine am_iconst (q := 338) (n := 1) (by decide) (am_tab tk_X10_isOwnHere 159 rfl) rfl ?_
            refine am_goto (t := 342) (am_tab tk_X10_isOwnHere 160 rfl) (by decide) ?_
            refine am_istore_n (q := 343) (by decide) (ls2 := [(1, am_i 1), (0, am_r 55)]) rfl (am_tab tk_X10_isOwnHere 162 rfl) rfl ?_
            refine am_iload_n (q := 344) rfl (am_tab tk_X10_isOwnHere 163 rfl) rfl ?_
            refine am_iret (Or.inr ⟨rfl, by first | exact Or.inl rfl | exact Or.inr rfl | omega⟩) (Nat.le_of_ble_eq_true rfl) (Nat.le_of_ble_eq_true rfl) (am_tab tk_X10_isOwnHere 164 rfl) ?_
            refine hQ _ _ ?_
            refine ⟨congrArg (fun z => some (am_i z)) ?_, rfl⟩
            unfold ownB
            have k8 := bd1 h8
            rw [decide_eq_true (by omega)]; rfl
          · exact absurd h301 (by decide)
        · exact absurd h225 (by decide)
      · exact absurd h149 (by decide)
    · exact absurd h73 (by decide)
  · refine am_aload_n (q := 12) rfl (am_tab tk_X10_isOwnHere 5 rfl) rfl ?_
    refine am_aload_n (q := 13) rfl (am_tab tk_X10_isOwnHere 6 rfl) rfl ?_
    refine am_getR (q := 16) (a := 55) (k := 10) (n := 108) (j := 12) (r := some (59)) (Ls_55 hL) (by decide) rfl (Lr_55_12 hL) (by decide) (Or.inl kf_X10_24) (am_tab tk_X10_isOwnHere 7 rfl) rfl ?_
    refine am_callVr (q := 19) (me2 := M_X10_isHere) (b := 55) (kb := 10) (nb := 108) (As := [am_r 59]) (rest := []) (c_hereX b E i (am_setN S 55 2 (zP b E i : Int)) hZ.look 59 1 (by decide)) ⟨rfl, rfl⟩ (Ls_55 hL) (by decide) ⟨Or.inl km_X10_271, kc_X10_isHere, kn_X10, kd_X10_isHere, ⟨(Nat.le_of_ble_eq_true rfl), (Nat.le_of_ble_eq_true rfl)⟩, ⟨(Nat.le_of_ble_eq_true rfl), (Nat.le_of_ble_eq_true rfl)⟩, (Nat.le_of_ble_eq_true rfl)⟩ ki_X10_isHere ks_X10_isHere rfl (am_tab tk_X10_isOwnHere 8 rfl) rfl ?_
    rintro r τ ⟨rfl, rfl⟩
    refine am_hp2 (σ1 := (am_setN S 55 2 (zP b E i : Int))) (am_setN_N _ _ _ _ _) ?_
    refine am_st (st2 := [am_i (b2i (decide (zK b E i = 128 + ((1 : Nat) : Int))))]) rfl ?_
    refine am_if_ne (q := 22) (t := 66) (am_tab tk_X10_isOwnHere 9 rfl) (by decide) rfl (fun h19 => ?_) (fun h19 => ?_)
    · refine am_iconst (q := 67) (n := 1) (by decide) (am_tab tk_X10_isOwnHere 30 rfl) rfl ?_
      refine am_goto (t := 71) (am_tab tk_X10_isOwnHere 31 rfl) (by decide) ?_
      refine am_istore_n (q := 72) (by decide) (ls2 := [(1, am_i 1), (0, am_r 55)]) rfl (am_tab tk_X10_isOwnHere 33 rfl) rfl ?_
      refine am_iload_n (q := 73) rfl (am_tab tk_X10_isOwnHere 34 rfl) rfl ?_
      refine am_if_ne (q := 76) (t := 142) (am_tab tk_X10_isOwnHere 35 rfl) (by decide) rfl (fun h73 => ?_) (fun h73 => ?_)
      · refine am_iconst (q := 143) (n := 1) (by decide) (am_tab tk_X10_isOwnHere 66 rfl) rfl ?_
        refine am_goto (t := 147) (am_tab tk_X10_isOwnHere 67 rfl) (by decide) ?_
        refine am_istore_n (q := 148) (by decide) (ls2 := [(1, am_i 1), (0, am_r 55)]) rfl (am_tab tk_X10_isOwnHere 69 rfl) rfl ?_
        refine am_iload_n (q := 149) rfl (am_tab tk_X10_isOwnHere 70 rfl) rfl ?_
        refine am_if_ne (q := 152) (t := 218) (am_tab tk_X10_isOwnHere 71 rfl) (by decide) rfl (fun h149 => ?_) (fun h149 => ?_)
        · refine am_iconst (q := 219) (n := 1) (by decide) (am_tab tk_X10_isOwnHere 102 rfl) rfl ?_
          refine am_goto (t := 223) (am_tab tk_X10_isOwnHere 103 rfl) (by decide) ?_
          refine am_istore_n (q := 224) (by decide) (ls2 := [(1, am_i 1), (0, am_r 55)]) rfl (am_tab tk_X10_isOwnHere 105 rfl) rfl ?_
          refine am_iload_n (q := 225) rfl (am_tab tk_X10_isOwnHere 106 rfl) rfl ?_
          refine am_if_ne (q := 228) (t := 294) (am_tab tk_X10_isOwnHere 107 rfl) (by decide) rfl (fun h225 => ?_) (fun h225 => ?_)
          · refine am_iconst (q := 295) (n := 1) (by decide) (am_tab tk_X10_isOwnHere 138 rfl) rfl ?_
            refine am_goto (t := 299) (am_tab tk_X10_isOwnHere 139 rfl) (by decide) ?_
            refine am_istore_n (q := 300) (by decide) (ls2 := [(1, am_i 1), (0, am_r 55)]) rfl (am_tab tk_X10_isOwnHere 141 rfl) rfl ?_
            refine am_iload_n (q := 301) rfl (am_tab tk_X10_isOwnHere 142 rfl) rfl ?_
            refine am_if_ne (q := 304) (t := 337) (am_tab tk_X10_isOwnHere 143 rfl) (by decide) rfl (fun h301 => ?_) (fun h301 => ?_)
            · refine am_iconst (q := 338) (n := 1) (by decide) (am_tab tk_X10_isOwnHere 159 rfl) rfl ?_
              refine am_goto (t := 342) (am_tab tk_X10_isOwnHere 160 rfl) (by decide) ?_
              refine am_istore_n (q := 343) (by decide) (ls2 := [(1, am_i 1), (0, am_r 55)]) rfl (am_tab tk_X10_isOwnHere 162 rfl) rfl ?_
              refine am_iload_n (q := 344) rfl (am_tab tk_X10_isOwnHere 163 rfl) rfl ?_
              refine am_iret (Or.inr ⟨rfl, by first | exact Or.inl rfl | exact Or.inr rfl | omega⟩) (Nat.le_of_ble_eq_true rfl) (Nat.le_of_ble_eq_true rfl) (am_tab tk_X10_isOwnHere 164 rfl) ?_
              refine hQ _ _ ?_
              refine ⟨congrArg (fun z => some (am_i z)) ?_, rfl⟩
              unfold ownB
              have k19 := bd1 h19
              rw [decide_eq_true (by omega)]; rfl
            · exact absurd h301 (by decide)
          · exact absurd h225 (by decide)
        · exact absurd h149 (by decide)
      · exact absurd h73 (by decide)
    · refine am_aload_n (q := 23) rfl (am_tab tk_X10_isOwnHere 10 rfl) rfl ?_
      refine am_aload_n (q := 24) rfl (am_tab tk_X10_isOwnHere 11 rfl) rfl ?_
      refine am_getR (q := 27) (a := 55) (k := 10) (n := 108) (j := 13) (r := some (60)) (Ls_55 hL) (by decide) rfl (Lr_55_13 hL) (by decide) (Or.inl kf_X10_27) (am_tab tk_X10_isOwnHere 12 rfl) rfl ?_
      refine am_callVr (q := 30) (me2 := M_X10_isHere) (b := 55) (kb := 10) (nb := 108) (As := [am_r 60]) (rest := []) (c_hereX b E i (am_setN S 55 2 (zP b E i : Int)) hZ.look 60 2 (by decide)) ⟨rfl, rfl⟩ (Ls_55 hL) (by decide) ⟨Or.inl km_X10_271, kc_X10_isHere, kn_X10, kd_X10_isHere, ⟨(Nat.le_of_ble_eq_true rfl), (Nat.le_of_ble_eq_true rfl)⟩, ⟨(Nat.le_of_ble_eq_true rfl), (Nat.le_of_ble_eq_true rfl)⟩, (Nat.le_of_ble_eq_true rfl)⟩ ki_X10_isHere ks_X10_isHere rfl (am_tab tk_X10_isOwnHere 13 rfl) rfl ?_
      rintro r τ ⟨rfl, rfl⟩
      refine am_hp2 (σ1 := (am_setN S 55 2 (zP b E i : Int))) (am_setN_N _ _ _ _ _) ?_
      refine am_st (st2 := [am_i (b2i (decide (zK b E i = 128 + ((2 : Nat) : Int))))]) rfl ?_
      refine am_if_ne (q := 33) (t := 66) (am_tab tk_X10_isOwnHere 14 rfl) (by decide) rfl (fun h30 => ?_) (fun h30 => ?_)
      · refine am_iconst (q := 67) (n := 1) (by decide) (am_tab tk_X10_isOwnHere 30 rfl) rfl ?_
        refine am_goto (t := 71) (am_tab tk_X10_isOwnHere 31 rfl) (by decide) ?_
        refine am_istore_n (q := 72) (by decide) (ls2 := [(1, am_i 1), (0, am_r 55)]) rfl (am_tab tk_X10_isOwnHere 33 rfl) rfl ?_
        refine am_iload_n (q := 73) rfl (am_tab tk_X10_isOwnHere 34 rfl) rfl ?_
        refine am_if_ne (q := 76) (t := 142) (am_tab tk_X10_isOwnHere 35 rfl) (by decide) rfl (fun h73 => ?_) (fun h73 => ?_)
        · refine am_iconst (q := 143) (n := 1) (by decide) (am_tab tk_X10_isOwnHere 66 rfl) rfl ?_
          refine am_goto (t := 147) (am_tab tk_X10_isOwnHere 67 rfl) (by decide) ?_
          refine am_istore_n (q := 148) (by decide) (ls2 := [(1, am_i 1), (0, am_r 55)]) rfl (am_tab tk_X10_isOwnHere 69 rfl) rfl ?_
          refine am_iload_n (q := 149) rfl (am_tab tk_X10_isOwnHere 70 rfl) rfl ?_
          refine am_if_ne (q := 152) (t := 218) (am_tab tk_X10_isOwnHere 71 rfl) (by decide) rfl (fun h149 => ?_) (fun h149 => ?_)
          · refine am_iconst (q := 219) (n := 1) (by decide) (am_tab tk_X10_isOwnHere 102 rfl) rfl ?_
            refine am_goto (t := 223) (am_tab tk_X10_isOwnHere 103 rfl) (by decide) ?_
            refine am_istore_n (q := 224) (by decide) (ls2 := [(1, am_i 1), (0, am_r 55)]) rfl (am_tab tk_X10_isOwnHere 105 rfl) rfl ?_
            refine am_iload_n (q := 225) rfl (am_tab tk_X10_isOwnHere 106 rfl) rfl ?_
            refine am_if_ne (q := 228) (t := 294) (am_tab tk_X10_isOwnHere 107 rfl) (by decide) rfl (fun h225 => ?_) (fun h225 => ?_)
            · refine am_iconst (q := 295) (n := 1) (by decide) (am_tab tk_X10_isOwnHere 138 rfl) rfl ?_
              refine am_goto (t := 299) (am_tab tk_X10_isOwnHere 139 rfl) (by decide) ?_
              refine am_istore_n (q := 300) (by decide) (ls2 := [(1, am_i 1), (0, am_r 55)]) rfl (am_tab tk_X10_isOwnHere 141 rfl) rfl ?_
              refine am_iload_n (q := 301) rfl (am_tab tk_X10_isOwnHere 142 rfl) rfl ?_
              refine am_if_ne (q := 304) (t := 337) (am_tab tk_X10_isOwnHere 143 rfl) (by decide) rfl (fun h301 => ?_) (fun h301 => ?_)
              · refine am_iconst (q := 338) (n := 1) (by decide) (am_tab tk_X10_isOwnHere 159 rfl) rfl ?_
                refine am_goto (t := 342) (am_tab tk_X10_isOwnHere 160 rfl) (by decide) ?_
                refine am_istore_n (q := 343) (by decide) (ls2 := [(1, am_i 1), (0, am_r 55)]) rfl (am_tab tk_X10_isOwnHere 162 rfl) rfl ?_
                refine am_iload_n (q := 344) rfl (am_tab tk_X10_isOwnHere 163 rfl) rfl ?_
                refine am_iret (Or.inr ⟨rfl, by first | exact Or.inl rfl | exact Or.inr rfl | omega⟩) (Nat.le_of_ble_eq_true rfl) (Nat.le_of_ble_eq_true rfl) (am_tab tk_X10_isOwnHere 164 rfl) ?_
                refine hQ _ _ ?_
                refine ⟨congrArg (fun z => some (am_i z)) ?_, rfl⟩
                unfold ownB
                have k30 := bd1 h30
                rw [decide_eq_true (by omega)]; rfl
              · exact absurd h301 (by decide)
            · exact absurd h225 (by decide)
          · exact absurd h149 (by decide)
        · exact absurd h73 (by decide)
      · refine am_aload_n (q := 34) rfl (am_tab tk_X10_isOwnHere 15 rfl) rfl ?_
        refine am_aload_n (q := 35) rfl (am_tab tk_X10_isOwnHere 16 rfl) rfl ?_
        refine am_getR (q := 38) (a := 55) (k := 10) (n := 108) (j := 14) (r := some (61)) (Ls_55 hL) (by decide) rfl (Lr_55_14 hL) (by decide) (Or.inl kf_X10_30) (am_tab tk_X10_isOwnHere 17 rfl) rfl ?_
        refine am_callVr (q := 41) (me2 := M_X10_isHere) (b := 55) (kb := 10) (nb := 108) (As := [am_r 61]) (rest := []) (c_hereX b E i (am_setN S 55 2 (zP b E i : Int)) hZ.look 61 3 (by decide)) ⟨rfl, rfl⟩ (Ls_55 hL) (by decide) ⟨Or.inl km_X10_271, kc_X10_isHere, kn_X10, kd_X10_isHere, ⟨(Nat.le_of_ble_eq_true rfl), (Nat.le_of_ble_eq_true rfl)⟩, ⟨(Nat.le_of_ble_eq_true rfl), (Nat.le_of_ble_eq_true rfl)⟩, (Nat.le_of_ble_eq_true rfl)⟩ ki_X10_isHere ks_X10_isHere rfl (am_tab tk_X10_isOwnHere 18 rfl) rfl ?_
        rintro r τ ⟨rfl, rfl⟩
        refine am_hp2 (σ1 := (am_setN S 55 2 (zP b E i : Int))) (am_setN_N _ _ _ _ _) ?_
        refine am_st (st2 := [am_i (b2i (decide (zK b E i = 128 + ((3 : Nat) : Int))))]) rfl ?_
        refine am_if_ne (q := 44) (t := 66) (am_tab tk_X10_isOwnHere 19 rfl) (by decide) rfl (fun h41 => ?_) (fun h41 => ?_)
        · refine am_iconst (q := 67) (n := 1) (by decide) (am_tab tk_X10_isOwnHere 30 rfl) rfl ?_
          refine am_goto (t := 71) (am_tab tk_X10_isOwnHere 31 rfl) (by decide) ?_
          refine am_istore_n (q := 72) (by decide) (ls2 := [(1, am_i 1), (0, am_r 55)]) rfl (am_tab tk_X10_isOwnHere 33 rfl) rfl ?_
          refine am_iload_n (q := 73) rfl (am_tab tk_X10_isOwnHere 34 rfl) rfl ?_
          refine am_if_ne (q := 76) (t := 142) (am_tab tk_X10_isOwnHere 35 rfl) (by decide) rfl (fun h73 => ?_) (fun h73 => ?_)
          · refine am_iconst (q := 143) (n := 1) (by decide) (am_tab tk_X10_isOwnHere 66 rfl) rfl ?_
            refine am_goto (t := 147) (am_tab tk_X10_isOwnHere 67 rfl) (by decide) ?_
            refine am_istore_n (q := 148) (by decide) (ls2 := [(1, am_i 1), (0, am_r 55)]) rfl (am_tab tk_X10_isOwnHere 69 rfl) rfl ?_
            refine am_iload_n (q := 149) rfl (am_tab tk_X10_isOwnHere 70 rfl) rfl ?_
            refine am_if_ne (q := 152) (t := 218) (am_tab tk_X10_isOwnHere 71 rfl) (by decide) rfl (fun h149 => ?_) (fun h149 => ?_)
            · refine am_iconst (q := 219) (n := 1) (by decide) (am_tab tk_X10_isOwnHere 102 rfl) rfl ?_
              refine am_goto (t := 223) (am_tab tk_X10_isOwnHere 103 rfl) (by decide) ?_
              refine am_istore_n (q := 224) (by decide) (ls2 := [(1, am_i 1), (0, am_r 55)]) rfl (am_tab tk_X10_isOwnHere 105 rfl) rfl ?_
              refine am_iload_n (q := 225) rfl (am_tab tk_X10_isOwnHere 106 rfl) rfl ?_
              refine am_if_ne (q := 228) (t := 294) (am_tab tk_X10_isOwnHere 107 rfl) (by decide) rfl (fun h225 => ?_) (fun h225 => ?_)
              · refine am_iconst (q := 295) (n := 1) (by decide) (am_tab tk_X10_isOwnHere 138 rfl) rfl ?_
                refine am_goto (t := 299) (am_tab tk_X10_isOwnHere 139 rfl) (by decide) ?_
                refine am_istore_n (q := 300) (by decide) (ls2 := [(1, am_i 1), (0, am_r 55)]) rfl (am_tab tk_X10_isOwnHere 141 rfl) rfl ?_
                refine am_iload_n (q := 301) rfl (am_tab tk_X10_isOwnHere 142 rfl) rfl ?_
                refine am_if_ne (q := 304) (t := 337) (am_tab tk_X10_isOwnHere 143 rfl) (by decide) rfl (fun h301 => ?_) (fun h301 => ?_)
                · refine am_iconst (q := 338) (n := 1) (by decide) (am_tab tk_X10_isOwnHere 159 rfl) rfl ?_
                  refine am_goto (t := 342) (am_tab tk_X10_isOwnHere 160 rfl) (by decide) ?_
                  refine am_istore_n (q := 343) (by decide) (ls2 := [(1, am_i 1), (0, am_r 55)]) rfl (am_tab tk_X10_isOwnHere 162 rfl) rfl ?_
                  refine am_iload_n (q := 344) rfl (am_tab tk_X10_isOwnHere 163 rfl) rfl ?_
                  refine am_iret (Or.inr ⟨rfl, by first | exact Or.inl rfl | exact Or.inr rfl | omega⟩) (Nat.le_of_ble_eq_true rfl) (Nat.le_of_ble_eq_true rfl) (am_tab tk_X10_isOwnHere 164 rfl) ?_
                  refine hQ _ _ ?_
                  refine ⟨congrArg (fun z => some (am_i z)) ?_, rfl⟩
                  unfold ownB
                  have k41 := bd1 h41
                  rw [decide_eq_true (by omega)]; rfl
                · exact absurd h301 (by decide)
              · exact absurd h225 (by decide)
            · exact absurd h149 (by decide)
          · exact absurd h73 (by decide)
        · refine am_aload_n (q := 45) rfl (am_tab tk_X10_isOwnHere 20 rfl) rfl ?_
          refine am_aload_n (q := 46) rfl (am_tab tk_X10_isOwnHere 21 rfl) rfl ?_
          refine am_getR (q := 49) (a := 55) (k := 10) (n := 108) (j := 15) (r := some (62)) (Ls_55 hL) (by decide) rfl (Lr_55_15 hL) (by decide) (Or.inl kf_X10_33) (am_tab tk_X10_isOwnHere 22 rfl) rfl ?_
          refine am_callVr (q := 52) (me2 := M_X10_isHere) (b := 55) (kb := 10) (nb := 108) (As := [am_r 62]) (rest := []) (c_hereX b E i (am_setN S 55 2 (zP b E i : Int)) hZ.look 62 4 (by decide)) ⟨rfl, rfl⟩ (Ls_55 hL) (by decide) ⟨Or.inl km_X10_271, kc_X10_isHere, kn_X10, kd_X10_isHere, ⟨(Nat.le_of_ble_eq_true rfl), (Nat.le_of_ble_eq_true rfl)⟩, ⟨(Nat.le_of_ble_eq_true rfl), (Nat.le_of_ble_eq_true rfl)⟩, (Nat.le_of_ble_eq_true rfl)⟩ ki_X10_isHere ks_X10_isHere rfl (am_tab tk_X10_isOwnHere 23 rfl) rfl ?_
          rintro r τ ⟨rfl, rfl⟩
          refine am_hp2 (σ1 := (am_setN S 55 2 (zP b E i : Int))) (am_setN_N _ _ _ _ _) ?_
          refine am_st (st2 := [am_i (b2i (decide (zK b E i = 128 + ((4 : Nat) : Int))))]) rfl ?_
          refine am_if_ne (q := 55) (t := 66) (am_tab tk_X10_isOwnHere 24 rfl) (by decide) rfl (fun h52 => ?_) (fun h52 => ?_)
          · refine am_iconst (q := 67) (n := 1) (by decide) (am_tab tk_X10_isOwnHere 30 rfl) rfl ?_
            refine am_goto (t := 71) (am_tab tk_X10_isOwnHere 31 rfl) (by decide) ?_
            refine am_istore_n (q := 72) (by decide) (ls2 := [(1, am_i 1), (0, am_r 55)]) rfl (am_tab tk_X10_isOwnHere 33 rfl) rfl ?_
            refine am_iload_n (q := 73) rfl (am_tab tk_X10_isOwnHere 34 rfl) rfl ?_
            refine am_if_ne (q := 76) (t := 142) (am_tab tk_X10_isOwnHere 35 rfl) (by decide) rfl (fun h73 => ?_) (fun h73 => ?_)
            · refine am_iconst (q := 143) (n := 1) (by decide) (am_tab tk_X10_isOwnHere 66 rfl) rfl ?_
              refine am_goto (t := 147) (am_tab tk_X10_isOwnHere 67 rfl) (by decide) ?_
              refine am_istore_n (q := 148) (by decide) (ls2 := [(1, am_i 1), (0, am_r 55)]) rfl (am_tab tk_X10_isOwnHere 69 rfl) rfl ?_
              refine am_iload_n (q := 149) rfl (am_tab tk_X10_isOwnHere 70 rfl) rfl ?_
              refine am_if_ne (q := 152) (t := 218) (am_tab tk_X10_isOwnHere 71 rfl) (by decide) rfl (fun h149 => ?_) (fun h149 => ?_)
              · refine am_iconst (q := 219) (n := 1) (by decide) (am_tab tk_X10_isOwnHere 102 rfl) rfl ?_
                refine am_goto (t := 223) (am_tab tk_X10_isOwnHere 103 rfl) (by decide) ?_
                refine am_istore_n (q := 224) (by decide) (ls2 := [(1, am_i 1), (0, am_r 55)]) rfl (am_tab tk_X10_isOwnHere 105 rfl) rfl ?_
                refine am_iload_n (q := 225) rfl (am_tab tk_X10_isOwnHere 106 rfl) rfl ?_
                refine am_if_ne (q := 228) (t := 294) (am_tab tk_X10_isOwnHere 107 rfl) (by decide) rfl (fun h225 => ?_) (fun h225 => ?_)
                · refine am_iconst (q := 295) (n := 1) (by decide) (am_tab tk_X10_isOwnHere 138 rfl) rfl ?_
                  refine am_goto (t := 299) (am_tab tk_X10_isOwnHere 139 rfl) (by decide) ?_
                  refine am_istore_n (q := 300) (by decide) (ls2 := [(1, am_i 1), (0, am_r 55)]) rfl (am_tab tk_X10_isOwnHere 141 rfl) rfl ?_
                  refine am_iload_n (q := 301) rfl (am_tab tk_X10_isOwnHere 142 rfl) rfl ?_
                  refine am_if_ne (q := 304) (t := 337) (am_tab tk_X10_isOwnHere 143 rfl) (by decide) rfl (fun h301 => ?_) (fun h301 => ?_)
                  · refine am_iconst (q := 338) (n := 1) (by decide) (am_tab tk_X10_isOwnHere 159 rfl) rfl ?_
                    refine am_goto (t := 342) (am_tab tk_X10_isOwnHere 160 rfl) (by decide) ?_
                    refine am_istore_n (q := 343) (by decide) (ls2 := [(1, am_i 1), (0, am_r 55)]) rfl (am_tab tk_X10_isOwnHere 162 rfl) rfl ?_
                    refine am_iload_n (q := 344) rfl (am_tab tk_X10_isOwnHere 163 rfl) rfl ?_
                    refine am_iret (Or.inr ⟨rfl, by first | exact Or.inl rfl | exact Or.inr rfl | omega⟩) (Nat.le_of_ble_eq_true rfl) (Nat.le_of_ble_eq_true rfl) (am_tab tk_X10_isOwnHere 164 rfl) ?_
                    refine hQ _ _ ?_
                    refine ⟨congrArg (fun z => some (am_i z)) ?_, rfl⟩
                    unfold ownB
                    have k52 := bd1 h52
                    rw [decide_eq_true (by omega)]; rfl
                  · exact absurd h301 (by decide)
                · exact absurd h225 (by decide)
              · exact absurd h149 (by decide)
            · exact absurd h73 (by decide)
          · refine am_aload_n (q := 56) rfl (am_tab tk_X10_isOwnHere 25 rfl) rfl ?_
            refine am_aload_n (q := 57) rfl (am_tab tk_X10_isOwnHere 26 rfl) rfl ?_
            refine am_getR (q := 60) (a := 55) (k := 10) (n := 108) (j := 16) (r := some (63)) (Ls_55 hL) (by decide) rfl (Lr_55_16 hL) (by decide) (Or.inl kf_X10_36) (am_tab tk_X10_isOwnHere 27 rfl) rfl ?_
            refine am_callVr (q := 63) (me2 := M_X10_isHere) (b := 55) (kb := 10) (nb := 108) (As := [am_r 63]) (rest := []) (c_hereX b E i (am_setN S 55 2 (zP b E i : Int)) hZ.look 63 5 (by decide)) ⟨rfl, rfl⟩ (Ls_55 hL) (by decide) ⟨Or.inl km_X10_271, kc_X10_isHere, kn_X10, kd_X10_isHere, ⟨(Nat.le_of_ble_eq_true rfl), (Nat.le_of_ble_eq_true rfl)⟩, ⟨(Nat.le_of_ble_eq_true rfl), (Nat.le_of_ble_eq_true rfl)⟩, (Nat.le_of_ble_eq_true rfl)⟩ ki_X10_isHere ks_X10_isHere rfl (am_tab tk_X10_isOwnHere 28 rfl) rfl ?_
            rintro r τ ⟨rfl, rfl⟩
            refine am_hp2 (σ1 := (am_setN S 55 2 (zP b E i : Int))) (am_setN_N _ _ _ _ _) ?_
            refine am_st (st2 := [am_i (b2i (decide (zK b E i = 128 + ((5 : Nat) : Int))))]) rfl ?_
            refine am_if_eq (q := 66) (t := 70) (am_tab tk_X10_isOwnHere 29 rfl) (by decide) rfl (fun h63 => ?_) (fun h63 => ?_)
            · refine am_iconst (q := 71) (n := 0) (by decide) (am_tab tk_X10_isOwnHere 32 rfl) rfl ?_
              refine am_istore_n (q := 72) (by decide) (ls2 := [(1, am_i 0), (0, am_r 55)]) rfl (am_tab tk_X10_isOwnHere 33 rfl) rfl ?_
              refine am_iload_n (q := 73) rfl (am_tab tk_X10_isOwnHere 34 rfl) rfl ?_
              refine am_if_ne (q := 76) (t := 142) (am_tab tk_X10_isOwnHere 35 rfl) (by decide) rfl (fun h73 => ?_) (fun h73 => ?_)
              · exact absurd h73 (by decide)
              · refine am_aload_n (q := 77) rfl (am_tab tk_X10_isOwnHere 36 rfl) rfl ?_
                refine am_aload_n (q := 78) rfl (am_tab tk_X10_isOwnHere 37 rfl) rfl ?_
                refine am_getR (q := 81) (a := 55) (k := 10) (n := 108) (j := 17) (r := some (64)) (Ls_55 hL) (by decide) rfl (Lr_55_17 hL) (by decide) (Or.inl kf_X10_39) (am_tab tk_X10_isOwnHere 38 rfl) rfl ?_
                refine am_callVr (q := 84) (me2 := M_X10_isHere) (b := 55) (kb := 10) (nb := 108) (As := [am_r 64]) (rest := []) (c_hereX b E i (am_setN S 55 2 (zP b E i : Int)) hZ.look 64 6 (by decide)) ⟨rfl, rfl⟩ (Ls_55 hL) (by decide) ⟨Or.inl km_X10_271, kc_X10_isHere, kn_X10, kd_X10_isHere, ⟨(Nat.le_of_ble_eq_true rfl), (Nat.le_of_ble_eq_true rfl)⟩, ⟨(Nat.le_of_ble_eq_true rfl), (Nat.le_of_ble_eq_true rfl)⟩, (Nat.le_of_ble_eq_true rfl)⟩ ki_X10_isHere ks_X10_isHere rfl (am_tab tk_X10_isOwnHere 39 rfl) rfl ?_
                rintro r τ ⟨rfl, rfl⟩
                refine am_hp2 (σ1 := (am_setN S 55 2 (zP b E i : Int))) (am_setN_N _ _ _ _ _) ?_
                refine am_st (st2 := [am_i (b2i (decide (zK b E i = 128 + ((6 : Nat) : Int))))]) rfl ?_
                refine am_if_ne (q := 87) (t := 142) (am_tab tk_X10_isOwnHere 40 rfl) (by decide) rfl (fun h84 => ?_) (fun h84 => ?_)
                · refine am_iconst (q := 143) (n := 1) (by decide) (am_tab tk_X10_isOwnHere 66 rfl) rfl ?_
                  refine am_goto (t := 147) (am_tab tk_X10_isOwnHere 67 rfl) (by decide) ?_
                  refine am_istore_n (q := 148) (by decide) (ls2 := [(1, am_i 1), (0, am_r 55)]) rfl (am_tab tk_X10_isOwnHere 69 rfl) rfl ?_
                  refine am_iload_n (q := 149) rfl (am_tab tk_X10_isOwnHere 70 rfl) rfl ?_
                  refine am_if_ne (q := 152) (t := 218) (am_tab tk_X10_isOwnHere 71 rfl) (by decide) rfl (fun h149 => ?_) (fun h149 => ?_)
                  · refine am_iconst (q := 219) (n := 1) (by decide) (am_tab tk_X10_isOwnHere 102 rfl) rfl ?_
                    refine am_goto (t := 223) (am_tab tk_X10_isOwnHere 103 rfl) (by decide) ?_
                    refine am_istore_n (q := 224) (by decide) (ls2 := [(1, am_i 1), (0, am_r 55)]) rfl (am_tab tk_X10_isOwnHere 105 rfl) rfl ?_
                    refine am_iload_n (q := 225) rfl (am_tab tk_X10_isOwnHere 106 rfl) rfl ?_
                    refine am_if_ne (q := 228) (t := 294) (am_tab tk_X10_isOwnHere 107 rfl) (by decide) rfl (fun h225 => ?_) (fun h225 => ?_)
                    · refine am_iconst (q := 295) (n := 1) (by decide) (am_tab tk_X10_isOwnHere 138 rfl) rfl ?_
                      refine am_goto (t := 299) (am_tab tk_X10_isOwnHere 139 rfl) (by decide) ?_
                      refine am_istore_n (q := 300) (by decide) (ls2 := [(1, am_i 1), (0, am_r 55)]) rfl (am_tab tk_X10_isOwnHere 141 rfl) rfl ?_
                      refine am_iload_n (q := 301) rfl (am_tab tk_X10_isOwnHere 142 rfl) rfl ?_
                      refine am_if_ne (q := 304) (t := 337) (am_tab tk_X10_isOwnHere 143 rfl) (by decide) rfl (fun h301 => ?_) (fun h301 => ?_)
                      · refine am_iconst (q := 338) (n := 1) (by decide) (am_tab tk_X10_isOwnHere 159 rfl) rfl ?_
                        refine am_goto (t := 342) (am_tab tk_X10_isOwnHere 160 rfl) (by decide) ?_
                        refine am_istore_n (q := 343) (by decide) (ls2 := [(1, am_i 1), (0, am_r 55)]) rfl (am_tab tk_X10_isOwnHere 162 rfl) rfl ?_
                        refine am_iload_n (q := 344) rfl (am_tab tk_X10_isOwnHere 163 rfl) rfl ?_
                        refine am_iret (Or.inr ⟨rfl, by first | exact Or.inl rfl | exact Or.inr rfl | omega⟩) (Nat.le_of_ble_eq_true rfl) (Nat.le_of_ble_eq_true rfl) (am_tab tk_X10_isOwnHere 164 rfl) ?_
                        refine hQ _ _ ?_
                        refine ⟨congrArg (fun z => some (am_i z)) ?_, rfl⟩
                        unfold ownB
                        have k84 := bd1 h84
                        rw [decide_eq_true (by omega)]; rfl
                      · exact absurd h301 (by decide)
                    · exact absurd h225 (by decide)
                  · exact absurd h149 (by decide)
                · refine am_aload_n (q := 88) rfl (am_tab tk_X10_isOwnHere 41 rfl) rfl ?_
                  refine am_aload_n (q := 89) rfl (am_tab tk_X10_isOwnHere 42 rfl) rfl ?_
                  refine am_getR (q := 92) (a := 55) (k := 10) (n := 108) (j := 18) (r := some (65)) (Ls_55 hL) (by decide) rfl (Lr_55_18 hL) (by decide) (Or.inl kf_X10_42) (am_tab tk_X10_isOwnHere 43 rfl) rfl ?_
                  refine am_callVr (q := 95) (me2 := M_X10_isHere) (b := 55) (kb := 10) (nb := 108) (As := [am_r 65]) (rest := []) (c_hereX b E i (am_setN S 55 2 (zP b E i : Int)) hZ.look 65 7 (by decide)) ⟨rfl, rfl⟩ (Ls_55 hL) (by decide) ⟨Or.inl km_X10_271, kc_X10_isHere, kn_X10, kd_X10_isHere, ⟨(Nat.le_of_ble_eq_true rfl), (Nat.le_of_ble_eq_true rfl)⟩, ⟨(Nat.le_of_ble_eq_true rfl), (Nat.le_of_ble_eq_true rfl)⟩, (Nat.le_of_ble_eq_true rfl)⟩ ki_X10_isHere ks_X10_isHere rfl (am_tab tk_X10_isOwnHere 44 rfl) rfl ?_
                  rintro r τ ⟨rfl, rfl⟩
                  refine am_hp2 (σ1 := (am_setN S 55 2 (zP b E i : Int))) (am_setN_N _ _ _ _ _) ?_
                  refine am_st (st2 := [am_i (b2i (decide (zK b E i = 128 + ((7 : Nat) : Int))))]) rfl ?_
                  refine am_if_ne (q := 98) (t := 142) (am_tab tk_X10_isOwnHere 45 rfl) (by decide) rfl (fun h95 => ?_) (fun h95 => ?_)
                  · refine am_iconst (q := 143) (n := 1) (by decide) (am_tab tk_X10_isOwnHere 66 rfl) rfl ?_
                    refine am_goto (t := 147) (am_tab tk_X10_isOwnHere 67 rfl) (by decide) ?_
                    refine am_istore_n (q := 148) (by decide) (ls2 := [(1, am_i 1), (0, am_r 55)]) rfl (am_tab tk_X10_isOwnHere 69 rfl) rfl ?_
                    refine am_iload_n (q := 149) rfl (am_tab tk_X10_isOwnHere 70 rfl) rfl ?_
                    refine am_if_ne (q := 152) (t := 218) (am_tab tk_X10_isOwnHere 71 rfl) (by decide) rfl (fun h149 => ?_) (fun h149 => ?_)
                    · refine am_iconst (q := 219) (n := 1) (by decide) (am_tab tk_X10_isOwnHere 102 rfl) rfl ?_
                      refine am_goto (t := 223) (am_tab tk_X10_isOwnHere 103 rfl) (by decide) ?_
                      refine am_istore_n (q := 224) (by decide) (ls2 := [(1, am_i 1), (0, am_r 55)]) rfl (am_tab tk_X10_isOwnHere 105 rfl) rfl ?_
                      refine am_iload_n (q := 225) rfl (am_tab tk_X10_isOwnHere 106 rfl) rfl ?_
                      refine am_if_ne (q := 228) (t := 294) (am_tab tk_X10_isOwnHere 107 rfl) (by decide) rfl (fun h225 => ?_) (fun h225 => ?_)
                      · refine am_iconst (q := 295) (n := 1) (by decide) (am_tab tk_X10_isOwnHere 138 rfl) rfl ?_
                        refine am_goto (t := 299) (am_tab tk_X10_isOwnHere 139 rfl) (by decide) ?_
                        refine am_istore_n (q := 300) (by decide) (ls2 := [(1, am_i 1), (0, am_r 55)]) rfl (am_tab tk_X10_isOwnHere 141 rfl) rfl ?_
                        refine am_iload_n (q := 301) rfl (am_tab tk_X10_isOwnHere 142 rfl) rfl ?_
                        refine am_if_ne (q := 304) (t := 337) (am_tab tk_X10_isOwnHere 143 rfl) (by decide) rfl (fun h301 => ?_) (fun h301 => ?_)
                        · refine am_iconst (q := 338) (n := 1) (by decide) (am_tab tk_X10_isOwnHere 159 rfl) rfl ?_
                          refine am_goto (t := 342) (am_tab tk_X10_isOwnHere 160 rfl) (by decide) ?_
                          refine am_istore_n (q := 343) (by decide) (ls2 := [(1, am_i 1), (0, am_r 55)]) rfl (am_tab tk_X10_isOwnHere 162 rfl) rfl ?_
                          refine am_iload_n (q := 344) rfl (am_tab tk_X10_isOwnHere 163 rfl) rfl ?_
                          refine am_iret (Or.inr ⟨rfl, by first | exact Or.inl rfl | exact Or.inr rfl | omega⟩) (Nat.le_of_ble_eq_true rfl) (Nat.le_of_ble_eq_true rfl) (am_tab tk_X10_isOwnHere 164 rfl) ?_
                          refine hQ _ _ ?_
                          refine ⟨congrArg (fun z => some (am_i z)) ?_, rfl⟩
                          unfold ownB
                          have k95 := bd1 h95
                          rw [decide_eq_true (by omega)]; rfl
                        · exact absurd h301 (by decide)
                      · exact absurd h225 (by decide)
                    · exact absurd h149 (by decide)
                  · refine am_aload_n (q := 99) rfl (am_tab tk_X10_isOwnHere 46 rfl) rfl ?_
                    refine am_aload_n (q := 100) rfl (am_tab tk_X10_isOwnHere 47 rfl) rfl ?_
                    refine am_getR (q := 103) (a := 55) (k := 10) (n := 108) (j := 19) (r := some (66)) (Ls_55 hL) (by decide) rfl (Lr_55_19 hL) (by decide) (Or.inl kf_X10_45) (am_tab tk_X10_isOwnHere 48 rfl) rfl ?_
                    refine am_callVr (q := 106) (me2 := M_X10_isHere) (b := 55) (kb := 10) (nb := 108) (As := [am_r 66]) (rest := []) (c_hereX b E i (am_setN S 55 2 (zP b E i : Int)) hZ.look 66 8 (by decide)) ⟨rfl, rfl⟩ (Ls_55 hL) (by decide) ⟨Or.inl km_X10_271, kc_X10_isHere, kn_X10, kd_X10_isHere, ⟨(Nat.le_of_ble_eq_true rfl), (Nat.le_of_ble_eq_true rfl)⟩, ⟨(Nat.le_of_ble_eq_true rfl), (Nat.le_of_ble_eq_true rfl)⟩, (Nat.le_of_ble_eq_true rfl)⟩ ki_X10_isHere ks_X10_isHere rfl (am_tab tk_X10_isOwnHere 49 rfl) rfl ?_
                    rintro r τ ⟨rfl, rfl⟩
                    refine am_hp2 (σ1 := (am_setN S 55 2 (zP b E i : Int))) (am_setN_N _ _ _ _ _) ?_
                    refine am_st (st2 := [am_i (b2i (decide (zK b E i = 128 + ((8 : Nat) : Int))))]) rfl ?_
                    refine am_if_ne (q := 109) (t := 142) (am_tab tk_X10_isOwnHere 50 rfl) (by decide) rfl (fun h106 => ?_) (fun h106 => ?_)
                    · refine am_iconst (q := 143) (n := 1) (by decide) (am_tab tk_X10_isOwnHere 66 rfl) rfl ?_
                      refine am_goto (t := 147) (am_tab tk_X10_isOwnHere 67 rfl) (by decide) ?_
                      refine am_istore_n (q := 148) (by decide) (ls2 := [(1, am_i 1), (0, am_r 55)]) rfl (am_tab tk_X10_isOwnHere 69 rfl) rfl ?_
                      refine am_iload_n (q := 149) rfl (am_tab tk_X10_isOwnHere 70 rfl) rfl ?_
                      refine am_if_ne (q := 152) (t := 218) (am_tab tk_X10_isOwnHere 71 rfl) (by decide) rfl (fun h149 => ?_) (fun h149 => ?_)
                      · refine am_iconst (q := 219) (n := 1) (by decide) (am_tab tk_X10_isOwnHere 102 rfl) rfl ?_
                        refine am_goto (t := 223) (am_tab tk_X10_isOwnHere 103 rfl) (by decide) ?_
                        refine am_istore_n (q := 224) (by decide) (ls2 := [(1, am_i 1), (0, am_r 55)]) rfl (am_tab tk_X10_isOwnHere 105 rfl) rfl ?_
                        refine am_iload_n (q := 225) rfl (am_tab tk_X10_isOwnHere 106 rfl) rfl ?_
                        refine am_if_ne (q := 228) (t := 294) (am_tab tk_X10_isOwnHere 107 rfl) (by decide) rfl (fun h225 => ?_) (fun h225 => ?_)
                        · refine am_iconst (q := 295) (n := 1) (by decide) (am_tab tk_X10_isOwnHere 138 rfl) rfl ?_
                          refine am_goto (t := 299) (am_tab tk_X10_isOwnHere 139 rfl) (by decide) ?_
                          refine am_istore_n (q := 300) (by decide) (ls2 := [(1, am_i 1), (0, am_r 55)]) rfl (am_tab tk_X10_isOwnHere 141 rfl) rfl ?_
                          refine am_iload_n (q := 301) rfl (am_tab tk_X10_isOwnHere 142 rfl) rfl ?_
                          refine am_if_ne (q := 304) (t := 337) (am_tab tk_X10_isOwnHere 143 rfl) (by decide) rfl (fun h301 => ?_) (fun h301 => ?_)
                          · refine am_iconst (q := 338) (n := 1) (by decide) (am_tab tk_X10_isOwnHere 159 rfl) rfl ?_
                            refine am_goto (t := 342) (am_tab tk_X10_isOwnHere 160 rfl) (by decide) ?_
                            refine am_istore_n (q := 343) (by decide) (ls2 := [(1, am_i 1), (0, am_r 55)]) rfl (am_tab tk_X10_isOwnHere 162 rfl) rfl ?_
                            refine am_iload_n (q := 344) rfl (am_tab tk_X10_isOwnHere 163 rfl) rfl ?_
                            refine am_iret (Or.inr ⟨rfl, by first | exact Or.inl rfl | exact Or.inr rfl | omega⟩) (Nat.le_of_ble_eq_true rfl) (Nat.le_of_ble_eq_true rfl) (am_tab tk_X10_isOwnHere 164 rfl) ?_
                            refine hQ _ _ ?_
                            refine ⟨congrArg (fun z => some (am_i z)) ?_, rfl⟩
                            unfold ownB
                            have k106 := bd1 h106
                            rw [decide_eq_true (by omega)]; rfl
                          · exact absurd h301 (by decide)
                        · exact absurd h225 (by decide)
                      · exact absurd h149 (by decide)
                    · refine am_aload_n (q := 110) rfl (am_tab tk_X10_isOwnHere 51 rfl) rfl ?_
                      refine am_aload_n (q := 111) rfl (am_tab tk_X10_isOwnHere 52 rfl) rfl ?_
                      refine am_getR (q := 114) (a := 55) (k := 10) (n := 108) (j := 20) (r := some (67)) (Ls_55 hL) (by decide) rfl (Lr_55_20 hL) (by decide) (Or.inl kf_X10_48) (am_tab tk_X10_isOwnHere 53 rfl) rfl ?_
                      refine am_callVr (q := 117) (me2 := M_X10_isHere) (b := 55) (kb := 10) (nb := 108) (As := [am_r 67]) (rest := []) (c_hereX b E i (am_setN S 55 2 (zP b E i : Int)) hZ.look 67 9 (by decide)) ⟨rfl, rfl⟩ (Ls_55 hL) (by decide) ⟨Or.inl km_X10_271, kc_X10_isHere, kn_X10, kd_X10_isHere, ⟨(Nat.le_of_ble_eq_true rfl), (Nat.le_of_ble_eq_true rfl)⟩, ⟨(Nat.le_of_ble_eq_true rfl), (Nat.le_of_ble_eq_true rfl)⟩, (Nat.le_of_ble_eq_true rfl)⟩ ki_X10_isHere ks_X10_isHere rfl (am_tab tk_X10_isOwnHere 54 rfl) rfl ?_
                      rintro r τ ⟨rfl, rfl⟩
                      refine am_hp2 (σ1 := (am_setN S 55 2 (zP b E i : Int))) (am_setN_N _ _ _ _ _) ?_
                      refine am_st (st2 := [am_i (b2i (decide (zK b E i = 128 + ((9 : Nat) : Int))))]) rfl ?_
                      refine am_if_ne (q := 120) (t := 142) (am_tab tk_X10_isOwnHere 55 rfl) (by decide) rfl (fun h117 => ?_) (fun h117 => ?_)
                      · refine am_iconst (q := 143) (n := 1) (by decide) (am_tab tk_X10_isOwnHere 66 rfl) rfl ?_
                        refine am_goto (t := 147) (am_tab tk_X10_isOwnHere 67 rfl) (by decide) ?_
                        refine am_istore_n (q := 148) (by decide) (ls2 := [(1, am_i 1), (0, am_r 55)]) rfl (am_tab tk_X10_isOwnHere 69 rfl) rfl ?_
                        refine am_iload_n (q := 149) rfl (am_tab tk_X10_isOwnHere 70 rfl) rfl ?_
                        refine am_if_ne (q := 152) (t := 218) (am_tab tk_X10_isOwnHere 71 rfl) (by decide) rfl (fun h149 => ?_) (fun h149 => ?_)
                        · refine am_iconst (q := 219) (n := 1) (by decide) (am_tab tk_X10_isOwnHere 102 rfl) rfl ?_
                          refine am_goto (t := 223) (am_tab tk_X10_isOwnHere 103 rfl) (by decide) ?_
                          refine am_istore_n (q := 224) (by decide) (ls2 := [(1, am_i 1), (0, am_r 55)]) rfl (am_tab tk_X10_isOwnHere 105 rfl) rfl ?_
                          refine am_iload_n (q := 225) rfl (am_tab tk_X10_isOwnHere 106 rfl) rfl ?_
                          refine am_if_ne (q := 228) (t := 294) (am_tab tk_X10_isOwnHere 107 rfl) (by decide) rfl (fun h225 => ?_) (fun h225 => ?_)
                          · refine am_iconst (q := 295) (n := 1) (by decide) (am_tab tk_X10_isOwnHere 138 rfl) rfl ?_
                            refine am_goto (t := 299) (am_tab tk_X10_isOwnHere 139 rfl) (by decide) ?_
                            refine am_istore_n (q := 300) (by decide) (ls2 := [(1, am_i 1), (0, am_r 55)]) rfl (am_tab tk_X10_isOwnHere 141 rfl) rfl ?_
                            refine am_iload_n (q := 301) rfl (am_tab tk_X10_isOwnHere 142 rfl) rfl ?_
                            refine am_if_ne (q := 304) (t := 337) (am_tab tk_X10_isOwnHere 143 rfl) (by decide) rfl (fun h301 => ?_) (fun h301 => ?_)
                            · refine am_iconst (q := 338) (n := 1) (by decide) (am_tab tk_X10_isOwnHere 159 rfl) rfl ?_
                              refine am_goto (t := 342) (am_tab tk_X10_isOwnHere 160 rfl) (by decide) ?_
                              refine am_istore_n (q := 343) (by decide) (ls2 := [(1, am_i 1), (0, am_r 55)]) rfl (am_tab tk_X10_isOwnHere 162 rfl) rfl ?_
                              refine am_iload_n (q := 344) rfl (am_tab tk_X10_isOwnHere 163 rfl) rfl ?_
                              refine am_iret (Or.inr ⟨rfl, by first | exact Or.inl rfl | exact Or.inr rfl | omega⟩) (Nat.le_of_ble_eq_true rfl) (Nat.le_of_ble_eq_true rfl) (am_tab tk_X10_isOwnHere 164 rfl) ?_
                              refine hQ _ _ ?_
                              refine ⟨congrArg (fun z => some (am_i z)) ?_, rfl⟩
                              unfold ownB
                              have k117 := bd1 h117
                              rw [decide_eq_true (by omega)]; rfl
                            · exact absurd h301 (by decide)
                          · exact absurd h225 (by decide)
                        · exact absurd h149 (by decide)
                      · refine am_aload_n (q := 121) rfl (am_tab tk_X10_isOwnHere 56 rfl) rfl ?_
                        refine am_aload_n (q := 122) rfl (am_tab tk_X10_isOwnHere 57 rfl) rfl ?_
                        refine am_getR (q := 125) (a := 55) (k := 10) (n := 108) (j := 21) (r := some (68)) (Ls_55 hL) (by decide) rfl (Lr_55_21 hL) (by decide) (Or.inl kf_X10_51) (am_tab tk_X10_isOwnHere 58 rfl) rfl ?_
                        refine am_callVr (q := 128) (me2 := M_X10_isHere) (b := 55) (kb := 10) (nb := 108) (As := [am_r 68]) (rest := []) (c_hereX b E i (am_setN S 55 2 (zP b E i : Int)) hZ.look 68 10 (by decide)) ⟨rfl, rfl⟩ (Ls_55 hL) (by decide) ⟨Or.inl km_X10_271, kc_X10_isHere, kn_X10, kd_X10_isHere, ⟨(Nat.le_of_ble_eq_true rfl), (Nat.le_of_ble_eq_true rfl)⟩, ⟨(Nat.le_of_ble_eq_true rfl), (Nat.le_of_ble_eq_true rfl)⟩, (Nat.le_of_ble_eq_true rfl)⟩ ki_X10_isHere ks_X10_isHere rfl (am_tab tk_X10_isOwnHere 59 rfl) rfl ?_
                        rintro r τ ⟨rfl, rfl⟩
                        refine am_hp2 (σ1 := (am_setN S 55 2 (zP b E i : Int))) (am_setN_N _ _ _ _ _) ?_
                        refine am_st (st2 := [am_i (b2i (decide (zK b E i = 128 + ((10 : Nat) : Int))))]) rfl ?_
                        refine am_if_ne (q := 131) (t := 142) (am_tab tk_X10_isOwnHere 60 rfl) (by decide) rfl (fun h128 => ?_) (fun h128 => ?_)
                        · refine am_iconst (q := 143) (n := 1) (by decide) (am_tab tk_X10_isOwnHere 66 rfl) rfl ?_
                          refine am_goto (t := 147) (am_tab tk_X10_isOwnHere 67 rfl) (by decide) ?_
                          refine am_istore_n (q := 148) (by decide) (ls2 := [(1, am_i 1), (0, am_r 55)]) rfl (am_tab tk_X10_isOwnHere 69 rfl) rfl ?_
                          refine am_iload_n (q := 149) rfl (am_tab tk_X10_isOwnHere 70 rfl) rfl ?_
                          refine am_if_ne (q := 152) (t := 218) (am_tab tk_X10_isOwnHere 71 rfl) (by decide) rfl (fun h149 => ?_) (fun h149 => ?_)
                          · refine am_iconst (q := 219) (n := 1) (by decide) (am_tab tk_X10_isOwnHere 102 rfl) rfl ?_
                            refine am_goto (t := 223) (am_tab tk_X10_isOwnHere 103 rfl) (by decide) ?_
                            refine am_istore_n (q := 224) (by decide) (ls2 := [(1, am_i 1), (0, am_r 55)]) rfl (am_tab tk_X10_isOwnHere 105 rfl) rfl ?_
                            refine am_iload_n (q := 225) rfl (am_tab tk_X10_isOwnHere 106 rfl) rfl ?_
                            refine am_if_ne (q := 228) (t := 294) (am_tab tk_X10_isOwnHere 107 rfl) (by decide) rfl (fun h225 => ?_) (fun h225 => ?_)
                            · refine am_iconst (q := 295) (n := 1) (by decide) (am_tab tk_X10_isOwnHere 138 rfl) rfl ?_
                              refine am_goto (t := 299) (am_tab tk_X10_isOwnHere 139 rfl) (by decide) ?_
                              refine am_istore_n (q := 300) (by decide) (ls2 := [(1, am_i 1), (0, am_r 55)]) rfl (am_tab tk_X10_isOwnHere 141 rfl) rfl ?_
                              refine am_iload_n (q := 301) rfl (am_tab tk_X10_isOwnHere 142 rfl) rfl ?_
                              refine am_if_ne (q := 304) (t := 337) (am_tab tk_X10_isOwnHere 143 rfl) (by decide) rfl (fun h301 => ?_) (fun h301 => ?_)
                              · refine am_iconst (q := 338) (n := 1) (by decide) (am_tab tk_X10_isOwnHere 159 rfl) rfl ?_
                                refine am_goto (t := 342) (am_tab tk_X10_isOwnHere 160 rfl) (by decide) ?_
                                refine am_istore_n (q := 343) (by decide) (ls2 := [(1, am_i 1), (0, am_r 55)]) rfl (am_tab tk_X10_isOwnHere 162 rfl) rfl ?_
                                refine am_iload_n (q := 344) rfl (am_tab tk_X10_isOwnHere 163 rfl) rfl ?_
                                refine am_iret (Or.inr ⟨rfl, by first | exact Or.inl rfl | exact Or.inr rfl | omega⟩) (Nat.le_of_ble_eq_true rfl) (Nat.le_of_ble_eq_true rfl) (am_tab tk_X10_isOwnHere 164 rfl) ?_
                                refine hQ _ _ ?_
                                refine ⟨congrArg (fun z => some (am_i z)) ?_, rfl⟩
                                unfold ownB
                                have k128 := bd1 h128
                                rw [decide_eq_true (by omega)]; rfl
                              · exact absurd h301 (by decide)
                            · exact absurd h225 (by decide)
                          · exact absurd h149 (by decide)
                        · refine am_aload_n (q := 132) rfl (am_tab tk_X10_isOwnHere 61 rfl) rfl ?_
                          refine am_aload_n (q := 133) rfl (am_tab tk_X10_isOwnHere 62 rfl) rfl ?_
                          refine am_getR (q := 136) (a := 55) (k := 10) (n := 108) (j := 22) (r := some (69)) (Ls_55 hL) (by decide) rfl (Lr_55_22 hL) (by decide) (Or.inl kf_X10_54) (am_tab tk_X10_isOwnHere 63 rfl) rfl ?_
                          refine am_callVr (q := 139) (me2 := M_X10_isHere) (b := 55) (kb := 10) (nb := 108) (As := [am_r 69]) (rest := []) (c_hereX b E i (am_setN S 55 2 (zP b E i : Int)) hZ.look 69 11 (by decide)) ⟨rfl, rfl⟩ (Ls_55 hL) (by decide) ⟨Or.inl km_X10_271, kc_X10_isHere, kn_X10, kd_X10_isHere, ⟨(Nat.le_of_ble_eq_true rfl), (Nat.le_of_ble_eq_true rfl)⟩, ⟨(Nat.le_of_ble_eq_true rfl), (Nat.le_of_ble_eq_true rfl)⟩, (Nat.le_of_ble_eq_true rfl)⟩ ki_X10_isHere ks_X10_isHere rfl (am_tab tk_X10_isOwnHere 64 rfl) rfl ?_
                          rintro r τ ⟨rfl, rfl⟩
                          refine am_hp2 (σ1 := (am_setN S 55 2 (zP b E i : Int))) (am_setN_N _ _ _ _ _) ?_
                          refine am_st (st2 := [am_i (b2i (decide (zK b E i = 128 + ((11 : Nat) : Int))))]) rfl ?_
                          refine am_if_eq (q := 142) (t := 146) (am_tab tk_X10_isOwnHere 65 rfl) (by decide) rfl (fun h139 => ?_) (fun h139 => ?_)
                          · refine am_iconst (q := 147) (n := 0) (by decide) (am_tab tk_X10_isOwnHere 68 rfl) rfl ?_
                            refine am_istore_n (q := 148) (by decide) (ls2 := [(1, am_i 0), (0, am_r 55)]) rfl (am_tab tk_X10_isOwnHere 69 rfl) rfl ?_
                            refine am_iload_n (q := 149) rfl (am_tab tk_X10_isOwnHere 70 rfl) rfl ?_
                            refine am_if_ne (q := 152) (t := 218) (am_tab tk_X10_isOwnHere 71 rfl) (by decide) rfl (fun h149 => ?_) (fun h149 => ?_)
                            · exact absurd h149 (by decide)
                            · refine am_aload_n (q := 153) rfl (am_tab tk_X10_isOwnHere 72 rfl) rfl ?_
                              refine am_aload_n (q := 154) rfl (am_tab tk_X10_isOwnHere 73 rfl) rfl ?_
                              refine am_getR (q := 157) (a := 55) (k := 10) (n := 108) (j := 23) (r := some (70)) (Ls_55 hL) (by decide) rfl (Lr_55_23 hL) (by decide) (Or.inl kf_X10_57) (am_tab tk_X10_isOwnHere 74 rfl) rfl ?_
                              refine am_callVr (q := 160) (me2 := M_X10_isHere) (b := 55) (kb := 10) (nb := 108) (As := [am_r 70]) (rest := []) (c_hereX b E i (am_setN S 55 2 (zP b E i : Int)) hZ.look 70 12 (by decide)) ⟨rfl, rfl⟩ (Ls_55 hL) (by decide) ⟨Or.inl km_X10_271, kc_X10_isHere, kn_X10, kd_X10_isHere, ⟨(Nat.le_of_ble_eq_true rfl), (Nat.le_of_ble_eq_true rfl)⟩, ⟨(Nat.le_of_ble_eq_true rfl), (Nat.le_of_ble_eq_true rfl)⟩, (Nat.le_of_ble_eq_true rfl)⟩ ki_X10_isHere ks_X10_isHere rfl (am_tab tk_X10_isOwnHere 75 rfl) rfl ?_
                              rintro r τ ⟨rfl, rfl⟩
                              refine am_hp2 (σ1 := (am_setN S 55 2 (zP b E i : Int))) (am_setN_N _ _ _ _ _) ?_
                              refine am_st (st2 := [am_i (b2i (decide (zK b E i = 128 + ((12 : Nat) : Int))))]) rfl ?_
                              refine am_if_ne (q := 163) (t := 218) (am_tab tk_X10_isOwnHere 76 rfl) (by decide) rfl (fun h160 => ?_) (fun h160 => ?_)
                              · refine am_iconst (q := 219) (n := 1) (by decide) (am_tab tk_X10_isOwnHere 102 rfl) rfl ?_
                                refine am_goto (t := 223) (am_tab tk_X10_isOwnHere 103 rfl) (by decide) ?_
                                refine am_istore_n (q := 224) (by decide) (ls2 := [(1, am_i 1), (0, am_r 55)]) rfl (am_tab tk_X10_isOwnHere 105 rfl) rfl ?_
                                refine am_iload_n (q := 225) rfl (am_tab tk_X10_isOwnHere 106 rfl) rfl ?_
                                refine am_if_ne (q := 228) (t := 294) (am_tab tk_X10_isOwnHere 107 rfl) (by decide) rfl (fun h225 => ?_) (fun h225 => ?_)
                                · refine am_iconst (q := 295) (n := 1) (by decide) (am_tab tk_X10_isOwnHere 138 rfl) rfl ?_
                                  refine am_goto (t := 299) (am_tab tk_X10_isOwnHere 139 rfl) (by decide) ?_
                                  refine am_istore_n (q := 300) (by decide) (ls2 := [(1, am_i 1), (0, am_r 55)]) rfl (am_tab tk_X10_isOwnHere 141 rfl) rfl ?_
                                  refine am_iload_n (q := 301) rfl (am_tab tk_X10_isOwnHere 142 rfl) rfl ?_
                                  refine am_if_ne (q := 304) (t := 337) (am_tab tk_X10_isOwnHere 143 rfl) (by decide) rfl (fun h301 => ?_) (fun h301 => ?_)
                                  · refine am_iconst (q := 338) (n := 1) (by decide) (am_tab tk_X10_isOwnHere 159 rfl) rfl ?_
                                    refine am_goto (t := 342) (am_tab tk_X10_isOwnHere 160 rfl) (by decide) ?_
                                    refine am_istore_n (q := 343) (by decide) (ls2 := [(1, am_i 1), (0, am_r 55)]) rfl (am_tab tk_X10_isOwnHere 162 rfl) rfl ?_
                                    refine am_iload_n (q := 344) rfl (am_tab tk_X10_isOwnHere 163 rfl) rfl ?_
                                    refine am_iret (Or.inr ⟨rfl, by first | exact Or.inl rfl | exact Or.inr rfl | omega⟩) (Nat.le_of_ble_eq_true rfl) (Nat.le_of_ble_eq_true rfl) (am_tab tk_X10_isOwnHere 164 rfl) ?_
                                    refine hQ _ _ ?_
                                    refine ⟨congrArg (fun z => some (am_i z)) ?_, rfl⟩
                                    unfold ownB
                                    have k160 := bd1 h160
                                    rw [decide_eq_true (by omega)]; rfl
                                  · exact absurd h301 (by decide)
                                · exact absurd h225 (by decide)
                              · refine am_aload_n (q := 164) rfl (am_tab tk_X10_isOwnHere 77 rfl) rfl ?_
                                refine am_aload_n (q := 165) rfl (am_tab tk_X10_isOwnHere 78 rfl) rfl ?_
                                refine am_getR (q := 168) (a := 55) (k := 10) (n := 108) (j := 24) (r := some (71)) (Ls_55 hL) (by decide) rfl (Lr_55_24 hL) (by decide) (Or.inl kf_X10_60) (am_tab tk_X10_isOwnHere 79 rfl) rfl ?_
                                refine am_callVr (q := 171) (me2 := M_X10_isHere) (b := 55) (kb := 10) (nb := 108) (As := [am_r 71]) (rest := []) (c_hereX b E i (am_setN S 55 2 (zP b E i : Int)) hZ.look 71 13 (by decide)) ⟨rfl, rfl⟩ (Ls_55 hL) (by decide) ⟨Or.inl km_X10_271, kc_X10_isHere, kn_X10, kd_X10_isHere, ⟨(Nat.le_of_ble_eq_true rfl), (Nat.le_of_ble_eq_true rfl)⟩, ⟨(Nat.le_of_ble_eq_true rfl), (Nat.le_of_ble_eq_true rfl)⟩, (Nat.le_of_ble_eq_true rfl)⟩ ki_X10_isHere ks_X10_isHere rfl (am_tab tk_X10_isOwnHere 80 rfl) rfl ?_
                                rintro r τ ⟨rfl, rfl⟩
                                refine am_hp2 (σ1 := (am_setN S 55 2 (zP b E i : Int))) (am_setN_N _ _ _ _ _) ?_
                                refine am_st (st2 := [am_i (b2i (decide (zK b E i = 128 + ((13 : Nat) : Int))))]) rfl ?_
                                refine am_if_ne (q := 174) (t := 218) (am_tab tk_X10_isOwnHere 81 rfl) (by decide) rfl (fun h171 => ?_) (fun h171 => ?_)
                                · refine am_iconst (q := 219) (n := 1) (by decide) (am_tab tk_X10_isOwnHere 102 rfl) rfl ?_
                                  refine am_goto (t := 223) (am_tab tk_X10_isOwnHere 103 rfl) (by decide) ?_
                                  refine am_istore_n (q := 224) (by decide) (ls2 := [(1, am_i 1), (0, am_r 55)]) rfl (am_tab tk_X10_isOwnHere 105 rfl) rfl ?_
                                  refine am_iload_n (q := 225) rfl (am_tab tk_X10_isOwnHere 106 rfl) rfl ?_
                                  refine am_if_ne (q := 228) (t := 294) (am_tab tk_X10_isOwnHere 107 rfl) (by decide) rfl (fun h225 => ?_) (fun h225 => ?_)
                                  · refine am_iconst (q := 295) (n := 1) (by decide) (am_tab tk_X10_isOwnHere 138 rfl) rfl ?_
                                    refine am_goto (t := 299) (am_tab tk_X10_isOwnHere 139 rfl) (by decide) ?_
                                    refine am_istore_n (q := 300) (by decide) (ls2 := [(1, am_i 1), (0, am_r 55)]) rfl (am_tab tk_X10_isOwnHere 141 rfl) rfl ?_
                                    refine am_iload_n (q := 301) rfl (am_tab tk_X10_isOwnHere 142 rfl) rfl ?_
                                    refine am_if_ne (q := 304) (t := 337) (am_tab tk_X10_isOwnHere 143 rfl) (by decide) rfl (fun h301 => ?_) (fun h301 => ?_)
                                    · refine am_iconst (q := 338) (n := 1) (by decide) (am_tab tk_X10_isOwnHere 159 rfl) rfl ?_
                                      refine am_goto (t := 342) (am_tab tk_X10_isOwnHere 160 rfl) (by decide) ?_
                                      refine am_istore_n (q := 343) (by decide) (ls2 := [(1, am_i 1), (0, am_r 55)]) rfl (am_tab tk_X10_isOwnHere 162 rfl) rfl ?_
                                      refine am_iload_n (q := 344) rfl (am_tab tk_X10_isOwnHere 163 rfl) rfl ?_
                                      refine am_iret (Or.inr ⟨rfl, by first | exact Or.inl rfl | exact Or.inr rfl | omega⟩) (Nat.le_of_ble_eq_true rfl) (Nat.le_of_ble_eq_true rfl) (am_tab tk_X10_isOwnHere 164 rfl) ?_
                                      refine hQ _ _ ?_
                                      refine ⟨congrArg (fun z => some (am_i z)) ?_, rfl⟩
                                      unfold ownB
                                      have k171 := bd1 h171
                                      rw [decide_eq_true (by omega)]; rfl
                                    · exact absurd h301 (by decide)
                                  · exact absurd h225 (by decide)
                                · refine am_aload_n (q := 175) rfl (am_tab tk_X10_isOwnHere 82 rfl) rfl ?_
                                  refine am_aload_n (q := 176) rfl (am_tab tk_X10_isOwnHere 83 rfl) rfl ?_
                                  refine am_getR (q := 179) (a := 55) (k := 10) (n := 108) (j := 25) (r := some (72)) (Ls_55 hL) (by decide) rfl (Lr_55_25 hL) (by decide) (Or.inl kf_X10_63) (am_tab tk_X10_isOwnHere 84 rfl) rfl ?_
                                  refine am_callVr (q := 182) (me2 := M_X10_isHere) (b := 55) (kb := 10) (nb := 108) (As := [am_r 72]) (rest := []) (c_hereX b E i (am_setN S 55 2 (zP b E i : Int)) hZ.look 72 14 (by decide)) ⟨rfl, rfl⟩ (Ls_55 hL) (by decide) ⟨Or.inl km_X10_271, kc_X10_isHere, kn_X10, kd_X10_isHere, ⟨(Nat.le_of_ble_eq_true rfl), (Nat.le_of_ble_eq_true rfl)⟩, ⟨(Nat.le_of_ble_eq_true rfl), (Nat.le_of_ble_eq_true rfl)⟩, (Nat.le_of_ble_eq_true rfl)⟩ ki_X10_isHere ks_X10_isHere rfl (am_tab tk_X10_isOwnHere 85 rfl) rfl ?_
                                  rintro r τ ⟨rfl, rfl⟩
                                  refine am_hp2 (σ1 := (am_setN S 55 2 (zP b E i : Int))) (am_setN_N _ _ _ _ _) ?_
                                  refine am_st (st2 := [am_i (b2i (decide (zK b E i = 128 + ((14 : Nat) : Int))))]) rfl ?_
                                  refine am_if_ne (q := 185) (t := 218) (am_tab tk_X10_isOwnHere 86 rfl) (by decide) rfl (fun h182 => ?_) (fun h182 => ?_)
                                  · refine am_iconst (q := 219) (n := 1) (by decide) (am_tab tk_X10_isOwnHere 102 rfl) rfl ?_
                                    refine am_goto (t := 223) (am_tab tk_X10_isOwnHere 103 rfl) (by decide) ?_
                                    refine am_istore_n (q := 224) (by decide) (ls2 := [(1, am_i 1), (0, am_r 55)]) rfl (am_tab tk_X10_isOwnHere 105 rfl) rfl ?_
                                    refine am_iload_n (q := 225) rfl (am_tab tk_X10_isOwnHere 106 rfl) rfl ?_
                                    refine am_if_ne (q := 228) (t := 294) (am_tab tk_X10_isOwnHere 107 rfl) (by decide) rfl (fun h225 => ?_) (fun h225 => ?_)
                                    · refine am_iconst (q := 295) (n := 1) (by decide) (am_tab tk_X10_isOwnHere 138 rfl) rfl ?_
                                      refine am_goto (t := 299) (am_tab tk_X10_isOwnHere 139 rfl) (by decide) ?_
                                      refine am_istore_n (q := 300) (by decide) (ls2 := [(1, am_i 1), (0, am_r 55)]) rfl (am_tab tk_X10_isOwnHere 141 rfl) rfl ?_
                                      refine am_iload_n (q := 301) rfl (am_tab tk_X10_isOwnHere 142 rfl) rfl ?_
                                      refine am_if_ne (q := 304) (t := 337) (am_tab tk_X10_isOwnHere 143 rfl) (by decide) rfl (fun h301 => ?_) (fun h301 => ?_)
                                      · refine am_iconst (q := 338) (n := 1) (by decide) (am_tab tk_X10_isOwnHere 159 rfl) rfl ?_
                                        refine am_goto (t := 342) (am_tab tk_X10_isOwnHere 160 rfl) (by decide) ?_
                                        refine am_istore_n (q := 343) (by decide) (ls2 := [(1, am_i 1), (0, am_r 55)]) rfl (am_tab tk_X10_isOwnHere 162 rfl) rfl ?_
                                        refine am_iload_n (q := 344) rfl (am_tab tk_X10_isOwnHere 163 rfl) rfl ?_
                                        refine am_iret (Or.inr ⟨rfl, by first | exact Or.inl rfl | exact Or.inr rfl | omega⟩) (Nat.le_of_ble_eq_true rfl) (Nat.le_of_ble_eq_true rfl) (am_tab tk_X10_isOwnHere 164 rfl) ?_
                                        refine hQ _ _ ?_
                                        refine ⟨congrArg (fun z => some (am_i z)) ?_, rfl⟩
                                        unfold ownB
                                        have k182 := bd1 h182
                                        rw [decide_eq_true (by omega)]; rfl
                                      · exact absurd h301 (by decide)
                                    · exact absurd h225 (by decide)
                                  · refine am_aload_n (q := 186) rfl (am_tab tk_X10_isOwnHere 87 rfl) rfl ?_
                                    refine am_aload_n (q := 187) rfl (am_tab tk_X10_isOwnHere 88 rfl) rfl ?_
                                    refine am_getR (q := 190) (a := 55) (k := 10) (n := 108) (j := 26) (r := some (73)) (Ls_55 hL) (by decide) rfl (Lr_55_26 hL) (by decide) (Or.inl kf_X10_66) (am_tab tk_X10_isOwnHere 89 rfl) rfl ?_
                                    refine am_callVr (q := 193) (me2 := M_X10_isHere) (b := 55) (kb := 10) (nb := 108) (As := [am_r 73]) (rest := []) (c_hereX b E i (am_setN S 55 2 (zP b E i : Int)) hZ.look 73 15 (by decide)) ⟨rfl, rfl⟩ (Ls_55 hL) (by decide) ⟨Or.inl km_X10_271, kc_X10_isHere, kn_X10, kd_X10_isHere, ⟨(Nat.le_of_ble_eq_true rfl), (Nat.le_of_ble_eq_true rfl)⟩, ⟨(Nat.le_of_ble_eq_true rfl), (Nat.le_of_ble_eq_true rfl)⟩, (Nat.le_of_ble_eq_true rfl)⟩ ki_X10_isHere ks_X10_isHere rfl (am_tab tk_X10_isOwnHere 90 rfl) rfl ?_
                                    rintro r τ ⟨rfl, rfl⟩
                                    refine am_hp2 (σ1 := (am_setN S 55 2 (zP b E i : Int))) (am_setN_N _ _ _ _ _) ?_
                                    refine am_st (st2 := [am_i (b2i (decide (zK b E i = 128 + ((15 : Nat) : Int))))]) rfl ?_
                                    refine am_if_ne (q := 196) (t := 218) (am_tab tk_X10_isOwnHere 91 rfl) (by decide) rfl (fun h193 => ?_) (fun h193 => ?_)
                                    · refine am_iconst (q := 219) (n := 1) (by decide) (am_tab tk_X10_isOwnHere 102 rfl) rfl ?_
                                      refine am_goto (t := 223) (am_tab tk_X10_isOwnHere 103 rfl) (by decide) ?_
                                      refine am_istore_n (q := 224) (by decide) (ls2 := [(1, am_i 1), (0, am_r 55)]) rfl (am_tab tk_X10_isOwnHere 105 rfl) rfl ?_
                                      refine am_iload_n (q := 225) rfl (am_tab tk_X10_isOwnHere 106 rfl) rfl ?_
                                      refine am_if_ne (q := 228) (t := 294) (am_tab tk_X10_isOwnHere 107 rfl) (by decide) rfl (fun h225 => ?_) (fun h225 => ?_)
                                      · refine am_iconst (q := 295) (n := 1) (by decide) (am_tab tk_X10_isOwnHere 138 rfl) rfl ?_
                                        refine am_goto (t := 299) (am_tab tk_X10_isOwnHere 139 rfl) (by decide) ?_
                                        refine am_istore_n (q := 300) (by decide) (ls2 := [(1, am_i 1), (0, am_r 55)]) rfl (am_tab tk_X10_isOwnHere 141 rfl) rfl ?_
                                        refine am_iload_n (q := 301) rfl (am_tab tk_X10_isOwnHere 142 rfl) rfl ?_
                                        refine am_if_ne (q := 304) (t := 337) (am_tab tk_X10_isOwnHere 143 rfl) (by decide) rfl (fun h301 => ?_) (fun h301 => ?_)
                                        · refine am_iconst (q := 338) (n := 1) (by decide) (am_tab tk_X10_isOwnHere 159 rfl) rfl ?_
                                          refine am_goto (t := 342) (am_tab tk_X10_isOwnHere 160 rfl) (by decide) ?_
                                          refine am_istore_n (q := 343) (by decide) (ls2 := [(1, am_i 1), (0, am_r 55)]) rfl (am_tab tk_X10_isOwnHere 162 rfl) rfl ?_
                                          refine am_iload_n (q := 344) rfl (am_tab tk_X10_isOwnHere 163 rfl) rfl ?_
                                          refine am_iret (Or.inr ⟨rfl, by first | exact Or.inl rfl | exact Or.inr rfl | omega⟩) (Nat.le_of_ble_eq_true rfl) (Nat.le_of_ble_eq_true rfl) (am_tab tk_X10_isOwnHere 164 rfl) ?_
                                          refine hQ _ _ ?_
                                          refine ⟨congrArg (fun z => some (am_i z)) ?_, rfl⟩
                                          unfold ownB
                                          have k193 := bd1 h193
                                          rw [decide_eq_true (by omega)]; rfl
                                        · exact absurd h301 (by decide)
                                      · exact absurd h225 (by decide)
                                    · refine am_aload_n (q := 197) rfl (am_tab tk_X10_isOwnHere 92 rfl) rfl ?_
                                      refine am_aload_n (q := 198) rfl (am_tab tk_X10_isOwnHere 93 rfl) rfl ?_
                                      refine am_getR (q := 201) (a := 55) (k := 10) (n := 108) (j := 27) (r := some (74)) (Ls_55 hL) (by decide) rfl (Lr_55_27 hL) (by decide) (Or.inl kf_X10_69) (am_tab tk_X10_isOwnHere 94 rfl) rfl ?_
                                      refine am_callVr (q := 204) (me2 := M_X10_isHere) (b := 55) (kb := 10) (nb := 108) (As := [am_r 74]) (rest := []) (c_hereX b E i (am_setN S 55 2 (zP b E i : Int)) hZ.look 74 16 (by decide)) ⟨rfl, rfl⟩ (Ls_55 hL) (by decide) ⟨Or.inl km_X10_271, kc_X10_isHere, kn_X10, kd_X10_isHere, ⟨(Nat.le_of_ble_eq_true rfl), (Nat.le_of_ble_eq_true rfl)⟩, ⟨(Nat.le_of_ble_eq_true rfl), (Nat.le_of_ble_eq_true rfl)⟩, (Nat.le_of_ble_eq_true rfl)⟩ ki_X10_isHere ks_X10_isHere rfl (am_tab tk_X10_isOwnHere 95 rfl) rfl ?_
                                      rintro r τ ⟨rfl, rfl⟩
                                      refine am_hp2 (σ1 := (am_setN S 55 2 (zP b E i : Int))) (am_setN_N _ _ _ _ _) ?_
                                      refine am_st (st2 := [am_i (b2i (decide (zK b E i = 128 + ((16 : Nat) : Int))))]) rfl ?_
                                      refine am_if_ne (q := 207) (t := 218) (am_tab tk_X10_isOwnHere 96 rfl) (by decide) rfl (fun h204 => ?_) (fun h204 => ?_)
                                      · refine am_iconst (q := 219) (n := 1) (by decide) (am_tab tk_X10_isOwnHere 102 rfl) rfl ?_
                                        refine am_goto (t := 223) (am_tab tk_X10_isOwnHere 103 rfl) (by decide) ?_
                                        refine am_istore_n (q := 224) (by decide) (ls2 := [(1, am_i 1), (0, am_r 55)]) rfl (am_tab tk_X10_isOwnHere 105 rfl) rfl ?_
                                        refine am_iload_n (q := 225) rfl (am_tab tk_X10_isOwnHere 106 rfl) rfl ?_
                                        refine am_if_ne (q := 228) (t := 294) (am_tab tk_X10_isOwnHere 107 rfl) (by decide) rfl (fun h225 => ?_) (fun h225 => ?_)
                                        · refine am_iconst (q := 295) (n := 1) (by decide) (am_tab tk_X10_isOwnHere 138 rfl) rfl ?_
                                          refine am_goto (t := 299) (am_tab tk_X10_isOwnHere 139 rfl) (by decide) ?_
                                          refine am_istore_n (q := 300) (by decide) (ls2 := [(1, am_i 1), (0, am_r 55)]) rfl (am_tab tk_X10_isOwnHere 141 rfl) rfl ?_
                                          refine am_iload_n (q := 301) rfl (am_tab tk_X10_isOwnHere 142 rfl) rfl ?_
                                          refine am_if_ne (q := 304) (t := 337) (am_tab tk_X10_isOwnHere 143 rfl) (by decide) rfl (fun h301 => ?_) (fun h301 => ?_)
                                          · refine am_iconst (q := 338) (n := 1) (by decide) (am_tab tk_X10_isOwnHere 159 rfl) rfl ?_
                                            refine am_goto (t := 342) (am_tab tk_X10_isOwnHere 160 rfl) (by decide) ?_
                                            refine am_istore_n (q := 343) (by decide) (ls2 := [(1, am_i 1), (0, am_r 55)]) rfl (am_tab tk_X10_isOwnHere 162 rfl) rfl ?_
                                            refine am_iload_n (q := 344) rfl (am_tab tk_X10_isOwnHere 163 rfl) rfl ?_
                                            refine am_iret (Or.inr ⟨rfl, by first | exact Or.inl rfl | exact Or.inr rfl | omega⟩) (Nat.le_of_ble_eq_true rfl) (Nat.le_of_ble_eq_true rfl) (am_tab tk_X10_isOwnHere 164 rfl) ?_
                                            refine hQ _ _ ?_
                                            refine ⟨congrArg (fun z => some (am_i z)) ?_, rfl⟩
                                            unfold ownB
                                            have k204 := bd1 h204
                                            rw [decide_eq_true (by omega)]; rfl
                                          · exact absurd h301 (by decide)
                                        · exact absurd h225 (by decide)
                                      · refine am_aload_n (q := 208) rfl (am_tab tk_X10_isOwnHere 97 rfl) rfl ?_
                                        refine am_aload_n (q := 209) rfl (am_tab tk_X10_isOwnHere 98 rfl) rfl ?_
                                        refine am_getR (q := 212) (a := 55) (k := 10) (n := 108) (j := 28) (r := some (75)) (Ls_55 hL) (by decide) rfl (Lr_55_28 hL) (by decide) (Or.inl kf_X10_72) (am_tab tk_X10_isOwnHere 99 rfl) rfl ?_
                                        refine am_callVr (q := 215) (me2 := M_X10_isHere) (b := 55) (kb := 10) (nb := 108) (As := [am_r 75]) (rest := []) (c_hereX b E i (am_setN S 55 2 (zP b E i : Int)) hZ.look 75 17 (by decide)) ⟨rfl, rfl⟩ (Ls_55 hL) (by decide) ⟨Or.inl km_X10_271, kc_X10_isHere, kn_X10, kd_X10_isHere, ⟨(Nat.le_of_ble_eq_true rfl), (Nat.le_of_ble_eq_true rfl)⟩, ⟨(Nat.le_of_ble_eq_true rfl), (Nat.le_of_ble_eq_true rfl)⟩, (Nat.le_of_ble_eq_true rfl)⟩ ki_X10_isHere ks_X10_isHere rfl (am_tab tk_X10_isOwnHere 100 rfl) rfl ?_
                                        rintro r τ ⟨rfl, rfl⟩
                                        refine am_hp2 (σ1 := (am_setN S 55 2 (zP b E i : Int))) (am_setN_N _ _ _ _ _) ?_
                                        refine am_st (st2 := [am_i (b2i (decide (zK b E i = 128 + ((17 : Nat) : Int))))]) rfl ?_
                                        refine am_if_eq (q := 218) (t := 222) (am_tab tk_X10_isOwnHere 101 rfl) (by decide) rfl (fun h215 => ?_) (fun h215 => ?_)
                                        · refine am_iconst (q := 223) (n := 0) (by decide) (am_tab tk_X10_isOwnHere 104 rfl) rfl ?_
                                          refine am_istore_n (q := 224) (by decide) (ls2 := [(1, am_i 0), (0, am_r 55)]) rfl (am_tab tk_X10_isOwnHere 105 rfl) rfl ?_
                                          refine am_iload_n (q := 225) rfl (am_tab tk_X10_isOwnHere 106 rfl) rfl ?_
                                          refine am_if_ne (q := 228) (t := 294) (am_tab tk_X10_isOwnHere 107 rfl) (by decide) rfl (fun h225 => ?_) (fun h225 => ?_)
                                          · exact absurd h225 (by decide)
                                          · refine am_aload_n (q := 229) rfl (am_tab tk_X10_isOwnHere 108 rfl) rfl ?_
                                            refine am_aload_n (q := 230) rfl (am_tab tk_X10_isOwnHere 109 rfl) rfl ?_
                                            refine am_getR (q := 233) (a := 55) (k := 10) (n := 108) (j := 29) (r := some (76)) (Ls_55 hL) (by decide) rfl (Lr_55_29 hL) (by decide) (Or.inl kf_X10_75) (am_tab tk_X10_isOwnHere 110 rfl) rfl ?_
                                            refine am_callVr (q := 236) (me2 := M_X10_isHere) (b := 55) (kb := 10) (nb := 108) (As := [am_r 76]) (rest := []) (c_hereX b E i (am_setN S 55 2 (zP b E i : Int)) hZ.look 76 18 (by decide)) ⟨rfl, rfl⟩ (Ls_55 hL) (by decide) ⟨Or.inl km_X10_271, kc_X10_isHere, kn_X10, kd_X10_isHere, ⟨(Nat.le_of_ble_eq_true rfl), (Nat.le_of_ble_eq_true rfl)⟩, ⟨(Nat.le_of_ble_eq_true rfl), (Nat.le_of_ble_eq_true rfl)⟩, (Nat.le_of_ble_eq_true rfl)⟩ ki_X10_isHere ks_X10_isHere rfl (am_tab tk_X10_isOwnHere 111 rfl) rfl ?_
                                            rintro r τ ⟨rfl, rfl⟩
                                            refine am_hp2 (σ1 := (am_setN S 55 2 (zP b E i : Int))) (am_setN_N _ _ _ _ _) ?_
                                            refine am_st (st2 := [am_i (b2i (decide (zK b E i = 128 + ((18 : Nat) : Int))))]) rfl ?_
                                            refine am_if_ne (q := 239) (t := 294) (am_tab tk_X10_isOwnHere 112 rfl) (by decide) rfl (fun h236 => ?_) (fun h236 => ?_)
                                            · refine am_iconst (q := 295) (n := 1) (by decide) (am_tab tk_X10_isOwnHere 138 rfl) rfl ?_
                                              refine am_goto (t := 299) (am_tab tk_X10_isOwnHere 139 rfl) (by decide) ?_
                                              refine am_istore_n (q := 300) (by decide) (ls2 := [(1, am_i 1), (0, am_r 55)]) rfl (am_tab tk_X10_isOwnHere 141 rfl) rfl ?_
                                              refine am_iload_n (q := 301) rfl (am_tab tk_X10_isOwnHere 142 rfl) rfl ?_
                                              refine am_if_ne (q := 304) (t := 337) (am_tab tk_X10_isOwnHere 143 rfl) (by decide) rfl (fun h301 => ?_) (fun h301 => ?_)
                                              · refine am_iconst (q := 338) (n := 1) (by decide) (am_tab tk_X10_isOwnHere 159 rfl) rfl ?_
                                                refine am_goto (t := 342) (am_tab tk_X10_isOwnHere 160 rfl) (by decide) ?_
                                                refine am_istore_n (q := 343) (by decide) (ls2 := [(1, am_i 1), (0, am_r 55)]) rfl (am_tab tk_X10_isOwnHere 162 rfl) rfl ?_
                                                refine am_iload_n (q := 344) rfl (am_tab tk_X10_isOwnHere 163 rfl) rfl ?_
                                                refine am_iret (Or.inr ⟨rfl, by first | exact Or.inl rfl | exact Or.inr rfl | omega⟩) (Nat.le_of_ble_eq_true rfl) (Nat.le_of_ble_eq_true rfl) (am_tab tk_X10_isOwnHere 164 rfl) ?_
                                                refine hQ _ _ ?_
                                                refine ⟨congrArg (fun z => some (am_i z)) ?_, rfl⟩
                                                unfold ownB
                                                have k236 := bd1 h236
                                                rw [decide_eq_true (by omega)]; rfl
                                              · exact absurd h301 (by decide)
                                            · refine am_aload_n (q := 240) rfl (am_tab tk_X10_isOwnHere 113 rfl) rfl ?_
                                              refine am_aload_n (q := 241) rfl (am_tab tk_X10_isOwnHere 114 rfl) rfl ?_
                                              refine am_getR (q := 244) (a := 55) (k := 10) (n := 108) (j := 30) (r := some (77)) (Ls_55 hL) (by decide) rfl (Lr_55_30 hL) (by decide) (Or.inl kf_X10_78) (am_tab tk_X10_isOwnHere 115 rfl) rfl ?_
                                              refine am_callVr (q := 247) (me2 := M_X10_isHere) (b := 55) (kb := 10) (nb := 108) (As := [am_r 77]) (rest := []) (c_hereX b E i (am_setN S 55 2 (zP b E i : Int)) hZ.look 77 19 (by decide)) ⟨rfl, rfl⟩ (Ls_55 hL) (by decide) ⟨Or.inl km_X10_271, kc_X10_isHere, kn_X10, kd_X10_isHere, ⟨(Nat.le_of_ble_eq_true rfl), (Nat.le_of_ble_eq_true rfl)⟩, ⟨(Nat.le_of_ble_eq_true rfl), (Nat.le_of_ble_eq_true rfl)⟩, (Nat.le_of_ble_eq_true rfl)⟩ ki_X10_isHere ks_X10_isHere rfl (am_tab tk_X10_isOwnHere 116 rfl) rfl ?_
                                              rintro r τ ⟨rfl, rfl⟩
                                              refine am_hp2 (σ1 := (am_setN S 55 2 (zP b E i : Int))) (am_setN_N _ _ _ _ _) ?_
                                              refine am_st (st2 := [am_i (b2i (decide (zK b E i = 128 + ((19 : Nat) : Int))))]) rfl ?_
                                              refine am_if_ne (q := 250) (t := 294) (am_tab tk_X10_isOwnHere 117 rfl) (by decide) rfl (fun h247 => ?_) (fun h247 => ?_)
                                              · refine am_iconst (q := 295) (n := 1) (by decide) (am_tab tk_X10_isOwnHere 138 rfl) rfl ?_
                                                refine am_goto (t := 299) (am_tab tk_X10_isOwnHere 139 rfl) (by decide) ?_
                                                refine am_istore_n (q := 300) (by decide) (ls2 := [(1, am_i 1), (0, am_r 55)]) rfl (am_tab tk_X10_isOwnHere 141 rfl) rfl ?_
                                                refine am_iload_n (q := 301) rfl (am_tab tk_X10_isOwnHere 142 rfl) rfl ?_
                                                refine am_if_ne (q := 304) (t := 337) (am_tab tk_X10_isOwnHere 143 rfl) (by decide) rfl (fun h301 => ?_) (fun h301 => ?_)
                                                · refine am_iconst (q := 338) (n := 1) (by decide) (am_tab tk_X10_isOwnHere 159 rfl) rfl ?_
                                                  refine am_goto (t := 342) (am_tab tk_X10_isOwnHere 160 rfl) (by decide) ?_
                                                  refine am_istore_n (q := 343) (by decide) (ls2 := [(1, am_i 1), (0, am_r 55)]) rfl (am_tab tk_X10_isOwnHere 162 rfl) rfl ?_
                                                  refine am_iload_n (q := 344) rfl (am_tab tk_X10_isOwnHere 163 rfl) rfl ?_
                                                  refine am_iret (Or.inr ⟨rfl, by first | exact Or.inl rfl | exact Or.inr rfl | omega⟩) (Nat.le_of_ble_eq_true rfl) (Nat.le_of_ble_eq_true rfl) (am_tab tk_X10_isOwnHere 164 rfl) ?_
                                                  refine hQ _ _ ?_
                                                  refine ⟨congrArg (fun z => some (am_i z)) ?_, rfl⟩
                                                  unfold ownB
                                                  have k247 := bd1 h247
                                                  rw [decide_eq_true (by omega)]; rfl
                                                · exact absurd h301 (by decide)
                                              · refine am_aload_n (q := 251) rfl (am_tab tk_X10_isOwnHere 118 rfl) rfl ?_
                                                refine am_aload_n (q := 252) rfl (am_tab tk_X10_isOwnHere 119 rfl) rfl ?_
                                                refine am_getR (q := 255) (a := 55) (k := 10) (n := 108) (j := 31) (r := some (78)) (Ls_55 hL) (by decide) rfl (Lr_55_31 hL) (by decide) (Or.inl kf_X10_81) (am_tab tk_X10_isOwnHere 120 rfl) rfl ?_
                                                refine am_callVr (q := 258) (me2 := M_X10_isHere) (b := 55) (kb := 10) (nb := 108) (As := [am_r 78]) (rest := []) (c_hereX b E i (am_setN S 55 2 (zP b E i : Int)) hZ.look 78 20 (by decide)) ⟨rfl, rfl⟩ (Ls_55 hL) (by decide) ⟨Or.inl km_X10_271, kc_X10_isHere, kn_X10, kd_X10_isHere, ⟨(Nat.le_of_ble_eq_true rfl), (Nat.le_of_ble_eq_true rfl)⟩, ⟨(Nat.le_of_ble_eq_true rfl), (Nat.le_of_ble_eq_true rfl)⟩, (Nat.le_of_ble_eq_true rfl)⟩ ki_X10_isHere ks_X10_isHere rfl (am_tab tk_X10_isOwnHere 121 rfl) rfl ?_
                                                rintro r τ ⟨rfl, rfl⟩
                                                refine am_hp2 (σ1 := (am_setN S 55 2 (zP b E i : Int))) (am_setN_N _ _ _ _ _) ?_
                                                refine am_st (st2 := [am_i (b2i (decide (zK b E i = 128 + ((20 : Nat) : Int))))]) rfl ?_
                                                refine am_if_ne (q := 261) (t := 294) (am_tab tk_X10_isOwnHere 122 rfl) (by decide) rfl (fun h258 => ?_) (fun h258 => ?_)
                                                · refine am_iconst (q := 295) (n := 1) (by decide) (am_tab tk_X10_isOwnHere 138 rfl) rfl ?_
                                                  refine am_goto (t := 299) (am_tab tk_X10_isOwnHere 139 rfl) (by decide) ?_
                                                  refine am_istore_n (q := 300) (by decide) (ls2 := [(1, am_i 1), (0, am_r 55)]) rfl (am_tab tk_X10_isOwnHere 141 rfl) rfl ?_
                                                  refine am_iload_n (q := 301) rfl (am_tab tk_X10_isOwnHere 142 rfl) rfl ?_
                                                  refine am_if_ne (q := 304) (t := 337) (am_tab tk_X10_isOwnHere 143 rfl) (by decide) rfl (fun h301 => ?_) (fun h301 => ?_)
                                                  · refine am_iconst (q := 338) (n := 1) (by decide) (am_tab tk_X10_isOwnHere 159 rfl) rfl ?_
                                                    refine am_goto (t := 342) (am_tab tk_X10_isOwnHere 160 rfl) (by decide) ?_
                                                    refine am_istore_n (q := 343) (by decide) (ls2 := [(1, am_i 1), (0, am_r 55)]) rfl (am_tab tk_X10_isOwnHere 162 rfl) rfl ?_
                                                    refine am_iload_n (q := 344) rfl (am_tab tk_X10_isOwnHere 163 rfl) rfl ?_
                                                    refine am_iret (Or.inr ⟨rfl, by first | exact Or.inl rfl | exact Or.inr rfl | omega⟩) (Nat.le_of_ble_eq_true rfl) (Nat.le_of_ble_eq_true rfl) (am_tab tk_X10_isOwnHere 164 rfl) ?_
                                                    refine hQ _ _ ?_
                                                    refine ⟨congrArg (fun z => some (am_i z)) ?_, rfl⟩
                                                    unfold ownB
                                                    have k258 := bd1 h258
                                                    rw [decide_eq_true (by omega)]; rfl
                                                  · exact absurd h301 (by decide)
                                                · refine am_aload_n (q := 262) rfl (am_tab tk_X10_isOwnHere 123 rfl) rfl ?_
                                                  refine am_aload_n (q := 263) rfl (am_tab tk_X10_isOwnHere 124 rfl) rfl ?_
                                                  refine am_getR (q := 266) (a := 55) (k := 10) (n := 108) (j := 32) (r := some (79)) (Ls_55 hL) (by decide) rfl (Lr_55_32 hL) (by decide) (Or.inl kf_X10_84) (am_tab tk_X10_isOwnHere 125 rfl) rfl ?_
                                                  refine am_callVr (q := 269) (me2 := M_X10_isHere) (b := 55) (kb := 10) (nb := 108) (As := [am_r 79]) (rest := []) (c_hereX b E i (am_setN S 55 2 (zP b E i : Int)) hZ.look 79 21 (by decide)) ⟨rfl, rfl⟩ (Ls_55 hL) (by decide) ⟨Or.inl km_X10_271, kc_X10_isHere, kn_X10, kd_X10_isHere, ⟨(Nat.le_of_ble_eq_true rfl), (Nat.le_of_ble_eq_true rfl)⟩, ⟨(Nat.le_of_ble_eq_true rfl), (Nat.le_of_ble_eq_true rfl)⟩, (Nat.le_of_ble_eq_true rfl)⟩ ki_X10_isHere ks_X10_isHere rfl (am_tab tk_X10_isOwnHere 126 rfl) rfl ?_
                                                  rintro r τ ⟨rfl, rfl⟩
                                                  refine am_hp2 (σ1 := (am_setN S 55 2 (zP b E i : Int))) (am_setN_N _ _ _ _ _) ?_
                                                  refine am_st (st2 := [am_i (b2i (decide (zK b E i = 128 + ((21 : Nat) : Int))))]) rfl ?_
                                                  refine am_if_ne (q := 272) (t := 294) (am_tab tk_X10_isOwnHere 127 rfl) (by decide) rfl (fun h269 => ?_) (fun h269 => ?_)
                                                  · refine am_iconst (q := 295) (n := 1) (by decide) (am_tab tk_X10_isOwnHere 138 rfl) rfl ?_
                                                    refine am_goto (t := 299) (am_tab tk_X10_isOwnHere 139 rfl) (by decide) ?_
                                                    refine am_istore_n (q := 300) (by decide) (ls2 := [(1, am_i 1), (0, am_r 55)]) rfl (am_tab tk_X10_isOwnHere 141 rfl) rfl ?_
                                                    refine am_iload_n (q := 301) rfl (am_tab tk_X10_isOwnHere 142 rfl) rfl ?_
                                                    refine am_if_ne (q := 304) (t := 337) (am_tab tk_X10_isOwnHere 143 rfl) (by decide) rfl (fun h301 => ?_) (fun h301 => ?_)
                                                    · refine am_iconst (q := 338) (n := 1) (by decide) (am_tab tk_X10_isOwnHere 159 rfl) rfl ?_
                                                      refine am_goto (t := 342) (am_tab tk_X10_isOwnHere 160 rfl) (by decide) ?_
                                                      refine am_istore_n (q := 343) (by decide) (ls2 := [(1, am_i 1), (0, am_r 55)]) rfl (am_tab tk_X10_isOwnHere 162 rfl) rfl ?_
                                                      refine am_iload_n (q := 344) rfl (am_tab tk_X10_isOwnHere 163 rfl) rfl ?_
                                                      refine am_iret (Or.inr ⟨rfl, by first | exact Or.inl rfl | exact Or.inr rfl | omega⟩) (Nat.le_of_ble_eq_true rfl) (Nat.le_of_ble_eq_true rfl) (am_tab tk_X10_isOwnHere 164 rfl) ?_
                                                      refine hQ _ _ ?_
                                                      refine ⟨congrArg (fun z => some (am_i z)) ?_, rfl⟩
                                                      unfold ownB
                                                      have k269 := bd1 h269
                                                      rw [decide_eq_true (by omega)]; rfl
                                                    · exact absurd h301 (by decide)
                                                  · refine am_aload_n (q := 273) rfl (am_tab tk_X10_isOwnHere 128 rfl) rfl ?_
                                                    refine am_aload_n (q := 274) rfl (am_tab tk_X10_isOwnHere 129 rfl) rfl ?_
                                                    refine am_getR (q := 277) (a := 55) (k := 10) (n := 108) (j := 33) (r := some (80)) (Ls_55 hL) (by decide) rfl (Lr_55_33 hL) (by decide) (Or.inl kf_X10_87) (am_tab tk_X10_isOwnHere 130 rfl) rfl ?_
                                                    refine am_callVr (q := 280) (me2 := M_X10_isHere) (b := 55) (kb := 10) (nb := 108) (As := [am_r 80]) (rest := []) (c_hereX b E i (am_setN S 55 2 (zP b E i : Int)) hZ.look 80 22 (by decide)) ⟨rfl, rfl⟩ (Ls_55 hL) (by decide) ⟨Or.inl km_X10_271, kc_X10_isHere, kn_X10, kd_X10_isHere, ⟨(Nat.le_of_ble_eq_true rfl), (Nat.le_of_ble_eq_true rfl)⟩, ⟨(Nat.le_of_ble_eq_true rfl), (Nat.le_of_ble_eq_true rfl)⟩, (Nat.le_of_ble_eq_true rfl)⟩ ki_X10_isHere ks_X10_isHere rfl (am_tab tk_X10_isOwnHere 131 rfl) rfl ?_
                                                    rintro r τ ⟨rfl, rfl⟩
                                                    refine am_hp2 (σ1 := (am_setN S 55 2 (zP b E i : Int))) (am_setN_N _ _ _ _ _) ?_
                                                    refine am_st (st2 := [am_i (b2i (decide (zK b E i = 128 + ((22 : Nat) : Int))))]) rfl ?_
                                                    refine am_if_ne (q := 283) (t := 294) (am_tab tk_X10_isOwnHere 132 rfl) (by decide) rfl (fun h280 => ?_) (fun h280 => ?_)
                                                    · refine am_iconst (q := 295) (n := 1) (by decide) (am_tab tk_X10_isOwnHere 138 rfl) rfl ?_
                                                      refine am_goto (t := 299) (am_tab tk_X10_isOwnHere 139 rfl) (by decide) ?_
                                                      refine am_istore_n (q := 300) (by decide) (ls2 := [(1, am_i 1), (0, am_r 55)]) rfl (am_tab tk_X10_isOwnHere 141 rfl) rfl ?_
                                                      refine am_iload_n (q := 301) rfl (am_tab tk_X10_isOwnHere 142 rfl) rfl ?_
                                                      refine am_if_ne (q := 304) (t := 337) (am_tab tk_X10_isOwnHere 143 rfl) (by decide) rfl (fun h301 => ?_) (fun h301 => ?_)
                                                      · refine am_iconst (q := 338) (n := 1) (by decide) (am_tab tk_X10_isOwnHere 159 rfl) rfl ?_
                                                        refine am_goto (t := 342) (am_tab tk_X10_isOwnHere 160 rfl) (by decide) ?_
                                                        refine am_istore_n (q := 343) (by decide) (ls2 := [(1, am_i 1), (0, am_r 55)]) rfl (am_tab tk_X10_isOwnHere 162 rfl) rfl ?_
                                                        refine am_iload_n (q := 344) rfl (am_tab tk_X10_isOwnHere 163 rfl) rfl ?_
                                                        refine am_iret (Or.inr ⟨rfl, by first | exact Or.inl rfl | exact Or.inr rfl | omega⟩) (Nat.le_of_ble_eq_true rfl) (Nat.le_of_ble_eq_true rfl) (am_tab tk_X10_isOwnHere 164 rfl) ?_
                                                        refine hQ _ _ ?_
                                                        refine ⟨congrArg (fun z => some (am_i z)) ?_, rfl⟩
                                                        unfold ownB
                                                        have k280 := bd1 h280
                                                        rw [decide_eq_true (by omega)]; rfl
                                                      · exact absurd h301 (by decide)
                                                    · refine am_aload_n (q := 284) rfl (am_tab tk_X10_isOwnHere 133 rfl) rfl ?_
                                                      refine am_aload_n (q := 285) rfl (am_tab tk_X10_isOwnHere 134 rfl) rfl ?_
                                                      refine am_getR (q := 288) (a := 55) (k := 10) (n := 108) (j := 34) (r := some (81)) (Ls_55 hL) (by decide) rfl (Lr_55_34 hL) (by decide) (Or.inl kf_X10_90) (am_tab tk_X10_isOwnHere 135 rfl) rfl ?_
                                                      refine am_callVr (q := 291) (me2 := M_X10_isHere) (b := 55) (kb := 10) (nb := 108) (As := [am_r 81]) (rest := []) (c_hereX b E i (am_setN S 55 2 (zP b E i : Int)) hZ.look 81 23 (by decide)) ⟨rfl, rfl⟩ (Ls_55 hL) (by decide) ⟨Or.inl km_X10_271, kc_X10_isHere, kn_X10, kd_X10_isHere, ⟨(Nat.le_of_ble_eq_true rfl), (Nat.le_of_ble_eq_true rfl)⟩, ⟨(Nat.le_of_ble_eq_true rfl), (Nat.le_of_ble_eq_true rfl)⟩, (Nat.le_of_ble_eq_true rfl)⟩ ki_X10_isHere ks_X10_isHere rfl (am_tab tk_X10_isOwnHere 136 rfl) rfl ?_
                                                      rintro r τ ⟨rfl, rfl⟩
                                                      refine am_hp2 (σ1 := (am_setN S 55 2 (zP b E i : Int))) (am_setN_N _ _ _ _ _) ?_
                                                      refine am_st (st2 := [am_i (b2i (decide (zK b E i = 128 + ((23 : Nat) : Int))))]) rfl ?_
                                                      refine am_if_eq (q := 294) (t := 298) (am_tab tk_X10_isOwnHere 137 rfl) (by decide) rfl (fun h291 => ?_) (fun h291 => ?_)
                                                      · refine am_iconst (q := 299) (n := 0) (by decide) (am_tab tk_X10_isOwnHere 140 rfl) rfl ?_
                                                        refine am_istore_n (q := 300) (by decide) (ls2 := [(1, am_i 0), (0, am_r 55)]) rfl (am_tab tk_X10_isOwnHere 141 rfl) rfl ?_
                                                        refine am_iload_n (q := 301) rfl (am_tab tk_X10_isOwnHere 142 rfl) rfl ?_
                                                        refine am_if_ne (q := 304) (t := 337) (am_tab tk_X10_isOwnHere 143 rfl) (by decide) rfl (fun h301 => ?_) (fun h301 => ?_)
                                                        · exact absurd h301 (by decide)
                                                        · refine am_aload_n (q := 305) rfl (am_tab tk_X10_isOwnHere 144 rfl) rfl ?_
                                                          refine am_aload_n (q := 306) rfl (am_tab tk_X10_isOwnHere 145 rfl) rfl ?_
                                                          refine am_getR (q := 309) (a := 55) (k := 10) (n := 108) (j := 35) (r := some (82)) (Ls_55 hL) (by decide) rfl (Lr_55_35 hL) (by decide) (Or.inl kf_X10_93) (am_tab tk_X10_isOwnHere 146 rfl) rfl ?_
                                                          refine am_callVr (q := 312) (me2 := M_X10_isHere) (b := 55) (kb := 10) (nb := 108) (As := [am_r 82]) (rest := []) (c_hereX b E i (am_setN S 55 2 (zP b E i : Int)) hZ.look 82 24 (by decide)) ⟨rfl, rfl⟩ (Ls_55 hL) (by decide) ⟨Or.inl km_X10_271, kc_X10_isHere, kn_X10, kd_X10_isHere, ⟨(Nat.le_of_ble_eq_true rfl), (Nat.le_of_ble_eq_true rfl)⟩, ⟨(Nat.le_of_ble_eq_true rfl), (Nat.le_of_ble_eq_true rfl)⟩, (Nat.le_of_ble_eq_true rfl)⟩ ki_X10_isHere ks_X10_isHere rfl (am_tab tk_X10_isOwnHere 147 rfl) rfl ?_
                                                          rintro r τ ⟨rfl, rfl⟩
                                                          refine am_hp2 (σ1 := (am_setN S 55 2 (zP b E i : Int))) (am_setN_N _ _ _ _ _) ?_
                                                          refine am_st (st2 := [am_i (b2i (decide (zK b E i = 128 + ((24 : Nat) : Int))))]) rfl ?_
                                                          refine am_if_ne (q := 315) (t := 337) (am_tab tk_X10_isOwnHere 148 rfl) (by decide) rfl (fun h312 => ?_) (fun h312 => ?_)
                                                          · refine am_iconst (q := 338) (n := 1) (by decide) (am_tab tk_X10_isOwnHere 159 rfl) rfl ?_
                                                            refine am_goto (t := 342) (am_tab tk_X10_isOwnHere 160 rfl) (by decide) ?_
                                                            refine am_istore_n (q := 343) (by decide) (ls2 := [(1, am_i 1), (0, am_r 55)]) rfl (am_tab tk_X10_isOwnHere 162 rfl) rfl ?_
                                                            refine am_iload_n (q := 344) rfl (am_tab tk_X10_isOwnHere 163 rfl) rfl ?_
                                                            refine am_iret (Or.inr ⟨rfl, by first | exact Or.inl rfl | exact Or.inr rfl | omega⟩) (Nat.le_of_ble_eq_true rfl) (Nat.le_of_ble_eq_true rfl) (am_tab tk_X10_isOwnHere 164 rfl) ?_
                                                            refine hQ _ _ ?_
                                                            refine ⟨congrArg (fun z => some (am_i z)) ?_, rfl⟩
                                                            unfold ownB
                                                            have k312 := bd1 h312
                                                            rw [decide_eq_true (by omega)]; rfl
                                                          · refine am_aload_n (q := 316) rfl (am_tab tk_X10_isOwnHere 149 rfl) rfl ?_
                                                            refine am_aload_n (q := 317) rfl (am_tab tk_X10_isOwnHere 150 rfl) rfl ?_
                                                            refine am_getR (q := 320) (a := 55) (k := 10) (n := 108) (j := 36) (r := some (83)) (Ls_55 hL) (by decide) rfl (Lr_55_36 hL) (by decide) (Or.inl kf_X10_96) (am_tab tk_X10_isOwnHere 151 rfl) rfl ?_
                                                            refine am_callVr (q := 323) (me2 := M_X10_isHere) (b := 55) (kb := 10) (nb := 108) (As := [am_r 83]) (rest := []) (c_hereX b E i (am_setN S 55 2 (zP b E i : Int)) hZ.look 83 25 (by decide)) ⟨rfl, rfl⟩ (Ls_55 hL) (by decide) ⟨Or.inl km_X10_271, kc_X10_isHere, kn_X10, kd_X10_isHere, ⟨(Nat.le_of_ble_eq_true rfl), (Nat.le_of_ble_eq_true rfl)⟩, ⟨(Nat.le_of_ble_eq_true rfl), (Nat.le_of_ble_eq_true rfl)⟩, (Nat.le_of_ble_eq_true rfl)⟩ ki_X10_isHere ks_X10_isHere rfl (am_tab tk_X10_isOwnHere 152 rfl) rfl ?_
                                                            rintro r τ ⟨rfl, rfl⟩
                                                            refine am_hp2 (σ1 := (am_setN S 55 2 (zP b E i : Int))) (am_setN_N _ _ _ _ _) ?_
                                                            refine am_st (st2 := [am_i (b2i (decide (zK b E i = 128 + ((25 : Nat) : Int))))]) rfl ?_
                                                            refine am_if_ne (q := 326) (t := 337) (am_tab tk_X10_isOwnHere 153 rfl) (by decide) rfl (fun h323 => ?_) (fun h323 => ?_)
                                                            · refine am_iconst (q := 338) (n := 1) (by decide) (am_tab tk_X10_isOwnHere 159 rfl) rfl ?_
                                                              refine am_goto (t := 342) (am_tab tk_X10_isOwnHere 160 rfl) (by decide) ?_
                                                              refine am_istore_n (q := 343) (by decide) (ls2 := [(1, am_i 1), (0, am_r 55)]) rfl (am_tab tk_X10_isOwnHere 162 rfl) rfl ?_
                                                              refine am_iload_n (q := 344) rfl (am_tab tk_X10_isOwnHere 163 rfl) rfl ?_
                                                              refine am_iret (Or.inr ⟨rfl, by first | exact Or.inl rfl | exact Or.inr rfl | omega⟩) (Nat.le_of_ble_eq_true rfl) (Nat.le_of_ble_eq_true rfl) (am_tab tk_X10_isOwnHere 164 rfl) ?_
                                                              refine hQ _ _ ?_
                                                              refine ⟨congrArg (fun z => some (am_i z)) ?_, rfl⟩
                                                              unfold ownB
                                                              have k323 := bd1 h323
                                                              rw [decide_eq_true (by omega)]; rfl
                                                            · refine am_aload_n (q := 327) rfl (am_tab tk_X10_isOwnHere 154 rfl) rfl ?_
                                                              refine am_aload_n (q := 328) rfl (am_tab tk_X10_isOwnHere 155 rfl) rfl ?_
                                                              refine am_getR (q := 331) (a := 55) (k := 10) (n := 108) (j := 37) (r := some (84)) (Ls_55 hL) (by decide) rfl (Lr_55_37 hL) (by decide) (Or.inl kf_X10_99) (am_tab tk_X10_isOwnHere 156 rfl) rfl ?_
                                                              refine am_callVr (q := 334) (me2 := M_X10_isHere) (b := 55) (kb := 10) (nb := 108) (As := [am_r 84]) (rest := []) (c_hereX b E i (am_setN S 55 2 (zP b E i : Int)) hZ.look 84 26 (by decide)) ⟨rfl, rfl⟩ (Ls_55 hL) (by decide) ⟨Or.inl km_X10_271, kc_X10_isHere, kn_X10, kd_X10_isHere, ⟨(Nat.le_of_ble_eq_true rfl), (Nat.le_of_ble_eq_true rfl)⟩, ⟨(Nat.le_of_ble_eq_true rfl), (Nat.le_of_ble_eq_true rfl)⟩, (Nat.le_of_ble_eq_true rfl)⟩ ki_X10_isHere ks_X10_isHere rfl (am_tab tk_X10_isOwnHere 157 rfl) rfl ?_
                                                              rintro r τ ⟨rfl, rfl⟩
                                                              refine am_hp2 (σ1 := (am_setN S 55 2 (zP b E i : Int))) (am_setN_N _ _ _ _ _) ?_
                                                              refine am_st (st2 := [am_i (b2i (decide (zK b E i = 128 + ((26 : Nat) : Int))))]) rfl ?_
                                                              refine am_if_eq (q := 337) (t := 341) (am_tab tk_X10_isOwnHere 158 rfl) (by decide) rfl (fun h334 => ?_) (fun h334 => ?_)
                                                              · refine am_iconst (q := 342) (n := 0) (by decide) (am_tab tk_X10_isOwnHere 161 rfl) rfl ?_
                                                                refine am_istore_n (q := 343) (by decide) (ls2 := [(1, am_i 0), (0, am_r 55)]) rfl (am_tab tk_X10_isOwnHere 162 rfl) rfl ?_
                                                                refine am_iload_n (q := 344) rfl (am_tab tk_X10_isOwnHere 163 rfl) rfl ?_
                                                                refine am_iret (Or.inr ⟨rfl, by first | exact Or.inl rfl | exact Or.inr rfl | omega⟩) (Nat.le_of_ble_eq_true rfl) (Nat.le_of_ble_eq_true rfl) (am_tab tk_X10_isOwnHere 164 rfl) ?_
                                                                refine hQ _ _ ?_
                                                                refine ⟨congrArg (fun z => some (am_i z)) ?_, rfl⟩
                                                                unfold ownB
                                                                have k8 := bd0 h8
                                                                have k19 := bd0 h19
                                                                have k30 := bd0 h30
                                                                have k41 := bd0 h41
                                                                have k52 := bd0 h52
                                                                have k63 := bd0 h63
                                                                have k84 := bd0 h84
                                                                have k95 := bd0 h95
                                                                have k106 := bd0 h106
                                                                have k117 := bd0 h117
                                                                have k128 := bd0 h128
                                                                have k139 := bd0 h139
                                                                have k160 := bd0 h160
                                                                have k171 := bd0 h171
                                                                have k182 := bd0 h182
                                                                have k193 := bd0 h193
                                                                have k204 := bd0 h204
                                                                have k215 := bd0 h215
                                                                have k236 := bd0 h236
                                                                have k247 := bd0 h247
                                                                have k258 := bd0 h258
                                                                have k269 := bd0 h269
                                                                have k280 := bd0 h280
                                                                have k291 := bd0 h291
                                                                have k312 := bd0 h312
                                                                have k323 := bd0 h323
                                                                have k334 := bd0 h334
                                                                rw [decide_eq_false (by omega)]; rfl
                                                              · refine am_iconst (q := 338) (n := 1) (by decide) (am_tab tk_X10_isOwnHere 159 rfl) rfl ?_
                                                                refine am_goto (t := 342) (am_tab tk_X10_isOwnHere 160 rfl) (by decide) ?_
                                                                refine am_istore_n (q := 343) (by decide) (ls2 := [(1, am_i 1), (0, am_r 55)]) rfl (am_tab tk_X10_isOwnHere 162 rfl) rfl ?_
                                                                refine am_iload_n (q := 344) rfl (am_tab tk_X10_isOwnHere 163 rfl) rfl ?_
                                                                refine am_iret (Or.inr ⟨rfl, by first | exact Or.inl rfl | exact Or.inr rfl | omega⟩) (Nat.le_of_ble_eq_true rfl) (Nat.le_of_ble_eq_true rfl) (am_tab tk_X10_isOwnHere 164 rfl) ?_
                                                                refine hQ _ _ ?_
                                                                refine ⟨congrArg (fun z => some (am_i z)) ?_, rfl⟩
                                                                unfold ownB
                                                                have k334 := bd1 h334
                                                                rw [decide_eq_true (by omega)]; rfl
                                                      · refine am_iconst (q := 295) (n := 1) (by decide) (am_tab tk_X10_isOwnHere 138 rfl) rfl ?_
                                                        refine am_goto (t := 299) (am_tab tk_X10_isOwnHere 139 rfl) (by decide) ?_
                                                        refine am_istore_n (q := 300) (by decide) (ls2 := [(1, am_i 1), (0, am_r 55)]) rfl (am_tab tk_X10_isOwnHere 141 rfl) rfl ?_
                                                        refine am_iload_n (q := 301) rfl (am_tab tk_X10_isOwnHere 142 rfl) rfl ?_
                                                        refine am_if_ne (q := 304) (t := 337) (am_tab tk_X10_isOwnHere 143 rfl) (by decide) rfl (fun h301 => ?_) (fun h301 => ?_)
                                                        · refine am_iconst (q := 338) (n := 1) (by decide) (am_tab tk_X10_isOwnHere 159 rfl) rfl ?_
                                                          refine am_goto (t := 342) (am_tab tk_X10_isOwnHere 160 rfl) (by decide) ?_
                                                          refine am_istore_n (q := 343) (by decide) (ls2 := [(1, am_i 1), (0, am_r 55)]) rfl (am_tab tk_X10_isOwnHere 162 rfl) rfl ?_
                                                          refine am_iload_n (q := 344) rfl (am_tab tk_X10_isOwnHere 163 rfl) rfl ?_
                                                          refine am_iret (Or.inr ⟨rfl, by first | exact Or.inl rfl | exact Or.inr rfl | omega⟩) (Nat.le_of_ble_eq_true rfl) (Nat.le_of_ble_eq_true rfl) (am_tab tk_X10_isOwnHere 164 rfl) ?_
                                                          refine hQ _ _ ?_
                                                          refine ⟨congrArg (fun z => some (am_i z)) ?_, rfl⟩
                                                          unfold ownB
                                                          have k291 := bd1 h291
                                                          rw [decide_eq_true (by omega)]; rfl
                                                        · exact absurd h301 (by decide)
                                        · refine am_iconst (q := 219) (n := 1) (by decide) (am_tab tk_X10_isOwnHere 102 rfl) rfl ?_
                                          refine am_goto (t := 223) (am_tab tk_X10_isOwnHere 103 rfl) (by decide) ?_
                                          refine am_istore_n (q := 224) (by decide) (ls2 := [(1, am_i 1), (0, am_r 55)]) rfl (am_tab tk_X10_isOwnHere 105 rfl) rfl ?_
                                          refine am_iload_n (q := 225) rfl (am_tab tk_X10_isOwnHere 106 rfl) rfl ?_
                                          refine am_if_ne (q := 228) (t := 294) (am_tab tk_X10_isOwnHere 107 rfl) (by decide) rfl (fun h225 => ?_) (fun h225 => ?_)
                                          · refine am_iconst (q := 295) (n := 1) (by decide) (am_tab tk_X10_isOwnHere 138 rfl) rfl ?_
                                            refine am_goto (t := 299) (am_tab tk_X10_isOwnHere 139 rfl) (by decide) ?_
                                            refine am_istore_n (q := 300) (by decide) (ls2 := [(1, am_i 1), (0, am_r 55)]) rfl (am_tab tk_X10_isOwnHere 141 rfl) rfl ?_
                                            refine am_iload_n (q := 301) rfl (am_tab tk_X10_isOwnHere 142 rfl) rfl ?_
                                            refine am_if_ne (q := 304) (t := 337) (am_tab tk_X10_isOwnHere 143 rfl) (by decide) rfl (fun h301 => ?_) (fun h301 => ?_)
                                            · refine am_iconst (q := 338) (n := 1) (by decide) (am_tab tk_X10_isOwnHere 159 rfl) rfl ?_
                                              refine am_goto (t := 342) (am_tab tk_X10_isOwnHere 160 rfl) (by decide) ?_
                                              refine am_istore_n (q := 343) (by decide) (ls2 := [(1, am_i 1), (0, am_r 55)]) rfl (am_tab tk_X10_isOwnHere 162 rfl) rfl ?_
                                              refine am_iload_n (q := 344) rfl (am_tab tk_X10_isOwnHere 163 rfl) rfl ?_
                                              refine am_iret (Or.inr ⟨rfl, by first | exact Or.inl rfl | exact Or.inr rfl | omega⟩) (Nat.le_of_ble_eq_true rfl) (Nat.le_of_ble_eq_true rfl) (am_tab tk_X10_isOwnHere 164 rfl) ?_
                                              refine hQ _ _ ?_
                                              refine ⟨congrArg (fun z => some (am_i z)) ?_, rfl⟩
                                              unfold ownB
                                              have k215 := bd1 h215
                                              rw [decide_eq_true (by omega)]; rfl
                                            · exact absurd h301 (by decide)
                                          · exact absurd h225 (by decide)
                          · refine am_iconst (q := 143) (n := 1) (by decide) (am_tab tk_X10_isOwnHere 66 rfl) rfl ?_
                            refine am_goto (t := 147) (am_tab tk_X10_isOwnHere 67 rfl) (by decide) ?_
                            refine am_istore_n (q := 148) (by decide) (ls2 := [(1, am_i 1), (0, am_r 55)]) rfl (am_tab tk_X10_isOwnHere 69 rfl) rfl ?_
                            refine am_iload_n (q := 149) rfl (am_tab tk_X10_isOwnHere 70 rfl) rfl ?_
                            refine am_if_ne (q := 152) (t := 218) (am_tab tk_X10_isOwnHere 71 rfl) (by decide) rfl (fun h149 => ?_) (fun h149 => ?_)
                            · refine am_iconst (q := 219) (n := 1) (by decide) (am_tab tk_X10_isOwnHere 102 rfl) rfl ?_
                              refine am_goto (t := 223) (am_tab tk_X10_isOwnHere 103 rfl) (by decide) ?_
                              refine am_istore_n (q := 224) (by decide) (ls2 := [(1, am_i 1), (0, am_r 55)]) rfl (am_tab tk_X10_isOwnHere 105 rfl) rfl ?_
                              refine am_iload_n (q := 225) rfl (am_tab tk_X10_isOwnHere 106 rfl) rfl ?_
                              refine am_if_ne (q := 228) (t := 294) (am_tab tk_X10_isOwnHere 107 rfl) (by decide) rfl (fun h225 => ?_) (fun h225 => ?_)
                              · refine am_iconst (q := 295) (n := 1) (by decide) (am_tab tk_X10_isOwnHere 138 rfl) rfl ?_
                                refine am_goto (t := 299) (am_tab tk_X10_isOwnHere 139 rfl) (by decide) ?_
                                refine am_istore_n (q := 300) (by decide) (ls2 := [(1, am_i 1), (0, am_r 55)]) rfl (am_tab tk_X10_isOwnHere 141 rfl) rfl ?_
                                refine am_iload_n (q := 301) rfl (am_tab tk_X10_isOwnHere 142 rfl) rfl ?_
                                refine am_if_ne (q := 304) (t := 337) (am_tab tk_X10_isOwnHere 143 rfl) (by decide) rfl (fun h301 => ?_) (fun h301 => ?_)
                                · refine am_iconst (q := 338) (n := 1) (by decide) (am_tab tk_X10_isOwnHere 159 rfl) rfl ?_
                                  refine am_goto (t := 342) (am_tab tk_X10_isOwnHere 160 rfl) (by decide) ?_
                                  refine am_istore_n (q := 343) (by decide) (ls2 := [(1, am_i 1), (0, am_r 55)]) rfl (am_tab tk_X10_isOwnHere 162 rfl) rfl ?_
                                  refine am_iload_n (q := 344) rfl (am_tab tk_X10_isOwnHere 163 rfl) rfl ?_
                                  refine am_iret (Or.inr ⟨rfl, by first | exact Or.inl rfl | exact Or.inr rfl | omega⟩) (Nat.le_of_ble_eq_true rfl) (Nat.le_of_ble_eq_true rfl) (am_tab tk_X10_isOwnHere 164 rfl) ?_
                                  refine hQ _ _ ?_
                                  refine ⟨congrArg (fun z => some (am_i z)) ?_, rfl⟩
                                  unfold ownB
                                  have k139 := bd1 h139
                                  rw [decide_eq_true (by omega)]; rfl
                                · exact absurd h301 (by decide)
                              · exact absurd h225 (by decide)
                            · exact absurd h149 (by decide)
            · refine am_iconst (q := 67) (n := 1) (by decide) (am_tab tk_X10_isOwnHere 30 rfl) rfl ?_
              refine am_goto (t := 71) (am_tab tk_X10_isOwnHere 31 rfl) (by decide) ?_
              refine am_istore_n (q := 72) (by decide) (ls2 := [(1, am_i 1), (0, am_r 55)]) rfl (am_tab tk_X10_isOwnHere 33 rfl) rfl ?_
              refine am_iload_n (q := 73) rfl (am_tab tk_X10_isOwnHere 34 rfl) rfl ?_
              refine am_if_ne (q := 76) (t := 142) (am_tab tk_X10_isOwnHere 35 rfl) (by decide) rfl (fun h73 => ?_) (fun h73 => ?_)
              · refine am_iconst (q := 143) (n := 1) (by decide) (am_tab tk_X10_isOwnHere 66 rfl) rfl ?_
                refine am_goto (t := 147) (am_tab tk_X10_isOwnHere 67 rfl) (by decide) ?_
                refine am_istore_n (q := 148) (by decide) (ls2 := [(1, am_i 1), (0, am_r 55)]) rfl (am_tab tk_X10_isOwnHere 69 rfl) rfl ?_
                refine am_iload_n (q := 149) rfl (am_tab tk_X10_isOwnHere 70 rfl) rfl ?_
                refine am_if_ne (q := 152) (t := 218) (am_tab tk_X10_isOwnHere 71 rfl) (by decide) rfl (fun h149 => ?_) (fun h149 => ?_)
                · refine am_iconst (q := 219) (n := 1) (by decide) (am_tab tk_X10_isOwnHere 102 rfl) rfl ?_
                  refine am_goto (t := 223) (am_tab tk_X10_isOwnHere 103 rfl) (by decide) ?_
                  refine am_istore_n (q := 224) (by decide) (ls2 := [(1, am_i 1), (0, am_r 55)]) rfl (am_tab tk_X10_isOwnHere 105 rfl) rfl ?_
                  refine am_iload_n (q := 225) rfl (am_tab tk_X10_isOwnHere 106 rfl) rfl ?_
                  refine am_if_ne (q := 228) (t := 294) (am_tab tk_X10_isOwnHere 107 rfl) (by decide) rfl (fun h225 => ?_) (fun h225 => ?_)
                  · refine am_iconst (q := 295) (n := 1) (by decide) (am_tab tk_X10_isOwnHere 138 rfl) rfl ?_
                    refine am_goto (t := 299) (am_tab tk_X10_isOwnHere 139 rfl) (by decide) ?_
                    refine am_istore_n (q := 300) (by decide) (ls2 := [(1, am_i 1), (0, am_r 55)]) rfl (am_tab tk_X10_isOwnHere 141 rfl) rfl ?_
                    refine am_iload_n (q := 301) rfl (am_tab tk_X10_isOwnHere 142 rfl) rfl ?_
                    refine am_if_ne (q := 304) (t := 337) (am_tab tk_X10_isOwnHere 143 rfl) (by decide) rfl (fun h301 => ?_) (fun h301 => ?_)
                    · refine am_iconst (q := 338) (n := 1) (by decide) (am_tab tk_X10_isOwnHere 159 rfl) rfl ?_
                      refine am_goto (t := 342) (am_tab tk_X10_isOwnHere 160 rfl) (by decide) ?_
                      refine am_istore_n (q := 343) (by decide) (ls2 := [(1, am_i 1), (0, am_r 55)]) rfl (am_tab tk_X10_isOwnHere 162 rfl) rfl ?_
                      refine am_iload_n (q := 344) rfl (am_tab tk_X10_isOwnHere 163 rfl) rfl ?_
                      refine am_iret (Or.inr ⟨rfl, by first | exact Or.inl rfl | exact Or.inr rfl | omega⟩) (Nat.le_of_ble_eq_true rfl) (Nat.le_of_ble_eq_true rfl) (am_tab tk_X10_isOwnHere 164 rfl) ?_
                      refine hQ _ _ ?_
                      refine ⟨congrArg (fun z => some (am_i z)) ?_, rfl⟩
                      unfold ownB
                      have k63 := bd1 h63
                      rw [decide_eq_true (by omega)]; rfl
                    · exact absurd h301 (by decide)
                  · exact absurd h225 (by decide)
                · exact absurd h149 (by decide)
              · exact absurd h73 (by decide)
