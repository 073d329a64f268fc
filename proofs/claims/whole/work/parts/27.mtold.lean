theorem ty1_shape {ts t : List Bool} {v : Int} (ht : ty1 ts v = some t) : (1000 ≤ v ∧ v < 11000 ∧ t = false :: ts) ∨ (40 ≤ v ∧ v < 48 ∧ t = false :: ts) ∨ (v = 13 ∧ t = true :: ts) ∨ (v = 12 ∧ ∃ t0, ts = true :: t0 ∧ t = true :: t0) ∨ ((1 ≤ v ∧ v ≤ 11) ∧ ∃ x y z t0, ts = x :: y :: t0 ∧ t = z :: t0) := by
  unfold ty1 at ht
  split at ht
  · split at ht
    · cases ht; exact Or.inl ⟨by assumption, by assumption, rfl⟩
    · cases ht
  · split at ht
    · split at ht
      · cases ht; exact Or.inr (Or.inl ⟨by assumption, by assumption, rfl⟩)
      · cases ht
    · split at ht
      · cases ht; exact Or.inr (Or.inr (Or.inl ⟨by assumption, rfl⟩))
      · split at ht
        · split at ht
          · cases ht; exact Or.inr (Or.inr (Or.inr (Or.inl ⟨by assumption, _, rfl, rfl⟩)))
          · split at ht
            · split at ht
              · rename_i h
                cases ht; exact Or.inr (Or.inr (Or.inr (Or.inr ⟨by omega, _, _, _, _, rfl, rfl⟩)))
              · cases ht
            · cases ht
        · split at ht
          · rename_i h
            cases ht; exact Or.inr (Or.inr (Or.inr (Or.inr ⟨by omega, _, _, _, _, rfl, rfl⟩)))
          · split at ht
            · rename_i h
              cases ht; exact Or.inr (Or.inr (Or.inr (Or.inr ⟨by omega, _, _, _, _, rfl, rfl⟩)))
            · cases ht
        · cases ht
theorem isTold_loop (σ : am_H) (hL : lay σ) (wh p : Nat) (hwh : wh < 2) (hp : p < 8) (ha : 0 ≤ σ.2.1 55 56 ∧ σ.2.1 55 56 < 256) (ht : 0 ≤ σ.2.1 55 61 ∧ σ.2.1 55 61 < 256) (E : Nat) (hE : σ.2.1 94 (2 + wh) = E) (hE2 : E ≤ 1600) (he : ∀ w, 0 ≤ w → w < 8 → -1000000 ≤ ptM σ p w ∧ ptM σ p w ≤ 1000000) (RES : List Int) : ∀ (cs : List Int) (j : Nat) (ts : List Bool) (f : Nat → Int), j + cs.length = E → (∀ i, i < cs.length → σ.2.1 95 (1600 + j + i) = cs.getD i 0) → ts.length ≤ 60 → tyOK ts (pl f ts.length) → okT cs ts = true → evL (ptM σ p) (pl f ts.length) cs = RES → am_wp M_X10_isTold (fun r σ' => r = some (am_i (if RES.headD 0 = 1 then 1 else 0)) ∧ ∃ g : Nat → Int, ∃ z : Int, σ' = am_setN (am_setA σ 129 g) 55 103 z) 0 0 14 [(3, am_i (j : Int)), (0, am_r 55), (1, am_i (wh : Int)), (2, am_i (p : Int))] [] (am_setN (am_setA σ 129 f) 55 103 (ts.length : Int)) := by
  have e2 : ((2 : Int) + (wh : Int)).toNat = 2 + wh := by omega
  intro cs
  induction cs with
  | nil =>
    intro j ts f hj hc hlen hty hok hev
    have hts : ts = [true] := by simpa [okT] using hok
    subst hts
    have hj2 : j = E := by simpa using hj
    refine am_hp2 (σ1 := am_setN (am_setA σ 129 f) 55 103 1) rfl ?_
    refine am_iload_n (q := 15) rfl (am_tab tk_X10_isTold 10 rfl) rfl ?_
    refine am_aload_n (q := 16) rfl (am_tab tk_X10_isTold 11 rfl) rfl ?_
    refine am_getR (q := 19) (a := 55) (k := 10) (n := 108) (j := 48) (r := some (94)) (Ls_55 hL) (by decide) rfl (Lr_55_48 hL) (by decide) (Or.inl kf_X10_130) (am_tab tk_X10_isTold 12 rfl) rfl ?_
    refine am_iconst (q := 20) (n := 2) (by decide) (am_tab tk_X10_isTold 13 rfl) rfl ?_
    refine am_iload_n (q := 21) rfl (am_tab tk_X10_isTold 14 rfl) rfl ?_
    refine am_iadd (q := 22) (by omega) (am_tab tk_X10_isTold 15 rfl) rfl ?_
    refine am_iald (q := 23) (a := 94) (n := 4) (x := (E : Int)) (Ls_94 hL) (by omega) (by omega) (by rw [e2]; exact hE) (am_tab tk_X10_isTold 16 rfl) rfl ?_
    refine am_icmp_ge (q := 26) (t := 145) (am_tab tk_X10_isTold 17 rfl) (by decide) rfl (fun h23 => ?_) (fun h23 => ?_)
    · refine am_aload_n (q := 146) rfl (am_tab tk_X10_isTold 79 rfl) rfl ?_
      refine am_getR (q := 149) (a := 55) (k := 10) (n := 108) (j := 102) (r := some (129)) (Ls_55 hL) (by decide) rfl (Lr_55_102 hL) (by decide) (Or.inl kf_X10_239) (am_tab tk_X10_isTold 80 rfl) rfl ?_
      refine am_iconst (q := 150) (n := 0) (by decide) (am_tab tk_X10_isTold 81 rfl) rfl ?_
      refine am_lald (q := 151) (a := 129) (n := 1700) (x := (f 0)) (Ls_129 hL) (by omega) (by omega) rfl (am_tab tk_X10_isTold 82 rfl) rfl ?_
      refine am_lconst1 (q := 152) (am_tab tk_X10_isTold 83 rfl) rfl ?_
      refine am_lcmp (q := 153) (am_tab tk_X10_isTold 84 rfl) rfl ?_
      refine am_if_ne (q := 156) (t := 160) (am_tab tk_X10_isTold 85 rfl) (by decide) rfl (fun h153 => ?_) (fun h153 => ?_)
      · rw [ao_cmp_eq] at h153
        refine am_iconst (q := 161) (n := 0) (by decide) (am_tab tk_X10_isTold 88 rfl) rfl ?_
        refine am_iret (Or.inr ⟨rfl, by first | exact Or.inl rfl | exact Or.inr rfl | omega⟩) (Nat.le_of_ble_eq_true rfl) (Nat.le_of_ble_eq_true rfl) (am_tab tk_X10_isTold 89 rfl) ?_
        have hr : RES.headD 0 = f 0 := by rw [← hev]; rfl
        exact ⟨by rw [hr]; first | rw [if_pos (by assumption)] | rw [if_neg (by assumption)], f, 1, rfl⟩
      · rw [ao_cmp_eq] at h153
        refine am_iconst (q := 157) (n := 1) (by decide) (am_tab tk_X10_isTold 86 rfl) rfl ?_
        refine am_goto (t := 161) (am_tab tk_X10_isTold 87 rfl) (by decide) ?_
        refine am_iret (Or.inr ⟨rfl, by first | exact Or.inl rfl | exact Or.inr rfl | omega⟩) (Nat.le_of_ble_eq_true rfl) (Nat.le_of_ble_eq_true rfl) (am_tab tk_X10_isTold 89 rfl) ?_
        have hr : RES.headD 0 = f 0 := by rw [← hev]; rfl
        exact ⟨by rw [hr]; first | rw [if_pos (by assumption)] | rw [if_neg (by assumption)], f, 1, rfl⟩
    · exact absurd h23 (by omega)
  | cons v cs ih =>
    intro j ts f hj hc hlen hty hok hev
    have hv : σ.2.1 95 (1600 + j) = v := hc 0 (by simp)
    have e3 : ((1600 : Int) + (j : Int)).toNat = 1600 + j := by omega
    have hj2 : j + 1 + cs.length = E := by simp at hj; omega
    unfold okT at hok
    split at hok
    · rename_i t ht2
      simp only [Bool.and_eq_true, decide_eq_true_eq] at hok
      obtain ⟨ht60, hok⟩ := hok
      have h1 := ty1_ok he hty ht2
      have hc2 : ∀ i, i < cs.length → σ.2.1 95 (1600 + (j + 1) + i) = cs.getD i 0 := fun i hi => by
        rw [show 1600 + (j + 1) + i = 1600 + j + (i + 1) by omega]
        exact hc (i + 1) (by simp; omega)
      have K : ∀ f2 : Nat → Int, pl f2 t.length = ev1 (ptM σ p) (pl f ts.length) v → am_wp M_X10_isTold (fun r σ' => r = some (am_i (if RES.headD 0 = 1 then 1 else 0)) ∧ ∃ g : Nat → Int, ∃ z : Int, σ' = am_setN (am_setA σ 129 g) 55 103 z) 0 0 14 [(3, am_i ((j : Int) + 1)), (4, am_i v), (0, am_r 55), (1, am_i (wh : Int)), (2, am_i (p : Int))] [] (am_setN (am_setA σ 129 f2) 55 103 (t.length : Int)) := by
        intro f2 hf2
        exact am_less (by intro q hq; simp only [List.mem_cons, List.not_mem_nil, or_false] at hq; rcases hq with rfl | rfl | rfl | rfl <;> simp) (ih (j + 1) t f2 hj2 hc2 ht60 (by rw [hf2]; exact h1) hok (by rw [hf2]; exact hev))
      rcases ty1_shape ht2 with ⟨c1, c2, rfl⟩ | ⟨c1, c2, rfl⟩ | ⟨c1, rfl⟩ | ⟨c1, t0, rfl, rfl⟩ | ⟨c1, x, y, z, t0, rfl, rfl⟩
      · refine am_iload_n (q := 15) rfl (am_tab tk_X10_isTold 10 rfl) rfl ?_
        refine am_aload_n (q := 16) rfl (am_tab tk_X10_isTold 11 rfl) rfl ?_
        refine am_getR (q := 19) (a := 55) (k := 10) (n := 108) (j := 48) (r := some (94)) (Ls_55 hL) (by decide) rfl (Lr_55_48 hL) (by decide) (Or.inl kf_X10_130) (am_tab tk_X10_isTold 12 rfl) rfl ?_
        refine am_iconst (q := 20) (n := 2) (by decide) (am_tab tk_X10_isTold 13 rfl) rfl ?_
        refine am_iload_n (q := 21) rfl (am_tab tk_X10_isTold 14 rfl) rfl ?_
        refine am_iadd (q := 22) (by omega) (am_tab tk_X10_isTold 15 rfl) rfl ?_
        refine am_iald (q := 23) (a := 94) (n := 4) (x := (E : Int)) (Ls_94 hL) (by omega) (by omega) (by rw [e2]; exact hE) (am_tab tk_X10_isTold 16 rfl) rfl ?_
        refine am_icmp_ge (q := 26) (t := 145) (am_tab tk_X10_isTold 17 rfl) (by decide) rfl (fun h23 => ?_) (fun h23 => ?_)
        · exact absurd h23 (by omega)
        · refine am_aload_n (q := 27) rfl (am_tab tk_X10_isTold 18 rfl) rfl ?_
          refine am_getR (q := 30) (a := 55) (k := 10) (n := 108) (j := 49) (r := some (95)) (Ls_55 hL) (by decide) rfl (Lr_55_49 hL) (by decide) (Or.inl kf_X10_133) (am_tab tk_X10_isTold 19 rfl) rfl ?_
          refine am_sipush (q := 33) (n := 1600) (by decide) rfl (am_tab tk_X10_isTold 20 rfl) rfl ?_
          refine am_iload_n (q := 34) rfl (am_tab tk_X10_isTold 21 rfl) rfl ?_
          refine am_iadd (q := 35) (by omega) (am_tab tk_X10_isTold 22 rfl) rfl ?_
          refine am_iald (q := 36) (a := 95) (n := 3200) (x := v) (Ls_95 hL) (by omega) (by omega) (by rw [e3]; exact hv) (am_tab tk_X10_isTold 23 rfl) rfl ?_
          refine am_istore (q := 38) (by decide) (ls2 := [(4, am_i v), (3, am_i ((j : Int))), (0, am_r 55), (1, am_i ((wh : Int))), (2, am_i ((p : Int)))]) rfl (am_tab tk_X10_isTold 24 rfl) rfl ?_
          refine am_iload (q := 40) rfl (am_tab tk_X10_isTold 25 rfl) rfl ?_
          refine am_sipush (q := 43) (n := 1000) (by decide) rfl (am_tab tk_X10_isTold 26 rfl) rfl ?_
          refine am_icmp_lt (q := 46) (t := 60) (am_tab tk_X10_isTold 27 rfl) (by decide) rfl (fun h43 => ?_) (fun h43 => ?_)
          · exact absurd h43 (by omega)
          · refine am_aload_n (q := 47) rfl (am_tab tk_X10_isTold 28 rfl) rfl ?_
            refine am_iload (q := 49) rfl (am_tab tk_X10_isTold 29 rfl) rfl ?_
            refine am_sipush (q := 52) (n := 1000) (by decide) rfl (am_tab tk_X10_isTold 30 rfl) rfl ?_
            refine am_isub (q := 53) (by omega) (am_tab tk_X10_isTold 31 rfl) rfl ?_
            refine am_i2l (q := 54) (am_tab tk_X10_isTold 32 rfl) rfl ?_
            refine am_callV0 (q := 57) (me2 := M_X10_qPuts) (b := 55) (kb := 10) (nb := 108) (As := [am_l ((v - 1000))]) (rest := []) (out := []) (c_X10_qPuts ((am_setN (am_setA σ 129 f) 55 103 (ts.length : Int))) hL (v - 1000) ts.length rfl (by omega)) ⟨rfl, rfl⟩ (Ls_55 hL) (by decide) ⟨Or.inl km_X10_406, kc_X10_qPuts, kn_X10, kd_X10_qPuts, ⟨(Nat.le_of_ble_eq_true rfl), (Nat.le_of_ble_eq_true rfl)⟩, ⟨(Nat.le_of_ble_eq_true rfl), (Nat.le_of_ble_eq_true rfl)⟩, (Nat.le_of_ble_eq_true rfl)⟩ ki_X10_qPuts ks_X10_qPuts rfl rfl (am_tab tk_X10_isTold 33 rfl) rfl ?_
            refine am_goto (t := 139) (am_tab tk_X10_isTold 34 rfl) (by decide) ?_
            refine am_iinc (q := 142) rfl (by omega) (by decide) (ls2 := [(3, am_i (((j : Int) + 1))), (4, am_i v), (0, am_r 55), (1, am_i ((wh : Int))), (2, am_i ((p : Int)))]) rfl (am_tab tk_X10_isTold 77 rfl) rfl ?_
            refine am_goto (t := 14) (am_tab tk_X10_isTold 78 rfl) (by decide) ?_
            refine am_hp2 (σ1 := am_setN (am_setA σ 129 (fun i => if i = ts.length then (v - 1000) else f i)) 55 103 ((ts.length : Int) + 1)) (nf129 _ _ _ _ _ _) (K _ ?_)
            show pl _ (ts.length + 1) = _
            rw [pl_push]
            unfold ev1
            rw [if_pos (by omega)]
      · refine am_iload_n (q := 15) rfl (am_tab tk_X10_isTold 10 rfl) rfl ?_
        refine am_aload_n (q := 16) rfl (am_tab tk_X10_isTold 11 rfl) rfl ?_
        refine am_getR (q := 19) (a := 55) (k := 10) (n := 108) (j := 48) (r := some (94)) (Ls_55 hL) (by decide) rfl (Lr_55_48 hL) (by decide) (Or.inl kf_X10_130) (am_tab tk_X10_isTold 12 rfl) rfl ?_
        refine am_iconst (q := 20) (n := 2) (by decide) (am_tab tk_X10_isTold 13 rfl) rfl ?_
        refine am_iload_n (q := 21) rfl (am_tab tk_X10_isTold 14 rfl) rfl ?_
        refine am_iadd (q := 22) (by omega) (am_tab tk_X10_isTold 15 rfl) rfl ?_
        refine am_iald (q := 23) (a := 94) (n := 4) (x := (E : Int)) (Ls_94 hL) (by omega) (by omega) (by rw [e2]; exact hE) (am_tab tk_X10_isTold 16 rfl) rfl ?_
        refine am_icmp_ge (q := 26) (t := 145) (am_tab tk_X10_isTold 17 rfl) (by decide) rfl (fun h23 => ?_) (fun h23 => ?_)
        · exact absurd h23 (by omega)
        · refine am_aload_n (q := 27) rfl (am_tab tk_X10_isTold 18 rfl) rfl ?_
          refine am_getR (q := 30) (a := 55) (k := 10) (n := 108) (j := 49) (r := some (95)) (Ls_55 hL) (by decide) rfl (Lr_55_49 hL) (by decide) (Or.inl kf_X10_133) (am_tab tk_X10_isTold 19 rfl) rfl ?_
          refine am_sipush (q := 33) (n := 1600) (by decide) rfl (am_tab tk_X10_isTold 20 rfl) rfl ?_
          refine am_iload_n (q := 34) rfl (am_tab tk_X10_isTold 21 rfl) rfl ?_
          refine am_iadd (q := 35) (by omega) (am_tab tk_X10_isTold 22 rfl) rfl ?_
          refine am_iald (q := 36) (a := 95) (n := 3200) (x := v) (Ls_95 hL) (by omega) (by omega) (by rw [e3]; exact hv) (am_tab tk_X10_isTold 23 rfl) rfl ?_
          refine am_istore (q := 38) (by decide) (ls2 := [(4, am_i v), (3, am_i ((j : Int))), (0, am_r 55), (1, am_i ((wh : Int))), (2, am_i ((p : Int)))]) rfl (am_tab tk_X10_isTold 24 rfl) rfl ?_
          refine am_iload (q := 40) rfl (am_tab tk_X10_isTold 25 rfl) rfl ?_
          refine am_sipush (q := 43) (n := 1000) (by decide) rfl (am_tab tk_X10_isTold 26 rfl) rfl ?_
          refine am_icmp_lt (q := 46) (t := 60) (am_tab tk_X10_isTold 27 rfl) (by decide) rfl (fun h43 => ?_) (fun h43 => ?_)
          · refine am_iload (q := 62) rfl (am_tab tk_X10_isTold 35 rfl) rfl ?_
            refine am_bipush (q := 64) (n := 40) (by decide) rfl (am_tab tk_X10_isTold 36 rfl) rfl ?_
            refine am_icmp_lt (q := 67) (t := 84) (am_tab tk_X10_isTold 37 rfl) (by decide) rfl (fun h64 => ?_) (fun h64 => ?_)
            · exact absurd h64 (by omega)
            · refine am_aload_n (q := 68) rfl (am_tab tk_X10_isTold 38 rfl) rfl ?_
              refine am_aload_n (q := 69) rfl (am_tab tk_X10_isTold 39 rfl) rfl ?_
              refine am_iload (q := 71) rfl (am_tab tk_X10_isTold 40 rfl) rfl ?_
              refine am_bipush (q := 73) (n := 40) (by decide) rfl (am_tab tk_X10_isTold 41 rfl) rfl ?_
              refine am_isub (q := 74) (by omega) (am_tab tk_X10_isTold 42 rfl) rfl ?_
              refine am_iload_n (q := 75) rfl (am_tab tk_X10_isTold 43 rfl) rfl ?_
              refine am_callV0 (q := 78) (me2 := M_X10_qPartOf) (b := 55) (kb := 10) (nb := 108) (As := [am_i ((v - 40)), am_i ((p : Int))]) (rest := [am_r 55]) (out := [am_l (ptM σ p (v - 40)), am_r 55]) (c_X10_qPartOf ((am_setN (am_setA σ 129 f) 55 103 (ts.length : Int))) hL (v - 40) p hp ha ht) ⟨rfl, rfl⟩ (Ls_55 hL) (by decide) ⟨Or.inl km_X10_410, kc_X10_qPartOf, kn_X10, kd_X10_qPartOf, ⟨(Nat.le_of_ble_eq_true rfl), (Nat.le_of_ble_eq_true rfl)⟩, ⟨(Nat.le_of_ble_eq_true rfl), (Nat.le_of_ble_eq_true rfl)⟩, (Nat.le_of_ble_eq_true rfl)⟩ ki_X10_qPartOf ks_X10_qPartOf rfl rfl (am_tab tk_X10_isTold 44 rfl) rfl ?_
              refine am_callV0 (q := 81) (me2 := M_X10_qPuts) (b := 55) (kb := 10) (nb := 108) (As := [am_l (ptM σ p (v - 40))]) (rest := []) (out := []) (c_X10_qPuts ((am_setN (am_setA σ 129 f) 55 103 (ts.length : Int))) hL (ptM σ p (v - 40)) ts.length rfl (by omega)) ⟨rfl, rfl⟩ (Ls_55 hL) (by decide) ⟨Or.inl km_X10_406, kc_X10_qPuts, kn_X10, kd_X10_qPuts, ⟨(Nat.le_of_ble_eq_true rfl), (Nat.le_of_ble_eq_true rfl)⟩, ⟨(Nat.le_of_ble_eq_true rfl), (Nat.le_of_ble_eq_true rfl)⟩, (Nat.le_of_ble_eq_true rfl)⟩ ki_X10_qPuts ks_X10_qPuts rfl rfl (am_tab tk_X10_isTold 45 rfl) rfl ?_
              refine am_goto (t := 139) (am_tab tk_X10_isTold 46 rfl) (by decide) ?_
              refine am_iinc (q := 142) rfl (by omega) (by decide) (ls2 := [(3, am_i (((j : Int) + 1))), (4, am_i v), (0, am_r 55), (1, am_i ((wh : Int))), (2, am_i ((p : Int)))]) rfl (am_tab tk_X10_isTold 77 rfl) rfl ?_
              refine am_goto (t := 14) (am_tab tk_X10_isTold 78 rfl) (by decide) ?_
              refine am_hp2 (σ1 := am_setN (am_setA σ 129 (fun i => if i = ts.length then (ptM σ p (v - 40)) else f i)) 55 103 ((ts.length : Int) + 1)) (nf129 _ _ _ _ _ _) (K _ ?_)
              show pl _ (ts.length + 1) = _
              rw [pl_push]
              unfold ev1
              rw [if_neg (by omega), if_pos (by omega)]
          · exact absurd h43 (by omega)
      · refine am_iload_n (q := 15) rfl (am_tab tk_X10_isTold 10 rfl) rfl ?_
        refine am_aload_n (q := 16) rfl (am_tab tk_X10_isTold 11 rfl) rfl ?_
        refine am_getR (q := 19) (a := 55) (k := 10) (n := 108) (j := 48) (r := some (94)) (Ls_55 hL) (by decide) rfl (Lr_55_48 hL) (by decide) (Or.inl kf_X10_130) (am_tab tk_X10_isTold 12 rfl) rfl ?_
        refine am_iconst (q := 20) (n := 2) (by decide) (am_tab tk_X10_isTold 13 rfl) rfl ?_
        refine am_iload_n (q := 21) rfl (am_tab tk_X10_isTold 14 rfl) rfl ?_
        refine am_iadd (q := 22) (by omega) (am_tab tk_X10_isTold 15 rfl) rfl ?_
        refine am_iald (q := 23) (a := 94) (n := 4) (x := (E : Int)) (Ls_94 hL) (by omega) (by omega) (by rw [e2]; exact hE) (am_tab tk_X10_isTold 16 rfl) rfl ?_
        refine am_icmp_ge (q := 26) (t := 145) (am_tab tk_X10_isTold 17 rfl) (by decide) rfl (fun h23 => ?_) (fun h23 => ?_)
        · exact absurd h23 (by omega)
        · refine am_aload_n (q := 27) rfl (am_tab tk_X10_isTold 18 rfl) rfl ?_
          refine am_getR (q := 30) (a := 55) (k := 10) (n := 108) (j := 49) (r := some (95)) (Ls_55 hL) (by decide) rfl (Lr_55_49 hL) (by decide) (Or.inl kf_X10_133) (am_tab tk_X10_isTold 19 rfl) rfl ?_
          refine am_sipush (q := 33) (n := 1600) (by decide) rfl (am_tab tk_X10_isTold 20 rfl) rfl ?_
          refine am_iload_n (q := 34) rfl (am_tab tk_X10_isTold 21 rfl) rfl ?_
          refine am_iadd (q := 35) (by omega) (am_tab tk_X10_isTold 22 rfl) rfl ?_
          refine am_iald (q := 36) (a := 95) (n := 3200) (x := v) (Ls_95 hL) (by omega) (by omega) (by rw [e3]; exact hv) (am_tab tk_X10_isTold 23 rfl) rfl ?_
          refine am_istore (q := 38) (by decide) (ls2 := [(4, am_i v), (3, am_i ((j : Int))), (0, am_r 55), (1, am_i ((wh : Int))), (2, am_i ((p : Int)))]) rfl (am_tab tk_X10_isTold 24 rfl) rfl ?_
          refine am_iload (q := 40) rfl (am_tab tk_X10_isTold 25 rfl) rfl ?_
          refine am_sipush (q := 43) (n := 1000) (by decide) rfl (am_tab tk_X10_isTold 26 rfl) rfl ?_
          refine am_icmp_lt (q := 46) (t := 60) (am_tab tk_X10_isTold 27 rfl) (by decide) rfl (fun h43 => ?_) (fun h43 => ?_)
          · refine am_iload (q := 62) rfl (am_tab tk_X10_isTold 35 rfl) rfl ?_
            refine am_bipush (q := 64) (n := 40) (by decide) rfl (am_tab tk_X10_isTold 36 rfl) rfl ?_
            refine am_icmp_lt (q := 67) (t := 84) (am_tab tk_X10_isTold 37 rfl) (by decide) rfl (fun h64 => ?_) (fun h64 => ?_)
            · refine am_iload (q := 86) rfl (am_tab tk_X10_isTold 47 rfl) rfl ?_
              refine am_bipush (q := 88) (n := 13) (by decide) rfl (am_tab tk_X10_isTold 48 rfl) rfl ?_
              refine am_icmp_ne (q := 91) (t := 99) (am_tab tk_X10_isTold 49 rfl) (by decide) rfl (fun h88 => ?_) (fun h88 => ?_)
              · exact absurd h88 (by omega)
              · refine am_aload_n (q := 92) rfl (am_tab tk_X10_isTold 50 rfl) rfl ?_
                refine am_lconst1 (q := 93) (am_tab tk_X10_isTold 51 rfl) rfl ?_
                refine am_callV0 (q := 96) (me2 := M_X10_qPuts) (b := 55) (kb := 10) (nb := 108) (As := [am_l 1]) (rest := []) (out := []) (c_X10_qPuts ((am_setN (am_setA σ 129 f) 55 103 (ts.length : Int))) hL 1 ts.length rfl (by omega)) ⟨rfl, rfl⟩ (Ls_55 hL) (by decide) ⟨Or.inl km_X10_406, kc_X10_qPuts, kn_X10, kd_X10_qPuts, ⟨(Nat.le_of_ble_eq_true rfl), (Nat.le_of_ble_eq_true rfl)⟩, ⟨(Nat.le_of_ble_eq_true rfl), (Nat.le_of_ble_eq_true rfl)⟩, (Nat.le_of_ble_eq_true rfl)⟩ ki_X10_qPuts ks_X10_qPuts rfl rfl (am_tab tk_X10_isTold 52 rfl) rfl ?_
                refine am_goto (t := 139) (am_tab tk_X10_isTold 53 rfl) (by decide) ?_
                refine am_iinc (q := 142) rfl (by omega) (by decide) (ls2 := [(3, am_i (((j : Int) + 1))), (4, am_i v), (0, am_r 55), (1, am_i ((wh : Int))), (2, am_i ((p : Int)))]) rfl (am_tab tk_X10_isTold 77 rfl) rfl ?_
                refine am_goto (t := 14) (am_tab tk_X10_isTold 78 rfl) (by decide) ?_
                refine am_hp2 (σ1 := am_setN (am_setA σ 129 (fun i => if i = ts.length then 1 else f i)) 55 103 ((ts.length : Int) + 1)) (nf129 _ _ _ _ _ _) (K _ ?_)
                show pl _ (ts.length + 1) = _
                rw [pl_push]
                unfold ev1
                rw [if_neg (by omega), if_neg (by omega), if_pos (by omega)]
            · exact absurd h64 (by omega)
          · exact absurd h43 (by omega)
      · refine am_hp2 (σ1 := am_setN (am_setA σ 129 f) 55 103 ((t0.length : Int) + 1)) rfl ?_
        simp only [List.length_cons] at hlen
        refine am_iload_n (q := 15) rfl (am_tab tk_X10_isTold 10 rfl) rfl ?_
        refine am_aload_n (q := 16) rfl (am_tab tk_X10_isTold 11 rfl) rfl ?_
        refine am_getR (q := 19) (a := 55) (k := 10) (n := 108) (j := 48) (r := some (94)) (Ls_55 hL) (by decide) rfl (Lr_55_48 hL) (by decide) (Or.inl kf_X10_130) (am_tab tk_X10_isTold 12 rfl) rfl ?_
        refine am_iconst (q := 20) (n := 2) (by decide) (am_tab tk_X10_isTold 13 rfl) rfl ?_
        refine am_iload_n (q := 21) rfl (am_tab tk_X10_isTold 14 rfl) rfl ?_
        refine am_iadd (q := 22) (by omega) (am_tab tk_X10_isTold 15 rfl) rfl ?_
        refine am_iald (q := 23) (a := 94) (n := 4) (x := (E : Int)) (Ls_94 hL) (by omega) (by omega) (by rw [e2]; exact hE) (am_tab tk_X10_isTold 16 rfl) rfl ?_
        refine am_icmp_ge (q := 26) (t := 145) (am_tab tk_X10_isTold 17 rfl) (by decide) rfl (fun h23 => ?_) (fun h23 => ?_)
        · exact absurd h23 (by omega)
        · refine am_aload_n (q := 27) rfl (am_tab tk_X10_isTold 18 rfl) rfl ?_
          refine am_getR (q := 30) (a := 55) (k := 10) (n := 108) (j := 49) (r := some (95)) (Ls_55 hL) (by decide) rfl (Lr_55_49 hL) (by decide) (Or.inl kf_X10_133) (am_tab tk_X10_isTold 19 rfl) rfl ?_
          refine am_sipush (q := 33) (n := 1600) (by decide) rfl (am_tab tk_X10_isTold 20 rfl) rfl ?_
          refine am_iload_n (q := 34) rfl (am_tab tk_X10_isTold 21 rfl) rfl ?_
          refine am_iadd (q := 35) (by omega) (am_tab tk_X10_isTold 22 rfl) rfl ?_
          refine am_iald (q := 36) (a := 95) (n := 3200) (x := v) (Ls_95 hL) (by omega) (by omega) (by rw [e3]; exact hv) (am_tab tk_X10_isTold 23 rfl) rfl ?_
          refine am_istore (q := 38) (by decide) (ls2 := [(4, am_i v), (3, am_i ((j : Int))), (0, am_r 55), (1, am_i ((wh : Int))), (2, am_i ((p : Int)))]) rfl (am_tab tk_X10_isTold 24 rfl) rfl ?_
          refine am_iload (q := 40) rfl (am_tab tk_X10_isTold 25 rfl) rfl ?_
          refine am_sipush (q := 43) (n := 1000) (by decide) rfl (am_tab tk_X10_isTold 26 rfl) rfl ?_
          refine am_icmp_lt (q := 46) (t := 60) (am_tab tk_X10_isTold 27 rfl) (by decide) rfl (fun h43 => ?_) (fun h43 => ?_)
          · refine am_iload (q := 62) rfl (am_tab tk_X10_isTold 35 rfl) rfl ?_
            refine am_bipush (q := 64) (n := 40) (by decide) rfl (am_tab tk_X10_isTold 36 rfl) rfl ?_
            refine am_icmp_lt (q := 67) (t := 84) (am_tab tk_X10_isTold 37 rfl) (by decide) rfl (fun h64 => ?_) (fun h64 => ?_)
            · refine am_iload (q := 86) rfl (am_tab tk_X10_isTold 47 rfl) rfl ?_
              refine am_bipush (q := 88) (n := 13) (by decide) rfl (am_tab tk_X10_isTold 48 rfl) rfl ?_
              refine am_icmp_ne (q := 91) (t := 99) (am_tab tk_X10_isTold 49 rfl) (by decide) rfl (fun h88 => ?_) (fun h88 => ?_)
              · refine am_iload (q := 101) rfl (am_tab tk_X10_isTold 54 rfl) rfl ?_
                refine am_bipush (q := 103) (n := 12) (by decide) rfl (am_tab tk_X10_isTold 55 rfl) rfl ?_
                refine am_icmp_ne (q := 106) (t := 133) (am_tab tk_X10_isTold 56 rfl) (by decide) rfl (fun h103 => ?_) (fun h103 => ?_)
                · exact absurd h103 (by omega)
                · refine am_aload_n (q := 107) rfl (am_tab tk_X10_isTold 57 rfl) rfl ?_
                  refine am_getR (q := 110) (a := 55) (k := 10) (n := 108) (j := 102) (r := some (129)) (Ls_55 hL) (by decide) rfl (Lr_55_102 hL) (by decide) (Or.inl kf_X10_239) (am_tab tk_X10_isTold 58 rfl) rfl ?_
                  refine am_aload_n (q := 111) rfl (am_tab tk_X10_isTold 59 rfl) rfl ?_
                  refine am_getI (q := 114) (a := 55) (k := 10) (n := 108) (j := 103) (x := ((t0.length : Int) + 1)) (Ls_55 hL) (by decide) rfl rfl (by decide) (Or.inl kf_X10_403) (am_tab tk_X10_isTold 60 rfl) rfl ?_
                  refine am_iconst (q := 115) (n := 1) (by decide) (am_tab tk_X10_isTold 61 rfl) rfl ?_
                  refine am_isub (q := 116) (by omega) (am_tab tk_X10_isTold 62 rfl) rfl ?_
                  refine am_lconst1 (q := 117) (am_tab tk_X10_isTold 63 rfl) rfl ?_
                  refine am_aload_n (q := 118) rfl (am_tab tk_X10_isTold 64 rfl) rfl ?_
                  refine am_getR (q := 121) (a := 55) (k := 10) (n := 108) (j := 102) (r := some (129)) (Ls_55 hL) (by decide) rfl (Lr_55_102 hL) (by decide) (Or.inl kf_X10_239) (am_tab tk_X10_isTold 65 rfl) rfl ?_
                  refine am_aload_n (q := 122) rfl (am_tab tk_X10_isTold 66 rfl) rfl ?_
                  refine am_getI (q := 125) (a := 55) (k := 10) (n := 108) (j := 103) (x := ((t0.length : Int) + 1)) (Ls_55 hL) (by decide) rfl rfl (by decide) (Or.inl kf_X10_403) (am_tab tk_X10_isTold 67 rfl) rfl ?_
                  refine am_iconst (q := 126) (n := 1) (by decide) (am_tab tk_X10_isTold 68 rfl) rfl ?_
                  refine am_isub (q := 127) (by omega) (am_tab tk_X10_isTold 69 rfl) rfl ?_
                  refine am_lald (q := 128) (a := 129) (n := 1700) (x := (f t0.length)) (Ls_129 hL) (by omega) (by omega) (by rw [show (((t0.length : Int) + 1) - 1).toNat = t0.length by omega]; rfl) (am_tab tk_X10_isTold 70 rfl) rfl ?_
                  refine am_lsub (q := 129) (by have hb : f t0.length = 0 ∨ f t0.length = 1 := hty.1; omega) (am_tab tk_X10_isTold 71 rfl) rfl ?_
                  refine am_last (q := 130) (a := 129) (n := 1700) (Ls_129 hL) (by omega) (by omega) (am_tab tk_X10_isTold 72 rfl) rfl ?_
                  refine am_goto (t := 139) (am_tab tk_X10_isTold 73 rfl) (by decide) ?_
                  refine am_iinc (q := 142) rfl (by omega) (by decide) (ls2 := [(3, am_i (((j : Int) + 1))), (4, am_i v), (0, am_r 55), (1, am_i ((wh : Int))), (2, am_i ((p : Int)))]) rfl (am_tab tk_X10_isTold 77 rfl) rfl ?_
                  refine am_goto (t := 14) (am_tab tk_X10_isTold 78 rfl) (by decide) ?_
                  rw [show (((t0.length : Int) + 1) - 1).toNat = t0.length by omega]
                  refine am_hp2 (σ1 := am_setN (am_setA σ 129 (fun i => if i = t0.length then (1 - f t0.length) else f i)) 55 103 ((t0.length : Int) + 1)) (nf129n _ _ _ _ _) (K _ ?_)
                  show pl _ (t0.length + 1) = ev1 _ (f t0.length :: pl f t0.length) v
                  rw [pl_push]
                  unfold ev1
                  rw [if_neg (by omega), if_neg (by omega), if_neg (by omega)]
                  simp only [c1, if_true]
              · exact absurd h88 (by omega)
            · exact absurd h64 (by omega)
          · exact absurd h43 (by omega)
      · refine am_hp2 (σ1 := am_setN (am_setA σ 129 f) 55 103 ((t0.length : Int) + 2)) rfl ?_
        simp only [List.length_cons] at hlen
        have hb := vOK_r hty.1
        have hab := vOK_r hty.2.1
        refine am_iload_n (q := 15) rfl (am_tab tk_X10_isTold 10 rfl) rfl ?_
        refine am_aload_n (q := 16) rfl (am_tab tk_X10_isTold 11 rfl) rfl ?_
        refine am_getR (q := 19) (a := 55) (k := 10) (n := 108) (j := 48) (r := some (94)) (Ls_55 hL) (by decide) rfl (Lr_55_48 hL) (by decide) (Or.inl kf_X10_130) (am_tab tk_X10_isTold 12 rfl) rfl ?_
        refine am_iconst (q := 20) (n := 2) (by decide) (am_tab tk_X10_isTold 13 rfl) rfl ?_
        refine am_iload_n (q := 21) rfl (am_tab tk_X10_isTold 14 rfl) rfl ?_
        refine am_iadd (q := 22) (by omega) (am_tab tk_X10_isTold 15 rfl) rfl ?_
        refine am_iald (q := 23) (a := 94) (n := 4) (x := (E : Int)) (Ls_94 hL) (by omega) (by omega) (by rw [e2]; exact hE) (am_tab tk_X10_isTold 16 rfl) rfl ?_
        refine am_icmp_ge (q := 26) (t := 145) (am_tab tk_X10_isTold 17 rfl) (by decide) rfl (fun h23 => ?_) (fun h23 => ?_)
        · exact absurd h23 (by omega)
        · refine am_aload_n (q := 27) rfl (am_tab tk_X10_isTold 18 rfl) rfl ?_
          refine am_getR (q := 30) (a := 55) (k := 10) (n := 108) (j := 49) (r := some (95)) (Ls_55 hL) (by decide) rfl (Lr_55_49 hL) (by decide) (Or.inl kf_X10_133) (am_tab tk_X10_isTold 19 rfl) rfl ?_
          refine am_sipush (q := 33) (n := 1600) (by decide) rfl (am_tab tk_X10_isTold 20 rfl) rfl ?_
          refine am_iload_n (q := 34) rfl (am_tab tk_X10_isTold 21 rfl) rfl ?_
          refine am_iadd (q := 35) (by omega) (am_tab tk_X10_isTold 22 rfl) rfl ?_
          refine am_iald (q := 36) (a := 95) (n := 3200) (x := v) (Ls_95 hL) (by omega) (by omega) (by rw [e3]; exact hv) (am_tab tk_X10_isTold 23 rfl) rfl ?_
          refine am_istore (q := 38) (by decide) (ls2 := [(4, am_i v), (3, am_i ((j : Int))), (0, am_r 55), (1, am_i ((wh : Int))), (2, am_i ((p : Int)))]) rfl (am_tab tk_X10_isTold 24 rfl) rfl ?_
          refine am_iload (q := 40) rfl (am_tab tk_X10_isTold 25 rfl) rfl ?_
          refine am_sipush (q := 43) (n := 1000) (by decide) rfl (am_tab tk_X10_isTold 26 rfl) rfl ?_
          refine am_icmp_lt (q := 46) (t := 60) (am_tab tk_X10_isTold 27 rfl) (by decide) rfl (fun h43 => ?_) (fun h43 => ?_)
          · refine am_iload (q := 62) rfl (am_tab tk_X10_isTold 35 rfl) rfl ?_
            refine am_bipush (q := 64) (n := 40) (by decide) rfl (am_tab tk_X10_isTold 36 rfl) rfl ?_
            refine am_icmp_lt (q := 67) (t := 84) (am_tab tk_X10_isTold 37 rfl) (by decide) rfl (fun h64 => ?_) (fun h64 => ?_)
            · refine am_iload (q := 86) rfl (am_tab tk_X10_isTold 47 rfl) rfl ?_
              refine am_bipush (q := 88) (n := 13) (by decide) rfl (am_tab tk_X10_isTold 48 rfl) rfl ?_
              refine am_icmp_ne (q := 91) (t := 99) (am_tab tk_X10_isTold 49 rfl) (by decide) rfl (fun h88 => ?_) (fun h88 => ?_)
              · refine am_iload (q := 101) rfl (am_tab tk_X10_isTold 54 rfl) rfl ?_
                refine am_bipush (q := 103) (n := 12) (by decide) rfl (am_tab tk_X10_isTold 55 rfl) rfl ?_
                refine am_icmp_ne (q := 106) (t := 133) (am_tab tk_X10_isTold 56 rfl) (by decide) rfl (fun h103 => ?_) (fun h103 => ?_)
                · refine am_aload_n (q := 134) rfl (am_tab tk_X10_isTold 74 rfl) rfl ?_
                  refine am_iload (q := 136) rfl (am_tab tk_X10_isTold 75 rfl) rfl ?_
                  refine am_callV0 (q := 139) (me2 := M_X10_qJoins) (b := 55) (kb := 10) (nb := 108) (As := [am_i v]) (rest := []) (out := []) (c_X10_qJoins ((am_setN (am_setA σ 129 f) 55 103 ((t0.length : Int) + 2))) hL v t0.length (f t0.length) (f (t0.length + 1)) (by omega) rfl rfl rfl hab hb) ⟨rfl, rfl⟩ (Ls_55 hL) (by decide) ⟨Or.inl km_X10_414, kc_X10_qJoins, kn_X10, kd_X10_qJoins, ⟨(Nat.le_of_ble_eq_true rfl), (Nat.le_of_ble_eq_true rfl)⟩, ⟨(Nat.le_of_ble_eq_true rfl), (Nat.le_of_ble_eq_true rfl)⟩, (Nat.le_of_ble_eq_true rfl)⟩ ki_X10_qJoins ks_X10_qJoins rfl rfl (am_tab tk_X10_isTold 76 rfl) rfl ?_
                  refine am_iinc (q := 142) rfl (by omega) (by decide) (ls2 := [(3, am_i (((j : Int) + 1))), (4, am_i v), (0, am_r 55), (1, am_i ((wh : Int))), (2, am_i ((p : Int)))]) rfl (am_tab tk_X10_isTold 77 rfl) rfl ?_
                  refine am_goto (t := 14) (am_tab tk_X10_isTold 78 rfl) (by decide) ?_
                  refine am_hp2 (σ1 := am_setN (am_setA σ 129 (fun i => if i = t0.length then jn v (f t0.length) (f (t0.length + 1)) else f i)) 55 103 ((t0.length : Int) + 1)) (nf129 _ _ _ _ _ _) (K _ ?_)
                  show pl _ (t0.length + 1) = ev1 _ (f (t0.length + 1) :: f t0.length :: pl f t0.length) v
                  rw [pl_push]
                  unfold ev1
                  rw [if_neg (by omega), if_neg (by omega), if_neg (by omega)]
                  simp only [show ¬ v = 12 by omega, if_false]
                · exact absurd h103 (by omega)
              · exact absurd h88 (by omega)
            · exact absurd h64 (by omega)
          · exact absurd h43 (by omega)
    · cases hok
theorem c_X10_isTold (σ : am_H) (hL : lay σ) (wh : Nat) (p : Nat) (hwh : wh < 2) (hp : p < 8) (ha : 0 ≤ σ.2.1 55 56 ∧ σ.2.1 55 56 < 256) (ht : 0 ≤ σ.2.1 55 61 ∧ σ.2.1 55 61 < 256) (B E : Nat) (cs : List Int) (hB : σ.2.1 93 (2 + wh) = B) (hE : σ.2.1 94 (2 + wh) = E) (hE2 : E ≤ 1600) (hBE : B + cs.length = E) (hc : ∀ i, i < cs.length → σ.2.1 95 (1600 + B + i) = cs.getD i 0) (hok : okT cs [] = true) (he : ∀ w, 0 ≤ w → w < 8 → -1000000 ≤ ptM σ p w ∧ ptM σ p w ≤ 1000000) : am_met M_X10_isTold [am_r 55, am_i ((wh : Int)), am_i ((p : Int))] σ (fun r σ' => r = some (am_i (if (evL (ptM σ p) [] cs).headD 0 = 1 then 1 else 0)) ∧ ∃ g : Nat → Int, ∃ z : Int, σ' = am_setN (am_setA σ 129 g) 55 103 z) := by
  refine am_enter (show plainFor yX10_isTold = true by decide +kernel) rfl (Nat.le_of_ble_eq_true rfl) (fun _ _ _ => trivial) ?_
  have e2 : ((2 : Int) + (wh : Int)).toNat = 2 + wh := by omega
  refine am_aload_n (q := 1) rfl (am_tab tk_X10_isTold 0 rfl) rfl ?_
  refine am_iconst (q := 2) (n := 0) (by decide) (am_tab tk_X10_isTold 1 rfl) rfl ?_
  refine am_putI (q := 5) (k := 10) (n := 108) (j := 103) (Ls_55 hL) (by decide) rfl (by decide) (Or.inl ⟨kf_X10_403, rfl⟩) (am_tab tk_X10_isTold 2 rfl) rfl ?_
  refine am_aload_n (q := 6) rfl (am_tab tk_X10_isTold 3 rfl) rfl ?_
  refine am_getR (q := 9) (a := 55) (k := 10) (n := 108) (j := 47) (r := some (93)) (Ls_55 hL) (by decide) rfl (Lr_55_47 hL) (by decide) (Or.inl kf_X10_127) (am_tab tk_X10_isTold 4 rfl) rfl ?_
  refine am_iconst (q := 10) (n := 2) (by decide) (am_tab tk_X10_isTold 5 rfl) rfl ?_
  refine am_iload_n (q := 11) rfl (am_tab tk_X10_isTold 6 rfl) rfl ?_
  refine am_iadd (q := 12) (by omega) (am_tab tk_X10_isTold 7 rfl) rfl ?_
  refine am_iald (q := 13) (a := 93) (n := 4) (x := (B : Int)) (Ls_93 hL) (by omega) (by omega) (by rw [e2]; exact hB) (am_tab tk_X10_isTold 8 rfl) rfl ?_
  refine am_istore_n (q := 14) (by decide) (ls2 := [(3, am_i ((B : Int))), (0, am_r 55), (1, am_i ((wh : Int))), (2, am_i ((p : Int)))]) rfl (am_tab tk_X10_isTold 9 rfl) rfl ?_
  refine am_hp2 (σ1 := am_setN (am_setA σ 129 (fun k => σ.2.1 129 k)) 55 103 0) (by rw [am_setA_self]) ?_
  exact isTold_loop σ hL wh p hwh hp ha ht E hE hE2 he _ cs B [] (fun k => σ.2.1 129 k) hBE hc (by simp) trivial hok rfl
