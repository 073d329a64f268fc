theorem wof_pw {tk z f t : Int} (h : ¬ wof tk z f t = -1) : wof tk z f t = pwI z ∧ f ≤ pwI z ∧ pwI z < t := by
  unfold wof at h ⊢
  split
  · rename_i h1
    exact ⟨rfl, h1.1, h1.2.1⟩
  · rename_i h1
    rw [if_neg h1] at h
    exact absurd rfl h
theorem wof_rng (tk z f t : Int) : -1 ≤ wof tk z f t ∧ wof tk z f t ≤ 11 := by
  have := pwI_rng z
  unfold wof
  split <;> omega
theorem pwI_n6 {z : Int} (h : ¬ pwI z = -1) : ¬ z = 6 := by
  intro h1
  apply h
  rw [h1]
  decide
theorem zV_rng {b : Nat → Int} {E i : Nat} (h : zK b E i = 1) : 0 ≤ zV b E i ∧ zV b E i ≤ 9999 := by
  have h1 := zK_num.mp h
  have h2 := rn_rng isDg b (zP_rng b E i)
  refine nv_9999 (fun j hj => ?_) h1.2
  have h3 := rn_in (p := isDg) (b := b) (zP_rng b E i) (zP b E i + j) (by omega) (by omega)
  unfold isDg at h3
  simpa only [decide_eq_true_eq] using h3
theorem c_numY {b : Nat → Int} {E i : Nat} {S : am_H} (hZ : ZS b E i S) {lo hi : Int} (hk : zK b E i = 1) (h1 : lo ≤ zV b E i) (h2 : zV b E i ≤ hi) : am_met M_X10_number [am_r 55, am_i lo, am_i hi] S (fun r τ => r = some (am_i (zV b E i)) ∧ ZS b E (i + 1) τ ∧ frw W_sc S τ ∧ τ.2.1 55 10 = (zP b E i : Int)) := by
  refine am_mono (c_X10_number b E i S hZ lo hi) (fun r τ h => ?_)
  rcases h with h | h
  · exact h.2
  · exact absurd ⟨hk, h1, h2⟩ h.1
theorem c_numN {b : Nat → Int} {E i : Nat} {S : am_H} (hZ : ZS b E i S) {lo hi : Int} (hk : ¬ (zK b E i = 1 ∧ lo ≤ zV b E i ∧ zV b E i ≤ hi)) : am_met M_X10_number [am_r 55, am_i lo, am_i hi] S (fun r τ => (∃ v : Int, r = some (am_i v) ∧ 0 ≤ v ∧ v ≤ 9999) ∧ ZB b E (nfK b E i) (nfP b E i) τ ∧ frw W_sc S τ) := by
  refine am_mono (c_X10_number b E i S hZ lo hi) (fun r τ h => ?_)
  rcases h with h | h
  · exact absurd h.1 hk
  · exact h.2
theorem QB_of {b : Nat → Int} {E : Nat} {k pl m o bs : Int} {rc ws : List Int} {S : am_H} (h : ZB b E k pl S) (hv : QV rc ws o bs S) (h1 : (rc.length : Int) ≤ m) (h2 : (ws.length : Int) ≤ m) : QB b E k pl m S := ⟨h, by rw [hv.1]; omega, by rw [hv.2.2.1]; omega⟩
theorem c_X10_qPartTold (b : Nat → Int) (E : Nat) (tk : Int) (htk : 0 ≤ tk ∧ tk ≤ 2) (i0 : Nat) (rc0 ws0 out : List Int) (o0 : Int) (S : am_H) (hQ0 : QT b E tk i0 rc0 ws0 out o0 S)  (f0 : Nat) (hf0 : 1700 ≤ f0 + i0) : am_met M_X10_qPartTold [am_r 55] S (fun r σ' => r = none ∧ PR b E tk out σ' (partF b E tk f0 i0 rc0 ws0 o0) ∧ frw W_p S σ') := by
  refine am_qq (fun Q hQ => ?_)
  refine am_enter (show plainFor yX10_qPartTold = true by decide +kernel) rfl (Nat.le_of_ble_eq_true rfl) (fun _ _ _ => trivial) ?_
  have hL := hQ0.1.1
  refine am_iconst (q := 1) (n := 1) (by decide) (am_tab tk_X10_qPartTold 0 rfl) rfl ?_
  refine am_istore_n (q := 2) (by decide) (ls2 := [(1, am_i 1), (0, am_r 55)]) rfl (am_tab tk_X10_qPartTold 1 rfl) rfl ?_
  have L2 : ∀ (n2 : Nat) (f : Nat) (i : Nat) (rc : List Int) (ws : List Int) (o : Int) (T : am_H), 1700 - i < n2 → QT b E tk i rc ws out o T → frw W_p S T → 1700 ≤ f + i → partF b E tk f0 i0 rc0 ws0 o0 = partF b E tk f i rc ws o → am_wp M_X10_qPartTold Q 0 0 2 [(1, am_i 1), (0, am_r 55)] [] T := by
    intro n2
    induction n2 with
    | zero => intro f i rc ws o T hn2; exact absurd hn2 (Nat.not_lt_zero _)
    | succ n2 ih2 =>
      intro f i rc ws o T hn2 hQT hF hfi hres
      have hZ := hQT.1
      have hV := hQT.2.1
      have h53 := hQT.2.2.1
      have hon := hQT.2.2.2.1
      have hlen := hQT.2.2.2.2.1
      have hiz := hQT.2.2.2.2.2
      have hzp := zP_rng b E i
      have hE := hZ.2.2.1.2.2.1
      have hop := opn_nn (ws ++ out)
      have ho2 : 0 ≤ o ∧ o ≤ 6 := by omega
      have hw1 := wof_rng tk (zK b E i) 11 12
      have hw2 := wof_rng tk (zK b E i) 0 11
      have ew := opn_app ws out
      have hapl : (ws ++ out).length = ws.length + out.length := List.length_append
      obtain ⟨f, rfl⟩ : ∃ g, f = g + 1 := ⟨f - 1, by omega⟩
      refine am_iload_n (q := 3) rfl (am_tab tk_X10_qPartTold 2 rfl) rfl ?_
      refine am_if_eq (q := 6) (t := 186) (am_tab tk_X10_qPartTold 3 rfl) (by decide) rfl (fun h3 => ?_) (fun h3 => ?_)
      · exact absurd h3 (by decide)
      · refine am_aload_n (q := 7) rfl (am_tab tk_X10_qPartTold 4 rfl) rfl ?_
        refine am_getI (q := 10) (a := 55) (k := 10) (n := 108) (j := 5) (x := 0) (Ls_55 hZ.1) (by decide) rfl hZ.2.2.2.1 (by decide) (Or.inl kf_X10_248) (am_tab tk_X10_qPartTold 5 rfl) rfl ?_
        refine am_if_ne (q := 13) (t := 186) (am_tab tk_X10_qPartTold 6 rfl) (by decide) rfl (fun h10 => ?_) (fun h10 => ?_)
        · exact absurd h10 (by decide)
        · by_cases c1 : zK b E i = 40
          · by_cases o6 : o = 6
            · refine am_aload_n (q := 14) rfl (am_tab tk_X10_qPartTold 7 rfl) rfl ?_
              refine am_callV0 (q := 17) (me2 := M_X10_look) (b := 55) (kb := 10) (nb := 108) (As := []) (rest := []) (out := [am_i (byt b E i)]) (c_X10_look b E i T hZ.1 hZ.2.2) ⟨rfl, rfl⟩ (Ls_55 hZ.1) (by decide) ⟨Or.inl km_X10_260, kc_X10_look, kn_X10, kd_X10_look, ⟨(Nat.le_of_ble_eq_true rfl), (Nat.le_of_ble_eq_true rfl)⟩, ⟨(Nat.le_of_ble_eq_true rfl), (Nat.le_of_ble_eq_true rfl)⟩, (Nat.le_of_ble_eq_true rfl)⟩ ki_X10_look ks_X10_look rfl rfl (am_tab tk_X10_qPartTold 8 rfl) rfl ?_
              refine am_istore_n (q := 18) (by decide) (ls2 := [(2, am_i (byt b E i)), (1, am_i 1), (0, am_r 55)]) rfl (am_tab tk_X10_qPartTold 9 rfl) rfl ?_
              refine am_aload_n (q := 19) rfl (am_tab tk_X10_qPartTold 10 rfl) rfl ?_
              refine am_bipush (q := 21) (n := 11) (by decide) rfl (am_tab tk_X10_qPartTold 11 rfl) rfl ?_
              refine am_bipush (q := 23) (n := 12) (by decide) rfl (am_tab tk_X10_qPartTold 12 rfl) rfl ?_
              refine am_callVr (q := 26) (me2 := M_X10_qWordOf) (b := 55) (kb := 10) (nb := 108) (As := [am_i 11, am_i 12]) (rest := []) (c_X10_qWordOf b E i (am_setN T 55 2 (zP b E i : Int)) hZ.look 11 12 tk h53 htk) ⟨rfl, rfl⟩ (Ls_55 hZ.1) (by decide) ⟨Or.inl km_X10_600, kc_X10_qWordOf, kn_X10, kd_X10_qWordOf, ⟨(Nat.le_of_ble_eq_true rfl), (Nat.le_of_ble_eq_true rfl)⟩, ⟨(Nat.le_of_ble_eq_true rfl), (Nat.le_of_ble_eq_true rfl)⟩, (Nat.le_of_ble_eq_true rfl)⟩ ki_X10_qWordOf ks_X10_qWordOf rfl (am_tab tk_X10_qPartTold 13 rfl) rfl ?_
              rintro r τ ⟨rfl, rfl⟩
              refine am_hp2 (σ1 := (am_setN T 55 2 (zP b E i : Int))) (am_setN_N _ _ _ _ _) ?_
              refine am_st (st2 := [am_i (wof tk (zK b E i) 11 12)]) rfl ?_
              refine am_istore_n (q := 27) (by decide) (ls2 := [(3, am_i (wof tk (zK b E i) 11 12)), (2, am_i (byt b E i)), (1, am_i 1), (0, am_r 55)]) rfl (am_tab tk_X10_qPartTold 14 rfl) rfl ?_
              refine am_iload_n (q := 28) rfl (am_tab tk_X10_qPartTold 15 rfl) rfl ?_
              refine am_bipush (q := 30) (n := 40) (by decide) rfl (am_tab tk_X10_qPartTold 16 rfl) rfl ?_
              refine am_icmp_ne (q := 33) (t := 56) (am_tab tk_X10_qPartTold 17 rfl) (by decide) rfl (fun h30 => ?_) (fun h30 => ?_)
              · exact absurd ((sg_iff (by decide)).mpr c1) h30
              · refine am_aload_n (q := 34) rfl (am_tab tk_X10_qPartTold 18 rfl) rfl ?_
                refine am_bipush (q := 36) (n := 20) (by decide) rfl (am_tab tk_X10_qPartTold 19 rfl) rfl ?_
                refine am_aload_n (q := 37) rfl (am_tab tk_X10_qPartTold 20 rfl) rfl ?_
                refine am_getI (q := 40) (a := 55) (k := 10) (n := 108) (j := 2) (x := (zP b E i : Int)) (Ls_55 hZ.1) (by decide) rfl rfl (by decide) (Or.inl kf_X10_254) (am_tab tk_X10_qPartTold 21 rfl) rfl ?_
                refine am_callV0 (q := 43) (me2 := M_X10_qOpens) (b := 55) (kb := 10) (nb := 108) (As := [am_i 20, am_i ((zP b E i : Int))]) (rest := []) (out := []) (c_qOpensN rc (ws ++ out) o (out.length : Int) (am_setN T 55 2 (zP b E i : Int)) hZ.1 (hV.sc ((frw.refl W_sc T).setN (by unfold W_sc; omega))) 20 (zP b E i : Int) hZ.2.2.2.1 o6) ⟨rfl, rfl⟩ (Ls_55 hZ.1) (by decide) ⟨Or.inl km_X10_603, kc_X10_qOpens, kn_X10, kd_X10_qOpens, ⟨(Nat.le_of_ble_eq_true rfl), (Nat.le_of_ble_eq_true rfl)⟩, ⟨(Nat.le_of_ble_eq_true rfl), (Nat.le_of_ble_eq_true rfl)⟩, (Nat.le_of_ble_eq_true rfl)⟩ ki_X10_qOpens ks_X10_qOpens rfl rfl (am_tab tk_X10_qPartTold 22 rfl) rfl ?_
                refine am_aload_n (q := 44) rfl (am_tab tk_X10_qPartTold 23 rfl) rfl ?_
                refine am_dup (q := 45) rfl (am_tab tk_X10_qPartTold 24 rfl) rfl ?_
                refine am_getI (q := 48) (a := 55) (k := 10) (n := 108) (j := 2) (x := (zP b E i : Int)) (Ls_55 hZ.1) (by decide) rfl rfl (by decide) (Or.inl kf_X10_254) (am_tab tk_X10_qPartTold 25 rfl) rfl ?_
                refine am_iconst (q := 49) (n := 1) (by decide) (am_tab tk_X10_qPartTold 26 rfl) rfl ?_
                refine am_iadd (q := 50) (by omega) (am_tab tk_X10_qPartTold 27 rfl) rfl ?_
                refine am_putI (q := 53) (k := 10) (n := 108) (j := 2) (Ls_55 hZ.1) (by decide) rfl (by decide) (Or.inl ⟨kf_X10_254, rfl⟩) (am_tab tk_X10_qPartTold 28 rfl) rfl ?_
                refine am_goto (t := 183) (am_tab tk_X10_qPartTold 29 rfl) (by decide) ?_
                refine am_goto (t := 2) (am_tab tk_X10_qPartTold 93 rfl) (by decide) ?_
                refine am_iload_n (q := 3) rfl (am_tab tk_X10_qPartTold 2 rfl) rfl ?_
                refine am_if_eq (q := 6) (t := 186) (am_tab tk_X10_qPartTold 3 rfl) (by decide) rfl (fun h3 => ?_) (fun h3 => ?_)
                · exact absurd h3 (by decide)
                · refine am_aload_n (q := 7) rfl (am_tab tk_X10_qPartTold 4 rfl) rfl ?_
                  refine am_getI (q := 10) (a := 55) (k := 10) (n := 108) (j := 5) (x := 4) (Ls_55 hZ.1) (by decide) rfl rfl (by decide) (Or.inl kf_X10_248) (am_tab tk_X10_qPartTold 5 rfl) rfl ?_
                  refine am_if_ne (q := 13) (t := 186) (am_tab tk_X10_qPartTold 6 rfl) (by decide) rfl (fun h10 => ?_) (fun h10 => ?_)
                  · refine am_aload_n (q := 187) rfl (am_tab tk_X10_qPartTold 94 rfl) rfl ?_
                    refine am_getI (q := 190) (a := 55) (k := 10) (n := 108) (j := 5) (x := 4) (Ls_55 hZ.1) (by decide) rfl rfl (by decide) (Or.inl kf_X10_248) (am_tab tk_X10_qPartTold 95 rfl) rfl ?_
                    refine am_if_eq (q := 193) (t := 194) (am_tab tk_X10_qPartTold 96 rfl) (by decide) rfl (fun h190 => ?_) (fun h190 => ?_)
                    · exact absurd h190 (by decide)
                    · refine am_vret rfl (Nat.le_of_ble_eq_true rfl) (Nat.le_of_ble_eq_true rfl) (am_tab tk_X10_qPartTold 97 rfl) ?_
                      refine hQ _ _ ?_
                      have hev : partF b E tk (f + 1) i rc ws o = .inr (4, (zP b E i : Int)) := by show (if _ then _ else _) = _; rw [if_pos c1, if_pos o6]
                      rw [hev] at hres
                      rw [hres]
                      have hFb : frw W_sc T (am_setN (am_setN (am_setN (am_setN T 55 2 (zP b E i : Int)) 55 5 4) 55 6 (zP b E i : Int)) 55 2 ((zP b E i : Int) + 1)) := by repeat (first | exact frw.refl _ T | refine frw.setN ?_ (by unfold W_sc; omega))
                      have hZbad : ZB b E 4 (zP b E i : Int) (am_setN (am_setN (am_setN (am_setN T 55 2 (zP b E i : Int)) 55 5 4) 55 6 (zP b E i : Int)) 55 2 ((zP b E i : Int) + 1)) := ZB_of hZ.1 hZ.2.1 hFb hZ.2.2.1 rfl (by decide) rfl (by first | (show 0 ≤ (zP b E i : Int) ∧ (zP b E i : Int) ≤ _; have := zP_rng b E (i + 1); omega) | (show 0 ≤ (zP b E i : Int) + 1 ∧ (zP b E i : Int) + 1 ≤ _; omega))
                      have hFs : frw W_sc T (am_setN (am_setN (am_setN (am_setN T 55 2 (zP b E i : Int)) 55 5 4) 55 6 (zP b E i : Int)) 55 2 ((zP b E i : Int) + 1)) := hFb
                      exact ⟨rfl, QB_of hZbad (hV.sc hFs) (by omega) (by rw [List.length_append]; omega), hF.trans (W_sc_p hFs)⟩
                  · exact absurd h10 (by decide)
            · refine am_aload_n (q := 14) rfl (am_tab tk_X10_qPartTold 7 rfl) rfl ?_
              refine am_callV0 (q := 17) (me2 := M_X10_look) (b := 55) (kb := 10) (nb := 108) (As := []) (rest := []) (out := [am_i (byt b E i)]) (c_X10_look b E i T hZ.1 hZ.2.2) ⟨rfl, rfl⟩ (Ls_55 hZ.1) (by decide) ⟨Or.inl km_X10_260, kc_X10_look, kn_X10, kd_X10_look, ⟨(Nat.le_of_ble_eq_true rfl), (Nat.le_of_ble_eq_true rfl)⟩, ⟨(Nat.le_of_ble_eq_true rfl), (Nat.le_of_ble_eq_true rfl)⟩, (Nat.le_of_ble_eq_true rfl)⟩ ki_X10_look ks_X10_look rfl rfl (am_tab tk_X10_qPartTold 8 rfl) rfl ?_
              refine am_istore_n (q := 18) (by decide) (ls2 := [(2, am_i (byt b E i)), (1, am_i 1), (0, am_r 55)]) rfl (am_tab tk_X10_qPartTold 9 rfl) rfl ?_
              refine am_aload_n (q := 19) rfl (am_tab tk_X10_qPartTold 10 rfl) rfl ?_
              refine am_bipush (q := 21) (n := 11) (by decide) rfl (am_tab tk_X10_qPartTold 11 rfl) rfl ?_
              refine am_bipush (q := 23) (n := 12) (by decide) rfl (am_tab tk_X10_qPartTold 12 rfl) rfl ?_
              refine am_callVr (q := 26) (me2 := M_X10_qWordOf) (b := 55) (kb := 10) (nb := 108) (As := [am_i 11, am_i 12]) (rest := []) (c_X10_qWordOf b E i (am_setN T 55 2 (zP b E i : Int)) hZ.look 11 12 tk h53 htk) ⟨rfl, rfl⟩ (Ls_55 hZ.1) (by decide) ⟨Or.inl km_X10_600, kc_X10_qWordOf, kn_X10, kd_X10_qWordOf, ⟨(Nat.le_of_ble_eq_true rfl), (Nat.le_of_ble_eq_true rfl)⟩, ⟨(Nat.le_of_ble_eq_true rfl), (Nat.le_of_ble_eq_true rfl)⟩, (Nat.le_of_ble_eq_true rfl)⟩ ki_X10_qWordOf ks_X10_qWordOf rfl (am_tab tk_X10_qPartTold 13 rfl) rfl ?_
              rintro r τ ⟨rfl, rfl⟩
              refine am_hp2 (σ1 := (am_setN T 55 2 (zP b E i : Int))) (am_setN_N _ _ _ _ _) ?_
              refine am_st (st2 := [am_i (wof tk (zK b E i) 11 12)]) rfl ?_
              refine am_istore_n (q := 27) (by decide) (ls2 := [(3, am_i (wof tk (zK b E i) 11 12)), (2, am_i (byt b E i)), (1, am_i 1), (0, am_r 55)]) rfl (am_tab tk_X10_qPartTold 14 rfl) rfl ?_
              refine am_iload_n (q := 28) rfl (am_tab tk_X10_qPartTold 15 rfl) rfl ?_
              refine am_bipush (q := 30) (n := 40) (by decide) rfl (am_tab tk_X10_qPartTold 16 rfl) rfl ?_
              refine am_icmp_ne (q := 33) (t := 56) (am_tab tk_X10_qPartTold 17 rfl) (by decide) rfl (fun h30 => ?_) (fun h30 => ?_)
              · exact absurd ((sg_iff (by decide)).mpr c1) h30
              · refine am_aload_n (q := 34) rfl (am_tab tk_X10_qPartTold 18 rfl) rfl ?_
                refine am_bipush (q := 36) (n := 20) (by decide) rfl (am_tab tk_X10_qPartTold 19 rfl) rfl ?_
                refine am_aload_n (q := 37) rfl (am_tab tk_X10_qPartTold 20 rfl) rfl ?_
                refine am_getI (q := 40) (a := 55) (k := 10) (n := 108) (j := 2) (x := (zP b E i : Int)) (Ls_55 hZ.1) (by decide) rfl rfl (by decide) (Or.inl kf_X10_254) (am_tab tk_X10_qPartTold 21 rfl) rfl ?_
                refine am_callVr (q := 43) (me2 := M_X10_qOpens) (b := 55) (kb := 10) (nb := 108) (As := [am_i 20, am_i ((zP b E i : Int))]) (rest := []) (c_qOpensY rc (ws ++ out) o (out.length : Int) (am_setN T 55 2 (zP b E i : Int)) hZ.1 (hV.sc ((frw.refl W_sc T).setN (by unfold W_sc; omega))) 20 (zP b E i : Int) hZ.2.2.2.1 (by rw [List.length_append]; omega) o6 ho2) ⟨rfl, rfl⟩ (Ls_55 hZ.1) (by decide) ⟨Or.inl km_X10_603, kc_X10_qOpens, kn_X10, kd_X10_qOpens, ⟨(Nat.le_of_ble_eq_true rfl), (Nat.le_of_ble_eq_true rfl)⟩, ⟨(Nat.le_of_ble_eq_true rfl), (Nat.le_of_ble_eq_true rfl)⟩, (Nat.le_of_ble_eq_true rfl)⟩ ki_X10_qOpens ks_X10_qOpens rfl (am_tab tk_X10_qPartTold 22 rfl) rfl ?_
                rintro r T5 ⟨rfl, hV5, hF5⟩
                have hZ5 : ZS b E i T5 := ZS.q hZ.look hF5
                refine am_st (st2 := []) rfl ?_
                refine am_aload_n (q := 44) rfl (am_tab tk_X10_qPartTold 23 rfl) rfl ?_
                refine am_dup (q := 45) rfl (am_tab tk_X10_qPartTold 24 rfl) rfl ?_
                refine am_getI (q := 48) (a := 55) (k := 10) (n := 108) (j := 2) (x := (zP b E i : Int)) (Ls_55 hZ5.1) (by decide) rfl (hF5.2.2 55 2 (by unfold W_q; omega)) (by decide) (Or.inl kf_X10_254) (am_tab tk_X10_qPartTold 25 rfl) rfl ?_
                refine am_iconst (q := 49) (n := 1) (by decide) (am_tab tk_X10_qPartTold 26 rfl) rfl ?_
                refine am_iadd (q := 50) (by omega) (am_tab tk_X10_qPartTold 27 rfl) rfl ?_
                refine am_putI (q := 53) (k := 10) (n := 108) (j := 2) (Ls_55 hZ5.1) (by decide) rfl (by decide) (Or.inl ⟨kf_X10_254, rfl⟩) (am_tab tk_X10_qPartTold 28 rfl) rfl ?_
                refine am_goto (t := 183) (am_tab tk_X10_qPartTold 29 rfl) (by decide) ?_
                refine am_goto (t := 2) (am_tab tk_X10_qPartTold 93 rfl) (by decide) ?_
                have hN6 : ¬ zK b E i = 6 := by omega
                have hFn : frw W_sc T5 (am_setN T5 55 2 ((zP b E i : Int) + 1)) := (frw.refl W_sc T5).setN (by unfold W_sc; omega)
                have hZn : ZS b E (i + 1) (am_setN T5 55 2 ((zP b E i : Int) + 1)) := ZS_of hZ5.1 hZ5.2.1 hFn (TS_sign hZ5.2.2 (by decide) c1 (hZ5.2.2.1.fr hFn) hZ5.2.2.2.1 hZ5.2.2.2.2.1 rfl rfl)
                have hVn := hV5.sc hFn
                have hFa : frw W_p S (am_setN T5 55 2 ((zP b E i : Int) + 1)) := hF.trans ((W_sc_p ((frw.refl W_sc T).setN (by unfold W_sc; omega))).trans ((W_q_p hF5).trans (W_sc_p hFn)))
                have h53n : ((am_setN T5 55 2 ((zP b E i : Int) + 1))).2.1 55 53 = tk := (hF5.2.2 55 53 (by unfold W_q; omega)).trans h53
                rw [show partF b E tk (f + 1) i rc ws o = partF b E tk f (i + 1) rc (20 :: ws) (o + 1) from by show (if _ then _ else _) = _; rw [if_pos c1, if_neg o6]] at hres
                have hQn : QT b E tk (i + 1) rc (20 :: ws) out (o + 1) (am_setN T5 55 2 ((zP b E i : Int) + 1)) := ⟨hZn, hVn, h53n, ⟨by show _ = (if _ then _ else _) + opn (ws ++ out); rw [if_pos (by omega)]; omega, by omega⟩, by rw [List.length_cons]; omega, zP_on hN6 hQT.2.2.2.2.2⟩
                exact am_less (by intro q hq; simp only [List.mem_cons, List.not_mem_nil, or_false] at hq; rcases hq with rfl | rfl <;> simp) (ih2 f (i + 1) rc (20 :: ws) (o + 1) (am_setN T5 55 2 ((zP b E i : Int) + 1)) (by omega) hQn hFa (by omega) hres)
          · by_cases c2 : zK b E i = 153
            · by_cases d : zK b E (i + 1) = 40
              · by_cases o6 : o = 6
                · refine am_aload_n (q := 14) rfl (am_tab tk_X10_qPartTold 7 rfl) rfl ?_
                  refine am_callV0 (q := 17) (me2 := M_X10_look) (b := 55) (kb := 10) (nb := 108) (As := []) (rest := []) (out := [am_i (byt b E i)]) (c_X10_look b E i T hZ.1 hZ.2.2) ⟨rfl, rfl⟩ (Ls_55 hZ.1) (by decide) ⟨Or.inl km_X10_260, kc_X10_look, kn_X10, kd_X10_look, ⟨(Nat.le_of_ble_eq_true rfl), (Nat.le_of_ble_eq_true rfl)⟩, ⟨(Nat.le_of_ble_eq_true rfl), (Nat.le_of_ble_eq_true rfl)⟩, (Nat.le_of_ble_eq_true rfl)⟩ ki_X10_look ks_X10_look rfl rfl (am_tab tk_X10_qPartTold 8 rfl) rfl ?_
                  refine am_istore_n (q := 18) (by decide) (ls2 := [(2, am_i (byt b E i)), (1, am_i 1), (0, am_r 55)]) rfl (am_tab tk_X10_qPartTold 9 rfl) rfl ?_
                  refine am_aload_n (q := 19) rfl (am_tab tk_X10_qPartTold 10 rfl) rfl ?_
                  refine am_bipush (q := 21) (n := 11) (by decide) rfl (am_tab tk_X10_qPartTold 11 rfl) rfl ?_
                  refine am_bipush (q := 23) (n := 12) (by decide) rfl (am_tab tk_X10_qPartTold 12 rfl) rfl ?_
                  refine am_callVr (q := 26) (me2 := M_X10_qWordOf) (b := 55) (kb := 10) (nb := 108) (As := [am_i 11, am_i 12]) (rest := []) (c_X10_qWordOf b E i (am_setN T 55 2 (zP b E i : Int)) hZ.look 11 12 tk h53 htk) ⟨rfl, rfl⟩ (Ls_55 hZ.1) (by decide) ⟨Or.inl km_X10_600, kc_X10_qWordOf, kn_X10, kd_X10_qWordOf, ⟨(Nat.le_of_ble_eq_true rfl), (Nat.le_of_ble_eq_true rfl)⟩, ⟨(Nat.le_of_ble_eq_true rfl), (Nat.le_of_ble_eq_true rfl)⟩, (Nat.le_of_ble_eq_true rfl)⟩ ki_X10_qWordOf ks_X10_qWordOf rfl (am_tab tk_X10_qPartTold 13 rfl) rfl ?_
                  rintro r τ ⟨rfl, rfl⟩
                  refine am_hp2 (σ1 := (am_setN T 55 2 (zP b E i : Int))) (am_setN_N _ _ _ _ _) ?_
                  refine am_st (st2 := [am_i (wof tk (zK b E i) 11 12)]) rfl ?_
                  refine am_istore_n (q := 27) (by decide) (ls2 := [(3, am_i (wof tk (zK b E i) 11 12)), (2, am_i (byt b E i)), (1, am_i 1), (0, am_r 55)]) rfl (am_tab tk_X10_qPartTold 14 rfl) rfl ?_
                  refine am_iload_n (q := 28) rfl (am_tab tk_X10_qPartTold 15 rfl) rfl ?_
                  refine am_bipush (q := 30) (n := 40) (by decide) rfl (am_tab tk_X10_qPartTold 16 rfl) rfl ?_
                  refine am_icmp_ne (q := 33) (t := 56) (am_tab tk_X10_qPartTold 17 rfl) (by decide) rfl (fun h30 => ?_) (fun h30 => ?_)
                  · refine am_aload_n (q := 57) rfl (am_tab tk_X10_qPartTold 30 rfl) rfl ?_
                    refine am_aload_n (q := 58) rfl (am_tab tk_X10_qPartTold 31 rfl) rfl ?_
                    refine am_getR (q := 61) (a := 55) (k := 10) (n := 108) (j := 82) (r := some (113)) (Ls_55 hZ.1) (by decide) rfl (Lr_55_82 hZ.1) (by decide) (Or.inl kf_X10_191) (am_tab tk_X10_qPartTold 32 rfl) rfl ?_
                    refine am_callVr (q := 64) (me2 := M_X10_isHere) (b := 55) (kb := 10) (nb := 108) (As := [am_r 113]) (rest := []) (c_hereX b E i (am_setN T 55 2 (zP b E i : Int)) hZ.look 113 25 (by decide)) ⟨rfl, rfl⟩ (Ls_55 hZ.1) (by decide) ⟨Or.inl km_X10_271, kc_X10_isHere, kn_X10, kd_X10_isHere, ⟨(Nat.le_of_ble_eq_true rfl), (Nat.le_of_ble_eq_true rfl)⟩, ⟨(Nat.le_of_ble_eq_true rfl), (Nat.le_of_ble_eq_true rfl)⟩, (Nat.le_of_ble_eq_true rfl)⟩ ki_X10_isHere ks_X10_isHere rfl (am_tab tk_X10_qPartTold 33 rfl) rfl ?_
                    rintro r τ ⟨hr, hτ⟩
                    rw [decide_eq_true (show zK b E i = 128 + ((25 : Nat) : Int) from by omega)] at hr
                    rw [am_setN_N] at hτ
                    subst hτ
                    subst hr
                    refine am_st (st2 := [am_i 1]) rfl ?_
                    refine am_if_ne (q := 67) (t := 78) (am_tab tk_X10_qPartTold 34 rfl) (by decide) rfl (fun h64 => ?_) (fun h64 => ?_)
                    · refine am_aload_n (q := 79) rfl (am_tab tk_X10_qPartTold 40 rfl) rfl ?_
                      refine am_aload_n (q := 80) rfl (am_tab tk_X10_qPartTold 41 rfl) rfl ?_
                      refine am_getR (q := 83) (a := 55) (k := 10) (n := 108) (j := 82) (r := some (113)) (Ls_55 hZ.1) (by decide) rfl (Lr_55_82 hZ.1) (by decide) (Or.inl kf_X10_191) (am_tab tk_X10_qPartTold 42 rfl) rfl ?_
                      refine am_callVr (q := 86) (me2 := M_X10_takes) (b := 55) (kb := 10) (nb := 108) (As := [am_r 113]) (rest := []) (c_takesY b E i (am_setN T 55 2 (zP b E i : Int)) hZ.look 113 25 (by decide) (by omega)) ⟨rfl, rfl⟩ (Ls_55 hZ.1) (by decide) ⟨Or.inl km_X10_275, kc_X10_takes, kn_X10, kd_X10_takes, ⟨(Nat.le_of_ble_eq_true rfl), (Nat.le_of_ble_eq_true rfl)⟩, ⟨(Nat.le_of_ble_eq_true rfl), (Nat.le_of_ble_eq_true rfl)⟩, (Nat.le_of_ble_eq_true rfl)⟩ ki_X10_takes ks_X10_takes rfl (am_tab tk_X10_qPartTold 43 rfl) rfl ?_
                      rintro r T4 ⟨rfl, hZ4, hF4⟩
                      refine am_st (st2 := [am_i 1]) rfl ?_
                      refine am_istore (q := 88) (by decide) (ls2 := [(4, am_i 1), (3, am_i (wof tk (zK b E i) 11 12)), (2, am_i (byt b E i)), (1, am_i 1), (0, am_r 55)]) rfl (am_tab tk_X10_qPartTold 44 rfl) rfl ?_
                      refine am_iload (q := 90) rfl (am_tab tk_X10_qPartTold 45 rfl) rfl ?_
                      refine am_if_ne (q := 93) (t := 101) (am_tab tk_X10_qPartTold 46 rfl) (by decide) rfl (fun h90 => ?_) (fun h90 => ?_)
                      · refine am_aload_n (q := 102) rfl (am_tab tk_X10_qPartTold 51 rfl) rfl ?_
                        refine am_callV0 (q := 105) (me2 := M_X10_look) (b := 55) (kb := 10) (nb := 108) (As := []) (rest := []) (out := [am_i (byt b E (i + 1))]) (c_X10_look b E (i + 1) T4 hZ4.1 hZ4.2.2) ⟨rfl, rfl⟩ (Ls_55 hZ4.1) (by decide) ⟨Or.inl km_X10_260, kc_X10_look, kn_X10, kd_X10_look, ⟨(Nat.le_of_ble_eq_true rfl), (Nat.le_of_ble_eq_true rfl)⟩, ⟨(Nat.le_of_ble_eq_true rfl), (Nat.le_of_ble_eq_true rfl)⟩, (Nat.le_of_ble_eq_true rfl)⟩ ki_X10_look ks_X10_look rfl rfl (am_tab tk_X10_qPartTold 52 rfl) rfl ?_
                        refine am_bipush (q := 107) (n := 40) (by decide) rfl (am_tab tk_X10_qPartTold 53 rfl) rfl ?_
                        refine am_icmp_ne (q := 110) (t := 117) (am_tab tk_X10_qPartTold 54 rfl) (by decide) rfl (fun h107 => ?_) (fun h107 => ?_)
                        · exact absurd ((sg_iff (by decide)).mpr d) h107
                        · refine am_aload_n (q := 111) rfl (am_tab tk_X10_qPartTold 55 rfl) rfl ?_
                          refine am_getI (q := 114) (a := 55) (k := 10) (n := 108) (j := 2) (x := (zP b E (i + 1) : Int)) (Ls_55 hZ4.1) (by decide) rfl rfl (by decide) (Or.inl kf_X10_254) (am_tab tk_X10_qPartTold 56 rfl) rfl ?_
                          refine am_goto (t := 118) (am_tab tk_X10_qPartTold 57 rfl) (by decide) ?_
                          refine am_istore (q := 120) (by decide) (ls2 := [(5, am_i ((zP b E (i + 1) : Int))), (4, am_i 1), (3, am_i (wof tk (zK b E i) 11 12)), (2, am_i (byt b E i)), (1, am_i 1), (0, am_r 55)]) rfl (am_tab tk_X10_qPartTold 59 rfl) rfl ?_
                          refine am_iload (q := 122) rfl (am_tab tk_X10_qPartTold 60 rfl) rfl ?_
                          refine am_iconst (q := 123) (n := (-1)) (by decide) (am_tab tk_X10_qPartTold 61 rfl) rfl ?_
                          refine am_icmp_eq (q := 126) (t := 144) (am_tab tk_X10_qPartTold 62 rfl) (by decide) rfl (fun h123 => ?_) (fun h123 => ?_)
                          · exact absurd h123 (by omega)
                          · refine am_aload_n (q := 127) rfl (am_tab tk_X10_qPartTold 63 rfl) rfl ?_
                            refine am_iload (q := 129) rfl (am_tab tk_X10_qPartTold 64 rfl) rfl ?_
                            refine am_if_eq (q := 132) (t := 137) (am_tab tk_X10_qPartTold 65 rfl) (by decide) rfl (fun h129 => ?_) (fun h129 => ?_)
                            · exact absurd h129 (by decide)
                            · refine am_bipush (q := 134) (n := 21) (by decide) rfl (am_tab tk_X10_qPartTold 66 rfl) rfl ?_
                              refine am_goto (t := 139) (am_tab tk_X10_qPartTold 67 rfl) (by decide) ?_
                              refine am_iload (q := 141) rfl (am_tab tk_X10_qPartTold 69 rfl) rfl ?_
                              refine am_callV0 (q := 144) (me2 := M_X10_qOpens) (b := 55) (kb := 10) (nb := 108) (As := [am_i 21, am_i ((zP b E (i + 1) : Int))]) (rest := []) (out := []) (c_qOpensN rc (ws ++ out) o (out.length : Int) (am_setN T4 55 2 (zP b E (i + 1) : Int)) hZ4.1 (hV.sc ((((frw.refl W_sc T).setN (by unfold W_sc; omega)).trans hF4).setN (by unfold W_sc; omega))) 21 (zP b E (i + 1) : Int) hZ4.2.2.2.1 o6) ⟨rfl, rfl⟩ (Ls_55 hZ4.1) (by decide) ⟨Or.inl km_X10_603, kc_X10_qOpens, kn_X10, kd_X10_qOpens, ⟨(Nat.le_of_ble_eq_true rfl), (Nat.le_of_ble_eq_true rfl)⟩, ⟨(Nat.le_of_ble_eq_true rfl), (Nat.le_of_ble_eq_true rfl)⟩, (Nat.le_of_ble_eq_true rfl)⟩ ki_X10_qOpens ks_X10_qOpens rfl rfl (am_tab tk_X10_qPartTold 70 rfl) rfl ?_
                              refine am_aload_n (q := 145) rfl (am_tab tk_X10_qPartTold 71 rfl) rfl ?_
                              have hFb : frw W_sc T4 (am_setN (am_setN (am_setN T4 55 2 (zP b E (i + 1) : Int)) 55 5 4) 55 6 (zP b E (i + 1) : Int)) := by repeat (first | exact frw.refl _ T4 | refine frw.setN ?_ (by unfold W_sc; omega))
                              have hZbad : ZB b E 4 (zP b E (i + 1) : Int) (am_setN (am_setN (am_setN T4 55 2 (zP b E (i + 1) : Int)) 55 5 4) 55 6 (zP b E (i + 1) : Int)) := ZB_of hZ4.1 hZ4.2.1 hFb hZ4.2.2.1 rfl (by decide) rfl (by first | (show 0 ≤ (zP b E (i + 1) : Int) ∧ (zP b E (i + 1) : Int) ≤ _; have := zP_rng b E (i + 1); omega) | (show 0 ≤ (zP b E (i + 1) : Int) + 1 ∧ (zP b E (i + 1) : Int) + 1 ≤ _; omega))
                              refine am_bipush (q := 147) (n := 40) (by decide) rfl (am_tab tk_X10_qPartTold 72 rfl) rfl ?_
                              refine am_callV0 (q := 150) (me2 := M_X10_asksSign) (b := 55) (kb := 10) (nb := 108) (As := [am_i 40]) (rest := []) (out := []) (c_asksSign0 b E 4 (zP b E (i + 1) : Int) (am_setN (am_setN (am_setN T4 55 2 (zP b E (i + 1) : Int)) 55 5 4) 55 6 (zP b E (i + 1) : Int)) hZbad 40) ⟨rfl, rfl⟩ (Ls_55 hZ4.1) (by decide) ⟨Or.inl km_X10_325, kc_X10_asksSign, kn_X10, kd_X10_asksSign, ⟨(Nat.le_of_ble_eq_true rfl), (Nat.le_of_ble_eq_true rfl)⟩, ⟨(Nat.le_of_ble_eq_true rfl), (Nat.le_of_ble_eq_true rfl)⟩, (Nat.le_of_ble_eq_true rfl)⟩ ki_X10_asksSign ks_X10_asksSign rfl rfl (am_tab tk_X10_qPartTold 73 rfl) rfl ?_
                              refine am_goto (t := 183) (am_tab tk_X10_qPartTold 74 rfl) (by decide) ?_
                              refine am_goto (t := 2) (am_tab tk_X10_qPartTold 93 rfl) (by decide) ?_
                              refine am_iload_n (q := 3) rfl (am_tab tk_X10_qPartTold 2 rfl) rfl ?_
                              refine am_if_eq (q := 6) (t := 186) (am_tab tk_X10_qPartTold 3 rfl) (by decide) rfl (fun h3 => ?_) (fun h3 => ?_)
                              · exact absurd h3 (by decide)
                              · refine am_aload_n (q := 7) rfl (am_tab tk_X10_qPartTold 4 rfl) rfl ?_
                                refine am_getI (q := 10) (a := 55) (k := 10) (n := 108) (j := 5) (x := 4) (Ls_55 hZ4.1) (by decide) rfl rfl (by decide) (Or.inl kf_X10_248) (am_tab tk_X10_qPartTold 5 rfl) rfl ?_
                                refine am_if_ne (q := 13) (t := 186) (am_tab tk_X10_qPartTold 6 rfl) (by decide) rfl (fun h10 => ?_) (fun h10 => ?_)
                                · refine am_aload_n (q := 187) rfl (am_tab tk_X10_qPartTold 94 rfl) rfl ?_
                                  refine am_getI (q := 190) (a := 55) (k := 10) (n := 108) (j := 5) (x := 4) (Ls_55 hZ4.1) (by decide) rfl rfl (by decide) (Or.inl kf_X10_248) (am_tab tk_X10_qPartTold 95 rfl) rfl ?_
                                  refine am_if_eq (q := 193) (t := 194) (am_tab tk_X10_qPartTold 96 rfl) (by decide) rfl (fun h190 => ?_) (fun h190 => ?_)
                                  · exact absurd h190 (by decide)
                                  · refine am_vret rfl (Nat.le_of_ble_eq_true rfl) (Nat.le_of_ble_eq_true rfl) (am_tab tk_X10_qPartTold 97 rfl) ?_
                                    refine hQ _ _ ?_
                                    have hev : partF b E tk (f + 1) i rc ws o = .inr (4, (zP b E (i + 1) : Int)) := by show (if _ then _ else _) = _; rw [if_neg c1, if_pos (by omega), if_pos d, if_pos o6]
                                    rw [hev] at hres
                                    rw [hres]
                                    have hFb : frw W_sc T4 (am_setN (am_setN (am_setN T4 55 2 (zP b E (i + 1) : Int)) 55 5 4) 55 6 (zP b E (i + 1) : Int)) := by repeat (first | exact frw.refl _ T4 | refine frw.setN ?_ (by unfold W_sc; omega))
                                    have hZbad : ZB b E 4 (zP b E (i + 1) : Int) (am_setN (am_setN (am_setN T4 55 2 (zP b E (i + 1) : Int)) 55 5 4) 55 6 (zP b E (i + 1) : Int)) := ZB_of hZ4.1 hZ4.2.1 hFb hZ4.2.2.1 rfl (by decide) rfl (by first | (show 0 ≤ (zP b E (i + 1) : Int) ∧ (zP b E (i + 1) : Int) ≤ _; have := zP_rng b E (i + 1); omega) | (show 0 ≤ (zP b E (i + 1) : Int) + 1 ∧ (zP b E (i + 1) : Int) + 1 ≤ _; omega))
                                    have hFs : frw W_sc T (am_setN (am_setN (am_setN T4 55 2 (zP b E (i + 1) : Int)) 55 5 4) 55 6 (zP b E (i + 1) : Int)) := (((frw.refl W_sc T).setN (by unfold W_sc; omega)).trans hF4).trans hFb
                                    exact ⟨rfl, QB_of hZbad (hV.sc hFs) (by omega) (by rw [List.length_append]; omega), hF.trans (W_sc_p hFs)⟩
                                · exact absurd h10 (by decide)
                      · exact absurd h90 (by decide)
                    · exact absurd h64 (by decide)
                  · exact absurd ((sg_iff (by decide)).mp h30) c1
                · refine am_aload_n (q := 14) rfl (am_tab tk_X10_qPartTold 7 rfl) rfl ?_
                  refine am_callV0 (q := 17) (me2 := M_X10_look) (b := 55) (kb := 10) (nb := 108) (As := []) (rest := []) (out := [am_i (byt b E i)]) (c_X10_look b E i T hZ.1 hZ.2.2) ⟨rfl, rfl⟩ (Ls_55 hZ.1) (by decide) ⟨Or.inl km_X10_260, kc_X10_look, kn_X10, kd_X10_look, ⟨(Nat.le_of_ble_eq_true rfl), (Nat.le_of_ble_eq_true rfl)⟩, ⟨(Nat.le_of_ble_eq_true rfl), (Nat.le_of_ble_eq_true rfl)⟩, (Nat.le_of_ble_eq_true rfl)⟩ ki_X10_look ks_X10_look rfl rfl (am_tab tk_X10_qPartTold 8 rfl) rfl ?_
                  refine am_istore_n (q := 18) (by decide) (ls2 := [(2, am_i (byt b E i)), (1, am_i 1), (0, am_r 55)]) rfl (am_tab tk_X10_qPartTold 9 rfl) rfl ?_
                  refine am_aload_n (q := 19) rfl (am_tab tk_X10_qPartTold 10 rfl) rfl ?_
                  refine am_bipush (q := 21) (n := 11) (by decide) rfl (am_tab tk_X10_qPartTold 11 rfl) rfl ?_
                  refine am_bipush (q := 23) (n := 12) (by decide) rfl (am_tab tk_X10_qPartTold 12 rfl) rfl ?_
                  refine am_callVr (q := 26) (me2 := M_X10_qWordOf) (b := 55) (kb := 10) (nb := 108) (As := [am_i 11, am_i 12]) (rest := []) (c_X10_qWordOf b E i (am_setN T 55 2 (zP b E i : Int)) hZ.look 11 12 tk h53 htk) ⟨rfl, rfl⟩ (Ls_55 hZ.1) (by decide) ⟨Or.inl km_X10_600, kc_X10_qWordOf, kn_X10, kd_X10_qWordOf, ⟨(Nat.le_of_ble_eq_true rfl), (Nat.le_of_ble_eq_true rfl)⟩, ⟨(Nat.le_of_ble_eq_true rfl), (Nat.le_of_ble_eq_true rfl)⟩, (Nat.le_of_ble_eq_true rfl)⟩ ki_X10_qWordOf ks_X10_qWordOf rfl (am_tab tk_X10_qPartTold 13 rfl) rfl ?_
                  rintro r τ ⟨rfl, rfl⟩
                  refine am_hp2 (σ1 := (am_setN T 55 2 (zP b E i : Int))) (am_setN_N _ _ _ _ _) ?_
                  refine am_st (st2 := [am_i (wof tk (zK b E i) 11 12)]) rfl ?_
                  refine am_istore_n (q := 27) (by decide) (ls2 := [(3, am_i (wof tk (zK b E i) 11 12)), (2, am_i (byt b E i)), (1, am_i 1), (0, am_r 55)]) rfl (am_tab tk_X10_qPartTold 14 rfl) rfl ?_
                  refine am_iload_n (q := 28) rfl (am_tab tk_X10_qPartTold 15 rfl) rfl ?_
                  refine am_bipush (q := 30) (n := 40) (by decide) rfl (am_tab tk_X10_qPartTold 16 rfl) rfl ?_
                  refine am_icmp_ne (q := 33) (t := 56) (am_tab tk_X10_qPartTold 17 rfl) (by decide) rfl (fun h30 => ?_) (fun h30 => ?_)
                  · refine am_aload_n (q := 57) rfl (am_tab tk_X10_qPartTold 30 rfl) rfl ?_
                    refine am_aload_n (q := 58) rfl (am_tab tk_X10_qPartTold 31 rfl) rfl ?_
                    refine am_getR (q := 61) (a := 55) (k := 10) (n := 108) (j := 82) (r := some (113)) (Ls_55 hZ.1) (by decide) rfl (Lr_55_82 hZ.1) (by decide) (Or.inl kf_X10_191) (am_tab tk_X10_qPartTold 32 rfl) rfl ?_
                    refine am_callVr (q := 64) (me2 := M_X10_isHere) (b := 55) (kb := 10) (nb := 108) (As := [am_r 113]) (rest := []) (c_hereX b E i (am_setN T 55 2 (zP b E i : Int)) hZ.look 113 25 (by decide)) ⟨rfl, rfl⟩ (Ls_55 hZ.1) (by decide) ⟨Or.inl km_X10_271, kc_X10_isHere, kn_X10, kd_X10_isHere, ⟨(Nat.le_of_ble_eq_true rfl), (Nat.le_of_ble_eq_true rfl)⟩, ⟨(Nat.le_of_ble_eq_true rfl), (Nat.le_of_ble_eq_true rfl)⟩, (Nat.le_of_ble_eq_true rfl)⟩ ki_X10_isHere ks_X10_isHere rfl (am_tab tk_X10_qPartTold 33 rfl) rfl ?_
                    rintro r τ ⟨hr, hτ⟩
                    rw [decide_eq_true (show zK b E i = 128 + ((25 : Nat) : Int) from by omega)] at hr
                    rw [am_setN_N] at hτ
                    subst hτ
                    subst hr
                    refine am_st (st2 := [am_i 1]) rfl ?_
                    refine am_if_ne (q := 67) (t := 78) (am_tab tk_X10_qPartTold 34 rfl) (by decide) rfl (fun h64 => ?_) (fun h64 => ?_)
                    · refine am_aload_n (q := 79) rfl (am_tab tk_X10_qPartTold 40 rfl) rfl ?_
                      refine am_aload_n (q := 80) rfl (am_tab tk_X10_qPartTold 41 rfl) rfl ?_
                      refine am_getR (q := 83) (a := 55) (k := 10) (n := 108) (j := 82) (r := some (113)) (Ls_55 hZ.1) (by decide) rfl (Lr_55_82 hZ.1) (by decide) (Or.inl kf_X10_191) (am_tab tk_X10_qPartTold 42 rfl) rfl ?_
                      refine am_callVr (q := 86) (me2 := M_X10_takes) (b := 55) (kb := 10) (nb := 108) (As := [am_r 113]) (rest := []) (c_takesY b E i (am_setN T 55 2 (zP b E i : Int)) hZ.look 113 25 (by decide) (by omega)) ⟨rfl, rfl⟩ (Ls_55 hZ.1) (by decide) ⟨Or.inl km_X10_275, kc_X10_takes, kn_X10, kd_X10_takes, ⟨(Nat.le_of_ble_eq_true rfl), (Nat.le_of_ble_eq_true rfl)⟩, ⟨(Nat.le_of_ble_eq_true rfl), (Nat.le_of_ble_eq_true rfl)⟩, (Nat.le_of_ble_eq_true rfl)⟩ ki_X10_takes ks_X10_takes rfl (am_tab tk_X10_qPartTold 43 rfl) rfl ?_
                      rintro r T4 ⟨rfl, hZ4, hF4⟩
                      refine am_st (st2 := [am_i 1]) rfl ?_
                      refine am_istore (q := 88) (by decide) (ls2 := [(4, am_i 1), (3, am_i (wof tk (zK b E i) 11 12)), (2, am_i (byt b E i)), (1, am_i 1), (0, am_r 55)]) rfl (am_tab tk_X10_qPartTold 44 rfl) rfl ?_
                      refine am_iload (q := 90) rfl (am_tab tk_X10_qPartTold 45 rfl) rfl ?_
                      refine am_if_ne (q := 93) (t := 101) (am_tab tk_X10_qPartTold 46 rfl) (by decide) rfl (fun h90 => ?_) (fun h90 => ?_)
                      · refine am_aload_n (q := 102) rfl (am_tab tk_X10_qPartTold 51 rfl) rfl ?_
                        refine am_callV0 (q := 105) (me2 := M_X10_look) (b := 55) (kb := 10) (nb := 108) (As := []) (rest := []) (out := [am_i (byt b E (i + 1))]) (c_X10_look b E (i + 1) T4 hZ4.1 hZ4.2.2) ⟨rfl, rfl⟩ (Ls_55 hZ4.1) (by decide) ⟨Or.inl km_X10_260, kc_X10_look, kn_X10, kd_X10_look, ⟨(Nat.le_of_ble_eq_true rfl), (Nat.le_of_ble_eq_true rfl)⟩, ⟨(Nat.le_of_ble_eq_true rfl), (Nat.le_of_ble_eq_true rfl)⟩, (Nat.le_of_ble_eq_true rfl)⟩ ki_X10_look ks_X10_look rfl rfl (am_tab tk_X10_qPartTold 52 rfl) rfl ?_
                        refine am_bipush (q := 107) (n := 40) (by decide) rfl (am_tab tk_X10_qPartTold 53 rfl) rfl ?_
                        refine am_icmp_ne (q := 110) (t := 117) (am_tab tk_X10_qPartTold 54 rfl) (by decide) rfl (fun h107 => ?_) (fun h107 => ?_)
                        · exact absurd ((sg_iff (by decide)).mpr d) h107
                        · refine am_aload_n (q := 111) rfl (am_tab tk_X10_qPartTold 55 rfl) rfl ?_
                          refine am_getI (q := 114) (a := 55) (k := 10) (n := 108) (j := 2) (x := (zP b E (i + 1) : Int)) (Ls_55 hZ4.1) (by decide) rfl rfl (by decide) (Or.inl kf_X10_254) (am_tab tk_X10_qPartTold 56 rfl) rfl ?_
                          refine am_goto (t := 118) (am_tab tk_X10_qPartTold 57 rfl) (by decide) ?_
                          refine am_istore (q := 120) (by decide) (ls2 := [(5, am_i ((zP b E (i + 1) : Int))), (4, am_i 1), (3, am_i (wof tk (zK b E i) 11 12)), (2, am_i (byt b E i)), (1, am_i 1), (0, am_r 55)]) rfl (am_tab tk_X10_qPartTold 59 rfl) rfl ?_
                          refine am_iload (q := 122) rfl (am_tab tk_X10_qPartTold 60 rfl) rfl ?_
                          refine am_iconst (q := 123) (n := (-1)) (by decide) (am_tab tk_X10_qPartTold 61 rfl) rfl ?_
                          refine am_icmp_eq (q := 126) (t := 144) (am_tab tk_X10_qPartTold 62 rfl) (by decide) rfl (fun h123 => ?_) (fun h123 => ?_)
                          · exact absurd h123 (by omega)
                          · refine am_aload_n (q := 127) rfl (am_tab tk_X10_qPartTold 63 rfl) rfl ?_
                            refine am_iload (q := 129) rfl (am_tab tk_X10_qPartTold 64 rfl) rfl ?_
                            refine am_if_eq (q := 132) (t := 137) (am_tab tk_X10_qPartTold 65 rfl) (by decide) rfl (fun h129 => ?_) (fun h129 => ?_)
                            · exact absurd h129 (by decide)
                            · refine am_bipush (q := 134) (n := 21) (by decide) rfl (am_tab tk_X10_qPartTold 66 rfl) rfl ?_
                              refine am_goto (t := 139) (am_tab tk_X10_qPartTold 67 rfl) (by decide) ?_
                              refine am_iload (q := 141) rfl (am_tab tk_X10_qPartTold 69 rfl) rfl ?_
                              refine am_callVr (q := 144) (me2 := M_X10_qOpens) (b := 55) (kb := 10) (nb := 108) (As := [am_i 21, am_i ((zP b E (i + 1) : Int))]) (rest := []) (c_qOpensY rc (ws ++ out) o (out.length : Int) (am_setN T4 55 2 (zP b E (i + 1) : Int)) hZ4.1 (hV.sc ((((frw.refl W_sc T).setN (by unfold W_sc; omega)).trans hF4).setN (by unfold W_sc; omega))) 21 (zP b E (i + 1) : Int) hZ4.2.2.2.1 (by rw [List.length_append]; omega) o6 ho2) ⟨rfl, rfl⟩ (Ls_55 hZ4.1) (by decide) ⟨Or.inl km_X10_603, kc_X10_qOpens, kn_X10, kd_X10_qOpens, ⟨(Nat.le_of_ble_eq_true rfl), (Nat.le_of_ble_eq_true rfl)⟩, ⟨(Nat.le_of_ble_eq_true rfl), (Nat.le_of_ble_eq_true rfl)⟩, (Nat.le_of_ble_eq_true rfl)⟩ ki_X10_qOpens ks_X10_qOpens rfl (am_tab tk_X10_qPartTold 70 rfl) rfl ?_
                              rintro r T5 ⟨rfl, hV5, hF5⟩
                              have hZ5 : ZS b E (i + 1) T5 := ZS.q hZ4.look hF5
                              refine am_st (st2 := []) rfl ?_
                              refine am_aload_n (q := 145) rfl (am_tab tk_X10_qPartTold 71 rfl) rfl ?_
                              refine am_bipush (q := 147) (n := 40) (by decide) rfl (am_tab tk_X10_qPartTold 72 rfl) rfl ?_
                              refine am_callVr (q := 150) (me2 := M_X10_asksSign) (b := 55) (kb := 10) (nb := 108) (As := [am_i 40]) (rest := []) (c_asksSignY b E (i + 1) T5 hZ5 40 (by decide) d) ⟨rfl, rfl⟩ (Ls_55 hZ5.1) (by decide) ⟨Or.inl km_X10_325, kc_X10_asksSign, kn_X10, kd_X10_asksSign, ⟨(Nat.le_of_ble_eq_true rfl), (Nat.le_of_ble_eq_true rfl)⟩, ⟨(Nat.le_of_ble_eq_true rfl), (Nat.le_of_ble_eq_true rfl)⟩, (Nat.le_of_ble_eq_true rfl)⟩ ki_X10_asksSign ks_X10_asksSign rfl (am_tab tk_X10_qPartTold 73 rfl) rfl ?_
                              rintro r T6 ⟨rfl, hZ6, hF6⟩
                              refine am_st (st2 := []) rfl ?_
                              refine am_goto (t := 183) (am_tab tk_X10_qPartTold 74 rfl) (by decide) ?_
                              refine am_goto (t := 2) (am_tab tk_X10_qPartTold 93 rfl) (by decide) ?_
                              have hN6 : ¬ zK b E i = 6 := by omega
                              have hN7 : ¬ zK b E (i + 1) = 6 := by omega
                              have hZn : ZS b E (i + 2) T6 := hZ6
                              have hVn := hV5.sc hF6
                              have hFa : frw W_p S T6 := hF.trans ((W_sc_p ((((frw.refl W_sc T).setN (by unfold W_sc; omega)).trans hF4).setN (by unfold W_sc; omega))).trans ((W_q_p hF5).trans (W_sc_p hF6)))
                              have h53n : T6.2.1 55 53 = tk := (hF6.2.2 55 53 (by unfold W_sc; omega)).trans ((hF5.2.2 55 53 (by unfold W_q; omega)).trans ((hF4.2.2 55 53 (by unfold W_sc; omega)).trans h53))
                              rw [show partF b E tk (f + 1) i rc ws o = partF b E tk f (i + 2) rc (21 :: ws) (o + 1) from by show (if _ then _ else _) = _; rw [if_neg c1, if_pos (by omega), if_pos d, if_neg o6]; rw [if_pos c2]] at hres
                              have hQn : QT b E tk (i + 2) rc (21 :: ws) out (o + 1) T6 := ⟨hZn, hVn, h53n, ⟨by show _ = (if _ then _ else _) + opn (ws ++ out); rw [if_pos (by omega)]; omega, by omega⟩, by rw [List.length_cons]; omega, zP_on hN7 (zP_on hN6 hQT.2.2.2.2.2)⟩
                              exact am_less (by intro q hq; simp only [List.mem_cons, List.not_mem_nil, or_false] at hq; rcases hq with rfl | rfl <;> simp) (ih2 f (i + 2) rc (21 :: ws) (o + 1) T6 (by omega) hQn hFa (by omega) hres)
                      · exact absurd h90 (by decide)
                    · exact absurd h64 (by decide)
                  · exact absurd ((sg_iff (by decide)).mp h30) c1
              · refine am_aload_n (q := 14) rfl (am_tab tk_X10_qPartTold 7 rfl) rfl ?_
                refine am_callV0 (q := 17) (me2 := M_X10_look) (b := 55) (kb := 10) (nb := 108) (As := []) (rest := []) (out := [am_i (byt b E i)]) (c_X10_look b E i T hZ.1 hZ.2.2) ⟨rfl, rfl⟩ (Ls_55 hZ.1) (by decide) ⟨Or.inl km_X10_260, kc_X10_look, kn_X10, kd_X10_look, ⟨(Nat.le_of_ble_eq_true rfl), (Nat.le_of_ble_eq_true rfl)⟩, ⟨(Nat.le_of_ble_eq_true rfl), (Nat.le_of_ble_eq_true rfl)⟩, (Nat.le_of_ble_eq_true rfl)⟩ ki_X10_look ks_X10_look rfl rfl (am_tab tk_X10_qPartTold 8 rfl) rfl ?_
                refine am_istore_n (q := 18) (by decide) (ls2 := [(2, am_i (byt b E i)), (1, am_i 1), (0, am_r 55)]) rfl (am_tab tk_X10_qPartTold 9 rfl) rfl ?_
                refine am_aload_n (q := 19) rfl (am_tab tk_X10_qPartTold 10 rfl) rfl ?_
                refine am_bipush (q := 21) (n := 11) (by decide) rfl (am_tab tk_X10_qPartTold 11 rfl) rfl ?_
                refine am_bipush (q := 23) (n := 12) (by decide) rfl (am_tab tk_X10_qPartTold 12 rfl) rfl ?_
                refine am_callVr (q := 26) (me2 := M_X10_qWordOf) (b := 55) (kb := 10) (nb := 108) (As := [am_i 11, am_i 12]) (rest := []) (c_X10_qWordOf b E i (am_setN T 55 2 (zP b E i : Int)) hZ.look 11 12 tk h53 htk) ⟨rfl, rfl⟩ (Ls_55 hZ.1) (by decide) ⟨Or.inl km_X10_600, kc_X10_qWordOf, kn_X10, kd_X10_qWordOf, ⟨(Nat.le_of_ble_eq_true rfl), (Nat.le_of_ble_eq_true rfl)⟩, ⟨(Nat.le_of_ble_eq_true rfl), (Nat.le_of_ble_eq_true rfl)⟩, (Nat.le_of_ble_eq_true rfl)⟩ ki_X10_qWordOf ks_X10_qWordOf rfl (am_tab tk_X10_qPartTold 13 rfl) rfl ?_
                rintro r τ ⟨rfl, rfl⟩
                refine am_hp2 (σ1 := (am_setN T 55 2 (zP b E i : Int))) (am_setN_N _ _ _ _ _) ?_
                refine am_st (st2 := [am_i (wof tk (zK b E i) 11 12)]) rfl ?_
                refine am_istore_n (q := 27) (by decide) (ls2 := [(3, am_i (wof tk (zK b E i) 11 12)), (2, am_i (byt b E i)), (1, am_i 1), (0, am_r 55)]) rfl (am_tab tk_X10_qPartTold 14 rfl) rfl ?_
                refine am_iload_n (q := 28) rfl (am_tab tk_X10_qPartTold 15 rfl) rfl ?_
                refine am_bipush (q := 30) (n := 40) (by decide) rfl (am_tab tk_X10_qPartTold 16 rfl) rfl ?_
                refine am_icmp_ne (q := 33) (t := 56) (am_tab tk_X10_qPartTold 17 rfl) (by decide) rfl (fun h30 => ?_) (fun h30 => ?_)
                · refine am_aload_n (q := 57) rfl (am_tab tk_X10_qPartTold 30 rfl) rfl ?_
                  refine am_aload_n (q := 58) rfl (am_tab tk_X10_qPartTold 31 rfl) rfl ?_
                  refine am_getR (q := 61) (a := 55) (k := 10) (n := 108) (j := 82) (r := some (113)) (Ls_55 hZ.1) (by decide) rfl (Lr_55_82 hZ.1) (by decide) (Or.inl kf_X10_191) (am_tab tk_X10_qPartTold 32 rfl) rfl ?_
                  refine am_callVr (q := 64) (me2 := M_X10_isHere) (b := 55) (kb := 10) (nb := 108) (As := [am_r 113]) (rest := []) (c_hereX b E i (am_setN T 55 2 (zP b E i : Int)) hZ.look 113 25 (by decide)) ⟨rfl, rfl⟩ (Ls_55 hZ.1) (by decide) ⟨Or.inl km_X10_271, kc_X10_isHere, kn_X10, kd_X10_isHere, ⟨(Nat.le_of_ble_eq_true rfl), (Nat.le_of_ble_eq_true rfl)⟩, ⟨(Nat.le_of_ble_eq_true rfl), (Nat.le_of_ble_eq_true rfl)⟩, (Nat.le_of_ble_eq_true rfl)⟩ ki_X10_isHere ks_X10_isHere rfl (am_tab tk_X10_qPartTold 33 rfl) rfl ?_
                  rintro r τ ⟨hr, hτ⟩
                  rw [decide_eq_true (show zK b E i = 128 + ((25 : Nat) : Int) from by omega)] at hr
                  rw [am_setN_N] at hτ
                  subst hτ
                  subst hr
                  refine am_st (st2 := [am_i 1]) rfl ?_
                  refine am_if_ne (q := 67) (t := 78) (am_tab tk_X10_qPartTold 34 rfl) (by decide) rfl (fun h64 => ?_) (fun h64 => ?_)
                  · refine am_aload_n (q := 79) rfl (am_tab tk_X10_qPartTold 40 rfl) rfl ?_
                    refine am_aload_n (q := 80) rfl (am_tab tk_X10_qPartTold 41 rfl) rfl ?_
                    refine am_getR (q := 83) (a := 55) (k := 10) (n := 108) (j := 82) (r := some (113)) (Ls_55 hZ.1) (by decide) rfl (Lr_55_82 hZ.1) (by decide) (Or.inl kf_X10_191) (am_tab tk_X10_qPartTold 42 rfl) rfl ?_
                    refine am_callVr (q := 86) (me2 := M_X10_takes) (b := 55) (kb := 10) (nb := 108) (As := [am_r 113]) (rest := []) (c_takesY b E i (am_setN T 55 2 (zP b E i : Int)) hZ.look 113 25 (by decide) (by omega)) ⟨rfl, rfl⟩ (Ls_55 hZ.1) (by decide) ⟨Or.inl km_X10_275, kc_X10_takes, kn_X10, kd_X10_takes, ⟨(Nat.le_of_ble_eq_true rfl), (Nat.le_of_ble_eq_true rfl)⟩, ⟨(Nat.le_of_ble_eq_true rfl), (Nat.le_of_ble_eq_true rfl)⟩, (Nat.le_of_ble_eq_true rfl)⟩ ki_X10_takes ks_X10_takes rfl (am_tab tk_X10_qPartTold 43 rfl) rfl ?_
                    rintro r T4 ⟨rfl, hZ4, hF4⟩
                    refine am_st (st2 := [am_i 1]) rfl ?_
                    refine am_istore (q := 88) (by decide) (ls2 := [(4, am_i 1), (3, am_i (wof tk (zK b E i) 11 12)), (2, am_i (byt b E i)), (1, am_i 1), (0, am_r 55)]) rfl (am_tab tk_X10_qPartTold 44 rfl) rfl ?_
                    refine am_iload (q := 90) rfl (am_tab tk_X10_qPartTold 45 rfl) rfl ?_
                    refine am_if_ne (q := 93) (t := 101) (am_tab tk_X10_qPartTold 46 rfl) (by decide) rfl (fun h90 => ?_) (fun h90 => ?_)
                    · refine am_aload_n (q := 102) rfl (am_tab tk_X10_qPartTold 51 rfl) rfl ?_
                      refine am_callV0 (q := 105) (me2 := M_X10_look) (b := 55) (kb := 10) (nb := 108) (As := []) (rest := []) (out := [am_i (byt b E (i + 1))]) (c_X10_look b E (i + 1) T4 hZ4.1 hZ4.2.2) ⟨rfl, rfl⟩ (Ls_55 hZ4.1) (by decide) ⟨Or.inl km_X10_260, kc_X10_look, kn_X10, kd_X10_look, ⟨(Nat.le_of_ble_eq_true rfl), (Nat.le_of_ble_eq_true rfl)⟩, ⟨(Nat.le_of_ble_eq_true rfl), (Nat.le_of_ble_eq_true rfl)⟩, (Nat.le_of_ble_eq_true rfl)⟩ ki_X10_look ks_X10_look rfl rfl (am_tab tk_X10_qPartTold 52 rfl) rfl ?_
                      refine am_bipush (q := 107) (n := 40) (by decide) rfl (am_tab tk_X10_qPartTold 53 rfl) rfl ?_
                      refine am_icmp_ne (q := 110) (t := 117) (am_tab tk_X10_qPartTold 54 rfl) (by decide) rfl (fun h107 => ?_) (fun h107 => ?_)
                      · refine am_iconst (q := 118) (n := (-1)) (by decide) (am_tab tk_X10_qPartTold 58 rfl) rfl ?_
                        refine am_istore (q := 120) (by decide) (ls2 := [(5, am_i ((-1))), (4, am_i 1), (3, am_i (wof tk (zK b E i) 11 12)), (2, am_i (byt b E i)), (1, am_i 1), (0, am_r 55)]) rfl (am_tab tk_X10_qPartTold 59 rfl) rfl ?_
                        refine am_iload (q := 122) rfl (am_tab tk_X10_qPartTold 60 rfl) rfl ?_
                        refine am_iconst (q := 123) (n := (-1)) (by decide) (am_tab tk_X10_qPartTold 61 rfl) rfl ?_
                        refine am_icmp_eq (q := 126) (t := 144) (am_tab tk_X10_qPartTold 62 rfl) (by decide) rfl (fun h123 => ?_) (fun h123 => ?_)
                        · refine am_aload_n (q := 145) rfl (am_tab tk_X10_qPartTold 71 rfl) rfl ?_
                          refine am_bipush (q := 147) (n := 40) (by decide) rfl (am_tab tk_X10_qPartTold 72 rfl) rfl ?_
                          refine am_callVr (q := 150) (me2 := M_X10_asksSign) (b := 55) (kb := 10) (nb := 108) (As := [am_i 40]) (rest := []) (c_asksSignN b E (i + 1) (am_setN T4 55 2 (zP b E (i + 1) : Int)) hZ4.look 40 (by decide) d) ⟨rfl, rfl⟩ (Ls_55 hZ4.1) (by decide) ⟨Or.inl km_X10_325, kc_X10_asksSign, kn_X10, kd_X10_asksSign, ⟨(Nat.le_of_ble_eq_true rfl), (Nat.le_of_ble_eq_true rfl)⟩, ⟨(Nat.le_of_ble_eq_true rfl), (Nat.le_of_ble_eq_true rfl)⟩, (Nat.le_of_ble_eq_true rfl)⟩ ki_X10_asksSign ks_X10_asksSign rfl (am_tab tk_X10_qPartTold 73 rfl) rfl ?_
                          rintro r T6 ⟨rfl, hZ6, hF6⟩
                          refine am_st (st2 := []) rfl ?_
                          refine am_goto (t := 183) (am_tab tk_X10_qPartTold 74 rfl) (by decide) ?_
                          refine am_goto (t := 2) (am_tab tk_X10_qPartTold 93 rfl) (by decide) ?_
                          refine am_iload_n (q := 3) rfl (am_tab tk_X10_qPartTold 2 rfl) rfl ?_
                          refine am_if_eq (q := 6) (t := 186) (am_tab tk_X10_qPartTold 3 rfl) (by decide) rfl (fun h3 => ?_) (fun h3 => ?_)
                          · exact absurd h3 (by decide)
                          · refine am_aload_n (q := 7) rfl (am_tab tk_X10_qPartTold 4 rfl) rfl ?_
                            refine am_getI (q := 10) (a := 55) (k := 10) (n := 108) (j := 5) (x := 1) (Ls_55 hZ6.1) (by decide) rfl hZ6.2.2.2.1 (by decide) (Or.inl kf_X10_248) (am_tab tk_X10_qPartTold 5 rfl) rfl ?_
                            refine am_if_ne (q := 13) (t := 186) (am_tab tk_X10_qPartTold 6 rfl) (by decide) rfl (fun h10 => ?_) (fun h10 => ?_)
                            · refine am_aload_n (q := 187) rfl (am_tab tk_X10_qPartTold 94 rfl) rfl ?_
                              refine am_getI (q := 190) (a := 55) (k := 10) (n := 108) (j := 5) (x := 1) (Ls_55 hZ6.1) (by decide) rfl hZ6.2.2.2.1 (by decide) (Or.inl kf_X10_248) (am_tab tk_X10_qPartTold 95 rfl) rfl ?_
                              refine am_if_eq (q := 193) (t := 194) (am_tab tk_X10_qPartTold 96 rfl) (by decide) rfl (fun h190 => ?_) (fun h190 => ?_)
                              · exact absurd h190 (by decide)
                              · refine am_vret rfl (Nat.le_of_ble_eq_true rfl) (Nat.le_of_ble_eq_true rfl) (am_tab tk_X10_qPartTold 97 rfl) ?_
                                refine hQ _ _ ?_
                                have hev : partF b E tk (f + 1) i rc ws o = .inr (1, (zP b E (i + 1) : Int)) := by show (if _ then _ else _) = _; rw [if_neg c1, if_pos (by omega), if_neg d]
                                rw [hev] at hres
                                rw [hres]
                                have hFs : frw W_sc T T6 := (((((frw.refl W_sc T).setN (by unfold W_sc; omega)).trans hF4).setN (by unfold W_sc; omega))).trans hF6
                                exact ⟨rfl, QB_of hZ6 (hV.sc hFs) (by omega) (by rw [List.length_append]; omega), hF.trans (W_sc_p hFs)⟩
                            · exact absurd h10 (by decide)
                        · exact absurd rfl h123
                      · exact absurd ((sg_iff (by decide)).mp h107) d
                    · exact absurd h90 (by decide)
                  · exact absurd h64 (by decide)
                · exact absurd ((sg_iff (by decide)).mp h30) c1
            · by_cases c3 : zK b E i = 154
              · by_cases d : zK b E (i + 1) = 40
                · by_cases o6 : o = 6
                  · refine am_aload_n (q := 14) rfl (am_tab tk_X10_qPartTold 7 rfl) rfl ?_
                    refine am_callV0 (q := 17) (me2 := M_X10_look) (b := 55) (kb := 10) (nb := 108) (As := []) (rest := []) (out := [am_i (byt b E i)]) (c_X10_look b E i T hZ.1 hZ.2.2) ⟨rfl, rfl⟩ (Ls_55 hZ.1) (by decide) ⟨Or.inl km_X10_260, kc_X10_look, kn_X10, kd_X10_look, ⟨(Nat.le_of_ble_eq_true rfl), (Nat.le_of_ble_eq_true rfl)⟩, ⟨(Nat.le_of_ble_eq_true rfl), (Nat.le_of_ble_eq_true rfl)⟩, (Nat.le_of_ble_eq_true rfl)⟩ ki_X10_look ks_X10_look rfl rfl (am_tab tk_X10_qPartTold 8 rfl) rfl ?_
                    refine am_istore_n (q := 18) (by decide) (ls2 := [(2, am_i (byt b E i)), (1, am_i 1), (0, am_r 55)]) rfl (am_tab tk_X10_qPartTold 9 rfl) rfl ?_
                    refine am_aload_n (q := 19) rfl (am_tab tk_X10_qPartTold 10 rfl) rfl ?_
                    refine am_bipush (q := 21) (n := 11) (by decide) rfl (am_tab tk_X10_qPartTold 11 rfl) rfl ?_
                    refine am_bipush (q := 23) (n := 12) (by decide) rfl (am_tab tk_X10_qPartTold 12 rfl) rfl ?_
                    refine am_callVr (q := 26) (me2 := M_X10_qWordOf) (b := 55) (kb := 10) (nb := 108) (As := [am_i 11, am_i 12]) (rest := []) (c_X10_qWordOf b E i (am_setN T 55 2 (zP b E i : Int)) hZ.look 11 12 tk h53 htk) ⟨rfl, rfl⟩ (Ls_55 hZ.1) (by decide) ⟨Or.inl km_X10_600, kc_X10_qWordOf, kn_X10, kd_X10_qWordOf, ⟨(Nat.le_of_ble_eq_true rfl), (Nat.le_of_ble_eq_true rfl)⟩, ⟨(Nat.le_of_ble_eq_true rfl), (Nat.le_of_ble_eq_true rfl)⟩, (Nat.le_of_ble_eq_true rfl)⟩ ki_X10_qWordOf ks_X10_qWordOf rfl (am_tab tk_X10_qPartTold 13 rfl) rfl ?_
                    rintro r τ ⟨rfl, rfl⟩
                    refine am_hp2 (σ1 := (am_setN T 55 2 (zP b E i : Int))) (am_setN_N _ _ _ _ _) ?_
                    refine am_st (st2 := [am_i (wof tk (zK b E i) 11 12)]) rfl ?_
                    refine am_istore_n (q := 27) (by decide) (ls2 := [(3, am_i (wof tk (zK b E i) 11 12)), (2, am_i (byt b E i)), (1, am_i 1), (0, am_r 55)]) rfl (am_tab tk_X10_qPartTold 14 rfl) rfl ?_
                    refine am_iload_n (q := 28) rfl (am_tab tk_X10_qPartTold 15 rfl) rfl ?_
                    refine am_bipush (q := 30) (n := 40) (by decide) rfl (am_tab tk_X10_qPartTold 16 rfl) rfl ?_
                    refine am_icmp_ne (q := 33) (t := 56) (am_tab tk_X10_qPartTold 17 rfl) (by decide) rfl (fun h30 => ?_) (fun h30 => ?_)
                    · refine am_aload_n (q := 57) rfl (am_tab tk_X10_qPartTold 30 rfl) rfl ?_
                      refine am_aload_n (q := 58) rfl (am_tab tk_X10_qPartTold 31 rfl) rfl ?_
                      refine am_getR (q := 61) (a := 55) (k := 10) (n := 108) (j := 82) (r := some (113)) (Ls_55 hZ.1) (by decide) rfl (Lr_55_82 hZ.1) (by decide) (Or.inl kf_X10_191) (am_tab tk_X10_qPartTold 32 rfl) rfl ?_
                      refine am_callVr (q := 64) (me2 := M_X10_isHere) (b := 55) (kb := 10) (nb := 108) (As := [am_r 113]) (rest := []) (c_hereX b E i (am_setN T 55 2 (zP b E i : Int)) hZ.look 113 25 (by decide)) ⟨rfl, rfl⟩ (Ls_55 hZ.1) (by decide) ⟨Or.inl km_X10_271, kc_X10_isHere, kn_X10, kd_X10_isHere, ⟨(Nat.le_of_ble_eq_true rfl), (Nat.le_of_ble_eq_true rfl)⟩, ⟨(Nat.le_of_ble_eq_true rfl), (Nat.le_of_ble_eq_true rfl)⟩, (Nat.le_of_ble_eq_true rfl)⟩ ki_X10_isHere ks_X10_isHere rfl (am_tab tk_X10_qPartTold 33 rfl) rfl ?_
                      rintro r τ ⟨hr, hτ⟩
                      rw [decide_eq_false (show ¬ zK b E i = 128 + ((25 : Nat) : Int) from by omega)] at hr
                      rw [am_setN_N] at hτ
                      subst hτ
                      subst hr
                      refine am_st (st2 := [am_i 0]) rfl ?_
                      refine am_if_ne (q := 67) (t := 78) (am_tab tk_X10_qPartTold 34 rfl) (by decide) rfl (fun h64 => ?_) (fun h64 => ?_)
                      · exact absurd h64 (by decide)
                      · refine am_aload_n (q := 68) rfl (am_tab tk_X10_qPartTold 35 rfl) rfl ?_
                        refine am_aload_n (q := 69) rfl (am_tab tk_X10_qPartTold 36 rfl) rfl ?_
                        refine am_getR (q := 72) (a := 55) (k := 10) (n := 108) (j := 83) (r := some (114)) (Ls_55 hZ.1) (by decide) rfl (Lr_55_83 hZ.1) (by decide) (Or.inl kf_X10_194) (am_tab tk_X10_qPartTold 37 rfl) rfl ?_
                        refine am_callVr (q := 75) (me2 := M_X10_isHere) (b := 55) (kb := 10) (nb := 108) (As := [am_r 114]) (rest := []) (c_hereX b E i (am_setN T 55 2 (zP b E i : Int)) hZ.look 114 26 (by decide)) ⟨rfl, rfl⟩ (Ls_55 hZ.1) (by decide) ⟨Or.inl km_X10_271, kc_X10_isHere, kn_X10, kd_X10_isHere, ⟨(Nat.le_of_ble_eq_true rfl), (Nat.le_of_ble_eq_true rfl)⟩, ⟨(Nat.le_of_ble_eq_true rfl), (Nat.le_of_ble_eq_true rfl)⟩, (Nat.le_of_ble_eq_true rfl)⟩ ki_X10_isHere ks_X10_isHere rfl (am_tab tk_X10_qPartTold 38 rfl) rfl ?_
                        rintro r τ ⟨hr, hτ⟩
                        rw [decide_eq_true (show zK b E i = 128 + ((26 : Nat) : Int) from by omega)] at hr
                        rw [am_setN_N] at hτ
                        subst hτ
                        subst hr
                        refine am_st (st2 := [am_i 1]) rfl ?_
                        refine am_if_eq (q := 78) (t := 153) (am_tab tk_X10_qPartTold 39 rfl) (by decide) rfl (fun h75 => ?_) (fun h75 => ?_)
                        · exact absurd h75 (by decide)
                        · refine am_aload_n (q := 79) rfl (am_tab tk_X10_qPartTold 40 rfl) rfl ?_
                          refine am_aload_n (q := 80) rfl (am_tab tk_X10_qPartTold 41 rfl) rfl ?_
                          refine am_getR (q := 83) (a := 55) (k := 10) (n := 108) (j := 82) (r := some (113)) (Ls_55 hZ.1) (by decide) rfl (Lr_55_82 hZ.1) (by decide) (Or.inl kf_X10_191) (am_tab tk_X10_qPartTold 42 rfl) rfl ?_
                          refine am_callVr (q := 86) (me2 := M_X10_takes) (b := 55) (kb := 10) (nb := 108) (As := [am_r 113]) (rest := []) (c_takesN b E i (am_setN T 55 2 (zP b E i : Int)) hZ.look 113 25 (by decide) (by omega)) ⟨rfl, rfl⟩ (Ls_55 hZ.1) (by decide) ⟨Or.inl km_X10_275, kc_X10_takes, kn_X10, kd_X10_takes, ⟨(Nat.le_of_ble_eq_true rfl), (Nat.le_of_ble_eq_true rfl)⟩, ⟨(Nat.le_of_ble_eq_true rfl), (Nat.le_of_ble_eq_true rfl)⟩, (Nat.le_of_ble_eq_true rfl)⟩ ki_X10_takes ks_X10_takes rfl (am_tab tk_X10_qPartTold 43 rfl) rfl ?_
                          rintro r τ ⟨rfl, rfl⟩
                          refine am_hp2 (σ1 := (am_setN T 55 2 (zP b E i : Int))) (am_setN_N _ _ _ _ _) ?_
                          refine am_st (st2 := [am_i 0]) rfl ?_
                          refine am_istore (q := 88) (by decide) (ls2 := [(4, am_i 0), (3, am_i (wof tk (zK b E i) 11 12)), (2, am_i (byt b E i)), (1, am_i 1), (0, am_r 55)]) rfl (am_tab tk_X10_qPartTold 44 rfl) rfl ?_
                          refine am_iload (q := 90) rfl (am_tab tk_X10_qPartTold 45 rfl) rfl ?_
                          refine am_if_ne (q := 93) (t := 101) (am_tab tk_X10_qPartTold 46 rfl) (by decide) rfl (fun h90 => ?_) (fun h90 => ?_)
                          · exact absurd h90 (by decide)
                          · refine am_aload_n (q := 94) rfl (am_tab tk_X10_qPartTold 47 rfl) rfl ?_
                            refine am_aload_n (q := 95) rfl (am_tab tk_X10_qPartTold 48 rfl) rfl ?_
                            refine am_getR (q := 98) (a := 55) (k := 10) (n := 108) (j := 83) (r := some (114)) (Ls_55 hZ.1) (by decide) rfl (Lr_55_83 hZ.1) (by decide) (Or.inl kf_X10_194) (am_tab tk_X10_qPartTold 49 rfl) rfl ?_
                            refine am_callVr (q := 101) (me2 := M_X10_asks) (b := 55) (kb := 10) (nb := 108) (As := [am_r 114]) (rest := []) (c_asksY b E i (am_setN T 55 2 (zP b E i : Int)) hZ.look 114 26 (by decide) (by omega)) ⟨rfl, rfl⟩ (Ls_55 hZ.1) (by decide) ⟨Or.inl km_X10_317, kc_X10_asks, kn_X10, kd_X10_asks, ⟨(Nat.le_of_ble_eq_true rfl), (Nat.le_of_ble_eq_true rfl)⟩, ⟨(Nat.le_of_ble_eq_true rfl), (Nat.le_of_ble_eq_true rfl)⟩, (Nat.le_of_ble_eq_true rfl)⟩ ki_X10_asks ks_X10_asks rfl (am_tab tk_X10_qPartTold 50 rfl) rfl ?_
                            rintro r T4 ⟨rfl, hZ4, hF4⟩
                            refine am_st (st2 := []) rfl ?_
                            refine am_aload_n (q := 102) rfl (am_tab tk_X10_qPartTold 51 rfl) rfl ?_
                            refine am_callV0 (q := 105) (me2 := M_X10_look) (b := 55) (kb := 10) (nb := 108) (As := []) (rest := []) (out := [am_i (byt b E (i + 1))]) (c_X10_look b E (i + 1) T4 hZ4.1 hZ4.2.2) ⟨rfl, rfl⟩ (Ls_55 hZ4.1) (by decide) ⟨Or.inl km_X10_260, kc_X10_look, kn_X10, kd_X10_look, ⟨(Nat.le_of_ble_eq_true rfl), (Nat.le_of_ble_eq_true rfl)⟩, ⟨(Nat.le_of_ble_eq_true rfl), (Nat.le_of_ble_eq_true rfl)⟩, (Nat.le_of_ble_eq_true rfl)⟩ ki_X10_look ks_X10_look rfl rfl (am_tab tk_X10_qPartTold 52 rfl) rfl ?_
                            refine am_bipush (q := 107) (n := 40) (by decide) rfl (am_tab tk_X10_qPartTold 53 rfl) rfl ?_
                            refine am_icmp_ne (q := 110) (t := 117) (am_tab tk_X10_qPartTold 54 rfl) (by decide) rfl (fun h107 => ?_) (fun h107 => ?_)
                            · exact absurd ((sg_iff (by decide)).mpr d) h107
                            · refine am_aload_n (q := 111) rfl (am_tab tk_X10_qPartTold 55 rfl) rfl ?_
                              refine am_getI (q := 114) (a := 55) (k := 10) (n := 108) (j := 2) (x := (zP b E (i + 1) : Int)) (Ls_55 hZ4.1) (by decide) rfl rfl (by decide) (Or.inl kf_X10_254) (am_tab tk_X10_qPartTold 56 rfl) rfl ?_
                              refine am_goto (t := 118) (am_tab tk_X10_qPartTold 57 rfl) (by decide) ?_
                              refine am_istore (q := 120) (by decide) (ls2 := [(5, am_i ((zP b E (i + 1) : Int))), (4, am_i 0), (3, am_i (wof tk (zK b E i) 11 12)), (2, am_i (byt b E i)), (1, am_i 1), (0, am_r 55)]) rfl (am_tab tk_X10_qPartTold 59 rfl) rfl ?_
                              refine am_iload (q := 122) rfl (am_tab tk_X10_qPartTold 60 rfl) rfl ?_
                              refine am_iconst (q := 123) (n := (-1)) (by decide) (am_tab tk_X10_qPartTold 61 rfl) rfl ?_
                              refine am_icmp_eq (q := 126) (t := 144) (am_tab tk_X10_qPartTold 62 rfl) (by decide) rfl (fun h123 => ?_) (fun h123 => ?_)
                              · exact absurd h123 (by omega)
                              · refine am_aload_n (q := 127) rfl (am_tab tk_X10_qPartTold 63 rfl) rfl ?_
                                refine am_iload (q := 129) rfl (am_tab tk_X10_qPartTold 64 rfl) rfl ?_
                                refine am_if_eq (q := 132) (t := 137) (am_tab tk_X10_qPartTold 65 rfl) (by decide) rfl (fun h129 => ?_) (fun h129 => ?_)
                                · refine am_bipush (q := 139) (n := 22) (by decide) rfl (am_tab tk_X10_qPartTold 68 rfl) rfl ?_
                                  refine am_iload (q := 141) rfl (am_tab tk_X10_qPartTold 69 rfl) rfl ?_
                                  refine am_callV0 (q := 144) (me2 := M_X10_qOpens) (b := 55) (kb := 10) (nb := 108) (As := [am_i 22, am_i ((zP b E (i + 1) : Int))]) (rest := []) (out := []) (c_qOpensN rc (ws ++ out) o (out.length : Int) (am_setN T4 55 2 (zP b E (i + 1) : Int)) hZ4.1 (hV.sc ((((frw.refl W_sc T).setN (by unfold W_sc; omega)).trans hF4).setN (by unfold W_sc; omega))) 22 (zP b E (i + 1) : Int) hZ4.2.2.2.1 o6) ⟨rfl, rfl⟩ (Ls_55 hZ4.1) (by decide) ⟨Or.inl km_X10_603, kc_X10_qOpens, kn_X10, kd_X10_qOpens, ⟨(Nat.le_of_ble_eq_true rfl), (Nat.le_of_ble_eq_true rfl)⟩, ⟨(Nat.le_of_ble_eq_true rfl), (Nat.le_of_ble_eq_true rfl)⟩, (Nat.le_of_ble_eq_true rfl)⟩ ki_X10_qOpens ks_X10_qOpens rfl rfl (am_tab tk_X10_qPartTold 70 rfl) rfl ?_
                                  refine am_aload_n (q := 145) rfl (am_tab tk_X10_qPartTold 71 rfl) rfl ?_
                                  have hFb : frw W_sc T4 (am_setN (am_setN (am_setN T4 55 2 (zP b E (i + 1) : Int)) 55 5 4) 55 6 (zP b E (i + 1) : Int)) := by repeat (first | exact frw.refl _ T4 | refine frw.setN ?_ (by unfold W_sc; omega))
                                  have hZbad : ZB b E 4 (zP b E (i + 1) : Int) (am_setN (am_setN (am_setN T4 55 2 (zP b E (i + 1) : Int)) 55 5 4) 55 6 (zP b E (i + 1) : Int)) := ZB_of hZ4.1 hZ4.2.1 hFb hZ4.2.2.1 rfl (by decide) rfl (by first | (show 0 ≤ (zP b E (i + 1) : Int) ∧ (zP b E (i + 1) : Int) ≤ _; have := zP_rng b E (i + 1); omega) | (show 0 ≤ (zP b E (i + 1) : Int) + 1 ∧ (zP b E (i + 1) : Int) + 1 ≤ _; omega))
                                  refine am_bipush (q := 147) (n := 40) (by decide) rfl (am_tab tk_X10_qPartTold 72 rfl) rfl ?_
                                  refine am_callV0 (q := 150) (me2 := M_X10_asksSign) (b := 55) (kb := 10) (nb := 108) (As := [am_i 40]) (rest := []) (out := []) (c_asksSign0 b E 4 (zP b E (i + 1) : Int) (am_setN (am_setN (am_setN T4 55 2 (zP b E (i + 1) : Int)) 55 5 4) 55 6 (zP b E (i + 1) : Int)) hZbad 40) ⟨rfl, rfl⟩ (Ls_55 hZ4.1) (by decide) ⟨Or.inl km_X10_325, kc_X10_asksSign, kn_X10, kd_X10_asksSign, ⟨(Nat.le_of_ble_eq_true rfl), (Nat.le_of_ble_eq_true rfl)⟩, ⟨(Nat.le_of_ble_eq_true rfl), (Nat.le_of_ble_eq_true rfl)⟩, (Nat.le_of_ble_eq_true rfl)⟩ ki_X10_asksSign ks_X10_asksSign rfl rfl (am_tab tk_X10_qPartTold 73 rfl) rfl ?_
                                  refine am_goto (t := 183) (am_tab tk_X10_qPartTold 74 rfl) (by decide) ?_
                                  refine am_goto (t := 2) (am_tab tk_X10_qPartTold 93 rfl) (by decide) ?_
                                  refine am_iload_n (q := 3) rfl (am_tab tk_X10_qPartTold 2 rfl) rfl ?_
                                  refine am_if_eq (q := 6) (t := 186) (am_tab tk_X10_qPartTold 3 rfl) (by decide) rfl (fun h3 => ?_) (fun h3 => ?_)
                                  · exact absurd h3 (by decide)
                                  · refine am_aload_n (q := 7) rfl (am_tab tk_X10_qPartTold 4 rfl) rfl ?_
                                    refine am_getI (q := 10) (a := 55) (k := 10) (n := 108) (j := 5) (x := 4) (Ls_55 hZ4.1) (by decide) rfl rfl (by decide) (Or.inl kf_X10_248) (am_tab tk_X10_qPartTold 5 rfl) rfl ?_
                                    refine am_if_ne (q := 13) (t := 186) (am_tab tk_X10_qPartTold 6 rfl) (by decide) rfl (fun h10 => ?_) (fun h10 => ?_)
                                    · refine am_aload_n (q := 187) rfl (am_tab tk_X10_qPartTold 94 rfl) rfl ?_
                                      refine am_getI (q := 190) (a := 55) (k := 10) (n := 108) (j := 5) (x := 4) (Ls_55 hZ4.1) (by decide) rfl rfl (by decide) (Or.inl kf_X10_248) (am_tab tk_X10_qPartTold 95 rfl) rfl ?_
                                      refine am_if_eq (q := 193) (t := 194) (am_tab tk_X10_qPartTold 96 rfl) (by decide) rfl (fun h190 => ?_) (fun h190 => ?_)
                                      · exact absurd h190 (by decide)
                                      · refine am_vret rfl (Nat.le_of_ble_eq_true rfl) (Nat.le_of_ble_eq_true rfl) (am_tab tk_X10_qPartTold 97 rfl) ?_
                                        refine hQ _ _ ?_
                                        have hev : partF b E tk (f + 1) i rc ws o = .inr (4, (zP b E (i + 1) : Int)) := by show (if _ then _ else _) = _; rw [if_neg c1, if_pos (by omega), if_pos d, if_pos o6]
                                        rw [hev] at hres
                                        rw [hres]
                                        have hFb : frw W_sc T4 (am_setN (am_setN (am_setN T4 55 2 (zP b E (i + 1) : Int)) 55 5 4) 55 6 (zP b E (i + 1) : Int)) := by repeat (first | exact frw.refl _ T4 | refine frw.setN ?_ (by unfold W_sc; omega))
                                        have hZbad : ZB b E 4 (zP b E (i + 1) : Int) (am_setN (am_setN (am_setN T4 55 2 (zP b E (i + 1) : Int)) 55 5 4) 55 6 (zP b E (i + 1) : Int)) := ZB_of hZ4.1 hZ4.2.1 hFb hZ4.2.2.1 rfl (by decide) rfl (by first | (show 0 ≤ (zP b E (i + 1) : Int) ∧ (zP b E (i + 1) : Int) ≤ _; have := zP_rng b E (i + 1); omega) | (show 0 ≤ (zP b E (i + 1) : Int) + 1 ∧ (zP b E (i + 1) : Int) + 1 ≤ _; omega))
                                        have hFs : frw W_sc T (am_setN (am_setN (am_setN T4 55 2 (zP b E (i + 1) : Int)) 55 5 4) 55 6 (zP b E (i + 1) : Int)) := (((frw.refl W_sc T).setN (by unfold W_sc; omega)).trans hF4).trans hFb
                                        exact ⟨rfl, QB_of hZbad (hV.sc hFs) (by omega) (by rw [List.length_append]; omega), hF.trans (W_sc_p hFs)⟩
                                    · exact absurd h10 (by decide)
                                · exact absurd h129 (by decide)
                    · exact absurd ((sg_iff (by decide)).mp h30) c1
                  · refine am_aload_n (q := 14) rfl (am_tab tk_X10_qPartTold 7 rfl) rfl ?_
                    refine am_callV0 (q := 17) (me2 := M_X10_look) (b := 55) (kb := 10) (nb := 108) (As := []) (rest := []) (out := [am_i (byt b E i)]) (c_X10_look b E i T hZ.1 hZ.2.2) ⟨rfl, rfl⟩ (Ls_55 hZ.1) (by decide) ⟨Or.inl km_X10_260, kc_X10_look, kn_X10, kd_X10_look, ⟨(Nat.le_of_ble_eq_true rfl), (Nat.le_of_ble_eq_true rfl)⟩, ⟨(Nat.le_of_ble_eq_true rfl), (Nat.le_of_ble_eq_true rfl)⟩, (Nat.le_of_ble_eq_true rfl)⟩ ki_X10_look ks_X10_look rfl rfl (am_tab tk_X10_qPartTold 8 rfl) rfl ?_
                    refine am_istore_n (q := 18) (by decide) (ls2 := [(2, am_i (byt b E i)), (1, am_i 1), (0, am_r 55)]) rfl (am_tab tk_X10_qPartTold 9 rfl) rfl ?_
                    refine am_aload_n (q := 19) rfl (am_tab tk_X10_qPartTold 10 rfl) rfl ?_
                    refine am_bipush (q := 21) (n := 11) (by decide) rfl (am_tab tk_X10_qPartTold 11 rfl) rfl ?_
                    refine am_bipush (q := 23) (n := 12) (by decide) rfl (am_tab tk_X10_qPartTold 12 rfl) rfl ?_
                    refine am_callVr (q := 26) (me2 := M_X10_qWordOf) (b := 55) (kb := 10) (nb := 108) (As := [am_i 11, am_i 12]) (rest := []) (c_X10_qWordOf b E i (am_setN T 55 2 (zP b E i : Int)) hZ.look 11 12 tk h53 htk) ⟨rfl, rfl⟩ (Ls_55 hZ.1) (by decide) ⟨Or.inl km_X10_600, kc_X10_qWordOf, kn_X10, kd_X10_qWordOf, ⟨(Nat.le_of_ble_eq_true rfl), (Nat.le_of_ble_eq_true rfl)⟩, ⟨(Nat.le_of_ble_eq_true rfl), (Nat.le_of_ble_eq_true rfl)⟩, (Nat.le_of_ble_eq_true rfl)⟩ ki_X10_qWordOf ks_X10_qWordOf rfl (am_tab tk_X10_qPartTold 13 rfl) rfl ?_
                    rintro r τ ⟨rfl, rfl⟩
                    refine am_hp2 (σ1 := (am_setN T 55 2 (zP b E i : Int))) (am_setN_N _ _ _ _ _) ?_
                    refine am_st (st2 := [am_i (wof tk (zK b E i) 11 12)]) rfl ?_
                    refine am_istore_n (q := 27) (by decide) (ls2 := [(3, am_i (wof tk (zK b E i) 11 12)), (2, am_i (byt b E i)), (1, am_i 1), (0, am_r 55)]) rfl (am_tab tk_X10_qPartTold 14 rfl) rfl ?_
                    refine am_iload_n (q := 28) rfl (am_tab tk_X10_qPartTold 15 rfl) rfl ?_
                    refine am_bipush (q := 30) (n := 40) (by decide) rfl (am_tab tk_X10_qPartTold 16 rfl) rfl ?_
                    refine am_icmp_ne (q := 33) (t := 56) (am_tab tk_X10_qPartTold 17 rfl) (by decide) rfl (fun h30 => ?_) (fun h30 => ?_)
                    · refine am_aload_n (q := 57) rfl (am_tab tk_X10_qPartTold 30 rfl) rfl ?_
                      refine am_aload_n (q := 58) rfl (am_tab tk_X10_qPartTold 31 rfl) rfl ?_
                      refine am_getR (q := 61) (a := 55) (k := 10) (n := 108) (j := 82) (r := some (113)) (Ls_55 hZ.1) (by decide) rfl (Lr_55_82 hZ.1) (by decide) (Or.inl kf_X10_191) (am_tab tk_X10_qPartTold 32 rfl) rfl ?_
                      refine am_callVr (q := 64) (me2 := M_X10_isHere) (b := 55) (kb := 10) (nb := 108) (As := [am_r 113]) (rest := []) (c_hereX b E i (am_setN T 55 2 (zP b E i : Int)) hZ.look 113 25 (by decide)) ⟨rfl, rfl⟩ (Ls_55 hZ.1) (by decide) ⟨Or.inl km_X10_271, kc_X10_isHere, kn_X10, kd_X10_isHere, ⟨(Nat.le_of_ble_eq_true rfl), (Nat.le_of_ble_eq_true rfl)⟩, ⟨(Nat.le_of_ble_eq_true rfl), (Nat.le_of_ble_eq_true rfl)⟩, (Nat.le_of_ble_eq_true rfl)⟩ ki_X10_isHere ks_X10_isHere rfl (am_tab tk_X10_qPartTold 33 rfl) rfl ?_
                      rintro r τ ⟨hr, hτ⟩
                      rw [decide_eq_false (show ¬ zK b E i = 128 + ((25 : Nat) : Int) from by omega)] at hr
                      rw [am_setN_N] at hτ
                      subst hτ
                      subst hr
                      refine am_st (st2 := [am_i 0]) rfl ?_
                      refine am_if_ne (q := 67) (t := 78) (am_tab tk_X10_qPartTold 34 rfl) (by decide) rfl (fun h64 => ?_) (fun h64 => ?_)
                      · exact absurd h64 (by decide)
                      · refine am_aload_n (q := 68) rfl (am_tab tk_X10_qPartTold 35 rfl) rfl ?_
                        refine am_aload_n (q := 69) rfl (am_tab tk_X10_qPartTold 36 rfl) rfl ?_
                        refine am_getR (q := 72) (a := 55) (k := 10) (n := 108) (j := 83) (r := some (114)) (Ls_55 hZ.1) (by decide) rfl (Lr_55_83 hZ.1) (by decide) (Or.inl kf_X10_194) (am_tab tk_X10_qPartTold 37 rfl) rfl ?_
                        refine am_callVr (q := 75) (me2 := M_X10_isHere) (b := 55) (kb := 10) (nb := 108) (As := [am_r 114]) (rest := []) (c_hereX b E i (am_setN T 55 2 (zP b E i : Int)) hZ.look 114 26 (by decide)) ⟨rfl, rfl⟩ (Ls_55 hZ.1) (by decide) ⟨Or.inl km_X10_271, kc_X10_isHere, kn_X10, kd_X10_isHere, ⟨(Nat.le_of_ble_eq_true rfl), (Nat.le_of_ble_eq_true rfl)⟩, ⟨(Nat.le_of_ble_eq_true rfl), (Nat.le_of_ble_eq_true rfl)⟩, (Nat.le_of_ble_eq_true rfl)⟩ ki_X10_isHere ks_X10_isHere rfl (am_tab tk_X10_qPartTold 38 rfl) rfl ?_
                        rintro r τ ⟨hr, hτ⟩
                        rw [decide_eq_true (show zK b E i = 128 + ((26 : Nat) : Int) from by omega)] at hr
                        rw [am_setN_N] at hτ
                        subst hτ
                        subst hr
                        refine am_st (st2 := [am_i 1]) rfl ?_
                        refine am_if_eq (q := 78) (t := 153) (am_tab tk_X10_qPartTold 39 rfl) (by decide) rfl (fun h75 => ?_) (fun h75 => ?_)
                        · exact absurd h75 (by decide)
                        · refine am_aload_n (q := 79) rfl (am_tab tk_X10_qPartTold 40 rfl) rfl ?_
                          refine am_aload_n (q := 80) rfl (am_tab tk_X10_qPartTold 41 rfl) rfl ?_
                          refine am_getR (q := 83) (a := 55) (k := 10) (n := 108) (j := 82) (r := some (113)) (Ls_55 hZ.1) (by decide) rfl (Lr_55_82 hZ.1) (by decide) (Or.inl kf_X10_191) (am_tab tk_X10_qPartTold 42 rfl) rfl ?_
                          refine am_callVr (q := 86) (me2 := M_X10_takes) (b := 55) (kb := 10) (nb := 108) (As := [am_r 113]) (rest := []) (c_takesN b E i (am_setN T 55 2 (zP b E i : Int)) hZ.look 113 25 (by decide) (by omega)) ⟨rfl, rfl⟩ (Ls_55 hZ.1) (by decide) ⟨Or.inl km_X10_275, kc_X10_takes, kn_X10, kd_X10_takes, ⟨(Nat.le_of_ble_eq_true rfl), (Nat.le_of_ble_eq_true rfl)⟩, ⟨(Nat.le_of_ble_eq_true rfl), (Nat.le_of_ble_eq_true rfl)⟩, (Nat.le_of_ble_eq_true rfl)⟩ ki_X10_takes ks_X10_takes rfl (am_tab tk_X10_qPartTold 43 rfl) rfl ?_
                          rintro r τ ⟨rfl, rfl⟩
                          refine am_hp2 (σ1 := (am_setN T 55 2 (zP b E i : Int))) (am_setN_N _ _ _ _ _) ?_
                          refine am_st (st2 := [am_i 0]) rfl ?_
                          refine am_istore (q := 88) (by decide) (ls2 := [(4, am_i 0), (3, am_i (wof tk (zK b E i) 11 12)), (2, am_i (byt b E i)), (1, am_i 1), (0, am_r 55)]) rfl (am_tab tk_X10_qPartTold 44 rfl) rfl ?_
                          refine am_iload (q := 90) rfl (am_tab tk_X10_qPartTold 45 rfl) rfl ?_
                          refine am_if_ne (q := 93) (t := 101) (am_tab tk_X10_qPartTold 46 rfl) (by decide) rfl (fun h90 => ?_) (fun h90 => ?_)
                          · exact absurd h90 (by decide)
                          · refine am_aload_n (q := 94) rfl (am_tab tk_X10_qPartTold 47 rfl) rfl ?_
                            refine am_aload_n (q := 95) rfl (am_tab tk_X10_qPartTold 48 rfl) rfl ?_
                            refine am_getR (q := 98) (a := 55) (k := 10) (n := 108) (j := 83) (r := some (114)) (Ls_55 hZ.1) (by decide) rfl (Lr_55_83 hZ.1) (by decide) (Or.inl kf_X10_194) (am_tab tk_X10_qPartTold 49 rfl) rfl ?_
                            refine am_callVr (q := 101) (me2 := M_X10_asks) (b := 55) (kb := 10) (nb := 108) (As := [am_r 114]) (rest := []) (c_asksY b E i (am_setN T 55 2 (zP b E i : Int)) hZ.look 114 26 (by decide) (by omega)) ⟨rfl, rfl⟩ (Ls_55 hZ.1) (by decide) ⟨Or.inl km_X10_317, kc_X10_asks, kn_X10, kd_X10_asks, ⟨(Nat.le_of_ble_eq_true rfl), (Nat.le_of_ble_eq_true rfl)⟩, ⟨(Nat.le_of_ble_eq_true rfl), (Nat.le_of_ble_eq_true rfl)⟩, (Nat.le_of_ble_eq_true rfl)⟩ ki_X10_asks ks_X10_asks rfl (am_tab tk_X10_qPartTold 50 rfl) rfl ?_
                            rintro r T4 ⟨rfl, hZ4, hF4⟩
                            refine am_st (st2 := []) rfl ?_
                            refine am_aload_n (q := 102) rfl (am_tab tk_X10_qPartTold 51 rfl) rfl ?_
                            refine am_callV0 (q := 105) (me2 := M_X10_look) (b := 55) (kb := 10) (nb := 108) (As := []) (rest := []) (out := [am_i (byt b E (i + 1))]) (c_X10_look b E (i + 1) T4 hZ4.1 hZ4.2.2) ⟨rfl, rfl⟩ (Ls_55 hZ4.1) (by decide) ⟨Or.inl km_X10_260, kc_X10_look, kn_X10, kd_X10_look, ⟨(Nat.le_of_ble_eq_true rfl), (Nat.le_of_ble_eq_true rfl)⟩, ⟨(Nat.le_of_ble_eq_true rfl), (Nat.le_of_ble_eq_true rfl)⟩, (Nat.le_of_ble_eq_true rfl)⟩ ki_X10_look ks_X10_look rfl rfl (am_tab tk_X10_qPartTold 52 rfl) rfl ?_
                            refine am_bipush (q := 107) (n := 40) (by decide) rfl (am_tab tk_X10_qPartTold 53 rfl) rfl ?_
                            refine am_icmp_ne (q := 110) (t := 117) (am_tab tk_X10_qPartTold 54 rfl) (by decide) rfl (fun h107 => ?_) (fun h107 => ?_)
                            · exact absurd ((sg_iff (by decide)).mpr d) h107
                            · refine am_aload_n (q := 111) rfl (am_tab tk_X10_qPartTold 55 rfl) rfl ?_
                              refine am_getI (q := 114) (a := 55) (k := 10) (n := 108) (j := 2) (x := (zP b E (i + 1) : Int)) (Ls_55 hZ4.1) (by decide) rfl rfl (by decide) (Or.inl kf_X10_254) (am_tab tk_X10_qPartTold 56 rfl) rfl ?_
                              refine am_goto (t := 118) (am_tab tk_X10_qPartTold 57 rfl) (by decide) ?_
                              refine am_istore (q := 120) (by decide) (ls2 := [(5, am_i ((zP b E (i + 1) : Int))), (4, am_i 0), (3, am_i (wof tk (zK b E i) 11 12)), (2, am_i (byt b E i)), (1, am_i 1), (0, am_r 55)]) rfl (am_tab tk_X10_qPartTold 59 rfl) rfl ?_
                              refine am_iload (q := 122) rfl (am_tab tk_X10_qPartTold 60 rfl) rfl ?_
                              refine am_iconst (q := 123) (n := (-1)) (by decide) (am_tab tk_X10_qPartTold 61 rfl) rfl ?_
                              refine am_icmp_eq (q := 126) (t := 144) (am_tab tk_X10_qPartTold 62 rfl) (by decide) rfl (fun h123 => ?_) (fun h123 => ?_)
                              · exact absurd h123 (by omega)
                              · refine am_aload_n (q := 127) rfl (am_tab tk_X10_qPartTold 63 rfl) rfl ?_
                                refine am_iload (q := 129) rfl (am_tab tk_X10_qPartTold 64 rfl) rfl ?_
                                refine am_if_eq (q := 132) (t := 137) (am_tab tk_X10_qPartTold 65 rfl) (by decide) rfl (fun h129 => ?_) (fun h129 => ?_)
                                · refine am_bipush (q := 139) (n := 22) (by decide) rfl (am_tab tk_X10_qPartTold 68 rfl) rfl ?_
                                  refine am_iload (q := 141) rfl (am_tab tk_X10_qPartTold 69 rfl) rfl ?_
                                  refine am_callVr (q := 144) (me2 := M_X10_qOpens) (b := 55) (kb := 10) (nb := 108) (As := [am_i 22, am_i ((zP b E (i + 1) : Int))]) (rest := []) (c_qOpensY rc (ws ++ out) o (out.length : Int) (am_setN T4 55 2 (zP b E (i + 1) : Int)) hZ4.1 (hV.sc ((((frw.refl W_sc T).setN (by unfold W_sc; omega)).trans hF4).setN (by unfold W_sc; omega))) 22 (zP b E (i + 1) : Int) hZ4.2.2.2.1 (by rw [List.length_append]; omega) o6 ho2) ⟨rfl, rfl⟩ (Ls_55 hZ4.1) (by decide) ⟨Or.inl km_X10_603, kc_X10_qOpens, kn_X10, kd_X10_qOpens, ⟨(Nat.le_of_ble_eq_true rfl), (Nat.le_of_ble_eq_true rfl)⟩, ⟨(Nat.le_of_ble_eq_true rfl), (Nat.le_of_ble_eq_true rfl)⟩, (Nat.le_of_ble_eq_true rfl)⟩ ki_X10_qOpens ks_X10_qOpens rfl (am_tab tk_X10_qPartTold 70 rfl) rfl ?_
                                  rintro r T5 ⟨rfl, hV5, hF5⟩
                                  have hZ5 : ZS b E (i + 1) T5 := ZS.q hZ4.look hF5
                                  refine am_st (st2 := []) rfl ?_
                                  refine am_aload_n (q := 145) rfl (am_tab tk_X10_qPartTold 71 rfl) rfl ?_
                                  refine am_bipush (q := 147) (n := 40) (by decide) rfl (am_tab tk_X10_qPartTold 72 rfl) rfl ?_
                                  refine am_callVr (q := 150) (me2 := M_X10_asksSign) (b := 55) (kb := 10) (nb := 108) (As := [am_i 40]) (rest := []) (c_asksSignY b E (i + 1) T5 hZ5 40 (by decide) d) ⟨rfl, rfl⟩ (Ls_55 hZ5.1) (by decide) ⟨Or.inl km_X10_325, kc_X10_asksSign, kn_X10, kd_X10_asksSign, ⟨(Nat.le_of_ble_eq_true rfl), (Nat.le_of_ble_eq_true rfl)⟩, ⟨(Nat.le_of_ble_eq_true rfl), (Nat.le_of_ble_eq_true rfl)⟩, (Nat.le_of_ble_eq_true rfl)⟩ ki_X10_asksSign ks_X10_asksSign rfl (am_tab tk_X10_qPartTold 73 rfl) rfl ?_
                                  rintro r T6 ⟨rfl, hZ6, hF6⟩
                                  refine am_st (st2 := []) rfl ?_
                                  refine am_goto (t := 183) (am_tab tk_X10_qPartTold 74 rfl) (by decide) ?_
                                  refine am_goto (t := 2) (am_tab tk_X10_qPartTold 93 rfl) (by decide) ?_
                                  have hN6 : ¬ zK b E i = 6 := by omega
                                  have hN7 : ¬ zK b E (i + 1) = 6 := by omega
                                  have hZn : ZS b E (i + 2) T6 := hZ6
                                  have hVn := hV5.sc hF6
                                  have hFa : frw W_p S T6 := hF.trans ((W_sc_p ((((frw.refl W_sc T).setN (by unfold W_sc; omega)).trans hF4).setN (by unfold W_sc; omega))).trans ((W_q_p hF5).trans (W_sc_p hF6)))
                                  have h53n : T6.2.1 55 53 = tk := (hF6.2.2 55 53 (by unfold W_sc; omega)).trans ((hF5.2.2 55 53 (by unfold W_q; omega)).trans ((hF4.2.2 55 53 (by unfold W_sc; omega)).trans h53))
                                  rw [show partF b E tk (f + 1) i rc ws o = partF b E tk f (i + 2) rc (22 :: ws) (o + 1) from by show (if _ then _ else _) = _; rw [if_neg c1, if_pos (by omega), if_pos d, if_neg o6]; rw [if_neg c2]] at hres
                                  have hQn : QT b E tk (i + 2) rc (22 :: ws) out (o + 1) T6 := ⟨hZn, hVn, h53n, ⟨by show _ = (if _ then _ else _) + opn (ws ++ out); rw [if_pos (by omega)]; omega, by omega⟩, by rw [List.length_cons]; omega, zP_on hN7 (zP_on hN6 hQT.2.2.2.2.2)⟩
                                  exact am_less (by intro q hq; simp only [List.mem_cons, List.not_mem_nil, or_false] at hq; rcases hq with rfl | rfl <;> simp) (ih2 f (i + 2) rc (22 :: ws) (o + 1) T6 (by omega) hQn hFa (by omega) hres)
                                · exact absurd h129 (by decide)
                    · exact absurd ((sg_iff (by decide)).mp h30) c1
                · refine am_aload_n (q := 14) rfl (am_tab tk_X10_qPartTold 7 rfl) rfl ?_
                  refine am_callV0 (q := 17) (me2 := M_X10_look) (b := 55) (kb := 10) (nb := 108) (As := []) (rest := []) (out := [am_i (byt b E i)]) (c_X10_look b E i T hZ.1 hZ.2.2) ⟨rfl, rfl⟩ (Ls_55 hZ.1) (by decide) ⟨Or.inl km_X10_260, kc_X10_look, kn_X10, kd_X10_look, ⟨(Nat.le_of_ble_eq_true rfl), (Nat.le_of_ble_eq_true rfl)⟩, ⟨(Nat.le_of_ble_eq_true rfl), (Nat.le_of_ble_eq_true rfl)⟩, (Nat.le_of_ble_eq_true rfl)⟩ ki_X10_look ks_X10_look rfl rfl (am_tab tk_X10_qPartTold 8 rfl) rfl ?_
                  refine am_istore_n (q := 18) (by decide) (ls2 := [(2, am_i (byt b E i)), (1, am_i 1), (0, am_r 55)]) rfl (am_tab tk_X10_qPartTold 9 rfl) rfl ?_
                  refine am_aload_n (q := 19) rfl (am_tab tk_X10_qPartTold 10 rfl) rfl ?_
                  refine am_bipush (q := 21) (n := 11) (by decide) rfl (am_tab tk_X10_qPartTold 11 rfl) rfl ?_
                  refine am_bipush (q := 23) (n := 12) (by decide) rfl (am_tab tk_X10_qPartTold 12 rfl) rfl ?_
                  refine am_callVr (q := 26) (me2 := M_X10_qWordOf) (b := 55) (kb := 10) (nb := 108) (As := [am_i 11, am_i 12]) (rest := []) (c_X10_qWordOf b E i (am_setN T 55 2 (zP b E i : Int)) hZ.look 11 12 tk h53 htk) ⟨rfl, rfl⟩ (Ls_55 hZ.1) (by decide) ⟨Or.inl km_X10_600, kc_X10_qWordOf, kn_X10, kd_X10_qWordOf, ⟨(Nat.le_of_ble_eq_true rfl), (Nat.le_of_ble_eq_true rfl)⟩, ⟨(Nat.le_of_ble_eq_true rfl), (Nat.le_of_ble_eq_true rfl)⟩, (Nat.le_of_ble_eq_true rfl)⟩ ki_X10_qWordOf ks_X10_qWordOf rfl (am_tab tk_X10_qPartTold 13 rfl) rfl ?_
                  rintro r τ ⟨rfl, rfl⟩
                  refine am_hp2 (σ1 := (am_setN T 55 2 (zP b E i : Int))) (am_setN_N _ _ _ _ _) ?_
                  refine am_st (st2 := [am_i (wof tk (zK b E i) 11 12)]) rfl ?_
                  refine am_istore_n (q := 27) (by decide) (ls2 := [(3, am_i (wof tk (zK b E i) 11 12)), (2, am_i (byt b E i)), (1, am_i 1), (0, am_r 55)]) rfl (am_tab tk_X10_qPartTold 14 rfl) rfl ?_
                  refine am_iload_n (q := 28) rfl (am_tab tk_X10_qPartTold 15 rfl) rfl ?_
                  refine am_bipush (q := 30) (n := 40) (by decide) rfl (am_tab tk_X10_qPartTold 16 rfl) rfl ?_
                  refine am_icmp_ne (q := 33) (t := 56) (am_tab tk_X10_qPartTold 17 rfl) (by decide) rfl (fun h30 => ?_) (fun h30 => ?_)
                  · refine am_aload_n (q := 57) rfl (am_tab tk_X10_qPartTold 30 rfl) rfl ?_
                    refine am_aload_n (q := 58) rfl (am_tab tk_X10_qPartTold 31 rfl) rfl ?_
                    refine am_getR (q := 61) (a := 55) (k := 10) (n := 108) (j := 82) (r := some (113)) (Ls_55 hZ.1) (by decide) rfl (Lr_55_82 hZ.1) (by decide) (Or.inl kf_X10_191) (am_tab tk_X10_qPartTold 32 rfl) rfl ?_
                    refine am_callVr (q := 64) (me2 := M_X10_isHere) (b := 55) (kb := 10) (nb := 108) (As := [am_r 113]) (rest := []) (c_hereX b E i (am_setN T 55 2 (zP b E i : Int)) hZ.look 113 25 (by decide)) ⟨rfl, rfl⟩ (Ls_55 hZ.1) (by decide) ⟨Or.inl km_X10_271, kc_X10_isHere, kn_X10, kd_X10_isHere, ⟨(Nat.le_of_ble_eq_true rfl), (Nat.le_of_ble_eq_true rfl)⟩, ⟨(Nat.le_of_ble_eq_true rfl), (Nat.le_of_ble_eq_true rfl)⟩, (Nat.le_of_ble_eq_true rfl)⟩ ki_X10_isHere ks_X10_isHere rfl (am_tab tk_X10_qPartTold 33 rfl) rfl ?_
                    rintro r τ ⟨hr, hτ⟩
                    rw [decide_eq_false (show ¬ zK b E i = 128 + ((25 : Nat) : Int) from by omega)] at hr
                    rw [am_setN_N] at hτ
                    subst hτ
                    subst hr
                    refine am_st (st2 := [am_i 0]) rfl ?_
                    refine am_if_ne (q := 67) (t := 78) (am_tab tk_X10_qPartTold 34 rfl) (by decide) rfl (fun h64 => ?_) (fun h64 => ?_)
                    · exact absurd h64 (by decide)
                    · refine am_aload_n (q := 68) rfl (am_tab tk_X10_qPartTold 35 rfl) rfl ?_
                      refine am_aload_n (q := 69) rfl (am_tab tk_X10_qPartTold 36 rfl) rfl ?_
                      refine am_getR (q := 72) (a := 55) (k := 10) (n := 108) (j := 83) (r := some (114)) (Ls_55 hZ.1) (by decide) rfl (Lr_55_83 hZ.1) (by decide) (Or.inl kf_X10_194) (am_tab tk_X10_qPartTold 37 rfl) rfl ?_
                      refine am_callVr (q := 75) (me2 := M_X10_isHere) (b := 55) (kb := 10) (nb := 108) (As := [am_r 114]) (rest := []) (c_hereX b E i (am_setN T 55 2 (zP b E i : Int)) hZ.look 114 26 (by decide)) ⟨rfl, rfl⟩ (Ls_55 hZ.1) (by decide) ⟨Or.inl km_X10_271, kc_X10_isHere, kn_X10, kd_X10_isHere, ⟨(Nat.le_of_ble_eq_true rfl), (Nat.le_of_ble_eq_true rfl)⟩, ⟨(Nat.le_of_ble_eq_true rfl), (Nat.le_of_ble_eq_true rfl)⟩, (Nat.le_of_ble_eq_true rfl)⟩ ki_X10_isHere ks_X10_isHere rfl (am_tab tk_X10_qPartTold 38 rfl) rfl ?_
                      rintro r τ ⟨hr, hτ⟩
                      rw [decide_eq_true (show zK b E i = 128 + ((26 : Nat) : Int) from by omega)] at hr
                      rw [am_setN_N] at hτ
                      subst hτ
                      subst hr
                      refine am_st (st2 := [am_i 1]) rfl ?_
                      refine am_if_eq (q := 78) (t := 153) (am_tab tk_X10_qPartTold 39 rfl) (by decide) rfl (fun h75 => ?_) (fun h75 => ?_)
                      · exact absurd h75 (by decide)
                      · refine am_aload_n (q := 79) rfl (am_tab tk_X10_qPartTold 40 rfl) rfl ?_
                        refine am_aload_n (q := 80) rfl (am_tab tk_X10_qPartTold 41 rfl) rfl ?_
                        refine am_getR (q := 83) (a := 55) (k := 10) (n := 108) (j := 82) (r := some (113)) (Ls_55 hZ.1) (by decide) rfl (Lr_55_82 hZ.1) (by decide) (Or.inl kf_X10_191) (am_tab tk_X10_qPartTold 42 rfl) rfl ?_
                        refine am_callVr (q := 86) (me2 := M_X10_takes) (b := 55) (kb := 10) (nb := 108) (As := [am_r 113]) (rest := []) (c_takesN b E i (am_setN T 55 2 (zP b E i : Int)) hZ.look 113 25 (by decide) (by omega)) ⟨rfl, rfl⟩ (Ls_55 hZ.1) (by decide) ⟨Or.inl km_X10_275, kc_X10_takes, kn_X10, kd_X10_takes, ⟨(Nat.le_of_ble_eq_true rfl), (Nat.le_of_ble_eq_true rfl)⟩, ⟨(Nat.le_of_ble_eq_true rfl), (Nat.le_of_ble_eq_true rfl)⟩, (Nat.le_of_ble_eq_true rfl)⟩ ki_X10_takes ks_X10_takes rfl (am_tab tk_X10_qPartTold 43 rfl) rfl ?_
                        rintro r τ ⟨rfl, rfl⟩
                        refine am_hp2 (σ1 := (am_setN T 55 2 (zP b E i : Int))) (am_setN_N _ _ _ _ _) ?_
                        refine am_st (st2 := [am_i 0]) rfl ?_
                        refine am_istore (q := 88) (by decide) (ls2 := [(4, am_i 0), (3, am_i (wof tk (zK b E i) 11 12)), (2, am_i (byt b E i)), (1, am_i 1), (0, am_r 55)]) rfl (am_tab tk_X10_qPartTold 44 rfl) rfl ?_
                        refine am_iload (q := 90) rfl (am_tab tk_X10_qPartTold 45 rfl) rfl ?_
                        refine am_if_ne (q := 93) (t := 101) (am_tab tk_X10_qPartTold 46 rfl) (by decide) rfl (fun h90 => ?_) (fun h90 => ?_)
                        · exact absurd h90 (by decide)
                        · refine am_aload_n (q := 94) rfl (am_tab tk_X10_qPartTold 47 rfl) rfl ?_
                          refine am_aload_n (q := 95) rfl (am_tab tk_X10_qPartTold 48 rfl) rfl ?_
                          refine am_getR (q := 98) (a := 55) (k := 10) (n := 108) (j := 83) (r := some (114)) (Ls_55 hZ.1) (by decide) rfl (Lr_55_83 hZ.1) (by decide) (Or.inl kf_X10_194) (am_tab tk_X10_qPartTold 49 rfl) rfl ?_
                          refine am_callVr (q := 101) (me2 := M_X10_asks) (b := 55) (kb := 10) (nb := 108) (As := [am_r 114]) (rest := []) (c_asksY b E i (am_setN T 55 2 (zP b E i : Int)) hZ.look 114 26 (by decide) (by omega)) ⟨rfl, rfl⟩ (Ls_55 hZ.1) (by decide) ⟨Or.inl km_X10_317, kc_X10_asks, kn_X10, kd_X10_asks, ⟨(Nat.le_of_ble_eq_true rfl), (Nat.le_of_ble_eq_true rfl)⟩, ⟨(Nat.le_of_ble_eq_true rfl), (Nat.le_of_ble_eq_true rfl)⟩, (Nat.le_of_ble_eq_true rfl)⟩ ki_X10_asks ks_X10_asks rfl (am_tab tk_X10_qPartTold 50 rfl) rfl ?_
                          rintro r T4 ⟨rfl, hZ4, hF4⟩
                          refine am_st (st2 := []) rfl ?_
                          refine am_aload_n (q := 102) rfl (am_tab tk_X10_qPartTold 51 rfl) rfl ?_
                          refine am_callV0 (q := 105) (me2 := M_X10_look) (b := 55) (kb := 10) (nb := 108) (As := []) (rest := []) (out := [am_i (byt b E (i + 1))]) (c_X10_look b E (i + 1) T4 hZ4.1 hZ4.2.2) ⟨rfl, rfl⟩ (Ls_55 hZ4.1) (by decide) ⟨Or.inl km_X10_260, kc_X10_look, kn_X10, kd_X10_look, ⟨(Nat.le_of_ble_eq_true rfl), (Nat.le_of_ble_eq_true rfl)⟩, ⟨(Nat.le_of_ble_eq_true rfl), (Nat.le_of_ble_eq_true rfl)⟩, (Nat.le_of_ble_eq_true rfl)⟩ ki_X10_look ks_X10_look rfl rfl (am_tab tk_X10_qPartTold 52 rfl) rfl ?_
                          refine am_bipush (q := 107) (n := 40) (by decide) rfl (am_tab tk_X10_qPartTold 53 rfl) rfl ?_
                          refine am_icmp_ne (q := 110) (t := 117) (am_tab tk_X10_qPartTold 54 rfl) (by decide) rfl (fun h107 => ?_) (fun h107 => ?_)
                          · refine am_iconst (q := 118) (n := (-1)) (by decide) (am_tab tk_X10_qPartTold 58 rfl) rfl ?_
                            refine am_istore (q := 120) (by decide) (ls2 := [(5, am_i ((-1))), (4, am_i 0), (3, am_i (wof tk (zK b E i) 11 12)), (2, am_i (byt b E i)), (1, am_i 1), (0, am_r 55)]) rfl (am_tab tk_X10_qPartTold 59 rfl) rfl ?_
                            refine am_iload (q := 122) rfl (am_tab tk_X10_qPartTold 60 rfl) rfl ?_
                            refine am_iconst (q := 123) (n := (-1)) (by decide) (am_tab tk_X10_qPartTold 61 rfl) rfl ?_
                            refine am_icmp_eq (q := 126) (t := 144) (am_tab tk_X10_qPartTold 62 rfl) (by decide) rfl (fun h123 => ?_) (fun h123 => ?_)
                            · refine am_aload_n (q := 145) rfl (am_tab tk_X10_qPartTold 71 rfl) rfl ?_
                              refine am_bipush (q := 147) (n := 40) (by decide) rfl (am_tab tk_X10_qPartTold 72 rfl) rfl ?_
                              refine am_callVr (q := 150) (me2 := M_X10_asksSign) (b := 55) (kb := 10) (nb := 108) (As := [am_i 40]) (rest := []) (c_asksSignN b E (i + 1) (am_setN T4 55 2 (zP b E (i + 1) : Int)) hZ4.look 40 (by decide) d) ⟨rfl, rfl⟩ (Ls_55 hZ4.1) (by decide) ⟨Or.inl km_X10_325, kc_X10_asksSign, kn_X10, kd_X10_asksSign, ⟨(Nat.le_of_ble_eq_true rfl), (Nat.le_of_ble_eq_true rfl)⟩, ⟨(Nat.le_of_ble_eq_true rfl), (Nat.le_of_ble_eq_true rfl)⟩, (Nat.le_of_ble_eq_true rfl)⟩ ki_X10_asksSign ks_X10_asksSign rfl (am_tab tk_X10_qPartTold 73 rfl) rfl ?_
                              rintro r T6 ⟨rfl, hZ6, hF6⟩
                              refine am_st (st2 := []) rfl ?_
                              refine am_goto (t := 183) (am_tab tk_X10_qPartTold 74 rfl) (by decide) ?_
                              refine am_goto (t := 2) (am_tab tk_X10_qPartTold 93 rfl) (by decide) ?_
                              refine am_iload_n (q := 3) rfl (am_tab tk_X10_qPartTold 2 rfl) rfl ?_
                              refine am_if_eq (q := 6) (t := 186) (am_tab tk_X10_qPartTold 3 rfl) (by decide) rfl (fun h3 => ?_) (fun h3 => ?_)
                              · exact absurd h3 (by decide)
                              · refine am_aload_n (q := 7) rfl (am_tab tk_X10_qPartTold 4 rfl) rfl ?_
                                refine am_getI (q := 10) (a := 55) (k := 10) (n := 108) (j := 5) (x := 1) (Ls_55 hZ6.1) (by decide) rfl hZ6.2.2.2.1 (by decide) (Or.inl kf_X10_248) (am_tab tk_X10_qPartTold 5 rfl) rfl ?_
                                refine am_if_ne (q := 13) (t := 186) (am_tab tk_X10_qPartTold 6 rfl) (by decide) rfl (fun h10 => ?_) (fun h10 => ?_)
                                · refine am_aload_n (q := 187) rfl (am_tab tk_X10_qPartTold 94 rfl) rfl ?_
                                  refine am_getI (q := 190) (a := 55) (k := 10) (n := 108) (j := 5) (x := 1) (Ls_55 hZ6.1) (by decide) rfl hZ6.2.2.2.1 (by decide) (Or.inl kf_X10_248) (am_tab tk_X10_qPartTold 95 rfl) rfl ?_
                                  refine am_if_eq (q := 193) (t := 194) (am_tab tk_X10_qPartTold 96 rfl) (by decide) rfl (fun h190 => ?_) (fun h190 => ?_)
                                  · exact absurd h190 (by decide)
                                  · refine am_vret rfl (Nat.le_of_ble_eq_true rfl) (Nat.le_of_ble_eq_true rfl) (am_tab tk_X10_qPartTold 97 rfl) ?_
                                    refine hQ _ _ ?_
                                    have hev : partF b E tk (f + 1) i rc ws o = .inr (1, (zP b E (i + 1) : Int)) := by show (if _ then _ else _) = _; rw [if_neg c1, if_pos (by omega), if_neg d]
                                    rw [hev] at hres
                                    rw [hres]
                                    have hFs : frw W_sc T T6 := (((((frw.refl W_sc T).setN (by unfold W_sc; omega)).trans hF4).setN (by unfold W_sc; omega))).trans hF6
                                    exact ⟨rfl, QB_of hZ6 (hV.sc hFs) (by omega) (by rw [List.length_append]; omega), hF.trans (W_sc_p hFs)⟩
                                · exact absurd h10 (by decide)
                            · exact absurd rfl h123
                          · exact absurd ((sg_iff (by decide)).mp h107) d
                  · exact absurd ((sg_iff (by decide)).mp h30) c1
              · by_cases c4 : ¬ wof tk (zK b E i) 11 12 = -1
                · by_cases o6 : o = 6
                  · refine am_aload_n (q := 14) rfl (am_tab tk_X10_qPartTold 7 rfl) rfl ?_
                    refine am_callV0 (q := 17) (me2 := M_X10_look) (b := 55) (kb := 10) (nb := 108) (As := []) (rest := []) (out := [am_i (byt b E i)]) (c_X10_look b E i T hZ.1 hZ.2.2) ⟨rfl, rfl⟩ (Ls_55 hZ.1) (by decide) ⟨Or.inl km_X10_260, kc_X10_look, kn_X10, kd_X10_look, ⟨(Nat.le_of_ble_eq_true rfl), (Nat.le_of_ble_eq_true rfl)⟩, ⟨(Nat.le_of_ble_eq_true rfl), (Nat.le_of_ble_eq_true rfl)⟩, (Nat.le_of_ble_eq_true rfl)⟩ ki_X10_look ks_X10_look rfl rfl (am_tab tk_X10_qPartTold 8 rfl) rfl ?_
                    refine am_istore_n (q := 18) (by decide) (ls2 := [(2, am_i (byt b E i)), (1, am_i 1), (0, am_r 55)]) rfl (am_tab tk_X10_qPartTold 9 rfl) rfl ?_
                    refine am_aload_n (q := 19) rfl (am_tab tk_X10_qPartTold 10 rfl) rfl ?_
                    refine am_bipush (q := 21) (n := 11) (by decide) rfl (am_tab tk_X10_qPartTold 11 rfl) rfl ?_
                    refine am_bipush (q := 23) (n := 12) (by decide) rfl (am_tab tk_X10_qPartTold 12 rfl) rfl ?_
                    refine am_callVr (q := 26) (me2 := M_X10_qWordOf) (b := 55) (kb := 10) (nb := 108) (As := [am_i 11, am_i 12]) (rest := []) (c_X10_qWordOf b E i (am_setN T 55 2 (zP b E i : Int)) hZ.look 11 12 tk h53 htk) ⟨rfl, rfl⟩ (Ls_55 hZ.1) (by decide) ⟨Or.inl km_X10_600, kc_X10_qWordOf, kn_X10, kd_X10_qWordOf, ⟨(Nat.le_of_ble_eq_true rfl), (Nat.le_of_ble_eq_true rfl)⟩, ⟨(Nat.le_of_ble_eq_true rfl), (Nat.le_of_ble_eq_true rfl)⟩, (Nat.le_of_ble_eq_true rfl)⟩ ki_X10_qWordOf ks_X10_qWordOf rfl (am_tab tk_X10_qPartTold 13 rfl) rfl ?_
                    rintro r τ ⟨rfl, rfl⟩
                    refine am_hp2 (σ1 := (am_setN T 55 2 (zP b E i : Int))) (am_setN_N _ _ _ _ _) ?_
                    refine am_st (st2 := [am_i (wof tk (zK b E i) 11 12)]) rfl ?_
                    refine am_istore_n (q := 27) (by decide) (ls2 := [(3, am_i (wof tk (zK b E i) 11 12)), (2, am_i (byt b E i)), (1, am_i 1), (0, am_r 55)]) rfl (am_tab tk_X10_qPartTold 14 rfl) rfl ?_
                    refine am_iload_n (q := 28) rfl (am_tab tk_X10_qPartTold 15 rfl) rfl ?_
                    refine am_bipush (q := 30) (n := 40) (by decide) rfl (am_tab tk_X10_qPartTold 16 rfl) rfl ?_
                    refine am_icmp_ne (q := 33) (t := 56) (am_tab tk_X10_qPartTold 17 rfl) (by decide) rfl (fun h30 => ?_) (fun h30 => ?_)
                    · refine am_aload_n (q := 57) rfl (am_tab tk_X10_qPartTold 30 rfl) rfl ?_
                      refine am_aload_n (q := 58) rfl (am_tab tk_X10_qPartTold 31 rfl) rfl ?_
                      refine am_getR (q := 61) (a := 55) (k := 10) (n := 108) (j := 82) (r := some (113)) (Ls_55 hZ.1) (by decide) rfl (Lr_55_82 hZ.1) (by decide) (Or.inl kf_X10_191) (am_tab tk_X10_qPartTold 32 rfl) rfl ?_
                      refine am_callVr (q := 64) (me2 := M_X10_isHere) (b := 55) (kb := 10) (nb := 108) (As := [am_r 113]) (rest := []) (c_hereX b E i (am_setN T 55 2 (zP b E i : Int)) hZ.look 113 25 (by decide)) ⟨rfl, rfl⟩ (Ls_55 hZ.1) (by decide) ⟨Or.inl km_X10_271, kc_X10_isHere, kn_X10, kd_X10_isHere, ⟨(Nat.le_of_ble_eq_true rfl), (Nat.le_of_ble_eq_true rfl)⟩, ⟨(Nat.le_of_ble_eq_true rfl), (Nat.le_of_ble_eq_true rfl)⟩, (Nat.le_of_ble_eq_true rfl)⟩ ki_X10_isHere ks_X10_isHere rfl (am_tab tk_X10_qPartTold 33 rfl) rfl ?_
                      rintro r τ ⟨hr, hτ⟩
                      rw [decide_eq_false (show ¬ zK b E i = 128 + ((25 : Nat) : Int) from by omega)] at hr
                      rw [am_setN_N] at hτ
                      subst hτ
                      subst hr
                      refine am_st (st2 := [am_i 0]) rfl ?_
                      refine am_if_ne (q := 67) (t := 78) (am_tab tk_X10_qPartTold 34 rfl) (by decide) rfl (fun h64 => ?_) (fun h64 => ?_)
                      · exact absurd h64 (by decide)
                      · refine am_aload_n (q := 68) rfl (am_tab tk_X10_qPartTold 35 rfl) rfl ?_
                        refine am_aload_n (q := 69) rfl (am_tab tk_X10_qPartTold 36 rfl) rfl ?_
                        refine am_getR (q := 72) (a := 55) (k := 10) (n := 108) (j := 83) (r := some (114)) (Ls_55 hZ.1) (by decide) rfl (Lr_55_83 hZ.1) (by decide) (Or.inl kf_X10_194) (am_tab tk_X10_qPartTold 37 rfl) rfl ?_
                        refine am_callVr (q := 75) (me2 := M_X10_isHere) (b := 55) (kb := 10) (nb := 108) (As := [am_r 114]) (rest := []) (c_hereX b E i (am_setN T 55 2 (zP b E i : Int)) hZ.look 114 26 (by decide)) ⟨rfl, rfl⟩ (Ls_55 hZ.1) (by decide) ⟨Or.inl km_X10_271, kc_X10_isHere, kn_X10, kd_X10_isHere, ⟨(Nat.le_of_ble_eq_true rfl), (Nat.le_of_ble_eq_true rfl)⟩, ⟨(Nat.le_of_ble_eq_true rfl), (Nat.le_of_ble_eq_true rfl)⟩, (Nat.le_of_ble_eq_true rfl)⟩ ki_X10_isHere ks_X10_isHere rfl (am_tab tk_X10_qPartTold 38 rfl) rfl ?_
                        rintro r τ ⟨hr, hτ⟩
                        rw [decide_eq_false (show ¬ zK b E i = 128 + ((26 : Nat) : Int) from by omega)] at hr
                        rw [am_setN_N] at hτ
                        subst hτ
                        subst hr
                        refine am_st (st2 := [am_i 0]) rfl ?_
                        refine am_if_eq (q := 78) (t := 153) (am_tab tk_X10_qPartTold 39 rfl) (by decide) rfl (fun h75 => ?_) (fun h75 => ?_)
                        · refine am_iload_n (q := 154) rfl (am_tab tk_X10_qPartTold 75 rfl) rfl ?_
                          refine am_iconst (q := 155) (n := (-1)) (by decide) (am_tab tk_X10_qPartTold 76 rfl) rfl ?_
                          refine am_icmp_eq (q := 158) (t := 181) (am_tab tk_X10_qPartTold 77 rfl) (by decide) rfl (fun h155 => ?_) (fun h155 => ?_)
                          · exact absurd h155 c4
                          · refine am_aload_n (q := 159) rfl (am_tab tk_X10_qPartTold 78 rfl) rfl ?_
                            refine am_bipush (q := 161) (n := 60) (by decide) rfl (am_tab tk_X10_qPartTold 79 rfl) rfl ?_
                            refine am_iload_n (q := 162) rfl (am_tab tk_X10_qPartTold 80 rfl) rfl ?_
                            refine am_iadd (q := 163) (by omega) (am_tab tk_X10_qPartTold 81 rfl) rfl ?_
                            refine am_bipush (q := 165) (n := 11) (by decide) rfl (am_tab tk_X10_qPartTold 82 rfl) rfl ?_
                            refine am_isub (q := 166) (by omega) (am_tab tk_X10_qPartTold 83 rfl) rfl ?_
                            refine am_aload_n (q := 167) rfl (am_tab tk_X10_qPartTold 84 rfl) rfl ?_
                            refine am_getI (q := 170) (a := 55) (k := 10) (n := 108) (j := 2) (x := (zP b E i : Int)) (Ls_55 hZ.1) (by decide) rfl rfl (by decide) (Or.inl kf_X10_254) (am_tab tk_X10_qPartTold 85 rfl) rfl ?_
                            refine am_callV0 (q := 173) (me2 := M_X10_qOpens) (b := 55) (kb := 10) (nb := 108) (As := [am_i (((60 + (wof tk (zK b E i) 11 12)) - 11)), am_i ((zP b E i : Int))]) (rest := []) (out := []) (c_qOpensN rc (ws ++ out) o (out.length : Int) (am_setN T 55 2 (zP b E i : Int)) hZ.1 (hV.sc ((frw.refl W_sc T).setN (by unfold W_sc; omega))) ((60 + (wof tk (zK b E i) 11 12)) - 11) (zP b E i : Int) hZ.2.2.2.1 o6) ⟨rfl, rfl⟩ (Ls_55 hZ.1) (by decide) ⟨Or.inl km_X10_603, kc_X10_qOpens, kn_X10, kd_X10_qOpens, ⟨(Nat.le_of_ble_eq_true rfl), (Nat.le_of_ble_eq_true rfl)⟩, ⟨(Nat.le_of_ble_eq_true rfl), (Nat.le_of_ble_eq_true rfl)⟩, (Nat.le_of_ble_eq_true rfl)⟩ ki_X10_qOpens ks_X10_qOpens rfl rfl (am_tab tk_X10_qPartTold 86 rfl) rfl ?_
                            refine am_aload_n (q := 174) rfl (am_tab tk_X10_qPartTold 87 rfl) rfl ?_
                            have hFb : frw W_sc T (am_setN (am_setN (am_setN T 55 2 (zP b E i : Int)) 55 5 4) 55 6 (zP b E i : Int)) := by repeat (first | exact frw.refl _ T | refine frw.setN ?_ (by unfold W_sc; omega))
                            have hZbad : ZB b E 4 (zP b E i : Int) (am_setN (am_setN (am_setN T 55 2 (zP b E i : Int)) 55 5 4) 55 6 (zP b E i : Int)) := ZB_of hZ.1 hZ.2.1 hFb hZ.2.2.1 rfl (by decide) rfl (by first | (show 0 ≤ (zP b E i : Int) ∧ (zP b E i : Int) ≤ _; have := zP_rng b E (i + 1); omega) | (show 0 ≤ (zP b E i : Int) + 1 ∧ (zP b E i : Int) + 1 ≤ _; omega))
                            refine am_iload_n (q := 175) rfl (am_tab tk_X10_qPartTold 88 rfl) rfl ?_
                            refine am_callV0 (q := 178) (me2 := M_X10_qAsksWord) (b := 55) (kb := 10) (nb := 108) (As := [am_i (wof tk (zK b E i) 11 12)]) (rest := []) (out := []) (c_qAsksWord0 b E 4 (zP b E i : Int) (am_setN (am_setN (am_setN T 55 2 (zP b E i : Int)) 55 5 4) 55 6 (zP b E i : Int)) hZbad (wof tk (zK b E i) 11 12)) ⟨rfl, rfl⟩ (Ls_55 hZ.1) (by decide) ⟨Or.inl km_X10_606, kc_X10_qAsksWord, kn_X10, kd_X10_qAsksWord, ⟨(Nat.le_of_ble_eq_true rfl), (Nat.le_of_ble_eq_true rfl)⟩, ⟨(Nat.le_of_ble_eq_true rfl), (Nat.le_of_ble_eq_true rfl)⟩, (Nat.le_of_ble_eq_true rfl)⟩ ki_X10_qAsksWord ks_X10_qAsksWord rfl rfl (am_tab tk_X10_qPartTold 89 rfl) rfl ?_
                            refine am_goto (t := 183) (am_tab tk_X10_qPartTold 90 rfl) (by decide) ?_
                            refine am_goto (t := 2) (am_tab tk_X10_qPartTold 93 rfl) (by decide) ?_
                            refine am_iload_n (q := 3) rfl (am_tab tk_X10_qPartTold 2 rfl) rfl ?_
                            refine am_if_eq (q := 6) (t := 186) (am_tab tk_X10_qPartTold 3 rfl) (by decide) rfl (fun h3 => ?_) (fun h3 => ?_)
                            · exact absurd h3 (by decide)
                            · refine am_aload_n (q := 7) rfl (am_tab tk_X10_qPartTold 4 rfl) rfl ?_
                              refine am_getI (q := 10) (a := 55) (k := 10) (n := 108) (j := 5) (x := 4) (Ls_55 hZ.1) (by decide) rfl rfl (by decide) (Or.inl kf_X10_248) (am_tab tk_X10_qPartTold 5 rfl) rfl ?_
                              refine am_if_ne (q := 13) (t := 186) (am_tab tk_X10_qPartTold 6 rfl) (by decide) rfl (fun h10 => ?_) (fun h10 => ?_)
                              · refine am_aload_n (q := 187) rfl (am_tab tk_X10_qPartTold 94 rfl) rfl ?_
                                refine am_getI (q := 190) (a := 55) (k := 10) (n := 108) (j := 5) (x := 4) (Ls_55 hZ.1) (by decide) rfl rfl (by decide) (Or.inl kf_X10_248) (am_tab tk_X10_qPartTold 95 rfl) rfl ?_
                                refine am_if_eq (q := 193) (t := 194) (am_tab tk_X10_qPartTold 96 rfl) (by decide) rfl (fun h190 => ?_) (fun h190 => ?_)
                                · exact absurd h190 (by decide)
                                · refine am_vret rfl (Nat.le_of_ble_eq_true rfl) (Nat.le_of_ble_eq_true rfl) (am_tab tk_X10_qPartTold 97 rfl) ?_
                                  refine hQ _ _ ?_
                                  have hev : partF b E tk (f + 1) i rc ws o = .inr (4, (zP b E i : Int)) := by show (if _ then _ else _) = _; rw [if_neg c1, if_neg (by omega), if_pos c4, if_pos o6]
                                  rw [hev] at hres
                                  rw [hres]
                                  have hFb : frw W_sc T (am_setN (am_setN (am_setN T 55 2 (zP b E i : Int)) 55 5 4) 55 6 (zP b E i : Int)) := by repeat (first | exact frw.refl _ T | refine frw.setN ?_ (by unfold W_sc; omega))
                                  have hZbad : ZB b E 4 (zP b E i : Int) (am_setN (am_setN (am_setN T 55 2 (zP b E i : Int)) 55 5 4) 55 6 (zP b E i : Int)) := ZB_of hZ.1 hZ.2.1 hFb hZ.2.2.1 rfl (by decide) rfl (by first | (show 0 ≤ (zP b E i : Int) ∧ (zP b E i : Int) ≤ _; have := zP_rng b E (i + 1); omega) | (show 0 ≤ (zP b E i : Int) + 1 ∧ (zP b E i : Int) + 1 ≤ _; omega))
                                  have hFs : frw W_sc T (am_setN (am_setN (am_setN T 55 2 (zP b E i : Int)) 55 5 4) 55 6 (zP b E i : Int)) := hFb
                                  exact ⟨rfl, QB_of hZbad (hV.sc hFs) (by omega) (by rw [List.length_append]; omega), hF.trans (W_sc_p hFs)⟩
                              · exact absurd h10 (by decide)
                        · exact absurd h75 (by decide)
                    · exact absurd ((sg_iff (by decide)).mp h30) c1
                  · refine am_aload_n (q := 14) rfl (am_tab tk_X10_qPartTold 7 rfl) rfl ?_
                    refine am_callV0 (q := 17) (me2 := M_X10_look) (b := 55) (kb := 10) (nb := 108) (As := []) (rest := []) (out := [am_i (byt b E i)]) (c_X10_look b E i T hZ.1 hZ.2.2) ⟨rfl, rfl⟩ (Ls_55 hZ.1) (by decide) ⟨Or.inl km_X10_260, kc_X10_look, kn_X10, kd_X10_look, ⟨(Nat.le_of_ble_eq_true rfl), (Nat.le_of_ble_eq_true rfl)⟩, ⟨(Nat.le_of_ble_eq_true rfl), (Nat.le_of_ble_eq_true rfl)⟩, (Nat.le_of_ble_eq_true rfl)⟩ ki_X10_look ks_X10_look rfl rfl (am_tab tk_X10_qPartTold 8 rfl) rfl ?_
                    refine am_istore_n (q := 18) (by decide) (ls2 := [(2, am_i (byt b E i)), (1, am_i 1), (0, am_r 55)]) rfl (am_tab tk_X10_qPartTold 9 rfl) rfl ?_
                    refine am_aload_n (q := 19) rfl (am_tab tk_X10_qPartTold 10 rfl) rfl ?_
                    refine am_bipush (q := 21) (n := 11) (by decide) rfl (am_tab tk_X10_qPartTold 11 rfl) rfl ?_
                    refine am_bipush (q := 23) (n := 12) (by decide) rfl (am_tab tk_X10_qPartTold 12 rfl) rfl ?_
                    refine am_callVr (q := 26) (me2 := M_X10_qWordOf) (b := 55) (kb := 10) (nb := 108) (As := [am_i 11, am_i 12]) (rest := []) (c_X10_qWordOf b E i (am_setN T 55 2 (zP b E i : Int)) hZ.look 11 12 tk h53 htk) ⟨rfl, rfl⟩ (Ls_55 hZ.1) (by decide) ⟨Or.inl km_X10_600, kc_X10_qWordOf, kn_X10, kd_X10_qWordOf, ⟨(Nat.le_of_ble_eq_true rfl), (Nat.le_of_ble_eq_true rfl)⟩, ⟨(Nat.le_of_ble_eq_true rfl), (Nat.le_of_ble_eq_true rfl)⟩, (Nat.le_of_ble_eq_true rfl)⟩ ki_X10_qWordOf ks_X10_qWordOf rfl (am_tab tk_X10_qPartTold 13 rfl) rfl ?_
                    rintro r τ ⟨rfl, rfl⟩
                    refine am_hp2 (σ1 := (am_setN T 55 2 (zP b E i : Int))) (am_setN_N _ _ _ _ _) ?_
                    refine am_st (st2 := [am_i (wof tk (zK b E i) 11 12)]) rfl ?_
                    refine am_istore_n (q := 27) (by decide) (ls2 := [(3, am_i (wof tk (zK b E i) 11 12)), (2, am_i (byt b E i)), (1, am_i 1), (0, am_r 55)]) rfl (am_tab tk_X10_qPartTold 14 rfl) rfl ?_
                    refine am_iload_n (q := 28) rfl (am_tab tk_X10_qPartTold 15 rfl) rfl ?_
                    refine am_bipush (q := 30) (n := 40) (by decide) rfl (am_tab tk_X10_qPartTold 16 rfl) rfl ?_
                    refine am_icmp_ne (q := 33) (t := 56) (am_tab tk_X10_qPartTold 17 rfl) (by decide) rfl (fun h30 => ?_) (fun h30 => ?_)
                    · refine am_aload_n (q := 57) rfl (am_tab tk_X10_qPartTold 30 rfl) rfl ?_
                      refine am_aload_n (q := 58) rfl (am_tab tk_X10_qPartTold 31 rfl) rfl ?_
                      refine am_getR (q := 61) (a := 55) (k := 10) (n := 108) (j := 82) (r := some (113)) (Ls_55 hZ.1) (by decide) rfl (Lr_55_82 hZ.1) (by decide) (Or.inl kf_X10_191) (am_tab tk_X10_qPartTold 32 rfl) rfl ?_
                      refine am_callVr (q := 64) (me2 := M_X10_isHere) (b := 55) (kb := 10) (nb := 108) (As := [am_r 113]) (rest := []) (c_hereX b E i (am_setN T 55 2 (zP b E i : Int)) hZ.look 113 25 (by decide)) ⟨rfl, rfl⟩ (Ls_55 hZ.1) (by decide) ⟨Or.inl km_X10_271, kc_X10_isHere, kn_X10, kd_X10_isHere, ⟨(Nat.le_of_ble_eq_true rfl), (Nat.le_of_ble_eq_true rfl)⟩, ⟨(Nat.le_of_ble_eq_true rfl), (Nat.le_of_ble_eq_true rfl)⟩, (Nat.le_of_ble_eq_true rfl)⟩ ki_X10_isHere ks_X10_isHere rfl (am_tab tk_X10_qPartTold 33 rfl) rfl ?_
                      rintro r τ ⟨hr, hτ⟩
                      rw [decide_eq_false (show ¬ zK b E i = 128 + ((25 : Nat) : Int) from by omega)] at hr
                      rw [am_setN_N] at hτ
                      subst hτ
                      subst hr
                      refine am_st (st2 := [am_i 0]) rfl ?_
                      refine am_if_ne (q := 67) (t := 78) (am_tab tk_X10_qPartTold 34 rfl) (by decide) rfl (fun h64 => ?_) (fun h64 => ?_)
                      · exact absurd h64 (by decide)
                      · refine am_aload_n (q := 68) rfl (am_tab tk_X10_qPartTold 35 rfl) rfl ?_
                        refine am_aload_n (q := 69) rfl (am_tab tk_X10_qPartTold 36 rfl) rfl ?_
                        refine am_getR (q := 72) (a := 55) (k := 10) (n := 108) (j := 83) (r := some (114)) (Ls_55 hZ.1) (by decide) rfl (Lr_55_83 hZ.1) (by decide) (Or.inl kf_X10_194) (am_tab tk_X10_qPartTold 37 rfl) rfl ?_
                        refine am_callVr (q := 75) (me2 := M_X10_isHere) (b := 55) (kb := 10) (nb := 108) (As := [am_r 114]) (rest := []) (c_hereX b E i (am_setN T 55 2 (zP b E i : Int)) hZ.look 114 26 (by decide)) ⟨rfl, rfl⟩ (Ls_55 hZ.1) (by decide) ⟨Or.inl km_X10_271, kc_X10_isHere, kn_X10, kd_X10_isHere, ⟨(Nat.le_of_ble_eq_true rfl), (Nat.le_of_ble_eq_true rfl)⟩, ⟨(Nat.le_of_ble_eq_true rfl), (Nat.le_of_ble_eq_true rfl)⟩, (Nat.le_of_ble_eq_true rfl)⟩ ki_X10_isHere ks_X10_isHere rfl (am_tab tk_X10_qPartTold 38 rfl) rfl ?_
                        rintro r τ ⟨hr, hτ⟩
                        rw [decide_eq_false (show ¬ zK b E i = 128 + ((26 : Nat) : Int) from by omega)] at hr
                        rw [am_setN_N] at hτ
                        subst hτ
                        subst hr
                        refine am_st (st2 := [am_i 0]) rfl ?_
                        refine am_if_eq (q := 78) (t := 153) (am_tab tk_X10_qPartTold 39 rfl) (by decide) rfl (fun h75 => ?_) (fun h75 => ?_)
                        · refine am_iload_n (q := 154) rfl (am_tab tk_X10_qPartTold 75 rfl) rfl ?_
                          refine am_iconst (q := 155) (n := (-1)) (by decide) (am_tab tk_X10_qPartTold 76 rfl) rfl ?_
                          refine am_icmp_eq (q := 158) (t := 181) (am_tab tk_X10_qPartTold 77 rfl) (by decide) rfl (fun h155 => ?_) (fun h155 => ?_)
                          · exact absurd h155 c4
                          · refine am_aload_n (q := 159) rfl (am_tab tk_X10_qPartTold 78 rfl) rfl ?_
                            refine am_bipush (q := 161) (n := 60) (by decide) rfl (am_tab tk_X10_qPartTold 79 rfl) rfl ?_
                            refine am_iload_n (q := 162) rfl (am_tab tk_X10_qPartTold 80 rfl) rfl ?_
                            refine am_iadd (q := 163) (by omega) (am_tab tk_X10_qPartTold 81 rfl) rfl ?_
                            refine am_bipush (q := 165) (n := 11) (by decide) rfl (am_tab tk_X10_qPartTold 82 rfl) rfl ?_
                            refine am_isub (q := 166) (by omega) (am_tab tk_X10_qPartTold 83 rfl) rfl ?_
                            refine am_aload_n (q := 167) rfl (am_tab tk_X10_qPartTold 84 rfl) rfl ?_
                            refine am_getI (q := 170) (a := 55) (k := 10) (n := 108) (j := 2) (x := (zP b E i : Int)) (Ls_55 hZ.1) (by decide) rfl rfl (by decide) (Or.inl kf_X10_254) (am_tab tk_X10_qPartTold 85 rfl) rfl ?_
                            refine am_callVr (q := 173) (me2 := M_X10_qOpens) (b := 55) (kb := 10) (nb := 108) (As := [am_i (((60 + (wof tk (zK b E i) 11 12)) - 11)), am_i ((zP b E i : Int))]) (rest := []) (c_qOpensY rc (ws ++ out) o (out.length : Int) (am_setN T 55 2 (zP b E i : Int)) hZ.1 (hV.sc ((frw.refl W_sc T).setN (by unfold W_sc; omega))) ((60 + (wof tk (zK b E i) 11 12)) - 11) (zP b E i : Int) hZ.2.2.2.1 (by rw [List.length_append]; omega) o6 ho2) ⟨rfl, rfl⟩ (Ls_55 hZ.1) (by decide) ⟨Or.inl km_X10_603, kc_X10_qOpens, kn_X10, kd_X10_qOpens, ⟨(Nat.le_of_ble_eq_true rfl), (Nat.le_of_ble_eq_true rfl)⟩, ⟨(Nat.le_of_ble_eq_true rfl), (Nat.le_of_ble_eq_true rfl)⟩, (Nat.le_of_ble_eq_true rfl)⟩ ki_X10_qOpens ks_X10_qOpens rfl (am_tab tk_X10_qPartTold 86 rfl) rfl ?_
                            rintro r T5 ⟨rfl, hV5, hF5⟩
                            have hZ5 : ZS b E i T5 := ZS.q hZ.look hF5
                            refine am_st (st2 := []) rfl ?_
                            refine am_aload_n (q := 174) rfl (am_tab tk_X10_qPartTold 87 rfl) rfl ?_
                            refine am_iload_n (q := 175) rfl (am_tab tk_X10_qPartTold 88 rfl) rfl ?_
                            refine am_callVr (q := 178) (me2 := M_X10_qAsksWord) (b := 55) (kb := 10) (nb := 108) (As := [am_i (wof tk (zK b E i) 11 12)]) (rest := []) (c_X10_qAsksWord b E i T5 hZ5 (wof tk (zK b E i) 11 12) (wof_pw c4).1.symm (by have := wof_pw c4; omega)) ⟨rfl, rfl⟩ (Ls_55 hZ5.1) (by decide) ⟨Or.inl km_X10_606, kc_X10_qAsksWord, kn_X10, kd_X10_qAsksWord, ⟨(Nat.le_of_ble_eq_true rfl), (Nat.le_of_ble_eq_true rfl)⟩, ⟨(Nat.le_of_ble_eq_true rfl), (Nat.le_of_ble_eq_true rfl)⟩, (Nat.le_of_ble_eq_true rfl)⟩ ki_X10_qAsksWord ks_X10_qAsksWord rfl (am_tab tk_X10_qPartTold 89 rfl) rfl ?_
                            rintro r T6 ⟨rfl, hZ6, hF6⟩
                            refine am_st (st2 := []) rfl ?_
                            refine am_goto (t := 183) (am_tab tk_X10_qPartTold 90 rfl) (by decide) ?_
                            refine am_goto (t := 2) (am_tab tk_X10_qPartTold 93 rfl) (by decide) ?_
                            have hwp := wof_pw c4
                            have hN6 : ¬ zK b E i = 6 := pwI_n6 (by omega)
                            have hZn := hZ6
                            have hVn := hV5.sc hF6
                            have hFa : frw W_p S T6 := hF.trans ((W_sc_p ((frw.refl W_sc T).setN (by unfold W_sc; omega))).trans ((W_q_p hF5).trans (W_sc_p hF6)))
                            have h53n : T6.2.1 55 53 = tk := (hF6.2.2 55 53 (by unfold W_sc; omega)).trans ((hF5.2.2 55 53 (by unfold W_q; omega)).trans h53)
                            rw [show partF b E tk (f + 1) i rc ws o = partF b E tk f (i + 1) rc (((60 + wof tk (zK b E i) 11 12) - 11) :: ws) (o + 1) from by show (if _ then _ else _) = _; rw [if_neg c1, if_neg (by omega), if_pos c4, if_neg o6]] at hres
                            have hQn : QT b E tk (i + 1) rc (((60 + wof tk (zK b E i) 11 12) - 11) :: ws) out (o + 1) T6 := ⟨hZn, hVn, h53n, ⟨by show _ = (if _ then _ else _) + opn (ws ++ out); rw [if_pos (by omega)]; omega, by omega⟩, by rw [List.length_cons]; omega, zP_on hN6 hQT.2.2.2.2.2⟩
                            exact am_less (by intro q hq; simp only [List.mem_cons, List.not_mem_nil, or_false] at hq; rcases hq with rfl | rfl <;> simp) (ih2 f (i + 1) rc (((60 + wof tk (zK b E i) 11 12) - 11) :: ws) (o + 1) T6 (by omega) hQn hFa (by omega) hres)
                        · exact absurd h75 (by decide)
                    · exact absurd ((sg_iff (by decide)).mp h30) c1
                · refine am_aload_n (q := 14) rfl (am_tab tk_X10_qPartTold 7 rfl) rfl ?_
                  refine am_callV0 (q := 17) (me2 := M_X10_look) (b := 55) (kb := 10) (nb := 108) (As := []) (rest := []) (out := [am_i (byt b E i)]) (c_X10_look b E i T hZ.1 hZ.2.2) ⟨rfl, rfl⟩ (Ls_55 hZ.1) (by decide) ⟨Or.inl km_X10_260, kc_X10_look, kn_X10, kd_X10_look, ⟨(Nat.le_of_ble_eq_true rfl), (Nat.le_of_ble_eq_true rfl)⟩, ⟨(Nat.le_of_ble_eq_true rfl), (Nat.le_of_ble_eq_true rfl)⟩, (Nat.le_of_ble_eq_true rfl)⟩ ki_X10_look ks_X10_look rfl rfl (am_tab tk_X10_qPartTold 8 rfl) rfl ?_
                  refine am_istore_n (q := 18) (by decide) (ls2 := [(2, am_i (byt b E i)), (1, am_i 1), (0, am_r 55)]) rfl (am_tab tk_X10_qPartTold 9 rfl) rfl ?_
                  refine am_aload_n (q := 19) rfl (am_tab tk_X10_qPartTold 10 rfl) rfl ?_
                  refine am_bipush (q := 21) (n := 11) (by decide) rfl (am_tab tk_X10_qPartTold 11 rfl) rfl ?_
                  refine am_bipush (q := 23) (n := 12) (by decide) rfl (am_tab tk_X10_qPartTold 12 rfl) rfl ?_
                  refine am_callVr (q := 26) (me2 := M_X10_qWordOf) (b := 55) (kb := 10) (nb := 108) (As := [am_i 11, am_i 12]) (rest := []) (c_X10_qWordOf b E i (am_setN T 55 2 (zP b E i : Int)) hZ.look 11 12 tk h53 htk) ⟨rfl, rfl⟩ (Ls_55 hZ.1) (by decide) ⟨Or.inl km_X10_600, kc_X10_qWordOf, kn_X10, kd_X10_qWordOf, ⟨(Nat.le_of_ble_eq_true rfl), (Nat.le_of_ble_eq_true rfl)⟩, ⟨(Nat.le_of_ble_eq_true rfl), (Nat.le_of_ble_eq_true rfl)⟩, (Nat.le_of_ble_eq_true rfl)⟩ ki_X10_qWordOf ks_X10_qWordOf rfl (am_tab tk_X10_qPartTold 13 rfl) rfl ?_
                  rintro r τ ⟨rfl, rfl⟩
                  refine am_hp2 (σ1 := (am_setN T 55 2 (zP b E i : Int))) (am_setN_N _ _ _ _ _) ?_
                  refine am_st (st2 := [am_i (wof tk (zK b E i) 11 12)]) rfl ?_
                  refine am_istore_n (q := 27) (by decide) (ls2 := [(3, am_i (wof tk (zK b E i) 11 12)), (2, am_i (byt b E i)), (1, am_i 1), (0, am_r 55)]) rfl (am_tab tk_X10_qPartTold 14 rfl) rfl ?_
                  refine am_iload_n (q := 28) rfl (am_tab tk_X10_qPartTold 15 rfl) rfl ?_
                  refine am_bipush (q := 30) (n := 40) (by decide) rfl (am_tab tk_X10_qPartTold 16 rfl) rfl ?_
                  refine am_icmp_ne (q := 33) (t := 56) (am_tab tk_X10_qPartTold 17 rfl) (by decide) rfl (fun h30 => ?_) (fun h30 => ?_)
                  · refine am_aload_n (q := 57) rfl (am_tab tk_X10_qPartTold 30 rfl) rfl ?_
                    refine am_aload_n (q := 58) rfl (am_tab tk_X10_qPartTold 31 rfl) rfl ?_
                    refine am_getR (q := 61) (a := 55) (k := 10) (n := 108) (j := 82) (r := some (113)) (Ls_55 hZ.1) (by decide) rfl (Lr_55_82 hZ.1) (by decide) (Or.inl kf_X10_191) (am_tab tk_X10_qPartTold 32 rfl) rfl ?_
                    refine am_callVr (q := 64) (me2 := M_X10_isHere) (b := 55) (kb := 10) (nb := 108) (As := [am_r 113]) (rest := []) (c_hereX b E i (am_setN T 55 2 (zP b E i : Int)) hZ.look 113 25 (by decide)) ⟨rfl, rfl⟩ (Ls_55 hZ.1) (by decide) ⟨Or.inl km_X10_271, kc_X10_isHere, kn_X10, kd_X10_isHere, ⟨(Nat.le_of_ble_eq_true rfl), (Nat.le_of_ble_eq_true rfl)⟩, ⟨(Nat.le_of_ble_eq_true rfl), (Nat.le_of_ble_eq_true rfl)⟩, (Nat.le_of_ble_eq_true rfl)⟩ ki_X10_isHere ks_X10_isHere rfl (am_tab tk_X10_qPartTold 33 rfl) rfl ?_
                    rintro r τ ⟨hr, hτ⟩
                    rw [decide_eq_false (show ¬ zK b E i = 128 + ((25 : Nat) : Int) from by omega)] at hr
                    rw [am_setN_N] at hτ
                    subst hτ
                    subst hr
                    refine am_st (st2 := [am_i 0]) rfl ?_
                    refine am_if_ne (q := 67) (t := 78) (am_tab tk_X10_qPartTold 34 rfl) (by decide) rfl (fun h64 => ?_) (fun h64 => ?_)
                    · exact absurd h64 (by decide)
                    · refine am_aload_n (q := 68) rfl (am_tab tk_X10_qPartTold 35 rfl) rfl ?_
                      refine am_aload_n (q := 69) rfl (am_tab tk_X10_qPartTold 36 rfl) rfl ?_
                      refine am_getR (q := 72) (a := 55) (k := 10) (n := 108) (j := 83) (r := some (114)) (Ls_55 hZ.1) (by decide) rfl (Lr_55_83 hZ.1) (by decide) (Or.inl kf_X10_194) (am_tab tk_X10_qPartTold 37 rfl) rfl ?_
                      refine am_callVr (q := 75) (me2 := M_X10_isHere) (b := 55) (kb := 10) (nb := 108) (As := [am_r 114]) (rest := []) (c_hereX b E i (am_setN T 55 2 (zP b E i : Int)) hZ.look 114 26 (by decide)) ⟨rfl, rfl⟩ (Ls_55 hZ.1) (by decide) ⟨Or.inl km_X10_271, kc_X10_isHere, kn_X10, kd_X10_isHere, ⟨(Nat.le_of_ble_eq_true rfl), (Nat.le_of_ble_eq_true rfl)⟩, ⟨(Nat.le_of_ble_eq_true rfl), (Nat.le_of_ble_eq_true rfl)⟩, (Nat.le_of_ble_eq_true rfl)⟩ ki_X10_isHere ks_X10_isHere rfl (am_tab tk_X10_qPartTold 38 rfl) rfl ?_
                      rintro r τ ⟨hr, hτ⟩
                      rw [decide_eq_false (show ¬ zK b E i = 128 + ((26 : Nat) : Int) from by omega)] at hr
                      rw [am_setN_N] at hτ
                      subst hτ
                      subst hr
                      refine am_st (st2 := [am_i 0]) rfl ?_
                      refine am_if_eq (q := 78) (t := 153) (am_tab tk_X10_qPartTold 39 rfl) (by decide) rfl (fun h75 => ?_) (fun h75 => ?_)
                      · refine am_iload_n (q := 154) rfl (am_tab tk_X10_qPartTold 75 rfl) rfl ?_
                        refine am_iconst (q := 155) (n := (-1)) (by decide) (am_tab tk_X10_qPartTold 76 rfl) rfl ?_
                        refine am_icmp_eq (q := 158) (t := 181) (am_tab tk_X10_qPartTold 77 rfl) (by decide) rfl (fun h155 => ?_) (fun h155 => ?_)
                        · refine am_iconst (q := 182) (n := 0) (by decide) (am_tab tk_X10_qPartTold 91 rfl) rfl ?_
                          refine am_istore_n (q := 183) (by decide) (ls2 := [(1, am_i 0), (3, am_i (wof tk (zK b E i) 11 12)), (2, am_i (byt b E i)), (0, am_r 55)]) rfl (am_tab tk_X10_qPartTold 92 rfl) rfl ?_
                          refine am_goto (t := 2) (am_tab tk_X10_qPartTold 93 rfl) (by decide) ?_
                          refine am_iload_n (q := 3) rfl (am_tab tk_X10_qPartTold 2 rfl) rfl ?_
                          refine am_if_eq (q := 6) (t := 186) (am_tab tk_X10_qPartTold 3 rfl) (by decide) rfl (fun h3 => ?_) (fun h3 => ?_)
                          · refine am_aload_n (q := 187) rfl (am_tab tk_X10_qPartTold 94 rfl) rfl ?_
                            refine am_getI (q := 190) (a := 55) (k := 10) (n := 108) (j := 5) (x := 0) (Ls_55 hZ.1) (by decide) rfl hZ.2.2.2.1 (by decide) (Or.inl kf_X10_248) (am_tab tk_X10_qPartTold 95 rfl) rfl ?_
                            refine am_if_eq (q := 193) (t := 194) (am_tab tk_X10_qPartTold 96 rfl) (by decide) rfl (fun h190 => ?_) (fun h190 => ?_)
                            · by_cases c5 : ¬ wof tk (zK b E i) 0 11 = -1
                              · refine am_aload_n (q := 195) rfl (am_tab tk_X10_qPartTold 98 rfl) rfl ?_
                                refine am_iconst (q := 196) (n := 0) (by decide) (am_tab tk_X10_qPartTold 99 rfl) rfl ?_
                                refine am_bipush (q := 198) (n := 11) (by decide) rfl (am_tab tk_X10_qPartTold 100 rfl) rfl ?_
                                refine am_callVr (q := 201) (me2 := M_X10_qWordOf) (b := 55) (kb := 10) (nb := 108) (As := [am_i 0, am_i 11]) (rest := []) (c_X10_qWordOf b E i (am_setN T 55 2 (zP b E i : Int)) hZ.look 0 11 tk h53 htk) ⟨rfl, rfl⟩ (Ls_55 hZ.1) (by decide) ⟨Or.inl km_X10_600, kc_X10_qWordOf, kn_X10, kd_X10_qWordOf, ⟨(Nat.le_of_ble_eq_true rfl), (Nat.le_of_ble_eq_true rfl)⟩, ⟨(Nat.le_of_ble_eq_true rfl), (Nat.le_of_ble_eq_true rfl)⟩, (Nat.le_of_ble_eq_true rfl)⟩ ki_X10_qWordOf ks_X10_qWordOf rfl (am_tab tk_X10_qPartTold 101 rfl) rfl ?_
                                rintro r τ ⟨rfl, rfl⟩
                                refine am_hp2 (σ1 := (am_setN T 55 2 (zP b E i : Int))) (am_setN_N _ _ _ _ _) ?_
                                refine am_st (st2 := [am_i (wof tk (zK b E i) 0 11)]) rfl ?_
                                refine am_istore_n (q := 202) (by decide) (ls2 := [(2, am_i (wof tk (zK b E i) 0 11)), (1, am_i 0), (3, am_i (wof tk (zK b E i) 11 12)), (0, am_r 55)]) rfl (am_tab tk_X10_qPartTold 102 rfl) rfl ?_
                                refine am_iload_n (q := 203) rfl (am_tab tk_X10_qPartTold 103 rfl) rfl ?_
                                refine am_iconst (q := 204) (n := (-1)) (by decide) (am_tab tk_X10_qPartTold 104 rfl) rfl ?_
                                refine am_icmp_eq (q := 207) (t := 212) (am_tab tk_X10_qPartTold 105 rfl) (by decide) rfl (fun h204 => ?_) (fun h204 => ?_)
                                · exact absurd h204 c5
                                · refine am_aload_n (q := 208) rfl (am_tab tk_X10_qPartTold 106 rfl) rfl ?_
                                  refine am_iload_n (q := 209) rfl (am_tab tk_X10_qPartTold 107 rfl) rfl ?_
                                  refine am_callVr (q := 212) (me2 := M_X10_qAsksWord) (b := 55) (kb := 10) (nb := 108) (As := [am_i (wof tk (zK b E i) 0 11)]) (rest := []) (c_X10_qAsksWord b E i (am_setN T 55 2 (zP b E i : Int)) hZ.look (wof tk (zK b E i) 0 11) (wof_pw c5).1.symm (by have := wof_pw c5; omega)) ⟨rfl, rfl⟩ (Ls_55 hZ.1) (by decide) ⟨Or.inl km_X10_606, kc_X10_qAsksWord, kn_X10, kd_X10_qAsksWord, ⟨(Nat.le_of_ble_eq_true rfl), (Nat.le_of_ble_eq_true rfl)⟩, ⟨(Nat.le_of_ble_eq_true rfl), (Nat.le_of_ble_eq_true rfl)⟩, (Nat.le_of_ble_eq_true rfl)⟩ ki_X10_qAsksWord ks_X10_qAsksWord rfl (am_tab tk_X10_qPartTold 108 rfl) rfl ?_
                                  rintro r T6 ⟨rfl, hZ6, hF6⟩
                                  refine am_st (st2 := []) rfl ?_
                                  refine am_aload_n (q := 213) rfl (am_tab tk_X10_qPartTold 109 rfl) rfl ?_
                                  refine am_iload_n (q := 214) rfl (am_tab tk_X10_qPartTold 110 rfl) rfl ?_
                                  refine am_iconst (q := 215) (n := (-1)) (by decide) (am_tab tk_X10_qPartTold 111 rfl) rfl ?_
                                  refine am_icmp_eq (q := 218) (t := 225) (am_tab tk_X10_qPartTold 112 rfl) (by decide) rfl (fun h215 => ?_) (fun h215 => ?_)
                                  · exact absurd h215 c5
                                  · refine am_bipush (q := 220) (n := 40) (by decide) rfl (am_tab tk_X10_qPartTold 113 rfl) rfl ?_
                                    refine am_iload_n (q := 221) rfl (am_tab tk_X10_qPartTold 114 rfl) rfl ?_
                                    refine am_iadd (q := 222) (by omega) (am_tab tk_X10_qPartTold 115 rfl) rfl ?_
                                    refine am_goto (t := 237) (am_tab tk_X10_qPartTold 116 rfl) (by decide) ?_
                                    refine am_callVr (q := 240) (me2 := M_X10_qCode) (b := 55) (kb := 10) (nb := 108) (As := [am_i ((40 + (wof tk (zK b E i) 0 11)))]) (rest := []) (c_X10_qCode rc (ws ++ out) o (out.length : Int) T6 hZ6.1 (hV.sc (((frw.refl W_sc T).setN (by unfold W_sc; omega)).trans hF6)) (40 + (wof tk (zK b E i) 0 11)) (by omega)) ⟨rfl, rfl⟩ (Ls_55 hZ6.1) (by decide) ⟨Or.inl km_X10_585, kc_X10_qCode, kn_X10, kd_X10_qCode, ⟨(Nat.le_of_ble_eq_true rfl), (Nat.le_of_ble_eq_true rfl)⟩, ⟨(Nat.le_of_ble_eq_true rfl), (Nat.le_of_ble_eq_true rfl)⟩, (Nat.le_of_ble_eq_true rfl)⟩ ki_X10_qCode ks_X10_qCode rfl (am_tab tk_X10_qPartTold 123 rfl) rfl ?_
                                    rintro r T7 ⟨rfl, hV7, hF7⟩
                                    have hL7 : lay T7 := hF7.L hZ6.1
                                    refine am_st (st2 := []) rfl ?_
                                    refine am_aload_n (q := 241) rfl (am_tab tk_X10_qPartTold 124 rfl) rfl ?_
                                    refine am_callVr (q := 244) (me2 := M_X10_qEndsPart) (b := 55) (kb := 10) (nb := 108) (As := []) (rest := []) (c_X10_qEndsPart ((40 + (wof tk (zK b E i) 0 11)) :: rc) ws out o T7 hL7 hV7 (by rw [List.length_cons]; omega) (by omega) (by rw [hF7.2.2 55 5 (by unfold W_q; omega)]; exact hZ6.2.2.2.1)) ⟨rfl, rfl⟩ (Ls_55 hL7) (by decide) ⟨Or.inl km_X10_609, kc_X10_qEndsPart, kn_X10, kd_X10_qEndsPart, ⟨(Nat.le_of_ble_eq_true rfl), (Nat.le_of_ble_eq_true rfl)⟩, ⟨(Nat.le_of_ble_eq_true rfl), (Nat.le_of_ble_eq_true rfl)⟩, (Nat.le_of_ble_eq_true rfl)⟩ ki_X10_qEndsPart ks_X10_qEndsPart rfl (am_tab tk_X10_qPartTold 125 rfl) rfl ?_
                                    rintro r T8 ⟨rfl, hV8, hF8⟩
                                    refine am_st (st2 := []) rfl ?_
                                    refine am_vret rfl (Nat.le_of_ble_eq_true rfl) (Nat.le_of_ble_eq_true rfl) (am_tab tk_X10_qPartTold 126 rfl) ?_
                                    refine hQ _ _ ?_
                                    have hlf : partF b E tk (f + 1) i rc ws o = leafF b E tk i rc ws o := by show (if _ then _ else _) = _; rw [if_neg c1, if_neg (by omega), if_neg c4]
                                    have hev : leafF b E tk i rc ws o = .inl (i + 1, endF ((40 + wof tk (zK b E i) 0 11) :: rc) ws o) := by unfold leafF; rw [if_pos c5]
                                    rw [hlf, hev] at hres
                                    rw [hres]
                                    have hN6 : ¬ zK b E i = 6 := pwI_n6 (by have := wof_pw c5; omega)
                                    have el := endF_len ws ((40 + wof tk (zK b E i) 0 11) :: rc) o
                                    have eo := endF_opn ws ((40 + wof tk (zK b E i) 0 11) :: rc) o
                                    have ea := opn_app (endF ((40 + wof tk (zK b E i) 0 11) :: rc) ws o).2.1 out
                                    rw [List.length_cons] at el
                                    refine ⟨rfl, ⟨(hZ6.q hF7).q hF8, hV8, ?_, ⟨?_, ?_⟩, ?_, zP_on hN6 hQT.2.2.2.2.2⟩, hF.trans ((W_sc_p (((frw.refl W_sc T).setN (by unfold W_sc; omega)).trans hF6)).trans ((W_q_p hF7).trans (W_q_p hF8)))⟩
                                    · rw [hF8.2.2 55 53 (by unfold W_q; omega), hF7.2.2 55 53 (by unfold W_q; omega), hF6.2.2 55 53 (by unfold W_sc; omega)]; exact h53
                                    · show (endF ((40 + wof tk (zK b E i) 0 11) :: rc) ws o).2.2 = opn ((endF ((40 + wof tk (zK b E i) 0 11) :: rc) ws o).2.1 ++ out); omega
                                    · show (endF ((40 + wof tk (zK b E i) 0 11) :: rc) ws o).2.2 ≤ 6; omega
                                    · show (endF ((40 + wof tk (zK b E i) 0 11) :: rc) ws o).1.length + (endF ((40 + wof tk (zK b E i) 0 11) :: rc) ws o).2.1.length + out.length ≤ i + 1; omega
                              · by_cases c6 : zK b E i = 1
                                · refine am_aload_n (q := 195) rfl (am_tab tk_X10_qPartTold 98 rfl) rfl ?_
                                  refine am_iconst (q := 196) (n := 0) (by decide) (am_tab tk_X10_qPartTold 99 rfl) rfl ?_
                                  refine am_bipush (q := 198) (n := 11) (by decide) rfl (am_tab tk_X10_qPartTold 100 rfl) rfl ?_
                                  refine am_callVr (q := 201) (me2 := M_X10_qWordOf) (b := 55) (kb := 10) (nb := 108) (As := [am_i 0, am_i 11]) (rest := []) (c_X10_qWordOf b E i (am_setN T 55 2 (zP b E i : Int)) hZ.look 0 11 tk h53 htk) ⟨rfl, rfl⟩ (Ls_55 hZ.1) (by decide) ⟨Or.inl km_X10_600, kc_X10_qWordOf, kn_X10, kd_X10_qWordOf, ⟨(Nat.le_of_ble_eq_true rfl), (Nat.le_of_ble_eq_true rfl)⟩, ⟨(Nat.le_of_ble_eq_true rfl), (Nat.le_of_ble_eq_true rfl)⟩, (Nat.le_of_ble_eq_true rfl)⟩ ki_X10_qWordOf ks_X10_qWordOf rfl (am_tab tk_X10_qPartTold 101 rfl) rfl ?_
                                  rintro r τ ⟨rfl, rfl⟩
                                  refine am_hp2 (σ1 := (am_setN T 55 2 (zP b E i : Int))) (am_setN_N _ _ _ _ _) ?_
                                  refine am_st (st2 := [am_i (wof tk (zK b E i) 0 11)]) rfl ?_
                                  refine am_istore_n (q := 202) (by decide) (ls2 := [(2, am_i (wof tk (zK b E i) 0 11)), (1, am_i 0), (3, am_i (wof tk (zK b E i) 11 12)), (0, am_r 55)]) rfl (am_tab tk_X10_qPartTold 102 rfl) rfl ?_
                                  refine am_iload_n (q := 203) rfl (am_tab tk_X10_qPartTold 103 rfl) rfl ?_
                                  refine am_iconst (q := 204) (n := (-1)) (by decide) (am_tab tk_X10_qPartTold 104 rfl) rfl ?_
                                  refine am_icmp_eq (q := 207) (t := 212) (am_tab tk_X10_qPartTold 105 rfl) (by decide) rfl (fun h204 => ?_) (fun h204 => ?_)
                                  · refine am_aload_n (q := 213) rfl (am_tab tk_X10_qPartTold 109 rfl) rfl ?_
                                    refine am_iload_n (q := 214) rfl (am_tab tk_X10_qPartTold 110 rfl) rfl ?_
                                    refine am_iconst (q := 215) (n := (-1)) (by decide) (am_tab tk_X10_qPartTold 111 rfl) rfl ?_
                                    refine am_icmp_eq (q := 218) (t := 225) (am_tab tk_X10_qPartTold 112 rfl) (by decide) rfl (fun h215 => ?_) (fun h215 => ?_)
                                    · refine am_sipush (q := 228) (n := 1000) (by decide) rfl (am_tab tk_X10_qPartTold 117 rfl) rfl ?_
                                      refine am_aload_n (q := 229) rfl (am_tab tk_X10_qPartTold 118 rfl) rfl ?_
                                      refine am_iconst (q := 230) (n := 0) (by decide) (am_tab tk_X10_qPartTold 119 rfl) rfl ?_
                                      refine am_sipush (q := 233) (n := 9999) (by decide) rfl (am_tab tk_X10_qPartTold 120 rfl) rfl ?_
                                      refine am_callVr (q := 236) (me2 := M_X10_number) (b := 55) (kb := 10) (nb := 108) (As := [am_i 0, am_i 9999]) (rest := [am_i 1000, am_r 55]) (c_numY hZ.look c6 (zV_rng c6).1 (zV_rng c6).2) ⟨rfl, rfl⟩ (Ls_55 hZ.1) (by decide) ⟨Or.inl km_X10_321, kc_X10_number, kn_X10, kd_X10_number, ⟨(Nat.le_of_ble_eq_true rfl), (Nat.le_of_ble_eq_true rfl)⟩, ⟨(Nat.le_of_ble_eq_true rfl), (Nat.le_of_ble_eq_true rfl)⟩, (Nat.le_of_ble_eq_true rfl)⟩ ki_X10_number ks_X10_number rfl (am_tab tk_X10_qPartTold 121 rfl) rfl ?_
                                      rintro r T6 ⟨rfl, hZ6, hF6, e10⟩
                                      have hzv := zV_rng c6
                                      refine am_st (st2 := [am_i (zV b E i), am_i 1000, am_r 55]) rfl ?_
                                      refine am_iadd (q := 237) (by omega) (am_tab tk_X10_qPartTold 122 rfl) rfl ?_
                                      refine am_callVr (q := 240) (me2 := M_X10_qCode) (b := 55) (kb := 10) (nb := 108) (As := [am_i ((1000 + (zV b E i)))]) (rest := []) (c_X10_qCode rc (ws ++ out) o (out.length : Int) T6 hZ6.1 (hV.sc (((frw.refl W_sc T).setN (by unfold W_sc; omega)).trans hF6)) (1000 + (zV b E i)) (by omega)) ⟨rfl, rfl⟩ (Ls_55 hZ6.1) (by decide) ⟨Or.inl km_X10_585, kc_X10_qCode, kn_X10, kd_X10_qCode, ⟨(Nat.le_of_ble_eq_true rfl), (Nat.le_of_ble_eq_true rfl)⟩, ⟨(Nat.le_of_ble_eq_true rfl), (Nat.le_of_ble_eq_true rfl)⟩, (Nat.le_of_ble_eq_true rfl)⟩ ki_X10_qCode ks_X10_qCode rfl (am_tab tk_X10_qPartTold 123 rfl) rfl ?_
                                      rintro r T7 ⟨rfl, hV7, hF7⟩
                                      have hL7 : lay T7 := hF7.L hZ6.1
                                      refine am_st (st2 := []) rfl ?_
                                      refine am_aload_n (q := 241) rfl (am_tab tk_X10_qPartTold 124 rfl) rfl ?_
                                      refine am_callVr (q := 244) (me2 := M_X10_qEndsPart) (b := 55) (kb := 10) (nb := 108) (As := []) (rest := []) (c_X10_qEndsPart ((1000 + (zV b E i)) :: rc) ws out o T7 hL7 hV7 (by rw [List.length_cons]; omega) (by omega) (by rw [hF7.2.2 55 5 (by unfold W_q; omega)]; exact hZ6.2.2.2.1)) ⟨rfl, rfl⟩ (Ls_55 hL7) (by decide) ⟨Or.inl km_X10_609, kc_X10_qEndsPart, kn_X10, kd_X10_qEndsPart, ⟨(Nat.le_of_ble_eq_true rfl), (Nat.le_of_ble_eq_true rfl)⟩, ⟨(Nat.le_of_ble_eq_true rfl), (Nat.le_of_ble_eq_true rfl)⟩, (Nat.le_of_ble_eq_true rfl)⟩ ki_X10_qEndsPart ks_X10_qEndsPart rfl (am_tab tk_X10_qPartTold 125 rfl) rfl ?_
                                      rintro r T8 ⟨rfl, hV8, hF8⟩
                                      refine am_st (st2 := []) rfl ?_
                                      refine am_vret rfl (Nat.le_of_ble_eq_true rfl) (Nat.le_of_ble_eq_true rfl) (am_tab tk_X10_qPartTold 126 rfl) ?_
                                      refine hQ _ _ ?_
                                      have hlf : partF b E tk (f + 1) i rc ws o = leafF b E tk i rc ws o := by show (if _ then _ else _) = _; rw [if_neg c1, if_neg (by omega), if_neg c4]
                                      have hev : leafF b E tk i rc ws o = .inl (i + 1, endF ((1000 + zV b E i) :: rc) ws o) := by unfold leafF; rw [if_neg c5, if_pos c6]
                                      rw [hlf, hev] at hres
                                      rw [hres]
                                      have hN6 : ¬ zK b E i = 6 := by omega
                                      have el := endF_len ws ((1000 + zV b E i) :: rc) o
                                      have eo := endF_opn ws ((1000 + zV b E i) :: rc) o
                                      have ea := opn_app (endF ((1000 + zV b E i) :: rc) ws o).2.1 out
                                      rw [List.length_cons] at el
                                      refine ⟨rfl, ⟨(hZ6.q hF7).q hF8, hV8, ?_, ⟨?_, ?_⟩, ?_, zP_on hN6 hQT.2.2.2.2.2⟩, hF.trans ((W_sc_p (((frw.refl W_sc T).setN (by unfold W_sc; omega)).trans hF6)).trans ((W_q_p hF7).trans (W_q_p hF8)))⟩
                                      · rw [hF8.2.2 55 53 (by unfold W_q; omega), hF7.2.2 55 53 (by unfold W_q; omega), hF6.2.2 55 53 (by unfold W_sc; omega)]; exact h53
                                      · show (endF ((1000 + zV b E i) :: rc) ws o).2.2 = opn ((endF ((1000 + zV b E i) :: rc) ws o).2.1 ++ out); omega
                                      · show (endF ((1000 + zV b E i) :: rc) ws o).2.2 ≤ 6; omega
                                      · show (endF ((1000 + zV b E i) :: rc) ws o).1.length + (endF ((1000 + zV b E i) :: rc) ws o).2.1.length + out.length ≤ i + 1; omega
                                    · exact absurd h215 c5
                                  · exact absurd h204 c5
                                · refine am_aload_n (q := 195) rfl (am_tab tk_X10_qPartTold 98 rfl) rfl ?_
                                  refine am_iconst (q := 196) (n := 0) (by decide) (am_tab tk_X10_qPartTold 99 rfl) rfl ?_
                                  refine am_bipush (q := 198) (n := 11) (by decide) rfl (am_tab tk_X10_qPartTold 100 rfl) rfl ?_
                                  refine am_callVr (q := 201) (me2 := M_X10_qWordOf) (b := 55) (kb := 10) (nb := 108) (As := [am_i 0, am_i 11]) (rest := []) (c_X10_qWordOf b E i (am_setN T 55 2 (zP b E i : Int)) hZ.look 0 11 tk h53 htk) ⟨rfl, rfl⟩ (Ls_55 hZ.1) (by decide) ⟨Or.inl km_X10_600, kc_X10_qWordOf, kn_X10, kd_X10_qWordOf, ⟨(Nat.le_of_ble_eq_true rfl), (Nat.le_of_ble_eq_true rfl)⟩, ⟨(Nat.le_of_ble_eq_true rfl), (Nat.le_of_ble_eq_true rfl)⟩, (Nat.le_of_ble_eq_true rfl)⟩ ki_X10_qWordOf ks_X10_qWordOf rfl (am_tab tk_X10_qPartTold 101 rfl) rfl ?_
                                  rintro r τ ⟨rfl, rfl⟩
                                  refine am_hp2 (σ1 := (am_setN T 55 2 (zP b E i : Int))) (am_setN_N _ _ _ _ _) ?_
                                  refine am_st (st2 := [am_i (wof tk (zK b E i) 0 11)]) rfl ?_
                                  refine am_istore_n (q := 202) (by decide) (ls2 := [(2, am_i (wof tk (zK b E i) 0 11)), (1, am_i 0), (3, am_i (wof tk (zK b E i) 11 12)), (0, am_r 55)]) rfl (am_tab tk_X10_qPartTold 102 rfl) rfl ?_
                                  refine am_iload_n (q := 203) rfl (am_tab tk_X10_qPartTold 103 rfl) rfl ?_
                                  refine am_iconst (q := 204) (n := (-1)) (by decide) (am_tab tk_X10_qPartTold 104 rfl) rfl ?_
                                  refine am_icmp_eq (q := 207) (t := 212) (am_tab tk_X10_qPartTold 105 rfl) (by decide) rfl (fun h204 => ?_) (fun h204 => ?_)
                                  · refine am_aload_n (q := 213) rfl (am_tab tk_X10_qPartTold 109 rfl) rfl ?_
                                    refine am_iload_n (q := 214) rfl (am_tab tk_X10_qPartTold 110 rfl) rfl ?_
                                    refine am_iconst (q := 215) (n := (-1)) (by decide) (am_tab tk_X10_qPartTold 111 rfl) rfl ?_
                                    refine am_icmp_eq (q := 218) (t := 225) (am_tab tk_X10_qPartTold 112 rfl) (by decide) rfl (fun h215 => ?_) (fun h215 => ?_)
                                    · refine am_sipush (q := 228) (n := 1000) (by decide) rfl (am_tab tk_X10_qPartTold 117 rfl) rfl ?_
                                      refine am_aload_n (q := 229) rfl (am_tab tk_X10_qPartTold 118 rfl) rfl ?_
                                      refine am_iconst (q := 230) (n := 0) (by decide) (am_tab tk_X10_qPartTold 119 rfl) rfl ?_
                                      refine am_sipush (q := 233) (n := 9999) (by decide) rfl (am_tab tk_X10_qPartTold 120 rfl) rfl ?_
                                      refine am_callVr (q := 236) (me2 := M_X10_number) (b := 55) (kb := 10) (nb := 108) (As := [am_i 0, am_i 9999]) (rest := [am_i 1000, am_r 55]) (c_numN (lo := 0) (hi := 9999) hZ.look (fun hx => c6 hx.1)) ⟨rfl, rfl⟩ (Ls_55 hZ.1) (by decide) ⟨Or.inl km_X10_321, kc_X10_number, kn_X10, kd_X10_number, ⟨(Nat.le_of_ble_eq_true rfl), (Nat.le_of_ble_eq_true rfl)⟩, ⟨(Nat.le_of_ble_eq_true rfl), (Nat.le_of_ble_eq_true rfl)⟩, (Nat.le_of_ble_eq_true rfl)⟩ ki_X10_number ks_X10_number rfl (am_tab tk_X10_qPartTold 121 rfl) rfl ?_
                                      rintro r T6 ⟨⟨v, rfl, hv0, hv1⟩, hZ6, hF6⟩
                                      refine am_st (st2 := [am_i v, am_i 1000, am_r 55]) rfl ?_
                                      refine am_iadd (q := 237) (by omega) (am_tab tk_X10_qPartTold 122 rfl) rfl ?_
                                      refine am_callVr (q := 240) (me2 := M_X10_qCode) (b := 55) (kb := 10) (nb := 108) (As := [am_i ((1000 + v))]) (rest := []) (c_X10_qCode rc (ws ++ out) o (out.length : Int) T6 hZ6.1 (hV.sc (((frw.refl W_sc T).setN (by unfold W_sc; omega)).trans hF6)) (1000 + v) (by omega)) ⟨rfl, rfl⟩ (Ls_55 hZ6.1) (by decide) ⟨Or.inl km_X10_585, kc_X10_qCode, kn_X10, kd_X10_qCode, ⟨(Nat.le_of_ble_eq_true rfl), (Nat.le_of_ble_eq_true rfl)⟩, ⟨(Nat.le_of_ble_eq_true rfl), (Nat.le_of_ble_eq_true rfl)⟩, (Nat.le_of_ble_eq_true rfl)⟩ ki_X10_qCode ks_X10_qCode rfl (am_tab tk_X10_qPartTold 123 rfl) rfl ?_
                                      rintro r T7 ⟨rfl, hV7, hF7⟩
                                      have hL7 : lay T7 := hF7.L hZ6.1
                                      refine am_st (st2 := []) rfl ?_
                                      refine am_aload_n (q := 241) rfl (am_tab tk_X10_qPartTold 124 rfl) rfl ?_
                                      refine am_callV0 (q := 244) (me2 := M_X10_qEndsPart) (b := 55) (kb := 10) (nb := 108) (As := []) (rest := []) (out := []) (c_qEndsPart0 T7 hL7 (by rw [hF7.2.2 55 5 (by unfold W_q; omega), hZ6.2.2.2.1]; exact hZ6.2.2.2.2.1)) ⟨rfl, rfl⟩ (Ls_55 hL7) (by decide) ⟨Or.inl km_X10_609, kc_X10_qEndsPart, kn_X10, kd_X10_qEndsPart, ⟨(Nat.le_of_ble_eq_true rfl), (Nat.le_of_ble_eq_true rfl)⟩, ⟨(Nat.le_of_ble_eq_true rfl), (Nat.le_of_ble_eq_true rfl)⟩, (Nat.le_of_ble_eq_true rfl)⟩ ki_X10_qEndsPart ks_X10_qEndsPart rfl rfl (am_tab tk_X10_qPartTold 125 rfl) rfl ?_
                                      refine am_vret rfl (Nat.le_of_ble_eq_true rfl) (Nat.le_of_ble_eq_true rfl) (am_tab tk_X10_qPartTold 126 rfl) ?_
                                      refine hQ _ _ ?_
                                      have hlf : partF b E tk (f + 1) i rc ws o = leafF b E tk i rc ws o := by show (if _ then _ else _) = _; rw [if_neg c1, if_neg (by omega), if_neg c4]
                                      have hev : leafF b E tk i rc ws o = .inr (nfK b E i, nfP b E i) := by unfold leafF; rw [if_neg c5, if_neg c6]
                                      rw [hlf, hev] at hres
                                      rw [hres]
                                      exact ⟨rfl, QB_of (hZ6.q hF7) hV7 (by rw [List.length_cons]; omega) (by rw [List.length_append]; omega), hF.trans ((W_sc_p (((frw.refl W_sc T).setN (by unfold W_sc; omega)).trans hF6)).trans (W_q_p hF7))⟩
                                    · exact absurd h215 c5
                                  · exact absurd h204 c5
                            · exact absurd h190 (by decide)
                          · exact absurd h3 (by decide)
                        · exact absurd h155 c4
                      · exact absurd h75 (by decide)
                  · exact absurd ((sg_iff (by decide)).mp h30) c1
  refine am_less (by intro q hq; simp only [List.mem_cons, List.not_mem_nil, or_false] at hq; rcases hq with rfl | rfl <;> simp) (L2 (_ + 1) f0 i0 rc0 ws0 o0 S (by exact Nat.lt_succ_self _) hQ0 (frw.refl _ S) hf0 rfl)
