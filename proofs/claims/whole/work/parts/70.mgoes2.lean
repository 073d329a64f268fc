theorem clE_le {rc ws : List Int} {o : Int} (h : okS false ws = true) (hb : ¬ brF ws = -1) : (clE rc ws o).2.2 ≤ o - 1 ∧ 1 ≤ opn ws := by
  obtain ⟨h1, h2⟩ := brF_at ws rc hb
  have h3 := dtb_ok ws rc h
  rw [h1] at h3
  have h6 := opn_br (t := (dtb rc ws).2.tail) h2
  have h7 := opn_nn (dtb rc ws).2.tail
  have h8 := endF_len (dtb rc ws).2.tail (clR rc ws) (o - 1)
  unfold clE
  omega
set_option maxRecDepth 100000 in
theorem c_X10_qGoesOn (b : Nat → Int) (E : Nat) (tk : Int) (htk : 0 ≤ tk ∧ tk ≤ 2) (i0 : Nat) (rc0 ws0 out : List Int) (o0 : Int) (S : am_H) (hQ0 : QT b E tk i0 rc0 ws0 out o0 S)  (f0 : Nat) (hf0 : 1700 ≤ f0 + i0) (hok0 : okS false ws0 = true) (hout : ∀ x, 1 ≤ x → x ≤ 4 → onT out x = false) : am_met M_X10_qGoesOn [am_r 55] S (fun r σ' => PG b E tk out r σ' (goesF b E f0 i0 rc0 ws0 o0) ∧ frw W_p S σ') := by
  refine am_qq (fun Q hQ => ?_)
  refine am_enter (show plainFor yX10_qGoesOn = true by decide +kernel) rfl (Nat.le_of_ble_eq_true rfl) (fun _ _ _ => trivial) ?_
  have hL := hQ0.1.1
  have L0 : ∀ (n0 : Nat) (f : Nat) (i : Nat) (rc : List Int) (ws : List Int) (o : Int) (T : am_H), 1700 - i < n0 → QT b E tk i rc ws out o T → okS false ws = true → frw W_p S T → 1700 ≤ f + i → clsF b E f0 i0 rc0 ws0 o0 = clsF b E f i rc ws o → am_wp M_X10_qGoesOn Q 0 0 0 [(0, am_r 55)] [] T := by
    intro n0
    induction n0 with
    | zero => intro f i rc ws o T hn0; exact absurd hn0 (Nat.not_lt_zero _)
    | succ n0 ih0 =>
      intro f i rc ws o T hn0 hQT hok hF hfi hres
      have hZ := hQT.1
      have hV := hQT.2.1
      have h53 := hQT.2.2.1
      have hon := hQT.2.2.2.1
      have hlen := hQT.2.2.2.2.1
      have hiz := hQT.2.2.2.2.2
      have hzp := zP_rng b E i
      have hE := hZ.2.2.1.2.2.1
      have hop := opn_nn (ws ++ out)
      have ew := opn_app ws out
      have hopo := opn_nn out
      have hapl : (ws ++ out).length = ws.length + out.length := List.length_append
      have hdl0 := dtb_len ws rc
      have hlt0 : ((dtb rc ws).2.tail ++ out).length = (dtb rc ws).2.tail.length + out.length := List.length_append
      have hlt1 : (dtb rc ws).2.tail.length ≤ (dtb rc ws).2.length := by rw [List.length_tail]; omega
      obtain ⟨f, rfl⟩ : ∃ g, f = g + 1 := ⟨f - 1, by omega⟩
      have L122 : ∀ (n122 : Nat) , 0 < n122 → ¬ (zK b E i = 41 ∧ (brF ws = 20 ∨ brF ws = 23 ∨ brF ws = 24)) → am_wp M_X10_qGoesOn Q 0 0 122 [(0, am_r 55)] [] (am_setN T 55 2 (zP b E i : Int)) := by
        intro n122
        induction n122 with
        | zero => intro  hn122; exact absurd hn122 (Nat.not_lt_zero _)
        | succ n122 ih122 =>
          intro  hn122 hcl
          have hst : clsF b E (f + 1) i rc ws o = (i, rc, ws, o) := by show (if _ then _ else _) = _; rw [if_neg hcl]
          by_cases d1 : zK b E i = 42
          · refine am_aload_n (q := 123) rfl (am_tab tk_X10_qGoesOn 61 rfl) rfl ?_
            refine am_bipush (q := 125) (n := 42) (by decide) rfl (am_tab tk_X10_qGoesOn 62 rfl) rfl ?_
            refine am_callVr (q := 128) (me2 := M_X10_takesSign) (b := 55) (kb := 10) (nb := 108) (As := [am_i 42]) (rest := []) (c_takesSignY b E i (am_setN T 55 2 (zP b E i : Int)) hZ.look 42 (by decide) d1) ⟨rfl, rfl⟩ (Ls_55 hZ.1) (by decide) ⟨Or.inl km_X10_282, kc_X10_takesSign, kn_X10, kd_X10_takesSign, ⟨(Nat.le_of_ble_eq_true rfl), (Nat.le_of_ble_eq_true rfl)⟩, ⟨(Nat.le_of_ble_eq_true rfl), (Nat.le_of_ble_eq_true rfl)⟩, (Nat.le_of_ble_eq_true rfl)⟩ ki_X10_takesSign ks_X10_takesSign rfl (am_tab tk_X10_qGoesOn 63 rfl) rfl ?_
            rintro r T1 ⟨rfl, hZ1, hF1, e1⟩
            have hbyt : b (zP b E i) = 42 := by
              have h9 := (sg_iff (b := b) (E := E) (i := i) (c := 42) (by decide)).mpr d1
              unfold byt at h9
              rw [if_pos (zK_6 (by omega))] at h9
              exact h9
            have hltE : zP b E i < E := zK_6 (by omega)
            refine am_st (st2 := [am_i 1]) rfl ?_
            refine am_if_ne (q := 131) (t := 140) (am_tab tk_X10_qGoesOn 64 rfl) (by decide) rfl (fun h128 => ?_) (fun h128 => ?_)
            · refine am_aload_n (q := 141) rfl (am_tab tk_X10_qGoesOn 69 rfl) rfl ?_
              refine am_getR (q := 144) (a := 55) (k := 10) (n := 108) (j := 0) (r := some (56)) (Ls_55 hZ1.1) (by decide) rfl (Lr_55_0 hZ1.1) (by decide) (Or.inl kf_X10_7) (am_tab tk_X10_qGoesOn 70 rfl) rfl ?_
              refine am_aload_n (q := 145) rfl (am_tab tk_X10_qGoesOn 71 rfl) rfl ?_
              refine am_getI (q := 148) (a := 55) (k := 10) (n := 108) (j := 2) (x := ((zP b E i : Int) + 1)) (Ls_55 hZ1.1) (by decide) rfl e1 (by decide) (Or.inl kf_X10_254) (am_tab tk_X10_qGoesOn 72 rfl) rfl ?_
              refine am_iconst (q := 149) (n := 1) (by decide) (am_tab tk_X10_qGoesOn 73 rfl) rfl ?_
              refine am_isub (q := 150) (by omega) (am_tab tk_X10_qGoesOn 74 rfl) rfl ?_
              refine am_iald (q := 151) (a := 56) (n := 1600) (x := 42) (Ls_56 hZ1.1) (by omega) (by omega) (by rw [show Int.toNat (((zP b E i : Int) + 1) - 1) = zP b E i by omega, hZ1.2.2.1.1]; exact hbyt) (am_tab tk_X10_qGoesOn 75 rfl) rfl ?_
              refine am_bipush (q := 153) (n := 42) (by decide) rfl (am_tab tk_X10_qGoesOn 76 rfl) rfl ?_
              refine am_icmp_ne (q := 156) (t := 160) (am_tab tk_X10_qGoesOn 77 rfl) (by decide) rfl (fun h153 => ?_) (fun h153 => ?_)
              · exact absurd rfl h153
              · refine am_iconst (q := 157) (n := 3) (by decide) (am_tab tk_X10_qGoesOn 78 rfl) rfl ?_
                refine am_goto (t := 161) (am_tab tk_X10_qGoesOn 79 rfl) (by decide) ?_
                refine am_istore_n (q := 162) (by decide) (ls2 := [(1, am_i 3), (0, am_r 55)]) rfl (am_tab tk_X10_qGoesOn 81 rfl) rfl ?_
                obtain ⟨wh, hwh⟩ : ∃ wh : Int, wh = 3 := ⟨_, rfl⟩
                have L162 : ∀ (n162 : Nat) (t : List Int) (c : List Int) (T5 : am_H), t.length < n162 → QV c (t ++ out) o (out.length : Int) T5 → frw W_q T1 T5 → c.length + t.length = rc.length + ws.length → drF p34 rc ws = drF p34 c t → am_wp M_X10_qGoesOn Q 0 0 162 [(1, am_i wh), (0, am_r 55)] [] T5 := by
                  intro n162
                  induction n162 with
                  | zero => intro t c T5 hn162; exact absurd hn162 (Nat.not_lt_zero _)
                  | succ n162 ih162 =>
                    intro t c T5 hn162 hV5 hF5 hlc hd
                    have hL5 : lay T5 := hF5.L hZ1.1
                    have htl : (t ++ out).length = t.length + out.length := List.length_append
                    have hT0 : (0 < t.length → ∀ x, onT (t ++ out) x = decide (t.headD 0 = x)) ∧ (¬ 0 < t.length → ∀ x, 1 ≤ x → x ≤ 4 → onT (t ++ out) x = false) := by
                      cases t with
                      | nil => exact ⟨fun h => absurd h (by simp), fun _ x h1 h2 => hout x h1 h2⟩
                      | cons y t => exact ⟨fun _ x => rfl, fun h => absurd (by simp) h⟩
                    refine am_aload_n (q := 163) rfl (am_tab tk_X10_qGoesOn 82 rfl) rfl ?_
                    refine am_iconst (q := 164) (n := 3) (by decide) (am_tab tk_X10_qGoesOn 83 rfl) rfl ?_
                    refine am_callV0 (q := 167) (me2 := M_X10_qIsOn) (b := 55) (kb := 10) (nb := 108) (As := [am_i 3]) (rest := []) (out := [am_i (b2i (onT (t ++ out) 3))]) (c_X10_qIsOn c (t ++ out) o (out.length : Int) T5 hL5 hV5 3 (by rw [List.length_append]; omega)) ⟨rfl, rfl⟩ (Ls_55 hL5) (by decide) ⟨Or.inl km_X10_618, kc_X10_qIsOn, kn_X10, kd_X10_qIsOn, ⟨(Nat.le_of_ble_eq_true rfl), (Nat.le_of_ble_eq_true rfl)⟩, ⟨(Nat.le_of_ble_eq_true rfl), (Nat.le_of_ble_eq_true rfl)⟩, (Nat.le_of_ble_eq_true rfl)⟩ ki_X10_qIsOn ks_X10_qIsOn rfl rfl (am_tab tk_X10_qGoesOn 84 rfl) rfl ?_
                    refine am_if_ne (q := 170) (t := 178) (am_tab tk_X10_qGoesOn 85 rfl) (by decide) rfl (fun h167 => ?_) (fun h167 => ?_)
                    · have hge : 0 < t.length := by
                        rcases Nat.lt_or_ge 0 t.length with h9 | h9
                        · exact h9
                        · exfalso
                          have h8 := b2t h167
                          rw [hT0.2 (by omega) 3 (by omega) (by omega)] at h8
                          exact absurd h8 (by simp)
                      have htop : t.headD 0 = 3 := by
                        have h8 := b2t h167
                        rw [hT0.1 hge] at h8
                        simpa only [decide_eq_true_eq] using h8
                      refine am_aload_n (q := 179) rfl (am_tab tk_X10_qGoesOn 90 rfl) rfl ?_
                      refine am_callVr (q := 182) (me2 := M_X10_qDrops) (b := 55) (kb := 10) (nb := 108) (As := []) (rest := []) (c_dropI c t out o T5 hL5 hV5 hge (by omega) (by omega)) ⟨rfl, rfl⟩ (Ls_55 hL5) (by decide) ⟨Or.inl km_X10_591, kc_X10_qDrops, kn_X10, kd_X10_qDrops, ⟨(Nat.le_of_ble_eq_true rfl), (Nat.le_of_ble_eq_true rfl)⟩, ⟨(Nat.le_of_ble_eq_true rfl), (Nat.le_of_ble_eq_true rfl)⟩, (Nat.le_of_ble_eq_true rfl)⟩ ki_X10_qDrops ks_X10_qDrops rfl (am_tab tk_X10_qGoesOn 91 rfl) rfl ?_
                      rintro r T6 ⟨rfl, hV6, hF6⟩
                      refine am_st (st2 := []) rfl ?_
                      refine am_goto (t := 162) (am_tab tk_X10_qGoesOn 92 rfl) (by decide) ?_
                      have hpx : p34 (t.headD 0) = true := by
                        unfold p34
                        rw [decide_eq_true (by omega)]
                      exact am_less (by intro q hq; simp only [List.mem_cons, List.not_mem_nil, or_false] at hq; rcases hq with rfl | rfl <;> simp) (ih162 (t.tail) (t.headD 0 :: c) T6 (by rw [List.length_tail]; omega) hV6 (hF5.trans hF6) (by rw [List.length_cons, List.length_tail]; omega) (by rw [hd]; cases t with | nil => exact absurd hge (by simp) | cons x t => (show (if p34 x = true then _ else _) = _; rw [if_pos (show p34 x = true from hpx)]; rfl)))
                    · refine am_aload_n (q := 171) rfl (am_tab tk_X10_qGoesOn 86 rfl) rfl ?_
                      refine am_iconst (q := 172) (n := 4) (by decide) (am_tab tk_X10_qGoesOn 87 rfl) rfl ?_
                      refine am_callV0 (q := 175) (me2 := M_X10_qIsOn) (b := 55) (kb := 10) (nb := 108) (As := [am_i 4]) (rest := []) (out := [am_i (b2i (onT (t ++ out) 4))]) (c_X10_qIsOn c (t ++ out) o (out.length : Int) T5 hL5 hV5 4 (by rw [List.length_append]; omega)) ⟨rfl, rfl⟩ (Ls_55 hL5) (by decide) ⟨Or.inl km_X10_618, kc_X10_qIsOn, kn_X10, kd_X10_qIsOn, ⟨(Nat.le_of_ble_eq_true rfl), (Nat.le_of_ble_eq_true rfl)⟩, ⟨(Nat.le_of_ble_eq_true rfl), (Nat.le_of_ble_eq_true rfl)⟩, (Nat.le_of_ble_eq_true rfl)⟩ ki_X10_qIsOn ks_X10_qIsOn rfl rfl (am_tab tk_X10_qGoesOn 88 rfl) rfl ?_
                      refine am_if_eq (q := 178) (t := 185) (am_tab tk_X10_qGoesOn 89 rfl) (by decide) rfl (fun h175 => ?_) (fun h175 => ?_)
                      · refine am_aload_n (q := 186) rfl (am_tab tk_X10_qGoesOn 93 rfl) rfl ?_
                        refine am_getR (q := 189) (a := 55) (k := 10) (n := 108) (j := 98) (r := some (128)) (Ls_55 hL5) (by decide) rfl (Lr_55_98 hL5) (by decide) (Or.inl kf_X10_236) (am_tab tk_X10_qGoesOn 94 rfl) rfl ?_
                        refine am_aload_n (q := 190) rfl (am_tab tk_X10_qGoesOn 95 rfl) rfl ?_
                        refine am_getI (q := 193) (a := 55) (k := 10) (n := 108) (j := 99) (x := (((t ++ out).length : Nat) : Int)) (Ls_55 hL5) (by decide) rfl hV5.2.2.1 (by decide) (Or.inl kf_X10_339) (am_tab tk_X10_qGoesOn 96 rfl) rfl ?_
                        refine am_iload_n (q := 194) rfl (am_tab tk_X10_qGoesOn 97 rfl) rfl ?_
                        refine am_iast (q := 195) (a := 128) (n := 1700) (Ls_128 hL5) (by omega) (by omega) (am_tab tk_X10_qGoesOn 98 rfl) rfl ?_
                        refine am_aload_n (q := 196) rfl (am_tab tk_X10_qGoesOn 99 rfl) rfl ?_
                        refine am_dup (q := 197) rfl (am_tab tk_X10_qGoesOn 100 rfl) rfl ?_
                        refine am_getI (q := 200) (a := 55) (k := 10) (n := 108) (j := 99) (x := (((t ++ out).length : Nat) : Int)) (Ls_55 hL5) (by decide) rfl hV5.2.2.1 (by decide) (Or.inl kf_X10_339) (am_tab tk_X10_qGoesOn 101 rfl) rfl ?_
                        refine am_iconst (q := 201) (n := 1) (by decide) (am_tab tk_X10_qGoesOn 102 rfl) rfl ?_
                        refine am_iadd (q := 202) (by omega) (am_tab tk_X10_qGoesOn 103 rfl) rfl ?_
                        refine am_putI (q := 205) (k := 10) (n := 108) (j := 99) (Ls_55 hL5) (by decide) rfl (by decide) (Or.inl ⟨kf_X10_339, rfl⟩) (am_tab tk_X10_qGoesOn 104 rfl) rfl ?_
                        refine am_iconst (q := 206) (n := 1) (by decide) (am_tab tk_X10_qGoesOn 105 rfl) rfl ?_
                        refine am_iret (Or.inr ⟨rfl, by first | exact Or.inl rfl | exact Or.inr rfl | omega⟩) (Nat.le_of_ble_eq_true rfl) (Nat.le_of_ble_eq_true rfl) (am_tab tk_X10_qGoesOn 106 rfl) ?_
                        refine hQ _ _ ?_
                        have hdd : drF p34 c t = (c, t) := by
                          cases t with
                          | nil => rfl
                          | cons y t =>
                            show (if p34 y = true then _ else _) = _
                            rw [if_neg ?_]
                            intro h9
                            unfold p34 at h9
                            simp only [decide_eq_true_eq] at h9
                            have hh := hT0.1 (by simp)
                            have k167 : ¬ y = 3 := by
                              have h8 := b2f h167
                              rw [hh] at h8
                              exact of_decide_eq_false h8
                            have k175 : ¬ y = 4 := by
                              have h8 := b2f h175
                              rw [hh] at h8
                              exact of_decide_eq_false h8
                            omega
                        have hgt : gtF b E i rc ws o = .inl (1, i + 1, (drF p34 rc ws).1, 3 :: (drF p34 rc ws).2, o) := by
                          unfold gtF
                          rw [if_pos (Or.inl d1), if_pos d1]
                        rw [hd, hdd] at hgt
                        unfold goesF
                        rw [hres, hst]
                        rw [hgt]
                        have hdl := drF_len p34 ws rc
                        have hdo := drF_ok (p := p34) (by unfold p34; intro w h9; simp only [decide_eq_true_eq] at h9; omega) ws rc hok
                        rw [hd, hdd] at hdl hdo
                        simp only at hdl hdo
                        have hVn := hV5.push (v := wh)
                        rw [hwh] at hVn
                        have ea := opn_app t out
                        have eb : opn (3 :: (t ++ out)) = (if (3 : Int) = 12 ∨ 20 ≤ (3 : Int) then 1 else 0) + opn (t ++ out) := rfl
                        rw [if_neg (by omega)] at eb
                        rw [show Int.toNat (((t ++ out).length : Nat) : Int) = (t ++ out).length by omega, hwh]
                        have hFz : frw W_q T1 (am_setN (am_setN T5 128 (t ++ out).length 3) 55 99 ((((t ++ out).length : Nat) : Int) + 1)) := (hF5.setN (by unfold W_q; omega)).setN (by unfold W_q; omega)
                        refine ⟨⟨rfl, ⟨hZ1.q hFz, hVn, ?_, ⟨?_, ?_⟩, ?_, zP_on (by omega) hiz⟩, ?_⟩, hF.trans ((W_sc_p (((frw.refl W_sc T).setN (by unfold W_sc; omega)).trans hF1)).trans (W_q_p hFz))⟩
                        · rw [hFz.2.2 55 53 (by unfold W_q; omega), hF1.2.2 55 53 (by unfold W_sc; omega)]; exact h53
                        · show o = opn (3 :: t ++ out); rw [List.cons_append]; omega
                        · exact hon.2
                        · show c.length + (3 :: t).length + out.length ≤ i + 1; rw [List.length_cons]; omega
                        · show okS false (3 :: t) = true; unfold okS; rw [if_pos (by omega)]; exact hdo.2
                      · have hge : 0 < t.length := by
                          rcases Nat.lt_or_ge 0 t.length with h9 | h9
                          · exact h9
                          · exfalso
                            have h8 := b2t h175
                            rw [hT0.2 (by omega) 4 (by omega) (by omega)] at h8
                            exact absurd h8 (by simp)
                        have htop : t.headD 0 = 4 := by
                          have h8 := b2t h175
                          rw [hT0.1 hge] at h8
                          simpa only [decide_eq_true_eq] using h8
                        refine am_aload_n (q := 179) rfl (am_tab tk_X10_qGoesOn 90 rfl) rfl ?_
                        refine am_callVr (q := 182) (me2 := M_X10_qDrops) (b := 55) (kb := 10) (nb := 108) (As := []) (rest := []) (c_dropI c t out o T5 hL5 hV5 hge (by omega) (by omega)) ⟨rfl, rfl⟩ (Ls_55 hL5) (by decide) ⟨Or.inl km_X10_591, kc_X10_qDrops, kn_X10, kd_X10_qDrops, ⟨(Nat.le_of_ble_eq_true rfl), (Nat.le_of_ble_eq_true rfl)⟩, ⟨(Nat.le_of_ble_eq_true rfl), (Nat.le_of_ble_eq_true rfl)⟩, (Nat.le_of_ble_eq_true rfl)⟩ ki_X10_qDrops ks_X10_qDrops rfl (am_tab tk_X10_qGoesOn 91 rfl) rfl ?_
                        rintro r T6 ⟨rfl, hV6, hF6⟩
                        refine am_st (st2 := []) rfl ?_
                        refine am_goto (t := 162) (am_tab tk_X10_qGoesOn 92 rfl) (by decide) ?_
                        have hpx : p34 (t.headD 0) = true := by
                          unfold p34
                          rw [decide_eq_true (by omega)]
                        exact am_less (by intro q hq; simp only [List.mem_cons, List.not_mem_nil, or_false] at hq; rcases hq with rfl | rfl <;> simp) (ih162 (t.tail) (t.headD 0 :: c) T6 (by rw [List.length_tail]; omega) hV6 (hF5.trans hF6) (by rw [List.length_cons, List.length_tail]; omega) (by rw [hd]; cases t with | nil => exact absurd hge (by simp) | cons x t => (show (if p34 x = true then _ else _) = _; rw [if_pos (show p34 x = true from hpx)]; rfl)))
                refine am_less (by intro q hq; simp only [List.mem_cons, List.not_mem_nil, or_false] at hq; rcases hq with rfl | rfl <;> simp [hwh]) (L162 (_ + 1) ws rc T1 (by exact Nat.lt_succ_self _) (hV.sc (((frw.refl W_sc T).setN (by unfold W_sc; omega)).trans hF1)) (frw.refl _ T1) rfl rfl)
            · exact absurd h128 (by decide)
          · by_cases d2 : zK b E i = 47
            · refine am_aload_n (q := 123) rfl (am_tab tk_X10_qGoesOn 61 rfl) rfl ?_
              refine am_bipush (q := 125) (n := 42) (by decide) rfl (am_tab tk_X10_qGoesOn 62 rfl) rfl ?_
              refine am_callVr (q := 128) (me2 := M_X10_takesSign) (b := 55) (kb := 10) (nb := 108) (As := [am_i 42]) (rest := []) (c_takesSignN b E i (am_setN T 55 2 (zP b E i : Int)) hZ.look 42 (by decide) d1) ⟨rfl, rfl⟩ (Ls_55 hZ.1) (by decide) ⟨Or.inl km_X10_282, kc_X10_takesSign, kn_X10, kd_X10_takesSign, ⟨(Nat.le_of_ble_eq_true rfl), (Nat.le_of_ble_eq_true rfl)⟩, ⟨(Nat.le_of_ble_eq_true rfl), (Nat.le_of_ble_eq_true rfl)⟩, (Nat.le_of_ble_eq_true rfl)⟩ ki_X10_takesSign ks_X10_takesSign rfl (am_tab tk_X10_qGoesOn 63 rfl) rfl ?_
              rintro r τ ⟨rfl, rfl⟩
              refine am_hp2 (σ1 := (am_setN T 55 2 (zP b E i : Int))) (am_setN_N _ _ _ _ _) ?_
              refine am_st (st2 := [am_i 0]) rfl ?_
              refine am_if_ne (q := 131) (t := 140) (am_tab tk_X10_qGoesOn 64 rfl) (by decide) rfl (fun h128 => ?_) (fun h128 => ?_)
              · exact absurd h128 (by decide)
              · refine am_aload_n (q := 132) rfl (am_tab tk_X10_qGoesOn 65 rfl) rfl ?_
                refine am_bipush (q := 134) (n := 47) (by decide) rfl (am_tab tk_X10_qGoesOn 66 rfl) rfl ?_
                refine am_callVr (q := 137) (me2 := M_X10_takesSign) (b := 55) (kb := 10) (nb := 108) (As := [am_i 47]) (rest := []) (c_takesSignY b E i (am_setN T 55 2 (zP b E i : Int)) hZ.look 47 (by decide) d2) ⟨rfl, rfl⟩ (Ls_55 hZ.1) (by decide) ⟨Or.inl km_X10_282, kc_X10_takesSign, kn_X10, kd_X10_takesSign, ⟨(Nat.le_of_ble_eq_true rfl), (Nat.le_of_ble_eq_true rfl)⟩, ⟨(Nat.le_of_ble_eq_true rfl), (Nat.le_of_ble_eq_true rfl)⟩, (Nat.le_of_ble_eq_true rfl)⟩ ki_X10_takesSign ks_X10_takesSign rfl (am_tab tk_X10_qGoesOn 67 rfl) rfl ?_
                rintro r T1 ⟨rfl, hZ1, hF1, e1⟩
                have hbyt : b (zP b E i) = 47 := by
                  have h9 := (sg_iff (b := b) (E := E) (i := i) (c := 47) (by decide)).mpr d2
                  unfold byt at h9
                  rw [if_pos (zK_6 (by omega))] at h9
                  exact h9
                have hltE : zP b E i < E := zK_6 (by omega)
                refine am_st (st2 := [am_i 1]) rfl ?_
                refine am_if_eq (q := 140) (t := 207) (am_tab tk_X10_qGoesOn 68 rfl) (by decide) rfl (fun h137 => ?_) (fun h137 => ?_)
                · exact absurd h137 (by decide)
                · refine am_aload_n (q := 141) rfl (am_tab tk_X10_qGoesOn 69 rfl) rfl ?_
                  refine am_getR (q := 144) (a := 55) (k := 10) (n := 108) (j := 0) (r := some (56)) (Ls_55 hZ1.1) (by decide) rfl (Lr_55_0 hZ1.1) (by decide) (Or.inl kf_X10_7) (am_tab tk_X10_qGoesOn 70 rfl) rfl ?_
                  refine am_aload_n (q := 145) rfl (am_tab tk_X10_qGoesOn 71 rfl) rfl ?_
                  refine am_getI (q := 148) (a := 55) (k := 10) (n := 108) (j := 2) (x := ((zP b E i : Int) + 1)) (Ls_55 hZ1.1) (by decide) rfl e1 (by decide) (Or.inl kf_X10_254) (am_tab tk_X10_qGoesOn 72 rfl) rfl ?_
                  refine am_iconst (q := 149) (n := 1) (by decide) (am_tab tk_X10_qGoesOn 73 rfl) rfl ?_
                  refine am_isub (q := 150) (by omega) (am_tab tk_X10_qGoesOn 74 rfl) rfl ?_
                  refine am_iald (q := 151) (a := 56) (n := 1600) (x := 47) (Ls_56 hZ1.1) (by omega) (by omega) (by rw [show Int.toNat (((zP b E i : Int) + 1) - 1) = zP b E i by omega, hZ1.2.2.1.1]; exact hbyt) (am_tab tk_X10_qGoesOn 75 rfl) rfl ?_
                  refine am_bipush (q := 153) (n := 42) (by decide) rfl (am_tab tk_X10_qGoesOn 76 rfl) rfl ?_
                  refine am_icmp_ne (q := 156) (t := 160) (am_tab tk_X10_qGoesOn 77 rfl) (by decide) rfl (fun h153 => ?_) (fun h153 => ?_)
                  · refine am_iconst (q := 161) (n := 4) (by decide) (am_tab tk_X10_qGoesOn 80 rfl) rfl ?_
                    refine am_istore_n (q := 162) (by decide) (ls2 := [(1, am_i 4), (0, am_r 55)]) rfl (am_tab tk_X10_qGoesOn 81 rfl) rfl ?_
                    obtain ⟨wh, hwh⟩ : ∃ wh : Int, wh = 4 := ⟨_, rfl⟩
                    have L162 : ∀ (n162 : Nat) (t : List Int) (c : List Int) (T5 : am_H), t.length < n162 → QV c (t ++ out) o (out.length : Int) T5 → frw W_q T1 T5 → c.length + t.length = rc.length + ws.length → drF p34 rc ws = drF p34 c t → am_wp M_X10_qGoesOn Q 0 0 162 [(1, am_i wh), (0, am_r 55)] [] T5 := by
                      intro n162
                      induction n162 with
                      | zero => intro t c T5 hn162; exact absurd hn162 (Nat.not_lt_zero _)
                      | succ n162 ih162 =>
                        intro t c T5 hn162 hV5 hF5 hlc hd
                        have hL5 : lay T5 := hF5.L hZ1.1
                        have htl : (t ++ out).length = t.length + out.length := List.length_append
                        have hT0 : (0 < t.length → ∀ x, onT (t ++ out) x = decide (t.headD 0 = x)) ∧ (¬ 0 < t.length → ∀ x, 1 ≤ x → x ≤ 4 → onT (t ++ out) x = false) := by
                          cases t with
                          | nil => exact ⟨fun h => absurd h (by simp), fun _ x h1 h2 => hout x h1 h2⟩
                          | cons y t => exact ⟨fun _ x => rfl, fun h => absurd (by simp) h⟩
                        refine am_aload_n (q := 163) rfl (am_tab tk_X10_qGoesOn 82 rfl) rfl ?_
                        refine am_iconst (q := 164) (n := 3) (by decide) (am_tab tk_X10_qGoesOn 83 rfl) rfl ?_
                        refine am_callV0 (q := 167) (me2 := M_X10_qIsOn) (b := 55) (kb := 10) (nb := 108) (As := [am_i 3]) (rest := []) (out := [am_i (b2i (onT (t ++ out) 3))]) (c_X10_qIsOn c (t ++ out) o (out.length : Int) T5 hL5 hV5 3 (by rw [List.length_append]; omega)) ⟨rfl, rfl⟩ (Ls_55 hL5) (by decide) ⟨Or.inl km_X10_618, kc_X10_qIsOn, kn_X10, kd_X10_qIsOn, ⟨(Nat.le_of_ble_eq_true rfl), (Nat.le_of_ble_eq_true rfl)⟩, ⟨(Nat.le_of_ble_eq_true rfl), (Nat.le_of_ble_eq_true rfl)⟩, (Nat.le_of_ble_eq_true rfl)⟩ ki_X10_qIsOn ks_X10_qIsOn rfl rfl (am_tab tk_X10_qGoesOn 84 rfl) rfl ?_
                        refine am_if_ne (q := 170) (t := 178) (am_tab tk_X10_qGoesOn 85 rfl) (by decide) rfl (fun h167 => ?_) (fun h167 => ?_)
                        · have hge : 0 < t.length := by
                            rcases Nat.lt_or_ge 0 t.length with h9 | h9
                            · exact h9
                            · exfalso
                              have h8 := b2t h167
                              rw [hT0.2 (by omega) 3 (by omega) (by omega)] at h8
                              exact absurd h8 (by simp)
                          have htop : t.headD 0 = 3 := by
                            have h8 := b2t h167
                            rw [hT0.1 hge] at h8
                            simpa only [decide_eq_true_eq] using h8
                          refine am_aload_n (q := 179) rfl (am_tab tk_X10_qGoesOn 90 rfl) rfl ?_
                          refine am_callVr (q := 182) (me2 := M_X10_qDrops) (b := 55) (kb := 10) (nb := 108) (As := []) (rest := []) (c_dropI c t out o T5 hL5 hV5 hge (by omega) (by omega)) ⟨rfl, rfl⟩ (Ls_55 hL5) (by decide) ⟨Or.inl km_X10_591, kc_X10_qDrops, kn_X10, kd_X10_qDrops, ⟨(Nat.le_of_ble_eq_true rfl), (Nat.le_of_ble_eq_true rfl)⟩, ⟨(Nat.le_of_ble_eq_true rfl), (Nat.le_of_ble_eq_true rfl)⟩, (Nat.le_of_ble_eq_true rfl)⟩ ki_X10_qDrops ks_X10_qDrops rfl (am_tab tk_X10_qGoesOn 91 rfl) rfl ?_
                          rintro r T6 ⟨rfl, hV6, hF6⟩
                          refine am_st (st2 := []) rfl ?_
                          refine am_goto (t := 162) (am_tab tk_X10_qGoesOn 92 rfl) (by decide) ?_
                          have hpx : p34 (t.headD 0) = true := by
                            unfold p34
                            rw [decide_eq_true (by omega)]
                          exact am_less (by intro q hq; simp only [List.mem_cons, List.not_mem_nil, or_false] at hq; rcases hq with rfl | rfl <;> simp) (ih162 (t.tail) (t.headD 0 :: c) T6 (by rw [List.length_tail]; omega) hV6 (hF5.trans hF6) (by rw [List.length_cons, List.length_tail]; omega) (by rw [hd]; cases t with | nil => exact absurd hge (by simp) | cons x t => (show (if p34 x = true then _ else _) = _; rw [if_pos (show p34 x = true from hpx)]; rfl)))
                        · refine am_aload_n (q := 171) rfl (am_tab tk_X10_qGoesOn 86 rfl) rfl ?_
                          refine am_iconst (q := 172) (n := 4) (by decide) (am_tab tk_X10_qGoesOn 87 rfl) rfl ?_
                          refine am_callV0 (q := 175) (me2 := M_X10_qIsOn) (b := 55) (kb := 10) (nb := 108) (As := [am_i 4]) (rest := []) (out := [am_i (b2i (onT (t ++ out) 4))]) (c_X10_qIsOn c (t ++ out) o (out.length : Int) T5 hL5 hV5 4 (by rw [List.length_append]; omega)) ⟨rfl, rfl⟩ (Ls_55 hL5) (by decide) ⟨Or.inl km_X10_618, kc_X10_qIsOn, kn_X10, kd_X10_qIsOn, ⟨(Nat.le_of_ble_eq_true rfl), (Nat.le_of_ble_eq_true rfl)⟩, ⟨(Nat.le_of_ble_eq_true rfl), (Nat.le_of_ble_eq_true rfl)⟩, (Nat.le_of_ble_eq_true rfl)⟩ ki_X10_qIsOn ks_X10_qIsOn rfl rfl (am_tab tk_X10_qGoesOn 88 rfl) rfl ?_
                          refine am_if_eq (q := 178) (t := 185) (am_tab tk_X10_qGoesOn 89 rfl) (by decide) rfl (fun h175 => ?_) (fun h175 => ?_)
                          · refine am_aload_n (q := 186) rfl (am_tab tk_X10_qGoesOn 93 rfl) rfl ?_
                            refine am_getR (q := 189) (a := 55) (k := 10) (n := 108) (j := 98) (r := some (128)) (Ls_55 hL5) (by decide) rfl (Lr_55_98 hL5) (by decide) (Or.inl kf_X10_236) (am_tab tk_X10_qGoesOn 94 rfl) rfl ?_
                            refine am_aload_n (q := 190) rfl (am_tab tk_X10_qGoesOn 95 rfl) rfl ?_
                            refine am_getI (q := 193) (a := 55) (k := 10) (n := 108) (j := 99) (x := (((t ++ out).length : Nat) : Int)) (Ls_55 hL5) (by decide) rfl hV5.2.2.1 (by decide) (Or.inl kf_X10_339) (am_tab tk_X10_qGoesOn 96 rfl) rfl ?_
                            refine am_iload_n (q := 194) rfl (am_tab tk_X10_qGoesOn 97 rfl) rfl ?_
                            refine am_iast (q := 195) (a := 128) (n := 1700) (Ls_128 hL5) (by omega) (by omega) (am_tab tk_X10_qGoesOn 98 rfl) rfl ?_
                            refine am_aload_n (q := 196) rfl (am_tab tk_X10_qGoesOn 99 rfl) rfl ?_
                            refine am_dup (q := 197) rfl (am_tab tk_X10_qGoesOn 100 rfl) rfl ?_
                            refine am_getI (q := 200) (a := 55) (k := 10) (n := 108) (j := 99) (x := (((t ++ out).length : Nat) : Int)) (Ls_55 hL5) (by decide) rfl hV5.2.2.1 (by decide) (Or.inl kf_X10_339) (am_tab tk_X10_qGoesOn 101 rfl) rfl ?_
                            refine am_iconst (q := 201) (n := 1) (by decide) (am_tab tk_X10_qGoesOn 102 rfl) rfl ?_
                            refine am_iadd (q := 202) (by omega) (am_tab tk_X10_qGoesOn 103 rfl) rfl ?_
                            refine am_putI (q := 205) (k := 10) (n := 108) (j := 99) (Ls_55 hL5) (by decide) rfl (by decide) (Or.inl ⟨kf_X10_339, rfl⟩) (am_tab tk_X10_qGoesOn 104 rfl) rfl ?_
                            refine am_iconst (q := 206) (n := 1) (by decide) (am_tab tk_X10_qGoesOn 105 rfl) rfl ?_
                            refine am_iret (Or.inr ⟨rfl, by first | exact Or.inl rfl | exact Or.inr rfl | omega⟩) (Nat.le_of_ble_eq_true rfl) (Nat.le_of_ble_eq_true rfl) (am_tab tk_X10_qGoesOn 106 rfl) ?_
                            refine hQ _ _ ?_
                            have hdd : drF p34 c t = (c, t) := by
                              cases t with
                              | nil => rfl
                              | cons y t =>
                                show (if p34 y = true then _ else _) = _
                                rw [if_neg ?_]
                                intro h9
                                unfold p34 at h9
                                simp only [decide_eq_true_eq] at h9
                                have hh := hT0.1 (by simp)
                                have k167 : ¬ y = 3 := by
                                  have h8 := b2f h167
                                  rw [hh] at h8
                                  exact of_decide_eq_false h8
                                have k175 : ¬ y = 4 := by
                                  have h8 := b2f h175
                                  rw [hh] at h8
                                  exact of_decide_eq_false h8
                                omega
                            have hgt : gtF b E i rc ws o = .inl (1, i + 1, (drF p34 rc ws).1, 4 :: (drF p34 rc ws).2, o) := by
                              unfold gtF
                              rw [if_pos (Or.inr d2), if_neg d1]
                            rw [hd, hdd] at hgt
                            unfold goesF
                            rw [hres, hst]
                            rw [hgt]
                            have hdl := drF_len p34 ws rc
                            have hdo := drF_ok (p := p34) (by unfold p34; intro w h9; simp only [decide_eq_true_eq] at h9; omega) ws rc hok
                            rw [hd, hdd] at hdl hdo
                            simp only at hdl hdo
                            have hVn := hV5.push (v := wh)
                            rw [hwh] at hVn
                            have ea := opn_app t out
                            have eb : opn (4 :: (t ++ out)) = (if (4 : Int) = 12 ∨ 20 ≤ (4 : Int) then 1 else 0) + opn (t ++ out) := rfl
                            rw [if_neg (by omega)] at eb
                            rw [show Int.toNat (((t ++ out).length : Nat) : Int) = (t ++ out).length by omega, hwh]
                            have hFz : frw W_q T1 (am_setN (am_setN T5 128 (t ++ out).length 4) 55 99 ((((t ++ out).length : Nat) : Int) + 1)) := (hF5.setN (by unfold W_q; omega)).setN (by unfold W_q; omega)
                            refine ⟨⟨rfl, ⟨hZ1.q hFz, hVn, ?_, ⟨?_, ?_⟩, ?_, zP_on (by omega) hiz⟩, ?_⟩, hF.trans ((W_sc_p (((frw.refl W_sc T).setN (by unfold W_sc; omega)).trans hF1)).trans (W_q_p hFz))⟩
                            · rw [hFz.2.2 55 53 (by unfold W_q; omega), hF1.2.2 55 53 (by unfold W_sc; omega)]; exact h53
                            · show o = opn (4 :: t ++ out); rw [List.cons_append]; omega
                            · exact hon.2
                            · show c.length + (4 :: t).length + out.length ≤ i + 1; rw [List.length_cons]; omega
                            · show okS false (4 :: t) = true; unfold okS; rw [if_pos (by omega)]; exact hdo.2
                          · have hge : 0 < t.length := by
                              rcases Nat.lt_or_ge 0 t.length with h9 | h9
                              · exact h9
                              · exfalso
                                have h8 := b2t h175
                                rw [hT0.2 (by omega) 4 (by omega) (by omega)] at h8
                                exact absurd h8 (by simp)
                            have htop : t.headD 0 = 4 := by
                              have h8 := b2t h175
                              rw [hT0.1 hge] at h8
                              simpa only [decide_eq_true_eq] using h8
                            refine am_aload_n (q := 179) rfl (am_tab tk_X10_qGoesOn 90 rfl) rfl ?_
                            refine am_callVr (q := 182) (me2 := M_X10_qDrops) (b := 55) (kb := 10) (nb := 108) (As := []) (rest := []) (c_dropI c t out o T5 hL5 hV5 hge (by omega) (by omega)) ⟨rfl, rfl⟩ (Ls_55 hL5) (by decide) ⟨Or.inl km_X10_591, kc_X10_qDrops, kn_X10, kd_X10_qDrops, ⟨(Nat.le_of_ble_eq_true rfl), (Nat.le_of_ble_eq_true rfl)⟩, ⟨(Nat.le_of_ble_eq_true rfl), (Nat.le_of_ble_eq_true rfl)⟩, (Nat.le_of_ble_eq_true rfl)⟩ ki_X10_qDrops ks_X10_qDrops rfl (am_tab tk_X10_qGoesOn 91 rfl) rfl ?_
                            rintro r T6 ⟨rfl, hV6, hF6⟩
                            refine am_st (st2 := []) rfl ?_
                            refine am_goto (t := 162) (am_tab tk_X10_qGoesOn 92 rfl) (by decide) ?_
                            have hpx : p34 (t.headD 0) = true := by
                              unfold p34
                              rw [decide_eq_true (by omega)]
                            exact am_less (by intro q hq; simp only [List.mem_cons, List.not_mem_nil, or_false] at hq; rcases hq with rfl | rfl <;> simp) (ih162 (t.tail) (t.headD 0 :: c) T6 (by rw [List.length_tail]; omega) hV6 (hF5.trans hF6) (by rw [List.length_cons, List.length_tail]; omega) (by rw [hd]; cases t with | nil => exact absurd hge (by simp) | cons x t => (show (if p34 x = true then _ else _) = _; rw [if_pos (show p34 x = true from hpx)]; rfl)))
                    refine am_less (by intro q hq; simp only [List.mem_cons, List.not_mem_nil, or_false] at hq; rcases hq with rfl | rfl <;> simp [hwh]) (L162 (_ + 1) ws rc T1 (by exact Nat.lt_succ_self _) (hV.sc (((frw.refl W_sc T).setN (by unfold W_sc; omega)).trans hF1)) (frw.refl _ T1) rfl rfl)
                  · exact absurd h153 (by decide)
            · by_cases d3 : zK b E i = 43
              · refine am_aload_n (q := 123) rfl (am_tab tk_X10_qGoesOn 61 rfl) rfl ?_
                refine am_bipush (q := 125) (n := 42) (by decide) rfl (am_tab tk_X10_qGoesOn 62 rfl) rfl ?_
                refine am_callVr (q := 128) (me2 := M_X10_takesSign) (b := 55) (kb := 10) (nb := 108) (As := [am_i 42]) (rest := []) (c_takesSignN b E i (am_setN T 55 2 (zP b E i : Int)) hZ.look 42 (by decide) d1) ⟨rfl, rfl⟩ (Ls_55 hZ.1) (by decide) ⟨Or.inl km_X10_282, kc_X10_takesSign, kn_X10, kd_X10_takesSign, ⟨(Nat.le_of_ble_eq_true rfl), (Nat.le_of_ble_eq_true rfl)⟩, ⟨(Nat.le_of_ble_eq_true rfl), (Nat.le_of_ble_eq_true rfl)⟩, (Nat.le_of_ble_eq_true rfl)⟩ ki_X10_takesSign ks_X10_takesSign rfl (am_tab tk_X10_qGoesOn 63 rfl) rfl ?_
                rintro r τ ⟨rfl, rfl⟩
                refine am_hp2 (σ1 := (am_setN T 55 2 (zP b E i : Int))) (am_setN_N _ _ _ _ _) ?_
                refine am_st (st2 := [am_i 0]) rfl ?_
                refine am_if_ne (q := 131) (t := 140) (am_tab tk_X10_qGoesOn 64 rfl) (by decide) rfl (fun h128 => ?_) (fun h128 => ?_)
                · exact absurd h128 (by decide)
                · refine am_aload_n (q := 132) rfl (am_tab tk_X10_qGoesOn 65 rfl) rfl ?_
                  refine am_bipush (q := 134) (n := 47) (by decide) rfl (am_tab tk_X10_qGoesOn 66 rfl) rfl ?_
                  refine am_callVr (q := 137) (me2 := M_X10_takesSign) (b := 55) (kb := 10) (nb := 108) (As := [am_i 47]) (rest := []) (c_takesSignN b E i (am_setN T 55 2 (zP b E i : Int)) hZ.look 47 (by decide) d2) ⟨rfl, rfl⟩ (Ls_55 hZ.1) (by decide) ⟨Or.inl km_X10_282, kc_X10_takesSign, kn_X10, kd_X10_takesSign, ⟨(Nat.le_of_ble_eq_true rfl), (Nat.le_of_ble_eq_true rfl)⟩, ⟨(Nat.le_of_ble_eq_true rfl), (Nat.le_of_ble_eq_true rfl)⟩, (Nat.le_of_ble_eq_true rfl)⟩ ki_X10_takesSign ks_X10_takesSign rfl (am_tab tk_X10_qGoesOn 67 rfl) rfl ?_
                  rintro r τ ⟨rfl, rfl⟩
                  refine am_hp2 (σ1 := (am_setN T 55 2 (zP b E i : Int))) (am_setN_N _ _ _ _ _) ?_
                  refine am_st (st2 := [am_i 0]) rfl ?_
                  refine am_if_eq (q := 140) (t := 207) (am_tab tk_X10_qGoesOn 68 rfl) (by decide) rfl (fun h137 => ?_) (fun h137 => ?_)
                  · refine am_aload_n (q := 208) rfl (am_tab tk_X10_qGoesOn 107 rfl) rfl ?_
                    refine am_bipush (q := 210) (n := 43) (by decide) rfl (am_tab tk_X10_qGoesOn 108 rfl) rfl ?_
                    refine am_callVr (q := 213) (me2 := M_X10_takesSign) (b := 55) (kb := 10) (nb := 108) (As := [am_i 43]) (rest := []) (c_takesSignY b E i (am_setN T 55 2 (zP b E i : Int)) hZ.look 43 (by decide) d3) ⟨rfl, rfl⟩ (Ls_55 hZ.1) (by decide) ⟨Or.inl km_X10_282, kc_X10_takesSign, kn_X10, kd_X10_takesSign, ⟨(Nat.le_of_ble_eq_true rfl), (Nat.le_of_ble_eq_true rfl)⟩, ⟨(Nat.le_of_ble_eq_true rfl), (Nat.le_of_ble_eq_true rfl)⟩, (Nat.le_of_ble_eq_true rfl)⟩ ki_X10_takesSign ks_X10_takesSign rfl (am_tab tk_X10_qGoesOn 109 rfl) rfl ?_
                    rintro r T1 ⟨rfl, hZ1, hF1, e1⟩
                    have hbyt : b (zP b E i) = 43 := by
                      have h9 := (sg_iff (b := b) (E := E) (i := i) (c := 43) (by decide)).mpr d3
                      unfold byt at h9
                      rw [if_pos (zK_6 (by omega))] at h9
                      exact h9
                    have hltE : zP b E i < E := zK_6 (by omega)
                    refine am_st (st2 := [am_i 1]) rfl ?_
                    refine am_if_ne (q := 216) (t := 225) (am_tab tk_X10_qGoesOn 110 rfl) (by decide) rfl (fun h213 => ?_) (fun h213 => ?_)
                    · refine am_aload_n (q := 226) rfl (am_tab tk_X10_qGoesOn 115 rfl) rfl ?_
                      refine am_getR (q := 229) (a := 55) (k := 10) (n := 108) (j := 0) (r := some (56)) (Ls_55 hZ1.1) (by decide) rfl (Lr_55_0 hZ1.1) (by decide) (Or.inl kf_X10_7) (am_tab tk_X10_qGoesOn 116 rfl) rfl ?_
                      refine am_aload_n (q := 230) rfl (am_tab tk_X10_qGoesOn 117 rfl) rfl ?_
                      refine am_getI (q := 233) (a := 55) (k := 10) (n := 108) (j := 2) (x := ((zP b E i : Int) + 1)) (Ls_55 hZ1.1) (by decide) rfl e1 (by decide) (Or.inl kf_X10_254) (am_tab tk_X10_qGoesOn 118 rfl) rfl ?_
                      refine am_iconst (q := 234) (n := 1) (by decide) (am_tab tk_X10_qGoesOn 119 rfl) rfl ?_
                      refine am_isub (q := 235) (by omega) (am_tab tk_X10_qGoesOn 120 rfl) rfl ?_
                      refine am_iald (q := 236) (a := 56) (n := 1600) (x := 43) (Ls_56 hZ1.1) (by omega) (by omega) (by rw [show Int.toNat (((zP b E i : Int) + 1) - 1) = zP b E i by omega, hZ1.2.2.1.1]; exact hbyt) (am_tab tk_X10_qGoesOn 121 rfl) rfl ?_
                      refine am_bipush (q := 238) (n := 43) (by decide) rfl (am_tab tk_X10_qGoesOn 122 rfl) rfl ?_
                      refine am_icmp_ne (q := 241) (t := 245) (am_tab tk_X10_qGoesOn 123 rfl) (by decide) rfl (fun h238 => ?_) (fun h238 => ?_)
                      · exact absurd rfl h238
                      · refine am_iconst (q := 242) (n := 1) (by decide) (am_tab tk_X10_qGoesOn 124 rfl) rfl ?_
                        refine am_goto (t := 246) (am_tab tk_X10_qGoesOn 125 rfl) (by decide) ?_
                        refine am_istore_n (q := 247) (by decide) (ls2 := [(1, am_i 1), (0, am_r 55)]) rfl (am_tab tk_X10_qGoesOn 127 rfl) rfl ?_
                        obtain ⟨wh, hwh⟩ : ∃ wh : Int, wh = 1 := ⟨_, rfl⟩
                        have L247 : ∀ (n247 : Nat) (t : List Int) (c : List Int) (T5 : am_H), t.length < n247 → QV c (t ++ out) o (out.length : Int) T5 → frw W_q T1 T5 → c.length + t.length = rc.length + ws.length → drF p14 rc ws = drF p14 c t → am_wp M_X10_qGoesOn Q 0 0 247 [(1, am_i wh), (0, am_r 55)] [] T5 := by
                          intro n247
                          induction n247 with
                          | zero => intro t c T5 hn247; exact absurd hn247 (Nat.not_lt_zero _)
                          | succ n247 ih247 =>
                            intro t c T5 hn247 hV5 hF5 hlc hd
                            have hL5 : lay T5 := hF5.L hZ1.1
                            have htl : (t ++ out).length = t.length + out.length := List.length_append
                            have hT0 : (0 < t.length → ∀ x, onT (t ++ out) x = decide (t.headD 0 = x)) ∧ (¬ 0 < t.length → ∀ x, 1 ≤ x → x ≤ 4 → onT (t ++ out) x = false) := by
                              cases t with
                              | nil => exact ⟨fun h => absurd h (by simp), fun _ x h1 h2 => hout x h1 h2⟩
                              | cons y t => exact ⟨fun _ x => rfl, fun h => absurd (by simp) h⟩
                            refine am_aload_n (q := 248) rfl (am_tab tk_X10_qGoesOn 128 rfl) rfl ?_
                            refine am_iconst (q := 249) (n := 3) (by decide) (am_tab tk_X10_qGoesOn 129 rfl) rfl ?_
                            refine am_callV0 (q := 252) (me2 := M_X10_qIsOn) (b := 55) (kb := 10) (nb := 108) (As := [am_i 3]) (rest := []) (out := [am_i (b2i (onT (t ++ out) 3))]) (c_X10_qIsOn c (t ++ out) o (out.length : Int) T5 hL5 hV5 3 (by rw [List.length_append]; omega)) ⟨rfl, rfl⟩ (Ls_55 hL5) (by decide) ⟨Or.inl km_X10_618, kc_X10_qIsOn, kn_X10, kd_X10_qIsOn, ⟨(Nat.le_of_ble_eq_true rfl), (Nat.le_of_ble_eq_true rfl)⟩, ⟨(Nat.le_of_ble_eq_true rfl), (Nat.le_of_ble_eq_true rfl)⟩, (Nat.le_of_ble_eq_true rfl)⟩ ki_X10_qIsOn ks_X10_qIsOn rfl rfl (am_tab tk_X10_qGoesOn 130 rfl) rfl ?_
                            refine am_if_ne (q := 255) (t := 279) (am_tab tk_X10_qGoesOn 131 rfl) (by decide) rfl (fun h252 => ?_) (fun h252 => ?_)
                            · have hge : 0 < t.length := by
                                rcases Nat.lt_or_ge 0 t.length with h9 | h9
                                · exact h9
                                · exfalso
                                  have h8 := b2t h252
                                  rw [hT0.2 (by omega) 3 (by omega) (by omega)] at h8
                                  exact absurd h8 (by simp)
                              have htop : t.headD 0 = 3 := by
                                have h8 := b2t h252
                                rw [hT0.1 hge] at h8
                                simpa only [decide_eq_true_eq] using h8
                              refine am_aload_n (q := 280) rfl (am_tab tk_X10_qGoesOn 144 rfl) rfl ?_
                              refine am_callVr (q := 283) (me2 := M_X10_qDrops) (b := 55) (kb := 10) (nb := 108) (As := []) (rest := []) (c_dropI c t out o T5 hL5 hV5 hge (by omega) (by omega)) ⟨rfl, rfl⟩ (Ls_55 hL5) (by decide) ⟨Or.inl km_X10_591, kc_X10_qDrops, kn_X10, kd_X10_qDrops, ⟨(Nat.le_of_ble_eq_true rfl), (Nat.le_of_ble_eq_true rfl)⟩, ⟨(Nat.le_of_ble_eq_true rfl), (Nat.le_of_ble_eq_true rfl)⟩, (Nat.le_of_ble_eq_true rfl)⟩ ki_X10_qDrops ks_X10_qDrops rfl (am_tab tk_X10_qGoesOn 145 rfl) rfl ?_
                              rintro r T6 ⟨rfl, hV6, hF6⟩
                              refine am_st (st2 := []) rfl ?_
                              refine am_goto (t := 247) (am_tab tk_X10_qGoesOn 146 rfl) (by decide) ?_
                              have hpx : p14 (t.headD 0) = true := by
                                unfold p14
                                rw [decide_eq_true (by omega)]
                              exact am_less (by intro q hq; simp only [List.mem_cons, List.not_mem_nil, or_false] at hq; rcases hq with rfl | rfl <;> simp) (ih247 (t.tail) (t.headD 0 :: c) T6 (by rw [List.length_tail]; omega) hV6 (hF5.trans hF6) (by rw [List.length_cons, List.length_tail]; omega) (by rw [hd]; cases t with | nil => exact absurd hge (by simp) | cons x t => (show (if p14 x = true then _ else _) = _; rw [if_pos (show p14 x = true from hpx)]; rfl)))
                            · refine am_aload_n (q := 256) rfl (am_tab tk_X10_qGoesOn 132 rfl) rfl ?_
                              refine am_iconst (q := 257) (n := 4) (by decide) (am_tab tk_X10_qGoesOn 133 rfl) rfl ?_
                              refine am_callV0 (q := 260) (me2 := M_X10_qIsOn) (b := 55) (kb := 10) (nb := 108) (As := [am_i 4]) (rest := []) (out := [am_i (b2i (onT (t ++ out) 4))]) (c_X10_qIsOn c (t ++ out) o (out.length : Int) T5 hL5 hV5 4 (by rw [List.length_append]; omega)) ⟨rfl, rfl⟩ (Ls_55 hL5) (by decide) ⟨Or.inl km_X10_618, kc_X10_qIsOn, kn_X10, kd_X10_qIsOn, ⟨(Nat.le_of_ble_eq_true rfl), (Nat.le_of_ble_eq_true rfl)⟩, ⟨(Nat.le_of_ble_eq_true rfl), (Nat.le_of_ble_eq_true rfl)⟩, (Nat.le_of_ble_eq_true rfl)⟩ ki_X10_qIsOn ks_X10_qIsOn rfl rfl (am_tab tk_X10_qGoesOn 134 rfl) rfl ?_
                              refine am_if_ne (q := 263) (t := 279) (am_tab tk_X10_qGoesOn 135 rfl) (by decide) rfl (fun h260 => ?_) (fun h260 => ?_)
                              · have hge : 0 < t.length := by
                                  rcases Nat.lt_or_ge 0 t.length with h9 | h9
                                  · exact h9
                                  · exfalso
                                    have h8 := b2t h260
                                    rw [hT0.2 (by omega) 4 (by omega) (by omega)] at h8
                                    exact absurd h8 (by simp)
                                have htop : t.headD 0 = 4 := by
                                  have h8 := b2t h260
                                  rw [hT0.1 hge] at h8
                                  simpa only [decide_eq_true_eq] using h8
                                refine am_aload_n (q := 280) rfl (am_tab tk_X10_qGoesOn 144 rfl) rfl ?_
                                refine am_callVr (q := 283) (me2 := M_X10_qDrops) (b := 55) (kb := 10) (nb := 108) (As := []) (rest := []) (c_dropI c t out o T5 hL5 hV5 hge (by omega) (by omega)) ⟨rfl, rfl⟩ (Ls_55 hL5) (by decide) ⟨Or.inl km_X10_591, kc_X10_qDrops, kn_X10, kd_X10_qDrops, ⟨(Nat.le_of_ble_eq_true rfl), (Nat.le_of_ble_eq_true rfl)⟩, ⟨(Nat.le_of_ble_eq_true rfl), (Nat.le_of_ble_eq_true rfl)⟩, (Nat.le_of_ble_eq_true rfl)⟩ ki_X10_qDrops ks_X10_qDrops rfl (am_tab tk_X10_qGoesOn 145 rfl) rfl ?_
                                rintro r T6 ⟨rfl, hV6, hF6⟩
                                refine am_st (st2 := []) rfl ?_
                                refine am_goto (t := 247) (am_tab tk_X10_qGoesOn 146 rfl) (by decide) ?_
                                have hpx : p14 (t.headD 0) = true := by
                                  unfold p14
                                  rw [decide_eq_true (by omega)]
                                exact am_less (by intro q hq; simp only [List.mem_cons, List.not_mem_nil, or_false] at hq; rcases hq with rfl | rfl <;> simp) (ih247 (t.tail) (t.headD 0 :: c) T6 (by rw [List.length_tail]; omega) hV6 (hF5.trans hF6) (by rw [List.length_cons, List.length_tail]; omega) (by rw [hd]; cases t with | nil => exact absurd hge (by simp) | cons x t => (show (if p14 x = true then _ else _) = _; rw [if_pos (show p14 x = true from hpx)]; rfl)))
                              · refine am_aload_n (q := 264) rfl (am_tab tk_X10_qGoesOn 136 rfl) rfl ?_
                                refine am_iconst (q := 265) (n := 1) (by decide) (am_tab tk_X10_qGoesOn 137 rfl) rfl ?_
                                refine am_callV0 (q := 268) (me2 := M_X10_qIsOn) (b := 55) (kb := 10) (nb := 108) (As := [am_i 1]) (rest := []) (out := [am_i (b2i (onT (t ++ out) 1))]) (c_X10_qIsOn c (t ++ out) o (out.length : Int) T5 hL5 hV5 1 (by rw [List.length_append]; omega)) ⟨rfl, rfl⟩ (Ls_55 hL5) (by decide) ⟨Or.inl km_X10_618, kc_X10_qIsOn, kn_X10, kd_X10_qIsOn, ⟨(Nat.le_of_ble_eq_true rfl), (Nat.le_of_ble_eq_true rfl)⟩, ⟨(Nat.le_of_ble_eq_true rfl), (Nat.le_of_ble_eq_true rfl)⟩, (Nat.le_of_ble_eq_true rfl)⟩ ki_X10_qIsOn ks_X10_qIsOn rfl rfl (am_tab tk_X10_qGoesOn 138 rfl) rfl ?_
                                refine am_if_ne (q := 271) (t := 279) (am_tab tk_X10_qGoesOn 139 rfl) (by decide) rfl (fun h268 => ?_) (fun h268 => ?_)
                                · have hge : 0 < t.length := by
                                    rcases Nat.lt_or_ge 0 t.length with h9 | h9
                                    · exact h9
                                    · exfalso
                                      have h8 := b2t h268
                                      rw [hT0.2 (by omega) 1 (by omega) (by omega)] at h8
                                      exact absurd h8 (by simp)
                                  have htop : t.headD 0 = 1 := by
                                    have h8 := b2t h268
                                    rw [hT0.1 hge] at h8
                                    simpa only [decide_eq_true_eq] using h8
                                  refine am_aload_n (q := 280) rfl (am_tab tk_X10_qGoesOn 144 rfl) rfl ?_
                                  refine am_callVr (q := 283) (me2 := M_X10_qDrops) (b := 55) (kb := 10) (nb := 108) (As := []) (rest := []) (c_dropI c t out o T5 hL5 hV5 hge (by omega) (by omega)) ⟨rfl, rfl⟩ (Ls_55 hL5) (by decide) ⟨Or.inl km_X10_591, kc_X10_qDrops, kn_X10, kd_X10_qDrops, ⟨(Nat.le_of_ble_eq_true rfl), (Nat.le_of_ble_eq_true rfl)⟩, ⟨(Nat.le_of_ble_eq_true rfl), (Nat.le_of_ble_eq_true rfl)⟩, (Nat.le_of_ble_eq_true rfl)⟩ ki_X10_qDrops ks_X10_qDrops rfl (am_tab tk_X10_qGoesOn 145 rfl) rfl ?_
                                  rintro r T6 ⟨rfl, hV6, hF6⟩
                                  refine am_st (st2 := []) rfl ?_
                                  refine am_goto (t := 247) (am_tab tk_X10_qGoesOn 146 rfl) (by decide) ?_
                                  have hpx : p14 (t.headD 0) = true := by
                                    unfold p14
                                    rw [decide_eq_true (by omega)]
                                  exact am_less (by intro q hq; simp only [List.mem_cons, List.not_mem_nil, or_false] at hq; rcases hq with rfl | rfl <;> simp) (ih247 (t.tail) (t.headD 0 :: c) T6 (by rw [List.length_tail]; omega) hV6 (hF5.trans hF6) (by rw [List.length_cons, List.length_tail]; omega) (by rw [hd]; cases t with | nil => exact absurd hge (by simp) | cons x t => (show (if p14 x = true then _ else _) = _; rw [if_pos (show p14 x = true from hpx)]; rfl)))
                                · refine am_aload_n (q := 272) rfl (am_tab tk_X10_qGoesOn 140 rfl) rfl ?_
                                  refine am_iconst (q := 273) (n := 2) (by decide) (am_tab tk_X10_qGoesOn 141 rfl) rfl ?_
                                  refine am_callV0 (q := 276) (me2 := M_X10_qIsOn) (b := 55) (kb := 10) (nb := 108) (As := [am_i 2]) (rest := []) (out := [am_i (b2i (onT (t ++ out) 2))]) (c_X10_qIsOn c (t ++ out) o (out.length : Int) T5 hL5 hV5 2 (by rw [List.length_append]; omega)) ⟨rfl, rfl⟩ (Ls_55 hL5) (by decide) ⟨Or.inl km_X10_618, kc_X10_qIsOn, kn_X10, kd_X10_qIsOn, ⟨(Nat.le_of_ble_eq_true rfl), (Nat.le_of_ble_eq_true rfl)⟩, ⟨(Nat.le_of_ble_eq_true rfl), (Nat.le_of_ble_eq_true rfl)⟩, (Nat.le_of_ble_eq_true rfl)⟩ ki_X10_qIsOn ks_X10_qIsOn rfl rfl (am_tab tk_X10_qGoesOn 142 rfl) rfl ?_
                                  refine am_if_eq (q := 279) (t := 286) (am_tab tk_X10_qGoesOn 143 rfl) (by decide) rfl (fun h276 => ?_) (fun h276 => ?_)
                                  · refine am_aload_n (q := 287) rfl (am_tab tk_X10_qGoesOn 147 rfl) rfl ?_
                                    refine am_getR (q := 290) (a := 55) (k := 10) (n := 108) (j := 98) (r := some (128)) (Ls_55 hL5) (by decide) rfl (Lr_55_98 hL5) (by decide) (Or.inl kf_X10_236) (am_tab tk_X10_qGoesOn 148 rfl) rfl ?_
                                    refine am_aload_n (q := 291) rfl (am_tab tk_X10_qGoesOn 149 rfl) rfl ?_
                                    refine am_getI (q := 294) (a := 55) (k := 10) (n := 108) (j := 99) (x := (((t ++ out).length : Nat) : Int)) (Ls_55 hL5) (by decide) rfl hV5.2.2.1 (by decide) (Or.inl kf_X10_339) (am_tab tk_X10_qGoesOn 150 rfl) rfl ?_
                                    refine am_iload_n (q := 295) rfl (am_tab tk_X10_qGoesOn 151 rfl) rfl ?_
                                    refine am_iast (q := 296) (a := 128) (n := 1700) (Ls_128 hL5) (by omega) (by omega) (am_tab tk_X10_qGoesOn 152 rfl) rfl ?_
                                    refine am_aload_n (q := 297) rfl (am_tab tk_X10_qGoesOn 153 rfl) rfl ?_
                                    refine am_dup (q := 298) rfl (am_tab tk_X10_qGoesOn 154 rfl) rfl ?_
                                    refine am_getI (q := 301) (a := 55) (k := 10) (n := 108) (j := 99) (x := (((t ++ out).length : Nat) : Int)) (Ls_55 hL5) (by decide) rfl hV5.2.2.1 (by decide) (Or.inl kf_X10_339) (am_tab tk_X10_qGoesOn 155 rfl) rfl ?_
                                    refine am_iconst (q := 302) (n := 1) (by decide) (am_tab tk_X10_qGoesOn 156 rfl) rfl ?_
                                    refine am_iadd (q := 303) (by omega) (am_tab tk_X10_qGoesOn 157 rfl) rfl ?_
                                    refine am_putI (q := 306) (k := 10) (n := 108) (j := 99) (Ls_55 hL5) (by decide) rfl (by decide) (Or.inl ⟨kf_X10_339, rfl⟩) (am_tab tk_X10_qGoesOn 158 rfl) rfl ?_
                                    refine am_iconst (q := 307) (n := 1) (by decide) (am_tab tk_X10_qGoesOn 159 rfl) rfl ?_
                                    refine am_iret (Or.inr ⟨rfl, by first | exact Or.inl rfl | exact Or.inr rfl | omega⟩) (Nat.le_of_ble_eq_true rfl) (Nat.le_of_ble_eq_true rfl) (am_tab tk_X10_qGoesOn 160 rfl) ?_
                                    refine hQ _ _ ?_
                                    have hdd : drF p14 c t = (c, t) := by
                                      cases t with
                                      | nil => rfl
                                      | cons y t =>
                                        show (if p14 y = true then _ else _) = _
                                        rw [if_neg ?_]
                                        intro h9
                                        unfold p14 at h9
                                        simp only [decide_eq_true_eq] at h9
                                        have hh := hT0.1 (by simp)
                                        have k252 : ¬ y = 3 := by
                                          have h8 := b2f h252
                                          rw [hh] at h8
                                          exact of_decide_eq_false h8
                                        have k260 : ¬ y = 4 := by
                                          have h8 := b2f h260
                                          rw [hh] at h8
                                          exact of_decide_eq_false h8
                                        have k268 : ¬ y = 1 := by
                                          have h8 := b2f h268
                                          rw [hh] at h8
                                          exact of_decide_eq_false h8
                                        have k276 : ¬ y = 2 := by
                                          have h8 := b2f h276
                                          rw [hh] at h8
                                          exact of_decide_eq_false h8
                                        omega
                                    have hgt : gtF b E i rc ws o = .inl (1, i + 1, (drF p14 rc ws).1, 1 :: (drF p14 rc ws).2, o) := by
                                      unfold gtF
                                      rw [if_neg (by omega), if_pos (Or.inl d3), if_pos d3]
                                    rw [hd, hdd] at hgt
                                    unfold goesF
                                    rw [hres, hst]
                                    rw [hgt]
                                    have hdl := drF_len p14 ws rc
                                    have hdo := drF_ok (p := p14) (by unfold p14; intro w h9; simp only [decide_eq_true_eq] at h9; omega) ws rc hok
                                    rw [hd, hdd] at hdl hdo
                                    simp only at hdl hdo
                                    have hVn := hV5.push (v := wh)
                                    rw [hwh] at hVn
                                    have ea := opn_app t out
                                    have eb : opn (1 :: (t ++ out)) = (if (1 : Int) = 12 ∨ 20 ≤ (1 : Int) then 1 else 0) + opn (t ++ out) := rfl
                                    rw [if_neg (by omega)] at eb
                                    rw [show Int.toNat (((t ++ out).length : Nat) : Int) = (t ++ out).length by omega, hwh]
                                    have hFz : frw W_q T1 (am_setN (am_setN T5 128 (t ++ out).length 1) 55 99 ((((t ++ out).length : Nat) : Int) + 1)) := (hF5.setN (by unfold W_q; omega)).setN (by unfold W_q; omega)
                                    refine ⟨⟨rfl, ⟨hZ1.q hFz, hVn, ?_, ⟨?_, ?_⟩, ?_, zP_on (by omega) hiz⟩, ?_⟩, hF.trans ((W_sc_p (((frw.refl W_sc T).setN (by unfold W_sc; omega)).trans hF1)).trans (W_q_p hFz))⟩
                                    · rw [hFz.2.2 55 53 (by unfold W_q; omega), hF1.2.2 55 53 (by unfold W_sc; omega)]; exact h53
                                    · show o = opn (1 :: t ++ out); rw [List.cons_append]; omega
                                    · exact hon.2
                                    · show c.length + (1 :: t).length + out.length ≤ i + 1; rw [List.length_cons]; omega
                                    · show okS false (1 :: t) = true; unfold okS; rw [if_pos (by omega)]; exact hdo.2
                                  · have hge : 0 < t.length := by
                                      rcases Nat.lt_or_ge 0 t.length with h9 | h9
                                      · exact h9
                                      · exfalso
                                        have h8 := b2t h276
                                        rw [hT0.2 (by omega) 2 (by omega) (by omega)] at h8
                                        exact absurd h8 (by simp)
                                    have htop : t.headD 0 = 2 := by
                                      have h8 := b2t h276
                                      rw [hT0.1 hge] at h8
                                      simpa only [decide_eq_true_eq] using h8
                                    refine am_aload_n (q := 280) rfl (am_tab tk_X10_qGoesOn 144 rfl) rfl ?_
                                    refine am_callVr (q := 283) (me2 := M_X10_qDrops) (b := 55) (kb := 10) (nb := 108) (As := []) (rest := []) (c_dropI c t out o T5 hL5 hV5 hge (by omega) (by omega)) ⟨rfl, rfl⟩ (Ls_55 hL5) (by decide) ⟨Or.inl km_X10_591, kc_X10_qDrops, kn_X10, kd_X10_qDrops, ⟨(Nat.le_of_ble_eq_true rfl), (Nat.le_of_ble_eq_true rfl)⟩, ⟨(Nat.le_of_ble_eq_true rfl), (Nat.le_of_ble_eq_true rfl)⟩, (Nat.le_of_ble_eq_true rfl)⟩ ki_X10_qDrops ks_X10_qDrops rfl (am_tab tk_X10_qGoesOn 145 rfl) rfl ?_
                                    rintro r T6 ⟨rfl, hV6, hF6⟩
                                    refine am_st (st2 := []) rfl ?_
                                    refine am_goto (t := 247) (am_tab tk_X10_qGoesOn 146 rfl) (by decide) ?_
                                    have hpx : p14 (t.headD 0) = true := by
                                      unfold p14
                                      rw [decide_eq_true (by omega)]
                                    exact am_less (by intro q hq; simp only [List.mem_cons, List.not_mem_nil, or_false] at hq; rcases hq with rfl | rfl <;> simp) (ih247 (t.tail) (t.headD 0 :: c) T6 (by rw [List.length_tail]; omega) hV6 (hF5.trans hF6) (by rw [List.length_cons, List.length_tail]; omega) (by rw [hd]; cases t with | nil => exact absurd hge (by simp) | cons x t => (show (if p14 x = true then _ else _) = _; rw [if_pos (show p14 x = true from hpx)]; rfl)))
                        refine am_less (by intro q hq; simp only [List.mem_cons, List.not_mem_nil, or_false] at hq; rcases hq with rfl | rfl <;> simp [hwh]) (L247 (_ + 1) ws rc T1 (by exact Nat.lt_succ_self _) (hV.sc (((frw.refl W_sc T).setN (by unfold W_sc; omega)).trans hF1)) (frw.refl _ T1) rfl rfl)
                    · exact absurd h213 (by decide)
                  · exact absurd h137 (by decide)
              · by_cases d4 : zK b E i = 45
                · refine am_aload_n (q := 123) rfl (am_tab tk_X10_qGoesOn 61 rfl) rfl ?_
                  refine am_bipush (q := 125) (n := 42) (by decide) rfl (am_tab tk_X10_qGoesOn 62 rfl) rfl ?_
                  refine am_callVr (q := 128) (me2 := M_X10_takesSign) (b := 55) (kb := 10) (nb := 108) (As := [am_i 42]) (rest := []) (c_takesSignN b E i (am_setN T 55 2 (zP b E i : Int)) hZ.look 42 (by decide) d1) ⟨rfl, rfl⟩ (Ls_55 hZ.1) (by decide) ⟨Or.inl km_X10_282, kc_X10_takesSign, kn_X10, kd_X10_takesSign, ⟨(Nat.le_of_ble_eq_true rfl), (Nat.le_of_ble_eq_true rfl)⟩, ⟨(Nat.le_of_ble_eq_true rfl), (Nat.le_of_ble_eq_true rfl)⟩, (Nat.le_of_ble_eq_true rfl)⟩ ki_X10_takesSign ks_X10_takesSign rfl (am_tab tk_X10_qGoesOn 63 rfl) rfl ?_
                  rintro r τ ⟨rfl, rfl⟩
                  refine am_hp2 (σ1 := (am_setN T 55 2 (zP b E i : Int))) (am_setN_N _ _ _ _ _) ?_
                  refine am_st (st2 := [am_i 0]) rfl ?_
                  refine am_if_ne (q := 131) (t := 140) (am_tab tk_X10_qGoesOn 64 rfl) (by decide) rfl (fun h128 => ?_) (fun h128 => ?_)
                  · exact absurd h128 (by decide)
                  · refine am_aload_n (q := 132) rfl (am_tab tk_X10_qGoesOn 65 rfl) rfl ?_
                    refine am_bipush (q := 134) (n := 47) (by decide) rfl (am_tab tk_X10_qGoesOn 66 rfl) rfl ?_
                    refine am_callVr (q := 137) (me2 := M_X10_takesSign) (b := 55) (kb := 10) (nb := 108) (As := [am_i 47]) (rest := []) (c_takesSignN b E i (am_setN T 55 2 (zP b E i : Int)) hZ.look 47 (by decide) d2) ⟨rfl, rfl⟩ (Ls_55 hZ.1) (by decide) ⟨Or.inl km_X10_282, kc_X10_takesSign, kn_X10, kd_X10_takesSign, ⟨(Nat.le_of_ble_eq_true rfl), (Nat.le_of_ble_eq_true rfl)⟩, ⟨(Nat.le_of_ble_eq_true rfl), (Nat.le_of_ble_eq_true rfl)⟩, (Nat.le_of_ble_eq_true rfl)⟩ ki_X10_takesSign ks_X10_takesSign rfl (am_tab tk_X10_qGoesOn 67 rfl) rfl ?_
                    rintro r τ ⟨rfl, rfl⟩
                    refine am_hp2 (σ1 := (am_setN T 55 2 (zP b E i : Int))) (am_setN_N _ _ _ _ _) ?_
                    refine am_st (st2 := [am_i 0]) rfl ?_
                    refine am_if_eq (q := 140) (t := 207) (am_tab tk_X10_qGoesOn 68 rfl) (by decide) rfl (fun h137 => ?_) (fun h137 => ?_)
                    · refine am_aload_n (q := 208) rfl (am_tab tk_X10_qGoesOn 107 rfl) rfl ?_
                      refine am_bipush (q := 210) (n := 43) (by decide) rfl (am_tab tk_X10_qGoesOn 108 rfl) rfl ?_
                      refine am_callVr (q := 213) (me2 := M_X10_takesSign) (b := 55) (kb := 10) (nb := 108) (As := [am_i 43]) (rest := []) (c_takesSignN b E i (am_setN T 55 2 (zP b E i : Int)) hZ.look 43 (by decide) d3) ⟨rfl, rfl⟩ (Ls_55 hZ.1) (by decide) ⟨Or.inl km_X10_282, kc_X10_takesSign, kn_X10, kd_X10_takesSign, ⟨(Nat.le_of_ble_eq_true rfl), (Nat.le_of_ble_eq_true rfl)⟩, ⟨(Nat.le_of_ble_eq_true rfl), (Nat.le_of_ble_eq_true rfl)⟩, (Nat.le_of_ble_eq_true rfl)⟩ ki_X10_takesSign ks_X10_takesSign rfl (am_tab tk_X10_qGoesOn 109 rfl) rfl ?_
                      rintro r τ ⟨rfl, rfl⟩
                      refine am_hp2 (σ1 := (am_setN T 55 2 (zP b E i : Int))) (am_setN_N _ _ _ _ _) ?_
                      refine am_st (st2 := [am_i 0]) rfl ?_
                      refine am_if_ne (q := 216) (t := 225) (am_tab tk_X10_qGoesOn 110 rfl) (by decide) rfl (fun h213 => ?_) (fun h213 => ?_)
                      · exact absurd h213 (by decide)
                      · refine am_aload_n (q := 217) rfl (am_tab tk_X10_qGoesOn 111 rfl) rfl ?_
                        refine am_bipush (q := 219) (n := 45) (by decide) rfl (am_tab tk_X10_qGoesOn 112 rfl) rfl ?_
                        refine am_callVr (q := 222) (me2 := M_X10_takesSign) (b := 55) (kb := 10) (nb := 108) (As := [am_i 45]) (rest := []) (c_takesSignY b E i (am_setN T 55 2 (zP b E i : Int)) hZ.look 45 (by decide) d4) ⟨rfl, rfl⟩ (Ls_55 hZ.1) (by decide) ⟨Or.inl km_X10_282, kc_X10_takesSign, kn_X10, kd_X10_takesSign, ⟨(Nat.le_of_ble_eq_true rfl), (Nat.le_of_ble_eq_true rfl)⟩, ⟨(Nat.le_of_ble_eq_true rfl), (Nat.le_of_ble_eq_true rfl)⟩, (Nat.le_of_ble_eq_true rfl)⟩ ki_X10_takesSign ks_X10_takesSign rfl (am_tab tk_X10_qGoesOn 113 rfl) rfl ?_
                        rintro r T1 ⟨rfl, hZ1, hF1, e1⟩
                        have hbyt : b (zP b E i) = 45 := by
                          have h9 := (sg_iff (b := b) (E := E) (i := i) (c := 45) (by decide)).mpr d4
                          unfold byt at h9
                          rw [if_pos (zK_6 (by omega))] at h9
                          exact h9
                        have hltE : zP b E i < E := zK_6 (by omega)
                        refine am_st (st2 := [am_i 1]) rfl ?_
                        refine am_if_eq (q := 225) (t := 308) (am_tab tk_X10_qGoesOn 114 rfl) (by decide) rfl (fun h222 => ?_) (fun h222 => ?_)
                        · exact absurd h222 (by decide)
                        · refine am_aload_n (q := 226) rfl (am_tab tk_X10_qGoesOn 115 rfl) rfl ?_
                          refine am_getR (q := 229) (a := 55) (k := 10) (n := 108) (j := 0) (r := some (56)) (Ls_55 hZ1.1) (by decide) rfl (Lr_55_0 hZ1.1) (by decide) (Or.inl kf_X10_7) (am_tab tk_X10_qGoesOn 116 rfl) rfl ?_
                          refine am_aload_n (q := 230) rfl (am_tab tk_X10_qGoesOn 117 rfl) rfl ?_
                          refine am_getI (q := 233) (a := 55) (k := 10) (n := 108) (j := 2) (x := ((zP b E i : Int) + 1)) (Ls_55 hZ1.1) (by decide) rfl e1 (by decide) (Or.inl kf_X10_254) (am_tab tk_X10_qGoesOn 118 rfl) rfl ?_
                          refine am_iconst (q := 234) (n := 1) (by decide) (am_tab tk_X10_qGoesOn 119 rfl) rfl ?_
                          refine am_isub (q := 235) (by omega) (am_tab tk_X10_qGoesOn 120 rfl) rfl ?_
                          refine am_iald (q := 236) (a := 56) (n := 1600) (x := 45) (Ls_56 hZ1.1) (by omega) (by omega) (by rw [show Int.toNat (((zP b E i : Int) + 1) - 1) = zP b E i by omega, hZ1.2.2.1.1]; exact hbyt) (am_tab tk_X10_qGoesOn 121 rfl) rfl ?_
                          refine am_bipush (q := 238) (n := 43) (by decide) rfl (am_tab tk_X10_qGoesOn 122 rfl) rfl ?_
                          refine am_icmp_ne (q := 241) (t := 245) (am_tab tk_X10_qGoesOn 123 rfl) (by decide) rfl (fun h238 => ?_) (fun h238 => ?_)
                          · refine am_iconst (q := 246) (n := 2) (by decide) (am_tab tk_X10_qGoesOn 126 rfl) rfl ?_
                            refine am_istore_n (q := 247) (by decide) (ls2 := [(1, am_i 2), (0, am_r 55)]) rfl (am_tab tk_X10_qGoesOn 127 rfl) rfl ?_
                            obtain ⟨wh, hwh⟩ : ∃ wh : Int, wh = 2 := ⟨_, rfl⟩
                            have L247 : ∀ (n247 : Nat) (t : List Int) (c : List Int) (T5 : am_H), t.length < n247 → QV c (t ++ out) o (out.length : Int) T5 → frw W_q T1 T5 → c.length + t.length = rc.length + ws.length → drF p14 rc ws = drF p14 c t → am_wp M_X10_qGoesOn Q 0 0 247 [(1, am_i wh), (0, am_r 55)] [] T5 := by
                              intro n247
                              induction n247 with
                              | zero => intro t c T5 hn247; exact absurd hn247 (Nat.not_lt_zero _)
                              | succ n247 ih247 =>
                                intro t c T5 hn247 hV5 hF5 hlc hd
                                have hL5 : lay T5 := hF5.L hZ1.1
                                have htl : (t ++ out).length = t.length + out.length := List.length_append
                                have hT0 : (0 < t.length → ∀ x, onT (t ++ out) x = decide (t.headD 0 = x)) ∧ (¬ 0 < t.length → ∀ x, 1 ≤ x → x ≤ 4 → onT (t ++ out) x = false) := by
                                  cases t with
                                  | nil => exact ⟨fun h => absurd h (by simp), fun _ x h1 h2 => hout x h1 h2⟩
                                  | cons y t => exact ⟨fun _ x => rfl, fun h => absurd (by simp) h⟩
                                refine am_aload_n (q := 248) rfl (am_tab tk_X10_qGoesOn 128 rfl) rfl ?_
                                refine am_iconst (q := 249) (n := 3) (by decide) (am_tab tk_X10_qGoesOn 129 rfl) rfl ?_
                                refine am_callV0 (q := 252) (me2 := M_X10_qIsOn) (b := 55) (kb := 10) (nb := 108) (As := [am_i 3]) (rest := []) (out := [am_i (b2i (onT (t ++ out) 3))]) (c_X10_qIsOn c (t ++ out) o (out.length : Int) T5 hL5 hV5 3 (by rw [List.length_append]; omega)) ⟨rfl, rfl⟩ (Ls_55 hL5) (by decide) ⟨Or.inl km_X10_618, kc_X10_qIsOn, kn_X10, kd_X10_qIsOn, ⟨(Nat.le_of_ble_eq_true rfl), (Nat.le_of_ble_eq_true rfl)⟩, ⟨(Nat.le_of_ble_eq_true rfl), (Nat.le_of_ble_eq_true rfl)⟩, (Nat.le_of_ble_eq_true rfl)⟩ ki_X10_qIsOn ks_X10_qIsOn rfl rfl (am_tab tk_X10_qGoesOn 130 rfl) rfl ?_
                                refine am_if_ne (q := 255) (t := 279) (am_tab tk_X10_qGoesOn 131 rfl) (by decide) rfl (fun h252 => ?_) (fun h252 => ?_)
                                · have hge : 0 < t.length := by
                                    rcases Nat.lt_or_ge 0 t.length with h9 | h9
                                    · exact h9
                                    · exfalso
                                      have h8 := b2t h252
                                      rw [hT0.2 (by omega) 3 (by omega) (by omega)] at h8
                                      exact absurd h8 (by simp)
                                  have htop : t.headD 0 = 3 := by
                                    have h8 := b2t h252
                                    rw [hT0.1 hge] at h8
                                    simpa only [decide_eq_true_eq] using h8
                                  refine am_aload_n (q := 280) rfl (am_tab tk_X10_qGoesOn 144 rfl) rfl ?_
                                  refine am_callVr (q := 283) (me2 := M_X10_qDrops) (b := 55) (kb := 10) (nb := 108) (As := []) (rest := []) (c_dropI c t out o T5 hL5 hV5 hge (by omega) (by omega)) ⟨rfl, rfl⟩ (Ls_55 hL5) (by decide) ⟨Or.inl km_X10_591, kc_X10_qDrops, kn_X10, kd_X10_qDrops, ⟨(Nat.le_of_ble_eq_true rfl), (Nat.le_of_ble_eq_true rfl)⟩, ⟨(Nat.le_of_ble_eq_true rfl), (Nat.le_of_ble_eq_true rfl)⟩, (Nat.le_of_ble_eq_true rfl)⟩ ki_X10_qDrops ks_X10_qDrops rfl (am_tab tk_X10_qGoesOn 145 rfl) rfl ?_
                                  rintro r T6 ⟨rfl, hV6, hF6⟩
                                  refine am_st (st2 := []) rfl ?_
                                  refine am_goto (t := 247) (am_tab tk_X10_qGoesOn 146 rfl) (by decide) ?_
                                  have hpx : p14 (t.headD 0) = true := by
                                    unfold p14
                                    rw [decide_eq_true (by omega)]
                                  exact am_less (by intro q hq; simp only [List.mem_cons, List.not_mem_nil, or_false] at hq; rcases hq with rfl | rfl <;> simp) (ih247 (t.tail) (t.headD 0 :: c) T6 (by rw [List.length_tail]; omega) hV6 (hF5.trans hF6) (by rw [List.length_cons, List.length_tail]; omega) (by rw [hd]; cases t with | nil => exact absurd hge (by simp) | cons x t => (show (if p14 x = true then _ else _) = _; rw [if_pos (show p14 x = true from hpx)]; rfl)))
                                · refine am_aload_n (q := 256) rfl (am_tab tk_X10_qGoesOn 132 rfl) rfl ?_
                                  refine am_iconst (q := 257) (n := 4) (by decide) (am_tab tk_X10_qGoesOn 133 rfl) rfl ?_
                                  refine am_callV0 (q := 260) (me2 := M_X10_qIsOn) (b := 55) (kb := 10) (nb := 108) (As := [am_i 4]) (rest := []) (out := [am_i (b2i (onT (t ++ out) 4))]) (c_X10_qIsOn c (t ++ out) o (out.length : Int) T5 hL5 hV5 4 (by rw [List.length_append]; omega)) ⟨rfl, rfl⟩ (Ls_55 hL5) (by decide) ⟨Or.inl km_X10_618, kc_X10_qIsOn, kn_X10, kd_X10_qIsOn, ⟨(Nat.le_of_ble_eq_true rfl), (Nat.le_of_ble_eq_true rfl)⟩, ⟨(Nat.le_of_ble_eq_true rfl), (Nat.le_of_ble_eq_true rfl)⟩, (Nat.le_of_ble_eq_true rfl)⟩ ki_X10_qIsOn ks_X10_qIsOn rfl rfl (am_tab tk_X10_qGoesOn 134 rfl) rfl ?_
                                  refine am_if_ne (q := 263) (t := 279) (am_tab tk_X10_qGoesOn 135 rfl) (by decide) rfl (fun h260 => ?_) (fun h260 => ?_)
                                  · have hge : 0 < t.length := by
                                      rcases Nat.lt_or_ge 0 t.length with h9 | h9
                                      · exact h9
                                      · exfalso
                                        have h8 := b2t h260
                                        rw [hT0.2 (by omega) 4 (by omega) (by omega)] at h8
                                        exact absurd h8 (by simp)
                                    have htop : t.headD 0 = 4 := by
                                      have h8 := b2t h260
                                      rw [hT0.1 hge] at h8
                                      simpa only [decide_eq_true_eq] using h8
                                    refine am_aload_n (q := 280) rfl (am_tab tk_X10_qGoesOn 144 rfl) rfl ?_
                                    refine am_callVr (q := 283) (me2 := M_X10_qDrops) (b := 55) (kb := 10) (nb := 108) (As := []) (rest := []) (c_dropI c t out o T5 hL5 hV5 hge (by omega) (by omega)) ⟨rfl, rfl⟩ (Ls_55 hL5) (by decide) ⟨Or.inl km_X10_591, kc_X10_qDrops, kn_X10, kd_X10_qDrops, ⟨(Nat.le_of_ble_eq_true rfl), (Nat.le_of_ble_eq_true rfl)⟩, ⟨(Nat.le_of_ble_eq_true rfl), (Nat.le_of_ble_eq_true rfl)⟩, (Nat.le_of_ble_eq_true rfl)⟩ ki_X10_qDrops ks_X10_qDrops rfl (am_tab tk_X10_qGoesOn 145 rfl) rfl ?_
                                    rintro r T6 ⟨rfl, hV6, hF6⟩
                                    refine am_st (st2 := []) rfl ?_
                                    refine am_goto (t := 247) (am_tab tk_X10_qGoesOn 146 rfl) (by decide) ?_
                                    have hpx : p14 (t.headD 0) = true := by
                                      unfold p14
                                      rw [decide_eq_true (by omega)]
                                    exact am_less (by intro q hq; simp only [List.mem_cons, List.not_mem_nil, or_false] at hq; rcases hq with rfl | rfl <;> simp) (ih247 (t.tail) (t.headD 0 :: c) T6 (by rw [List.length_tail]; omega) hV6 (hF5.trans hF6) (by rw [List.length_cons, List.length_tail]; omega) (by rw [hd]; cases t with | nil => exact absurd hge (by simp) | cons x t => (show (if p14 x = true then _ else _) = _; rw [if_pos (show p14 x = true from hpx)]; rfl)))
                                  · refine am_aload_n (q := 264) rfl (am_tab tk_X10_qGoesOn 136 rfl) rfl ?_
                                    refine am_iconst (q := 265) (n := 1) (by decide) (am_tab tk_X10_qGoesOn 137 rfl) rfl ?_
                                    refine am_callV0 (q := 268) (me2 := M_X10_qIsOn) (b := 55) (kb := 10) (nb := 108) (As := [am_i 1]) (rest := []) (out := [am_i (b2i (onT (t ++ out) 1))]) (c_X10_qIsOn c (t ++ out) o (out.length : Int) T5 hL5 hV5 1 (by rw [List.length_append]; omega)) ⟨rfl, rfl⟩ (Ls_55 hL5) (by decide) ⟨Or.inl km_X10_618, kc_X10_qIsOn, kn_X10, kd_X10_qIsOn, ⟨(Nat.le_of_ble_eq_true rfl), (Nat.le_of_ble_eq_true rfl)⟩, ⟨(Nat.le_of_ble_eq_true rfl), (Nat.le_of_ble_eq_true rfl)⟩, (Nat.le_of_ble_eq_true rfl)⟩ ki_X10_qIsOn ks_X10_qIsOn rfl rfl (am_tab tk_X10_qGoesOn 138 rfl) rfl ?_
                                    refine am_if_ne (q := 271) (t := 279) (am_tab tk_X10_qGoesOn 139 rfl) (by decide) rfl (fun h268 => ?_) (fun h268 => ?_)
                                    · have hge : 0 < t.length := by
                                        rcases Nat.lt_or_ge 0 t.length with h9 | h9
                                        · exact h9
                                        · exfalso
                                          have h8 := b2t h268
                                          rw [hT0.2 (by omega) 1 (by omega) (by omega)] at h8
                                          exact absurd h8 (by simp)
                                      have htop : t.headD 0 = 1 := by
                                        have h8 := b2t h268
                                        rw [hT0.1 hge] at h8
                                        simpa only [decide_eq_true_eq] using h8
                                      refine am_aload_n (q := 280) rfl (am_tab tk_X10_qGoesOn 144 rfl) rfl ?_
                                      refine am_callVr (q := 283) (me2 := M_X10_qDrops) (b := 55) (kb := 10) (nb := 108) (As := []) (rest := []) (c_dropI c t out o T5 hL5 hV5 hge (by omega) (by omega)) ⟨rfl, rfl⟩ (Ls_55 hL5) (by decide) ⟨Or.inl km_X10_591, kc_X10_qDrops, kn_X10, kd_X10_qDrops, ⟨(Nat.le_of_ble_eq_true rfl), (Nat.le_of_ble_eq_true rfl)⟩, ⟨(Nat.le_of_ble_eq_true rfl), (Nat.le_of_ble_eq_true rfl)⟩, (Nat.le_of_ble_eq_true rfl)⟩ ki_X10_qDrops ks_X10_qDrops rfl (am_tab tk_X10_qGoesOn 145 rfl) rfl ?_
                                      rintro r T6 ⟨rfl, hV6, hF6⟩
                                      refine am_st (st2 := []) rfl ?_
                                      refine am_goto (t := 247) (am_tab tk_X10_qGoesOn 146 rfl) (by decide) ?_
                                      have hpx : p14 (t.headD 0) = true := by
                                        unfold p14
                                        rw [decide_eq_true (by omega)]
                                      exact am_less (by intro q hq; simp only [List.mem_cons, List.not_mem_nil, or_false] at hq; rcases hq with rfl | rfl <;> simp) (ih247 (t.tail) (t.headD 0 :: c) T6 (by rw [List.length_tail]; omega) hV6 (hF5.trans hF6) (by rw [List.length_cons, List.length_tail]; omega) (by rw [hd]; cases t with | nil => exact absurd hge (by simp) | cons x t => (show (if p14 x = true then _ else _) = _; rw [if_pos (show p14 x = true from hpx)]; rfl)))
                                    · refine am_aload_n (q := 272) rfl (am_tab tk_X10_qGoesOn 140 rfl) rfl ?_
                                      refine am_iconst (q := 273) (n := 2) (by decide) (am_tab tk_X10_qGoesOn 141 rfl) rfl ?_
                                      refine am_callV0 (q := 276) (me2 := M_X10_qIsOn) (b := 55) (kb := 10) (nb := 108) (As := [am_i 2]) (rest := []) (out := [am_i (b2i (onT (t ++ out) 2))]) (c_X10_qIsOn c (t ++ out) o (out.length : Int) T5 hL5 hV5 2 (by rw [List.length_append]; omega)) ⟨rfl, rfl⟩ (Ls_55 hL5) (by decide) ⟨Or.inl km_X10_618, kc_X10_qIsOn, kn_X10, kd_X10_qIsOn, ⟨(Nat.le_of_ble_eq_true rfl), (Nat.le_of_ble_eq_true rfl)⟩, ⟨(Nat.le_of_ble_eq_true rfl), (Nat.le_of_ble_eq_true rfl)⟩, (Nat.le_of_ble_eq_true rfl)⟩ ki_X10_qIsOn ks_X10_qIsOn rfl rfl (am_tab tk_X10_qGoesOn 142 rfl) rfl ?_
                                      refine am_if_eq (q := 279) (t := 286) (am_tab tk_X10_qGoesOn 143 rfl) (by decide) rfl (fun h276 => ?_) (fun h276 => ?_)
                                      · refine am_aload_n (q := 287) rfl (am_tab tk_X10_qGoesOn 147 rfl) rfl ?_
                                        refine am_getR (q := 290) (a := 55) (k := 10) (n := 108) (j := 98) (r := some (128)) (Ls_55 hL5) (by decide) rfl (Lr_55_98 hL5) (by decide) (Or.inl kf_X10_236) (am_tab tk_X10_qGoesOn 148 rfl) rfl ?_
                                        refine am_aload_n (q := 291) rfl (am_tab tk_X10_qGoesOn 149 rfl) rfl ?_
                                        refine am_getI (q := 294) (a := 55) (k := 10) (n := 108) (j := 99) (x := (((t ++ out).length : Nat) : Int)) (Ls_55 hL5) (by decide) rfl hV5.2.2.1 (by decide) (Or.inl kf_X10_339) (am_tab tk_X10_qGoesOn 150 rfl) rfl ?_
                                        refine am_iload_n (q := 295) rfl (am_tab tk_X10_qGoesOn 151 rfl) rfl ?_
                                        refine am_iast (q := 296) (a := 128) (n := 1700) (Ls_128 hL5) (by omega) (by omega) (am_tab tk_X10_qGoesOn 152 rfl) rfl ?_
                                        refine am_aload_n (q := 297) rfl (am_tab tk_X10_qGoesOn 153 rfl) rfl ?_
                                        refine am_dup (q := 298) rfl (am_tab tk_X10_qGoesOn 154 rfl) rfl ?_
                                        refine am_getI (q := 301) (a := 55) (k := 10) (n := 108) (j := 99) (x := (((t ++ out).length : Nat) : Int)) (Ls_55 hL5) (by decide) rfl hV5.2.2.1 (by decide) (Or.inl kf_X10_339) (am_tab tk_X10_qGoesOn 155 rfl) rfl ?_
                                        refine am_iconst (q := 302) (n := 1) (by decide) (am_tab tk_X10_qGoesOn 156 rfl) rfl ?_
                                        refine am_iadd (q := 303) (by omega) (am_tab tk_X10_qGoesOn 157 rfl) rfl ?_
                                        refine am_putI (q := 306) (k := 10) (n := 108) (j := 99) (Ls_55 hL5) (by decide) rfl (by decide) (Or.inl ⟨kf_X10_339, rfl⟩) (am_tab tk_X10_qGoesOn 158 rfl) rfl ?_
                                        refine am_iconst (q := 307) (n := 1) (by decide) (am_tab tk_X10_qGoesOn 159 rfl) rfl ?_
                                        refine am_iret (Or.inr ⟨rfl, by first | exact Or.inl rfl | exact Or.inr rfl | omega⟩) (Nat.le_of_ble_eq_true rfl) (Nat.le_of_ble_eq_true rfl) (am_tab tk_X10_qGoesOn 160 rfl) ?_
                                        refine hQ _ _ ?_
                                        have hdd : drF p14 c t = (c, t) := by
                                          cases t with
                                          | nil => rfl
                                          | cons y t =>
                                            show (if p14 y = true then _ else _) = _
                                            rw [if_neg ?_]
                                            intro h9
                                            unfold p14 at h9
                                            simp only [decide_eq_true_eq] at h9
                                            have hh := hT0.1 (by simp)
                                            have k252 : ¬ y = 3 := by
                                              have h8 := b2f h252
                                              rw [hh] at h8
                                              exact of_decide_eq_false h8
                                            have k260 : ¬ y = 4 := by
                                              have h8 := b2f h260
                                              rw [hh] at h8
                                              exact of_decide_eq_false h8
                                            have k268 : ¬ y = 1 := by
                                              have h8 := b2f h268
                                              rw [hh] at h8
                                              exact of_decide_eq_false h8
                                            have k276 : ¬ y = 2 := by
                                              have h8 := b2f h276
                                              rw [hh] at h8
                                              exact of_decide_eq_false h8
                                            omega
                                        have hgt : gtF b E i rc ws o = .inl (1, i + 1, (drF p14 rc ws).1, 2 :: (drF p14 rc ws).2, o) := by
                                          unfold gtF
                                          rw [if_neg (by omega), if_pos (Or.inr d4), if_neg d3]
                                        rw [hd, hdd] at hgt
                                        unfold goesF
                                        rw [hres, hst]
                                        rw [hgt]
                                        have hdl := drF_len p14 ws rc
                                        have hdo := drF_ok (p := p14) (by unfold p14; intro w h9; simp only [decide_eq_true_eq] at h9; omega) ws rc hok
                                        rw [hd, hdd] at hdl hdo
                                        simp only at hdl hdo
                                        have hVn := hV5.push (v := wh)
                                        rw [hwh] at hVn
                                        have ea := opn_app t out
                                        have eb : opn (2 :: (t ++ out)) = (if (2 : Int) = 12 ∨ 20 ≤ (2 : Int) then 1 else 0) + opn (t ++ out) := rfl
                                        rw [if_neg (by omega)] at eb
                                        rw [show Int.toNat (((t ++ out).length : Nat) : Int) = (t ++ out).length by omega, hwh]
                                        have hFz : frw W_q T1 (am_setN (am_setN T5 128 (t ++ out).length 2) 55 99 ((((t ++ out).length : Nat) : Int) + 1)) := (hF5.setN (by unfold W_q; omega)).setN (by unfold W_q; omega)
                                        refine ⟨⟨rfl, ⟨hZ1.q hFz, hVn, ?_, ⟨?_, ?_⟩, ?_, zP_on (by omega) hiz⟩, ?_⟩, hF.trans ((W_sc_p (((frw.refl W_sc T).setN (by unfold W_sc; omega)).trans hF1)).trans (W_q_p hFz))⟩
                                        · rw [hFz.2.2 55 53 (by unfold W_q; omega), hF1.2.2 55 53 (by unfold W_sc; omega)]; exact h53
                                        · show o = opn (2 :: t ++ out); rw [List.cons_append]; omega
                                        · exact hon.2
                                        · show c.length + (2 :: t).length + out.length ≤ i + 1; rw [List.length_cons]; omega
                                        · show okS false (2 :: t) = true; unfold okS; rw [if_pos (by omega)]; exact hdo.2
                                      · have hge : 0 < t.length := by
                                          rcases Nat.lt_or_ge 0 t.length with h9 | h9
                                          · exact h9
                                          · exfalso
                                            have h8 := b2t h276
                                            rw [hT0.2 (by omega) 2 (by omega) (by omega)] at h8
                                            exact absurd h8 (by simp)
                                        have htop : t.headD 0 = 2 := by
                                          have h8 := b2t h276
                                          rw [hT0.1 hge] at h8
                                          simpa only [decide_eq_true_eq] using h8
                                        refine am_aload_n (q := 280) rfl (am_tab tk_X10_qGoesOn 144 rfl) rfl ?_
                                        refine am_callVr (q := 283) (me2 := M_X10_qDrops) (b := 55) (kb := 10) (nb := 108) (As := []) (rest := []) (c_dropI c t out o T5 hL5 hV5 hge (by omega) (by omega)) ⟨rfl, rfl⟩ (Ls_55 hL5) (by decide) ⟨Or.inl km_X10_591, kc_X10_qDrops, kn_X10, kd_X10_qDrops, ⟨(Nat.le_of_ble_eq_true rfl), (Nat.le_of_ble_eq_true rfl)⟩, ⟨(Nat.le_of_ble_eq_true rfl), (Nat.le_of_ble_eq_true rfl)⟩, (Nat.le_of_ble_eq_true rfl)⟩ ki_X10_qDrops ks_X10_qDrops rfl (am_tab tk_X10_qGoesOn 145 rfl) rfl ?_
                                        rintro r T6 ⟨rfl, hV6, hF6⟩
                                        refine am_st (st2 := []) rfl ?_
                                        refine am_goto (t := 247) (am_tab tk_X10_qGoesOn 146 rfl) (by decide) ?_
                                        have hpx : p14 (t.headD 0) = true := by
                                          unfold p14
                                          rw [decide_eq_true (by omega)]
                                        exact am_less (by intro q hq; simp only [List.mem_cons, List.not_mem_nil, or_false] at hq; rcases hq with rfl | rfl <;> simp) (ih247 (t.tail) (t.headD 0 :: c) T6 (by rw [List.length_tail]; omega) hV6 (hF5.trans hF6) (by rw [List.length_cons, List.length_tail]; omega) (by rw [hd]; cases t with | nil => exact absurd hge (by simp) | cons x t => (show (if p14 x = true then _ else _) = _; rw [if_pos (show p14 x = true from hpx)]; rfl)))
                            refine am_less (by intro q hq; simp only [List.mem_cons, List.not_mem_nil, or_false] at hq; rcases hq with rfl | rfl <;> simp [hwh]) (L247 (_ + 1) ws rc T1 (by exact Nat.lt_succ_self _) (hV.sc (((frw.refl W_sc T).setN (by unfold W_sc; omega)).trans hF1)) (frw.refl _ T1) rfl rfl)
                          · exact absurd h238 (by decide)
                    · exact absurd h137 (by decide)
                · by_cases d5 : zK b E i = 44
                  · refine am_aload_n (q := 123) rfl (am_tab tk_X10_qGoesOn 61 rfl) rfl ?_
                    refine am_bipush (q := 125) (n := 42) (by decide) rfl (am_tab tk_X10_qGoesOn 62 rfl) rfl ?_
                    refine am_callVr (q := 128) (me2 := M_X10_takesSign) (b := 55) (kb := 10) (nb := 108) (As := [am_i 42]) (rest := []) (c_takesSignN b E i (am_setN T 55 2 (zP b E i : Int)) hZ.look 42 (by decide) d1) ⟨rfl, rfl⟩ (Ls_55 hZ.1) (by decide) ⟨Or.inl km_X10_282, kc_X10_takesSign, kn_X10, kd_X10_takesSign, ⟨(Nat.le_of_ble_eq_true rfl), (Nat.le_of_ble_eq_true rfl)⟩, ⟨(Nat.le_of_ble_eq_true rfl), (Nat.le_of_ble_eq_true rfl)⟩, (Nat.le_of_ble_eq_true rfl)⟩ ki_X10_takesSign ks_X10_takesSign rfl (am_tab tk_X10_qGoesOn 63 rfl) rfl ?_
                    rintro r τ ⟨rfl, rfl⟩
                    refine am_hp2 (σ1 := (am_setN T 55 2 (zP b E i : Int))) (am_setN_N _ _ _ _ _) ?_
                    refine am_st (st2 := [am_i 0]) rfl ?_
                    refine am_if_ne (q := 131) (t := 140) (am_tab tk_X10_qGoesOn 64 rfl) (by decide) rfl (fun h128 => ?_) (fun h128 => ?_)
                    · exact absurd h128 (by decide)
                    · refine am_aload_n (q := 132) rfl (am_tab tk_X10_qGoesOn 65 rfl) rfl ?_
                      refine am_bipush (q := 134) (n := 47) (by decide) rfl (am_tab tk_X10_qGoesOn 66 rfl) rfl ?_
                      refine am_callVr (q := 137) (me2 := M_X10_takesSign) (b := 55) (kb := 10) (nb := 108) (As := [am_i 47]) (rest := []) (c_takesSignN b E i (am_setN T 55 2 (zP b E i : Int)) hZ.look 47 (by decide) d2) ⟨rfl, rfl⟩ (Ls_55 hZ.1) (by decide) ⟨Or.inl km_X10_282, kc_X10_takesSign, kn_X10, kd_X10_takesSign, ⟨(Nat.le_of_ble_eq_true rfl), (Nat.le_of_ble_eq_true rfl)⟩, ⟨(Nat.le_of_ble_eq_true rfl), (Nat.le_of_ble_eq_true rfl)⟩, (Nat.le_of_ble_eq_true rfl)⟩ ki_X10_takesSign ks_X10_takesSign rfl (am_tab tk_X10_qGoesOn 67 rfl) rfl ?_
                      rintro r τ ⟨rfl, rfl⟩
                      refine am_hp2 (σ1 := (am_setN T 55 2 (zP b E i : Int))) (am_setN_N _ _ _ _ _) ?_
                      refine am_st (st2 := [am_i 0]) rfl ?_
                      refine am_if_eq (q := 140) (t := 207) (am_tab tk_X10_qGoesOn 68 rfl) (by decide) rfl (fun h137 => ?_) (fun h137 => ?_)
                      · refine am_aload_n (q := 208) rfl (am_tab tk_X10_qGoesOn 107 rfl) rfl ?_
                        refine am_bipush (q := 210) (n := 43) (by decide) rfl (am_tab tk_X10_qGoesOn 108 rfl) rfl ?_
                        refine am_callVr (q := 213) (me2 := M_X10_takesSign) (b := 55) (kb := 10) (nb := 108) (As := [am_i 43]) (rest := []) (c_takesSignN b E i (am_setN T 55 2 (zP b E i : Int)) hZ.look 43 (by decide) d3) ⟨rfl, rfl⟩ (Ls_55 hZ.1) (by decide) ⟨Or.inl km_X10_282, kc_X10_takesSign, kn_X10, kd_X10_takesSign, ⟨(Nat.le_of_ble_eq_true rfl), (Nat.le_of_ble_eq_true rfl)⟩, ⟨(Nat.le_of_ble_eq_true rfl), (Nat.le_of_ble_eq_true rfl)⟩, (Nat.le_of_ble_eq_true rfl)⟩ ki_X10_takesSign ks_X10_takesSign rfl (am_tab tk_X10_qGoesOn 109 rfl) rfl ?_
                        rintro r τ ⟨rfl, rfl⟩
                        refine am_hp2 (σ1 := (am_setN T 55 2 (zP b E i : Int))) (am_setN_N _ _ _ _ _) ?_
                        refine am_st (st2 := [am_i 0]) rfl ?_
                        refine am_if_ne (q := 216) (t := 225) (am_tab tk_X10_qGoesOn 110 rfl) (by decide) rfl (fun h213 => ?_) (fun h213 => ?_)
                        · exact absurd h213 (by decide)
                        · refine am_aload_n (q := 217) rfl (am_tab tk_X10_qGoesOn 111 rfl) rfl ?_
                          refine am_bipush (q := 219) (n := 45) (by decide) rfl (am_tab tk_X10_qGoesOn 112 rfl) rfl ?_
                          refine am_callVr (q := 222) (me2 := M_X10_takesSign) (b := 55) (kb := 10) (nb := 108) (As := [am_i 45]) (rest := []) (c_takesSignN b E i (am_setN T 55 2 (zP b E i : Int)) hZ.look 45 (by decide) d4) ⟨rfl, rfl⟩ (Ls_55 hZ.1) (by decide) ⟨Or.inl km_X10_282, kc_X10_takesSign, kn_X10, kd_X10_takesSign, ⟨(Nat.le_of_ble_eq_true rfl), (Nat.le_of_ble_eq_true rfl)⟩, ⟨(Nat.le_of_ble_eq_true rfl), (Nat.le_of_ble_eq_true rfl)⟩, (Nat.le_of_ble_eq_true rfl)⟩ ki_X10_takesSign ks_X10_takesSign rfl (am_tab tk_X10_qGoesOn 113 rfl) rfl ?_
                          rintro r τ ⟨rfl, rfl⟩
                          refine am_hp2 (σ1 := (am_setN T 55 2 (zP b E i : Int))) (am_setN_N _ _ _ _ _) ?_
                          refine am_st (st2 := [am_i 0]) rfl ?_
                          refine am_if_eq (q := 225) (t := 308) (am_tab tk_X10_qGoesOn 114 rfl) (by decide) rfl (fun h222 => ?_) (fun h222 => ?_)
                          · refine am_aload_n (q := 309) rfl (am_tab tk_X10_qGoesOn 161 rfl) rfl ?_
                            refine am_callV0 (q := 312) (me2 := M_X10_qBracket) (b := 55) (kb := 10) (nb := 108) (As := []) (rest := []) (out := [am_i (brF ws)]) (c_X10_qBracket rc ws out o (am_setN T 55 2 (zP b E i : Int)) hZ.1 (hV.sc ((frw.refl W_sc T).setN (by unfold W_sc; omega))) (by omega)) ⟨rfl, rfl⟩ (Ls_55 hZ.1) (by decide) ⟨Or.inl km_X10_612, kc_X10_qBracket, kn_X10, kd_X10_qBracket, ⟨(Nat.le_of_ble_eq_true rfl), (Nat.le_of_ble_eq_true rfl)⟩, ⟨(Nat.le_of_ble_eq_true rfl), (Nat.le_of_ble_eq_true rfl)⟩, (Nat.le_of_ble_eq_true rfl)⟩ ki_X10_qBracket ks_X10_qBracket rfl rfl (am_tab tk_X10_qGoesOn 162 rfl) rfl ?_
                            refine am_bipush (q := 314) (n := 21) (by decide) rfl (am_tab tk_X10_qGoesOn 163 rfl) rfl ?_
                            refine am_icmp_eq (q := 317) (t := 326) (am_tab tk_X10_qGoesOn 164 rfl) (by decide) rfl (fun h314 => ?_) (fun h314 => ?_)
                            · refine am_aload_n (q := 327) rfl (am_tab tk_X10_qGoesOn 169 rfl) rfl ?_
                              refine am_bipush (q := 329) (n := 44) (by decide) rfl (am_tab tk_X10_qGoesOn 170 rfl) rfl ?_
                              refine am_callVr (q := 332) (me2 := M_X10_asksSign) (b := 55) (kb := 10) (nb := 108) (As := [am_i 44]) (rest := []) (c_asksSignY b E i (am_setN T 55 2 (zP b E i : Int)) hZ.look 44 (by decide) d5) ⟨rfl, rfl⟩ (Ls_55 hZ.1) (by decide) ⟨Or.inl km_X10_325, kc_X10_asksSign, kn_X10, kd_X10_asksSign, ⟨(Nat.le_of_ble_eq_true rfl), (Nat.le_of_ble_eq_true rfl)⟩, ⟨(Nat.le_of_ble_eq_true rfl), (Nat.le_of_ble_eq_true rfl)⟩, (Nat.le_of_ble_eq_true rfl)⟩ ki_X10_asksSign ks_X10_asksSign rfl (am_tab tk_X10_qGoesOn 171 rfl) rfl ?_
                              rintro r T1 ⟨rfl, hZ1, hF1⟩
                              refine am_st (st2 := []) rfl ?_
                              refine am_aload_n (q := 333) rfl (am_tab tk_X10_qGoesOn 172 rfl) rfl ?_
                              refine am_getI (q := 336) (a := 55) (k := 10) (n := 108) (j := 5) (x := 0) (Ls_55 hZ1.1) (by decide) rfl hZ1.2.2.2.1 (by decide) (Or.inl kf_X10_248) (am_tab tk_X10_qGoesOn 173 rfl) rfl ?_
                              refine am_if_eq (q := 339) (t := 341) (am_tab tk_X10_qGoesOn 174 rfl) (by decide) rfl (fun h336 => ?_) (fun h336 => ?_)
                              · have hbr := brF_at ws rc (by omega)
                                refine am_aload_n (q := 342) rfl (am_tab tk_X10_qGoesOn 177 rfl) rfl ?_
                                refine am_callVr (q := 345) (me2 := M_X10_qDropsToBracket) (b := 55) (kb := 10) (nb := 108) (As := []) (rest := []) (c_X10_qDropsToBracket rc ws out o T1 hZ1.1 (hV.sc (((frw.refl W_sc T).setN (by unfold W_sc; omega)).trans hF1)) (by omega)) ⟨rfl, rfl⟩ (Ls_55 hZ1.1) (by decide) ⟨Or.inl km_X10_615, kc_X10_qDropsToBracket, kn_X10, kd_X10_qDropsToBracket, ⟨(Nat.le_of_ble_eq_true rfl), (Nat.le_of_ble_eq_true rfl)⟩, ⟨(Nat.le_of_ble_eq_true rfl), (Nat.le_of_ble_eq_true rfl)⟩, (Nat.le_of_ble_eq_true rfl)⟩ ki_X10_qDropsToBracket ks_X10_qDropsToBracket rfl (am_tab tk_X10_qGoesOn 178 rfl) rfl ?_
                                rintro r T2 ⟨rfl, hV2, hF2⟩
                                have hL2 : lay T2 := hF2.L hZ1.1
                                rw [hbr.1, List.cons_append] at hV2
                                refine am_st (st2 := []) rfl ?_
                                refine am_aload_n (q := 346) rfl (am_tab tk_X10_qGoesOn 179 rfl) rfl ?_
                                refine am_getR (q := 349) (a := 55) (k := 10) (n := 108) (j := 98) (r := some (128)) (Ls_55 hL2) (by decide) rfl (Lr_55_98 hL2) (by decide) (Or.inl kf_X10_236) (am_tab tk_X10_qGoesOn 180 rfl) rfl ?_
                                refine am_aload_n (q := 350) rfl (am_tab tk_X10_qGoesOn 181 rfl) rfl ?_
                                refine am_getI (q := 353) (a := 55) (k := 10) (n := 108) (j := 99) (x := ((((dtb rc ws).2.tail ++ out).length : Int) + 1)) (Ls_55 hL2) (by decide) rfl (by rw [hV2.2.2.1, List.length_cons]; simp) (by decide) (Or.inl kf_X10_339) (am_tab tk_X10_qGoesOn 182 rfl) rfl ?_
                                refine am_iconst (q := 354) (n := 1) (by decide) (am_tab tk_X10_qGoesOn 183 rfl) rfl ?_
                                refine am_isub (q := 355) (by omega) (am_tab tk_X10_qGoesOn 184 rfl) rfl ?_
                                refine am_dup2 (q := 356) rfl rfl (am_tab tk_X10_qGoesOn 185 rfl) rfl ?_
                                refine am_iald (q := 357) (a := 128) (n := 1700) (x := (brF ws)) (Ls_128 hL2) (by omega) (by omega) (by rw [show Int.toNat (((((dtb rc ws).2.tail ++ out).length : Int) + 1) - 1) = ((dtb rc ws).2.tail ++ out).length by omega]; exact hV2.top.1) (am_tab tk_X10_qGoesOn 186 rfl) rfl ?_
                                refine am_iconst (q := 358) (n := 2) (by decide) (am_tab tk_X10_qGoesOn 187 rfl) rfl ?_
                                refine am_iadd (q := 359) (by omega) (am_tab tk_X10_qGoesOn 188 rfl) rfl ?_
                                refine am_iast (q := 360) (a := 128) (n := 1700) (Ls_128 hL2) (by omega) (by omega) (am_tab tk_X10_qGoesOn 189 rfl) rfl ?_
                                refine am_iconst (q := 361) (n := 1) (by decide) (am_tab tk_X10_qGoesOn 190 rfl) rfl ?_
                                refine am_iret (Or.inr ⟨rfl, by first | exact Or.inl rfl | exact Or.inr rfl | omega⟩) (Nat.le_of_ble_eq_true rfl) (Nat.le_of_ble_eq_true rfl) (am_tab tk_X10_qGoesOn 191 rfl) ?_
                                refine hQ _ _ ?_
                                have hgt : gtF b E i rc ws o = .inl (1, i + 1, (dtb rc ws).1, (brF ws + 2) :: (dtb rc ws).2.tail, o) := by
                                  unfold gtF
                                  rw [if_neg (by omega), if_neg (by omega), if_pos (by omega), if_pos d5]
                                unfold goesF
                                rw [hres, hst]
                                rw [hgt]
                                have hVn := hV2.settop (v := brF ws + 2)
                                have hdl := dtb_len ws rc
                                have hdo := dtb_ok ws rc hok
                                rw [hbr.1] at hdl hdo
                                rw [List.length_cons] at hdl
                                have h6 := opn_br (t := (dtb rc ws).2.tail) hbr.2
                                have h6b := opn_br (w := brF ws + 2) (t := (dtb rc ws).2.tail) (by unfold isBr; rw [decide_eq_true (by omega)])
                                have ea := opn_app (dtb rc ws).2.tail out
                                have eb : opn ((brF ws + 2) :: (dtb rc ws).2.tail ++ out) = opn ((brF ws + 2) :: (dtb rc ws).2.tail) + opn out := opn_app _ _
                                rw [show Int.toNat (((((dtb rc ws).2.tail ++ out).length : Int) + 1) - 1) = ((dtb rc ws).2.tail ++ out).length by omega]
                                have hFz : frw W_q T1 (am_setN T2 128 ((dtb rc ws).2.tail ++ out).length (brF ws + 2)) := hF2.setN (by unfold W_q; omega)
                                refine ⟨⟨rfl, ⟨hZ1.q hFz, hVn, ?_, ⟨?_, ?_⟩, ?_, zP_on (by omega) hiz⟩, ?_⟩, hF.trans ((W_sc_p (((frw.refl W_sc T).setN (by unfold W_sc; omega)).trans hF1)).trans (W_q_p hFz))⟩
                                · rw [hFz.2.2 55 53 (by unfold W_q; omega), hF1.2.2 55 53 (by unfold W_sc; omega)]; exact h53
                                · show o = opn ((brF ws + 2) :: (dtb rc ws).2.tail ++ out); omega
                                · exact hon.2
                                · show (dtb rc ws).1.length + ((brF ws + 2) :: (dtb rc ws).2.tail).length + out.length ≤ i + 1; rw [List.length_cons]; omega
                                · show okS false ((brF ws + 2) :: (dtb rc ws).2.tail) = true; unfold okS; rw [if_neg (by omega), if_pos (by omega)]; exact okS_br hbr.2 hdo.2
                              · exact absurd h336 (by decide)
                            · refine am_aload_n (q := 318) rfl (am_tab tk_X10_qGoesOn 165 rfl) rfl ?_
                              refine am_callV0 (q := 321) (me2 := M_X10_qBracket) (b := 55) (kb := 10) (nb := 108) (As := []) (rest := []) (out := [am_i (brF ws)]) (c_X10_qBracket rc ws out o (am_setN T 55 2 (zP b E i : Int)) hZ.1 (hV.sc ((frw.refl W_sc T).setN (by unfold W_sc; omega))) (by omega)) ⟨rfl, rfl⟩ (Ls_55 hZ.1) (by decide) ⟨Or.inl km_X10_612, kc_X10_qBracket, kn_X10, kd_X10_qBracket, ⟨(Nat.le_of_ble_eq_true rfl), (Nat.le_of_ble_eq_true rfl)⟩, ⟨(Nat.le_of_ble_eq_true rfl), (Nat.le_of_ble_eq_true rfl)⟩, (Nat.le_of_ble_eq_true rfl)⟩ ki_X10_qBracket ks_X10_qBracket rfl rfl (am_tab tk_X10_qGoesOn 166 rfl) rfl ?_
                              refine am_bipush (q := 323) (n := 22) (by decide) rfl (am_tab tk_X10_qGoesOn 167 rfl) rfl ?_
                              refine am_icmp_ne (q := 326) (t := 362) (am_tab tk_X10_qGoesOn 168 rfl) (by decide) rfl (fun h323 => ?_) (fun h323 => ?_)
                              · refine am_aload_n (q := 363) rfl (am_tab tk_X10_qGoesOn 192 rfl) rfl ?_
                                refine am_callV0 (q := 366) (me2 := M_X10_qBracket) (b := 55) (kb := 10) (nb := 108) (As := []) (rest := []) (out := [am_i (brF ws)]) (c_X10_qBracket rc ws out o (am_setN T 55 2 (zP b E i : Int)) hZ.1 (hV.sc ((frw.refl W_sc T).setN (by unfold W_sc; omega))) (by omega)) ⟨rfl, rfl⟩ (Ls_55 hZ.1) (by decide) ⟨Or.inl km_X10_612, kc_X10_qBracket, kn_X10, kd_X10_qBracket, ⟨(Nat.le_of_ble_eq_true rfl), (Nat.le_of_ble_eq_true rfl)⟩, ⟨(Nat.le_of_ble_eq_true rfl), (Nat.le_of_ble_eq_true rfl)⟩, (Nat.le_of_ble_eq_true rfl)⟩ ki_X10_qBracket ks_X10_qBracket rfl rfl (am_tab tk_X10_qGoesOn 193 rfl) rfl ?_
                                refine am_iconst (q := 367) (n := (-1)) (by decide) (am_tab tk_X10_qGoesOn 194 rfl) rfl ?_
                                refine am_icmp_eq (q := 370) (t := 386) (am_tab tk_X10_qGoesOn 195 rfl) (by decide) rfl (fun h367 => ?_) (fun h367 => ?_)
                                · refine am_iconst (q := 387) (n := 0) (by decide) (am_tab tk_X10_qGoesOn 204 rfl) rfl ?_
                                  refine am_iret (Or.inr ⟨rfl, by first | exact Or.inl rfl | exact Or.inr rfl | omega⟩) (Nat.le_of_ble_eq_true rfl) (Nat.le_of_ble_eq_true rfl) (am_tab tk_X10_qGoesOn 205 rfl) ?_
                                  refine hQ _ _ ?_
                                  have hgt : gtF b E i rc ws o = .inl (0, i, rc, ws, o) := by
                                    unfold gtF
                                    rw [if_neg (by omega), if_neg (by omega), if_neg (by omega), if_neg (by omega)]
                                  unfold goesF
                                  rw [hres, hst]
                                  rw [hgt]
                                  have hFb : frw W_sc T (am_setN T 55 2 (zP b E i : Int)) := by repeat (first | exact frw.refl _ T | refine frw.setN ?_ (by unfold W_sc; omega))
                                  exact ⟨⟨rfl, ⟨hZ.look, hV.sc hFb, h53, hon, hlen, hiz⟩, hok⟩, hF.trans (W_sc_p hFb)⟩
                                · refine am_aload_n (q := 371) rfl (am_tab tk_X10_qGoesOn 196 rfl) rfl ?_
                                  refine am_getI (q := 374) (a := 55) (k := 10) (n := 108) (j := 5) (x := 0) (Ls_55 hZ.1) (by decide) rfl hZ.2.2.2.1 (by decide) (Or.inl kf_X10_248) (am_tab tk_X10_qGoesOn 197 rfl) rfl ?_
                                  refine am_if_ne (q := 377) (t := 386) (am_tab tk_X10_qGoesOn 198 rfl) (by decide) rfl (fun h374 => ?_) (fun h374 => ?_)
                                  · exact absurd h374 (by decide)
                                  · refine am_aload_n (q := 378) rfl (am_tab tk_X10_qGoesOn 199 rfl) rfl ?_
                                    refine am_iconst (q := 379) (n := 1) (by decide) (am_tab tk_X10_qGoesOn 200 rfl) rfl ?_
                                    refine am_aload_n (q := 380) rfl (am_tab tk_X10_qGoesOn 201 rfl) rfl ?_
                                    refine am_getI (q := 383) (a := 55) (k := 10) (n := 108) (j := 2) (x := (zP b E i : Int)) (Ls_55 hZ.1) (by decide) rfl rfl (by decide) (Or.inl kf_X10_254) (am_tab tk_X10_qGoesOn 202 rfl) rfl ?_
                                    refine am_callV0 (q := 386) (me2 := M_X10_fail) (b := 55) (kb := 10) (nb := 108) (As := [am_i 1, am_i ((zP b E i : Int))]) (rest := []) (out := []) (c_fail0 (am_setN T 55 2 (zP b E i : Int)) hZ.1 1 (zP b E i : Int) hZ.2.2.2.1) ⟨rfl, rfl⟩ (Ls_55 hZ.1) (by decide) ⟨Or.inl km_X10_278, kc_X10_fail, kn_X10, kd_X10_fail, ⟨(Nat.le_of_ble_eq_true rfl), (Nat.le_of_ble_eq_true rfl)⟩, ⟨(Nat.le_of_ble_eq_true rfl), (Nat.le_of_ble_eq_true rfl)⟩, (Nat.le_of_ble_eq_true rfl)⟩ ki_X10_fail ks_X10_fail rfl rfl (am_tab tk_X10_qGoesOn 203 rfl) rfl ?_
                                    refine am_iconst (q := 387) (n := 0) (by decide) (am_tab tk_X10_qGoesOn 204 rfl) rfl ?_
                                    refine am_iret (Or.inr ⟨rfl, by first | exact Or.inl rfl | exact Or.inr rfl | omega⟩) (Nat.le_of_ble_eq_true rfl) (Nat.le_of_ble_eq_true rfl) (am_tab tk_X10_qGoesOn 205 rfl) ?_
                                    refine hQ _ _ ?_
                                    have hgt : gtF b E i rc ws o = .inr (1, (zP b E i : Int)) := by
                                      unfold gtF
                                      rw [if_neg (by omega), if_neg (by omega), if_neg (by omega), if_pos h367]
                                    unfold goesF
                                    rw [hres, hst]
                                    rw [hgt]
                                    have hFb : frw W_sc T (am_setN (am_setN (am_setN T 55 2 (zP b E i : Int)) 55 5 1) 55 6 (zP b E i : Int)) := by repeat (first | exact frw.refl _ T | refine frw.setN ?_ (by unfold W_sc; omega))
                                    exact ⟨⟨rfl, QB_of (ZB_of hZ.1 hZ.2.1 hFb hZ.2.2.1 rfl (show ¬ (1 : Int) = 0 by decide) rfl (by show 0 ≤ (zP b E i : Int) ∧ (zP b E i : Int) ≤ _; omega)) (hV.sc hFb) (by omega) (by omega)⟩, hF.trans (W_sc_p hFb)⟩
                              · refine am_aload_n (q := 327) rfl (am_tab tk_X10_qGoesOn 169 rfl) rfl ?_
                                refine am_bipush (q := 329) (n := 44) (by decide) rfl (am_tab tk_X10_qGoesOn 170 rfl) rfl ?_
                                refine am_callVr (q := 332) (me2 := M_X10_asksSign) (b := 55) (kb := 10) (nb := 108) (As := [am_i 44]) (rest := []) (c_asksSignY b E i (am_setN T 55 2 (zP b E i : Int)) hZ.look 44 (by decide) d5) ⟨rfl, rfl⟩ (Ls_55 hZ.1) (by decide) ⟨Or.inl km_X10_325, kc_X10_asksSign, kn_X10, kd_X10_asksSign, ⟨(Nat.le_of_ble_eq_true rfl), (Nat.le_of_ble_eq_true rfl)⟩, ⟨(Nat.le_of_ble_eq_true rfl), (Nat.le_of_ble_eq_true rfl)⟩, (Nat.le_of_ble_eq_true rfl)⟩ ki_X10_asksSign ks_X10_asksSign rfl (am_tab tk_X10_qGoesOn 171 rfl) rfl ?_
                                rintro r T1 ⟨rfl, hZ1, hF1⟩
                                refine am_st (st2 := []) rfl ?_
                                refine am_aload_n (q := 333) rfl (am_tab tk_X10_qGoesOn 172 rfl) rfl ?_
                                refine am_getI (q := 336) (a := 55) (k := 10) (n := 108) (j := 5) (x := 0) (Ls_55 hZ1.1) (by decide) rfl hZ1.2.2.2.1 (by decide) (Or.inl kf_X10_248) (am_tab tk_X10_qGoesOn 173 rfl) rfl ?_
                                refine am_if_eq (q := 339) (t := 341) (am_tab tk_X10_qGoesOn 174 rfl) (by decide) rfl (fun h336 => ?_) (fun h336 => ?_)
                                · have hbr := brF_at ws rc (by omega)
                                  refine am_aload_n (q := 342) rfl (am_tab tk_X10_qGoesOn 177 rfl) rfl ?_
                                  refine am_callVr (q := 345) (me2 := M_X10_qDropsToBracket) (b := 55) (kb := 10) (nb := 108) (As := []) (rest := []) (c_X10_qDropsToBracket rc ws out o T1 hZ1.1 (hV.sc (((frw.refl W_sc T).setN (by unfold W_sc; omega)).trans hF1)) (by omega)) ⟨rfl, rfl⟩ (Ls_55 hZ1.1) (by decide) ⟨Or.inl km_X10_615, kc_X10_qDropsToBracket, kn_X10, kd_X10_qDropsToBracket, ⟨(Nat.le_of_ble_eq_true rfl), (Nat.le_of_ble_eq_true rfl)⟩, ⟨(Nat.le_of_ble_eq_true rfl), (Nat.le_of_ble_eq_true rfl)⟩, (Nat.le_of_ble_eq_true rfl)⟩ ki_X10_qDropsToBracket ks_X10_qDropsToBracket rfl (am_tab tk_X10_qGoesOn 178 rfl) rfl ?_
                                  rintro r T2 ⟨rfl, hV2, hF2⟩
                                  have hL2 : lay T2 := hF2.L hZ1.1
                                  rw [hbr.1, List.cons_append] at hV2
                                  refine am_st (st2 := []) rfl ?_
                                  refine am_aload_n (q := 346) rfl (am_tab tk_X10_qGoesOn 179 rfl) rfl ?_
                                  refine am_getR (q := 349) (a := 55) (k := 10) (n := 108) (j := 98) (r := some (128)) (Ls_55 hL2) (by decide) rfl (Lr_55_98 hL2) (by decide) (Or.inl kf_X10_236) (am_tab tk_X10_qGoesOn 180 rfl) rfl ?_
                                  refine am_aload_n (q := 350) rfl (am_tab tk_X10_qGoesOn 181 rfl) rfl ?_
                                  refine am_getI (q := 353) (a := 55) (k := 10) (n := 108) (j := 99) (x := ((((dtb rc ws).2.tail ++ out).length : Int) + 1)) (Ls_55 hL2) (by decide) rfl (by rw [hV2.2.2.1, List.length_cons]; simp) (by decide) (Or.inl kf_X10_339) (am_tab tk_X10_qGoesOn 182 rfl) rfl ?_
                                  refine am_iconst (q := 354) (n := 1) (by decide) (am_tab tk_X10_qGoesOn 183 rfl) rfl ?_
                                  refine am_isub (q := 355) (by omega) (am_tab tk_X10_qGoesOn 184 rfl) rfl ?_
                                  refine am_dup2 (q := 356) rfl rfl (am_tab tk_X10_qGoesOn 185 rfl) rfl ?_
                                  refine am_iald (q := 357) (a := 128) (n := 1700) (x := (brF ws)) (Ls_128 hL2) (by omega) (by omega) (by rw [show Int.toNat (((((dtb rc ws).2.tail ++ out).length : Int) + 1) - 1) = ((dtb rc ws).2.tail ++ out).length by omega]; exact hV2.top.1) (am_tab tk_X10_qGoesOn 186 rfl) rfl ?_
                                  refine am_iconst (q := 358) (n := 2) (by decide) (am_tab tk_X10_qGoesOn 187 rfl) rfl ?_
                                  refine am_iadd (q := 359) (by omega) (am_tab tk_X10_qGoesOn 188 rfl) rfl ?_
                                  refine am_iast (q := 360) (a := 128) (n := 1700) (Ls_128 hL2) (by omega) (by omega) (am_tab tk_X10_qGoesOn 189 rfl) rfl ?_
                                  refine am_iconst (q := 361) (n := 1) (by decide) (am_tab tk_X10_qGoesOn 190 rfl) rfl ?_
                                  refine am_iret (Or.inr ⟨rfl, by first | exact Or.inl rfl | exact Or.inr rfl | omega⟩) (Nat.le_of_ble_eq_true rfl) (Nat.le_of_ble_eq_true rfl) (am_tab tk_X10_qGoesOn 191 rfl) ?_
                                  refine hQ _ _ ?_
                                  have hgt : gtF b E i rc ws o = .inl (1, i + 1, (dtb rc ws).1, (brF ws + 2) :: (dtb rc ws).2.tail, o) := by
                                    unfold gtF
                                    rw [if_neg (by omega), if_neg (by omega), if_pos (by omega), if_pos d5]
                                  unfold goesF
                                  rw [hres, hst]
                                  rw [hgt]
                                  have hVn := hV2.settop (v := brF ws + 2)
                                  have hdl := dtb_len ws rc
                                  have hdo := dtb_ok ws rc hok
                                  rw [hbr.1] at hdl hdo
                                  rw [List.length_cons] at hdl
                                  have h6 := opn_br (t := (dtb rc ws).2.tail) hbr.2
                                  have h6b := opn_br (w := brF ws + 2) (t := (dtb rc ws).2.tail) (by unfold isBr; rw [decide_eq_true (by omega)])
                                  have ea := opn_app (dtb rc ws).2.tail out
                                  have eb : opn ((brF ws + 2) :: (dtb rc ws).2.tail ++ out) = opn ((brF ws + 2) :: (dtb rc ws).2.tail) + opn out := opn_app _ _
                                  rw [show Int.toNat (((((dtb rc ws).2.tail ++ out).length : Int) + 1) - 1) = ((dtb rc ws).2.tail ++ out).length by omega]
                                  have hFz : frw W_q T1 (am_setN T2 128 ((dtb rc ws).2.tail ++ out).length (brF ws + 2)) := hF2.setN (by unfold W_q; omega)
                                  refine ⟨⟨rfl, ⟨hZ1.q hFz, hVn, ?_, ⟨?_, ?_⟩, ?_, zP_on (by omega) hiz⟩, ?_⟩, hF.trans ((W_sc_p (((frw.refl W_sc T).setN (by unfold W_sc; omega)).trans hF1)).trans (W_q_p hFz))⟩
                                  · rw [hFz.2.2 55 53 (by unfold W_q; omega), hF1.2.2 55 53 (by unfold W_sc; omega)]; exact h53
                                  · show o = opn ((brF ws + 2) :: (dtb rc ws).2.tail ++ out); omega
                                  · exact hon.2
                                  · show (dtb rc ws).1.length + ((brF ws + 2) :: (dtb rc ws).2.tail).length + out.length ≤ i + 1; rw [List.length_cons]; omega
                                  · show okS false ((brF ws + 2) :: (dtb rc ws).2.tail) = true; unfold okS; rw [if_neg (by omega), if_pos (by omega)]; exact okS_br hbr.2 hdo.2
                                · exact absurd h336 (by decide)
                          · exact absurd h222 (by decide)
                      · exact absurd h137 (by decide)
                  · refine am_aload_n (q := 123) rfl (am_tab tk_X10_qGoesOn 61 rfl) rfl ?_
                    refine am_bipush (q := 125) (n := 42) (by decide) rfl (am_tab tk_X10_qGoesOn 62 rfl) rfl ?_
                    refine am_callVr (q := 128) (me2 := M_X10_takesSign) (b := 55) (kb := 10) (nb := 108) (As := [am_i 42]) (rest := []) (c_takesSignN b E i (am_setN T 55 2 (zP b E i : Int)) hZ.look 42 (by decide) d1) ⟨rfl, rfl⟩ (Ls_55 hZ.1) (by decide) ⟨Or.inl km_X10_282, kc_X10_takesSign, kn_X10, kd_X10_takesSign, ⟨(Nat.le_of_ble_eq_true rfl), (Nat.le_of_ble_eq_true rfl)⟩, ⟨(Nat.le_of_ble_eq_true rfl), (Nat.le_of_ble_eq_true rfl)⟩, (Nat.le_of_ble_eq_true rfl)⟩ ki_X10_takesSign ks_X10_takesSign rfl (am_tab tk_X10_qGoesOn 63 rfl) rfl ?_
                    rintro r τ ⟨rfl, rfl⟩
                    refine am_hp2 (σ1 := (am_setN T 55 2 (zP b E i : Int))) (am_setN_N _ _ _ _ _) ?_
                    refine am_st (st2 := [am_i 0]) rfl ?_
                    refine am_if_ne (q := 131) (t := 140) (am_tab tk_X10_qGoesOn 64 rfl) (by decide) rfl (fun h128 => ?_) (fun h128 => ?_)
                    · exact absurd h128 (by decide)
                    · refine am_aload_n (q := 132) rfl (am_tab tk_X10_qGoesOn 65 rfl) rfl ?_
                      refine am_bipush (q := 134) (n := 47) (by decide) rfl (am_tab tk_X10_qGoesOn 66 rfl) rfl ?_
                      refine am_callVr (q := 137) (me2 := M_X10_takesSign) (b := 55) (kb := 10) (nb := 108) (As := [am_i 47]) (rest := []) (c_takesSignN b E i (am_setN T 55 2 (zP b E i : Int)) hZ.look 47 (by decide) d2) ⟨rfl, rfl⟩ (Ls_55 hZ.1) (by decide) ⟨Or.inl km_X10_282, kc_X10_takesSign, kn_X10, kd_X10_takesSign, ⟨(Nat.le_of_ble_eq_true rfl), (Nat.le_of_ble_eq_true rfl)⟩, ⟨(Nat.le_of_ble_eq_true rfl), (Nat.le_of_ble_eq_true rfl)⟩, (Nat.le_of_ble_eq_true rfl)⟩ ki_X10_takesSign ks_X10_takesSign rfl (am_tab tk_X10_qGoesOn 67 rfl) rfl ?_
                      rintro r τ ⟨rfl, rfl⟩
                      refine am_hp2 (σ1 := (am_setN T 55 2 (zP b E i : Int))) (am_setN_N _ _ _ _ _) ?_
                      refine am_st (st2 := [am_i 0]) rfl ?_
                      refine am_if_eq (q := 140) (t := 207) (am_tab tk_X10_qGoesOn 68 rfl) (by decide) rfl (fun h137 => ?_) (fun h137 => ?_)
                      · refine am_aload_n (q := 208) rfl (am_tab tk_X10_qGoesOn 107 rfl) rfl ?_
                        refine am_bipush (q := 210) (n := 43) (by decide) rfl (am_tab tk_X10_qGoesOn 108 rfl) rfl ?_
                        refine am_callVr (q := 213) (me2 := M_X10_takesSign) (b := 55) (kb := 10) (nb := 108) (As := [am_i 43]) (rest := []) (c_takesSignN b E i (am_setN T 55 2 (zP b E i : Int)) hZ.look 43 (by decide) d3) ⟨rfl, rfl⟩ (Ls_55 hZ.1) (by decide) ⟨Or.inl km_X10_282, kc_X10_takesSign, kn_X10, kd_X10_takesSign, ⟨(Nat.le_of_ble_eq_true rfl), (Nat.le_of_ble_eq_true rfl)⟩, ⟨(Nat.le_of_ble_eq_true rfl), (Nat.le_of_ble_eq_true rfl)⟩, (Nat.le_of_ble_eq_true rfl)⟩ ki_X10_takesSign ks_X10_takesSign rfl (am_tab tk_X10_qGoesOn 109 rfl) rfl ?_
                        rintro r τ ⟨rfl, rfl⟩
                        refine am_hp2 (σ1 := (am_setN T 55 2 (zP b E i : Int))) (am_setN_N _ _ _ _ _) ?_
                        refine am_st (st2 := [am_i 0]) rfl ?_
                        refine am_if_ne (q := 216) (t := 225) (am_tab tk_X10_qGoesOn 110 rfl) (by decide) rfl (fun h213 => ?_) (fun h213 => ?_)
                        · exact absurd h213 (by decide)
                        · refine am_aload_n (q := 217) rfl (am_tab tk_X10_qGoesOn 111 rfl) rfl ?_
                          refine am_bipush (q := 219) (n := 45) (by decide) rfl (am_tab tk_X10_qGoesOn 112 rfl) rfl ?_
                          refine am_callVr (q := 222) (me2 := M_X10_takesSign) (b := 55) (kb := 10) (nb := 108) (As := [am_i 45]) (rest := []) (c_takesSignN b E i (am_setN T 55 2 (zP b E i : Int)) hZ.look 45 (by decide) d4) ⟨rfl, rfl⟩ (Ls_55 hZ.1) (by decide) ⟨Or.inl km_X10_282, kc_X10_takesSign, kn_X10, kd_X10_takesSign, ⟨(Nat.le_of_ble_eq_true rfl), (Nat.le_of_ble_eq_true rfl)⟩, ⟨(Nat.le_of_ble_eq_true rfl), (Nat.le_of_ble_eq_true rfl)⟩, (Nat.le_of_ble_eq_true rfl)⟩ ki_X10_takesSign ks_X10_takesSign rfl (am_tab tk_X10_qGoesOn 113 rfl) rfl ?_
                          rintro r τ ⟨rfl, rfl⟩
                          refine am_hp2 (σ1 := (am_setN T 55 2 (zP b E i : Int))) (am_setN_N _ _ _ _ _) ?_
                          refine am_st (st2 := [am_i 0]) rfl ?_
                          refine am_if_eq (q := 225) (t := 308) (am_tab tk_X10_qGoesOn 114 rfl) (by decide) rfl (fun h222 => ?_) (fun h222 => ?_)
                          · refine am_aload_n (q := 309) rfl (am_tab tk_X10_qGoesOn 161 rfl) rfl ?_
                            refine am_callV0 (q := 312) (me2 := M_X10_qBracket) (b := 55) (kb := 10) (nb := 108) (As := []) (rest := []) (out := [am_i (brF ws)]) (c_X10_qBracket rc ws out o (am_setN T 55 2 (zP b E i : Int)) hZ.1 (hV.sc ((frw.refl W_sc T).setN (by unfold W_sc; omega))) (by omega)) ⟨rfl, rfl⟩ (Ls_55 hZ.1) (by decide) ⟨Or.inl km_X10_612, kc_X10_qBracket, kn_X10, kd_X10_qBracket, ⟨(Nat.le_of_ble_eq_true rfl), (Nat.le_of_ble_eq_true rfl)⟩, ⟨(Nat.le_of_ble_eq_true rfl), (Nat.le_of_ble_eq_true rfl)⟩, (Nat.le_of_ble_eq_true rfl)⟩ ki_X10_qBracket ks_X10_qBracket rfl rfl (am_tab tk_X10_qGoesOn 162 rfl) rfl ?_
                            refine am_bipush (q := 314) (n := 21) (by decide) rfl (am_tab tk_X10_qGoesOn 163 rfl) rfl ?_
                            refine am_icmp_eq (q := 317) (t := 326) (am_tab tk_X10_qGoesOn 164 rfl) (by decide) rfl (fun h314 => ?_) (fun h314 => ?_)
                            · refine am_aload_n (q := 327) rfl (am_tab tk_X10_qGoesOn 169 rfl) rfl ?_
                              refine am_bipush (q := 329) (n := 44) (by decide) rfl (am_tab tk_X10_qGoesOn 170 rfl) rfl ?_
                              refine am_callVr (q := 332) (me2 := M_X10_asksSign) (b := 55) (kb := 10) (nb := 108) (As := [am_i 44]) (rest := []) (c_asksSignN b E i (am_setN T 55 2 (zP b E i : Int)) hZ.look 44 (by decide) d5) ⟨rfl, rfl⟩ (Ls_55 hZ.1) (by decide) ⟨Or.inl km_X10_325, kc_X10_asksSign, kn_X10, kd_X10_asksSign, ⟨(Nat.le_of_ble_eq_true rfl), (Nat.le_of_ble_eq_true rfl)⟩, ⟨(Nat.le_of_ble_eq_true rfl), (Nat.le_of_ble_eq_true rfl)⟩, (Nat.le_of_ble_eq_true rfl)⟩ ki_X10_asksSign ks_X10_asksSign rfl (am_tab tk_X10_qGoesOn 171 rfl) rfl ?_
                              rintro r T1 ⟨rfl, hZ1, hF1⟩
                              refine am_st (st2 := []) rfl ?_
                              refine am_aload_n (q := 333) rfl (am_tab tk_X10_qGoesOn 172 rfl) rfl ?_
                              refine am_getI (q := 336) (a := 55) (k := 10) (n := 108) (j := 5) (x := 1) (Ls_55 hZ1.1) (by decide) rfl hZ1.2.2.2.1 (by decide) (Or.inl kf_X10_248) (am_tab tk_X10_qGoesOn 173 rfl) rfl ?_
                              refine am_if_eq (q := 339) (t := 341) (am_tab tk_X10_qGoesOn 174 rfl) (by decide) rfl (fun h336 => ?_) (fun h336 => ?_)
                              · exact absurd h336 (by decide)
                              · refine am_iconst (q := 340) (n := 0) (by decide) (am_tab tk_X10_qGoesOn 175 rfl) rfl ?_
                                refine am_iret (Or.inr ⟨rfl, by first | exact Or.inl rfl | exact Or.inr rfl | omega⟩) (Nat.le_of_ble_eq_true rfl) (Nat.le_of_ble_eq_true rfl) (am_tab tk_X10_qGoesOn 176 rfl) ?_
                                refine hQ _ _ ?_
                                have hgt : gtF b E i rc ws o = .inr (1, (zP b E i : Int)) := by
                                  unfold gtF
                                  rw [if_neg (by omega), if_neg (by omega), if_pos (by omega), if_neg d5]
                                unfold goesF
                                rw [hres, hst]
                                rw [hgt]
                                exact ⟨⟨rfl, QB_of hZ1 (hV.sc (((frw.refl W_sc T).setN (by unfold W_sc; omega)).trans hF1)) (by omega) (by omega)⟩, hF.trans (W_sc_p (((frw.refl W_sc T).setN (by unfold W_sc; omega)).trans hF1))⟩
                            · refine am_aload_n (q := 318) rfl (am_tab tk_X10_qGoesOn 165 rfl) rfl ?_
                              refine am_callV0 (q := 321) (me2 := M_X10_qBracket) (b := 55) (kb := 10) (nb := 108) (As := []) (rest := []) (out := [am_i (brF ws)]) (c_X10_qBracket rc ws out o (am_setN T 55 2 (zP b E i : Int)) hZ.1 (hV.sc ((frw.refl W_sc T).setN (by unfold W_sc; omega))) (by omega)) ⟨rfl, rfl⟩ (Ls_55 hZ.1) (by decide) ⟨Or.inl km_X10_612, kc_X10_qBracket, kn_X10, kd_X10_qBracket, ⟨(Nat.le_of_ble_eq_true rfl), (Nat.le_of_ble_eq_true rfl)⟩, ⟨(Nat.le_of_ble_eq_true rfl), (Nat.le_of_ble_eq_true rfl)⟩, (Nat.le_of_ble_eq_true rfl)⟩ ki_X10_qBracket ks_X10_qBracket rfl rfl (am_tab tk_X10_qGoesOn 166 rfl) rfl ?_
                              refine am_bipush (q := 323) (n := 22) (by decide) rfl (am_tab tk_X10_qGoesOn 167 rfl) rfl ?_
                              refine am_icmp_ne (q := 326) (t := 362) (am_tab tk_X10_qGoesOn 168 rfl) (by decide) rfl (fun h323 => ?_) (fun h323 => ?_)
                              · refine am_aload_n (q := 363) rfl (am_tab tk_X10_qGoesOn 192 rfl) rfl ?_
                                refine am_callV0 (q := 366) (me2 := M_X10_qBracket) (b := 55) (kb := 10) (nb := 108) (As := []) (rest := []) (out := [am_i (brF ws)]) (c_X10_qBracket rc ws out o (am_setN T 55 2 (zP b E i : Int)) hZ.1 (hV.sc ((frw.refl W_sc T).setN (by unfold W_sc; omega))) (by omega)) ⟨rfl, rfl⟩ (Ls_55 hZ.1) (by decide) ⟨Or.inl km_X10_612, kc_X10_qBracket, kn_X10, kd_X10_qBracket, ⟨(Nat.le_of_ble_eq_true rfl), (Nat.le_of_ble_eq_true rfl)⟩, ⟨(Nat.le_of_ble_eq_true rfl), (Nat.le_of_ble_eq_true rfl)⟩, (Nat.le_of_ble_eq_true rfl)⟩ ki_X10_qBracket ks_X10_qBracket rfl rfl (am_tab tk_X10_qGoesOn 193 rfl) rfl ?_
                                refine am_iconst (q := 367) (n := (-1)) (by decide) (am_tab tk_X10_qGoesOn 194 rfl) rfl ?_
                                refine am_icmp_eq (q := 370) (t := 386) (am_tab tk_X10_qGoesOn 195 rfl) (by decide) rfl (fun h367 => ?_) (fun h367 => ?_)
                                · refine am_iconst (q := 387) (n := 0) (by decide) (am_tab tk_X10_qGoesOn 204 rfl) rfl ?_
                                  refine am_iret (Or.inr ⟨rfl, by first | exact Or.inl rfl | exact Or.inr rfl | omega⟩) (Nat.le_of_ble_eq_true rfl) (Nat.le_of_ble_eq_true rfl) (am_tab tk_X10_qGoesOn 205 rfl) ?_
                                  refine hQ _ _ ?_
                                  have hgt : gtF b E i rc ws o = .inl (0, i, rc, ws, o) := by
                                    unfold gtF
                                    rw [if_neg (by omega), if_neg (by omega), if_neg (by omega), if_neg (by omega)]
                                  unfold goesF
                                  rw [hres, hst]
                                  rw [hgt]
                                  have hFb : frw W_sc T (am_setN T 55 2 (zP b E i : Int)) := by repeat (first | exact frw.refl _ T | refine frw.setN ?_ (by unfold W_sc; omega))
                                  exact ⟨⟨rfl, ⟨hZ.look, hV.sc hFb, h53, hon, hlen, hiz⟩, hok⟩, hF.trans (W_sc_p hFb)⟩
                                · refine am_aload_n (q := 371) rfl (am_tab tk_X10_qGoesOn 196 rfl) rfl ?_
                                  refine am_getI (q := 374) (a := 55) (k := 10) (n := 108) (j := 5) (x := 0) (Ls_55 hZ.1) (by decide) rfl hZ.2.2.2.1 (by decide) (Or.inl kf_X10_248) (am_tab tk_X10_qGoesOn 197 rfl) rfl ?_
                                  refine am_if_ne (q := 377) (t := 386) (am_tab tk_X10_qGoesOn 198 rfl) (by decide) rfl (fun h374 => ?_) (fun h374 => ?_)
                                  · exact absurd h374 (by decide)
                                  · refine am_aload_n (q := 378) rfl (am_tab tk_X10_qGoesOn 199 rfl) rfl ?_
                                    refine am_iconst (q := 379) (n := 1) (by decide) (am_tab tk_X10_qGoesOn 200 rfl) rfl ?_
                                    refine am_aload_n (q := 380) rfl (am_tab tk_X10_qGoesOn 201 rfl) rfl ?_
                                    refine am_getI (q := 383) (a := 55) (k := 10) (n := 108) (j := 2) (x := (zP b E i : Int)) (Ls_55 hZ.1) (by decide) rfl rfl (by decide) (Or.inl kf_X10_254) (am_tab tk_X10_qGoesOn 202 rfl) rfl ?_
                                    refine am_callV0 (q := 386) (me2 := M_X10_fail) (b := 55) (kb := 10) (nb := 108) (As := [am_i 1, am_i ((zP b E i : Int))]) (rest := []) (out := []) (c_fail0 (am_setN T 55 2 (zP b E i : Int)) hZ.1 1 (zP b E i : Int) hZ.2.2.2.1) ⟨rfl, rfl⟩ (Ls_55 hZ.1) (by decide) ⟨Or.inl km_X10_278, kc_X10_fail, kn_X10, kd_X10_fail, ⟨(Nat.le_of_ble_eq_true rfl), (Nat.le_of_ble_eq_true rfl)⟩, ⟨(Nat.le_of_ble_eq_true rfl), (Nat.le_of_ble_eq_true rfl)⟩, (Nat.le_of_ble_eq_true rfl)⟩ ki_X10_fail ks_X10_fail rfl rfl (am_tab tk_X10_qGoesOn 203 rfl) rfl ?_
                                    refine am_iconst (q := 387) (n := 0) (by decide) (am_tab tk_X10_qGoesOn 204 rfl) rfl ?_
                                    refine am_iret (Or.inr ⟨rfl, by first | exact Or.inl rfl | exact Or.inr rfl | omega⟩) (Nat.le_of_ble_eq_true rfl) (Nat.le_of_ble_eq_true rfl) (am_tab tk_X10_qGoesOn 205 rfl) ?_
                                    refine hQ _ _ ?_
                                    have hgt : gtF b E i rc ws o = .inr (1, (zP b E i : Int)) := by
                                      unfold gtF
                                      rw [if_neg (by omega), if_neg (by omega), if_neg (by omega), if_pos h367]
                                    unfold goesF
                                    rw [hres, hst]
                                    rw [hgt]
                                    have hFb : frw W_sc T (am_setN (am_setN (am_setN T 55 2 (zP b E i : Int)) 55 5 1) 55 6 (zP b E i : Int)) := by repeat (first | exact frw.refl _ T | refine frw.setN ?_ (by unfold W_sc; omega))
                                    exact ⟨⟨rfl, QB_of (ZB_of hZ.1 hZ.2.1 hFb hZ.2.2.1 rfl (show ¬ (1 : Int) = 0 by decide) rfl (by show 0 ≤ (zP b E i : Int) ∧ (zP b E i : Int) ≤ _; omega)) (hV.sc hFb) (by omega) (by omega)⟩, hF.trans (W_sc_p hFb)⟩
                              · refine am_aload_n (q := 327) rfl (am_tab tk_X10_qGoesOn 169 rfl) rfl ?_
                                refine am_bipush (q := 329) (n := 44) (by decide) rfl (am_tab tk_X10_qGoesOn 170 rfl) rfl ?_
                                refine am_callVr (q := 332) (me2 := M_X10_asksSign) (b := 55) (kb := 10) (nb := 108) (As := [am_i 44]) (rest := []) (c_asksSignN b E i (am_setN T 55 2 (zP b E i : Int)) hZ.look 44 (by decide) d5) ⟨rfl, rfl⟩ (Ls_55 hZ.1) (by decide) ⟨Or.inl km_X10_325, kc_X10_asksSign, kn_X10, kd_X10_asksSign, ⟨(Nat.le_of_ble_eq_true rfl), (Nat.le_of_ble_eq_true rfl)⟩, ⟨(Nat.le_of_ble_eq_true rfl), (Nat.le_of_ble_eq_true rfl)⟩, (Nat.le_of_ble_eq_true rfl)⟩ ki_X10_asksSign ks_X10_asksSign rfl (am_tab tk_X10_qGoesOn 171 rfl) rfl ?_
                                rintro r T1 ⟨rfl, hZ1, hF1⟩
                                refine am_st (st2 := []) rfl ?_
                                refine am_aload_n (q := 333) rfl (am_tab tk_X10_qGoesOn 172 rfl) rfl ?_
                                refine am_getI (q := 336) (a := 55) (k := 10) (n := 108) (j := 5) (x := 1) (Ls_55 hZ1.1) (by decide) rfl hZ1.2.2.2.1 (by decide) (Or.inl kf_X10_248) (am_tab tk_X10_qGoesOn 173 rfl) rfl ?_
                                refine am_if_eq (q := 339) (t := 341) (am_tab tk_X10_qGoesOn 174 rfl) (by decide) rfl (fun h336 => ?_) (fun h336 => ?_)
                                · exact absurd h336 (by decide)
                                · refine am_iconst (q := 340) (n := 0) (by decide) (am_tab tk_X10_qGoesOn 175 rfl) rfl ?_
                                  refine am_iret (Or.inr ⟨rfl, by first | exact Or.inl rfl | exact Or.inr rfl | omega⟩) (Nat.le_of_ble_eq_true rfl) (Nat.le_of_ble_eq_true rfl) (am_tab tk_X10_qGoesOn 176 rfl) ?_
                                  refine hQ _ _ ?_
                                  have hgt : gtF b E i rc ws o = .inr (1, (zP b E i : Int)) := by
                                    unfold gtF
                                    rw [if_neg (by omega), if_neg (by omega), if_pos (by omega), if_neg d5]
                                  unfold goesF
                                  rw [hres, hst]
                                  rw [hgt]
                                  exact ⟨⟨rfl, QB_of hZ1 (hV.sc (((frw.refl W_sc T).setN (by unfold W_sc; omega)).trans hF1)) (by omega) (by omega)⟩, hF.trans (W_sc_p (((frw.refl W_sc T).setN (by unfold W_sc; omega)).trans hF1))⟩
                          · exact absurd h222 (by decide)
                      · exact absurd h137 (by decide)
      refine am_aload_n (q := 1) rfl (am_tab tk_X10_qGoesOn 0 rfl) rfl ?_
      refine am_getI (q := 4) (a := 55) (k := 10) (n := 108) (j := 5) (x := 0) (Ls_55 hZ.1) (by decide) rfl hZ.2.2.2.1 (by decide) (Or.inl kf_X10_248) (am_tab tk_X10_qGoesOn 1 rfl) rfl ?_
      refine am_if_ne (q := 7) (t := 122) (am_tab tk_X10_qGoesOn 2 rfl) (by decide) rfl (fun h4 => ?_) (fun h4 => ?_)
      · exact absurd h4 (by decide)
      · by_cases c1 : zK b E i = 41
        · refine am_aload_n (q := 8) rfl (am_tab tk_X10_qGoesOn 3 rfl) rfl ?_
          refine am_callV0 (q := 11) (me2 := M_X10_look) (b := 55) (kb := 10) (nb := 108) (As := []) (rest := []) (out := [am_i (byt b E i)]) (c_X10_look b E i T hZ.1 hZ.2.2) ⟨rfl, rfl⟩ (Ls_55 hZ.1) (by decide) ⟨Or.inl km_X10_260, kc_X10_look, kn_X10, kd_X10_look, ⟨(Nat.le_of_ble_eq_true rfl), (Nat.le_of_ble_eq_true rfl)⟩, ⟨(Nat.le_of_ble_eq_true rfl), (Nat.le_of_ble_eq_true rfl)⟩, (Nat.le_of_ble_eq_true rfl)⟩ ki_X10_look ks_X10_look rfl rfl (am_tab tk_X10_qGoesOn 4 rfl) rfl ?_
          refine am_bipush (q := 13) (n := 41) (by decide) rfl (am_tab tk_X10_qGoesOn 5 rfl) rfl ?_
          refine am_icmp_ne (q := 16) (t := 122) (am_tab tk_X10_qGoesOn 6 rfl) (by decide) rfl (fun h13 => ?_) (fun h13 => ?_)
          · exact absurd ((sg_iff (by decide)).mpr c1) h13
          · refine am_aload_n (q := 17) rfl (am_tab tk_X10_qGoesOn 7 rfl) rfl ?_
            refine am_callV0 (q := 20) (me2 := M_X10_qBracket) (b := 55) (kb := 10) (nb := 108) (As := []) (rest := []) (out := [am_i (brF ws)]) (c_X10_qBracket rc ws out o (am_setN T 55 2 (zP b E i : Int)) hZ.1 (hV.sc ((frw.refl W_sc T).setN (by unfold W_sc; omega))) (by omega)) ⟨rfl, rfl⟩ (Ls_55 hZ.1) (by decide) ⟨Or.inl km_X10_612, kc_X10_qBracket, kn_X10, kd_X10_qBracket, ⟨(Nat.le_of_ble_eq_true rfl), (Nat.le_of_ble_eq_true rfl)⟩, ⟨(Nat.le_of_ble_eq_true rfl), (Nat.le_of_ble_eq_true rfl)⟩, (Nat.le_of_ble_eq_true rfl)⟩ ki_X10_qBracket ks_X10_qBracket rfl rfl (am_tab tk_X10_qGoesOn 8 rfl) rfl ?_
            refine am_bipush (q := 22) (n := 20) (by decide) rfl (am_tab tk_X10_qGoesOn 9 rfl) rfl ?_
            refine am_icmp_eq (q := 25) (t := 43) (am_tab tk_X10_qGoesOn 10 rfl) (by decide) rfl (fun h22 => ?_) (fun h22 => ?_)
            · refine am_aload_n (q := 44) rfl (am_tab tk_X10_qGoesOn 19 rfl) rfl ?_
              refine am_dup (q := 45) rfl (am_tab tk_X10_qGoesOn 20 rfl) rfl ?_
              refine am_getI (q := 48) (a := 55) (k := 10) (n := 108) (j := 2) (x := (zP b E i : Int)) (Ls_55 hZ.1) (by decide) rfl rfl (by decide) (Or.inl kf_X10_254) (am_tab tk_X10_qGoesOn 21 rfl) rfl ?_
              refine am_iconst (q := 49) (n := 1) (by decide) (am_tab tk_X10_qGoesOn 22 rfl) rfl ?_
              refine am_iadd (q := 50) (by omega) (am_tab tk_X10_qGoesOn 23 rfl) rfl ?_
              refine am_putI (q := 53) (k := 10) (n := 108) (j := 2) (Ls_55 hZ.1) (by decide) rfl (by decide) (Or.inl ⟨kf_X10_254, rfl⟩) (am_tab tk_X10_qGoesOn 24 rfl) rfl ?_
              have hFn : frw W_sc T (am_setN (am_setN T 55 2 (zP b E i : Int)) 55 2 ((zP b E i : Int) + 1)) := ((frw.refl W_sc T).setN (by unfold W_sc; omega)).setN (by unfold W_sc; omega)
              have hZn : ZS b E (i + 1) (am_setN (am_setN T 55 2 (zP b E i : Int)) 55 2 ((zP b E i : Int) + 1)) := ZS_of hZ.1 hZ.2.1 hFn (TS_sign hZ.look.2.2 (by decide) c1 (hZ.2.2.1.fr hFn) hZ.2.2.2.1 hZ.2.2.2.2.1 rfl rfl)
              have hnb : ¬ brF ws = -1 := by omega
              have hbr := brF_at ws rc hnb
              have hcle := clE_le (rc := rc) (o := o) hok hnb
              refine am_aload_n (q := 54) rfl (am_tab tk_X10_qGoesOn 25 rfl) rfl ?_
              refine am_callVr (q := 57) (me2 := M_X10_qDropsToBracket) (b := 55) (kb := 10) (nb := 108) (As := []) (rest := []) (c_X10_qDropsToBracket rc ws out o (am_setN (am_setN T 55 2 (zP b E i : Int)) 55 2 ((zP b E i : Int) + 1)) hZn.1 (hV.sc hFn) (by omega)) ⟨rfl, rfl⟩ (Ls_55 hZ.1) (by decide) ⟨Or.inl km_X10_615, kc_X10_qDropsToBracket, kn_X10, kd_X10_qDropsToBracket, ⟨(Nat.le_of_ble_eq_true rfl), (Nat.le_of_ble_eq_true rfl)⟩, ⟨(Nat.le_of_ble_eq_true rfl), (Nat.le_of_ble_eq_true rfl)⟩, (Nat.le_of_ble_eq_true rfl)⟩ ki_X10_qDropsToBracket ks_X10_qDropsToBracket rfl (am_tab tk_X10_qGoesOn 26 rfl) rfl ?_
              rintro r T2 ⟨rfl, hV2, hF2⟩
              have hL2 : lay T2 := hF2.L hZn.1
              rw [hbr.1, List.cons_append] at hV2
              refine am_st (st2 := []) rfl ?_
              refine am_aload_n (q := 58) rfl (am_tab tk_X10_qGoesOn 27 rfl) rfl ?_
              refine am_dup (q := 59) rfl (am_tab tk_X10_qGoesOn 28 rfl) rfl ?_
              refine am_getI (q := 62) (a := 55) (k := 10) (n := 108) (j := 99) (x := ((((dtb rc ws).2.tail ++ out).length : Int) + 1)) (Ls_55 hL2) (by decide) rfl (by rw [hV2.2.2.1, List.length_cons]; simp) (by decide) (Or.inl kf_X10_339) (am_tab tk_X10_qGoesOn 29 rfl) rfl ?_
              refine am_iconst (q := 63) (n := 1) (by decide) (am_tab tk_X10_qGoesOn 30 rfl) rfl ?_
              refine am_isub (q := 64) (by omega) (am_tab tk_X10_qGoesOn 31 rfl) rfl ?_
              refine am_putI (q := 67) (k := 10) (n := 108) (j := 99) (Ls_55 hL2) (by decide) rfl (by decide) (Or.inl ⟨kf_X10_339, rfl⟩) (am_tab tk_X10_qGoesOn 32 rfl) rfl ?_
              refine am_aload_n (q := 68) rfl (am_tab tk_X10_qGoesOn 33 rfl) rfl ?_
              refine am_dup (q := 69) rfl (am_tab tk_X10_qGoesOn 34 rfl) rfl ?_
              refine am_getI (q := 72) (a := 55) (k := 10) (n := 108) (j := 100) (x := o) (Ls_55 hL2) (by decide) rfl hV2.2.2.2.2.1 (by decide) (Or.inl kf_X10_342) (am_tab tk_X10_qGoesOn 35 rfl) rfl ?_
              refine am_iconst (q := 73) (n := 1) (by decide) (am_tab tk_X10_qGoesOn 36 rfl) rfl ?_
              refine am_isub (q := 74) (by omega) (am_tab tk_X10_qGoesOn 37 rfl) rfl ?_
              refine am_putI (q := 77) (k := 10) (n := 108) (j := 100) (Ls_55 hL2) (by decide) rfl (by decide) (Or.inl ⟨kf_X10_342, rfl⟩) (am_tab tk_X10_qGoesOn 38 rfl) rfl ?_
              have hVp : QV (dtb rc ws).1 ((dtb rc ws).2.tail ++ out) (o - 1) (out.length : Int) (am_setN (am_setN T2 55 99 (((((dtb rc ws).2.tail ++ out).length : Int) + 1) - 1)) 55 100 (o - 1)) := by
                have h9 := hV2.pop
                refine ⟨h9.1, h9.2.1, ?_, h9.2.2.2.1, rfl, h9.2.2.2.2.2⟩
                show ((((dtb rc ws).2.tail ++ out).length : Int) + 1) - 1 = _; omega
              have h5p : ((am_setN (am_setN T2 55 99 (((((dtb rc ws).2.tail ++ out).length : Int) + 1) - 1)) 55 100 (o - 1))).2.1 55 5 = 0 := (hF2.2.2 55 5 (by unfold W_q; omega)).trans hZn.2.2.2.1
              refine am_aload_n (q := 78) rfl (am_tab tk_X10_qGoesOn 39 rfl) rfl ?_
              refine am_getR (q := 81) (a := 55) (k := 10) (n := 108) (j := 98) (r := some (128)) (Ls_55 hL2) (by decide) rfl (Lr_55_98 hL2) (by decide) (Or.inl kf_X10_236) (am_tab tk_X10_qGoesOn 40 rfl) rfl ?_
              refine am_aload_n (q := 82) rfl (am_tab tk_X10_qGoesOn 41 rfl) rfl ?_
              refine am_getI (q := 85) (a := 55) (k := 10) (n := 108) (j := 99) (x := (((((dtb rc ws).2.tail ++ out).length : Int) + 1) - 1)) (Ls_55 hL2) (by decide) rfl rfl (by decide) (Or.inl kf_X10_339) (am_tab tk_X10_qGoesOn 42 rfl) rfl ?_
              refine am_iald (q := 86) (a := 128) (n := 1700) (x := (brF ws)) (Ls_128 hL2) (by omega) (by omega) (by rw [show Int.toNat (((((dtb rc ws).2.tail ++ out).length : Int) + 1) - 1) = ((dtb rc ws).2.tail ++ out).length by omega]; exact hV2.top.1) (am_tab tk_X10_qGoesOn 43 rfl) rfl ?_
              refine am_bipush (q := 88) (n := 20) (by decide) rfl (am_tab tk_X10_qGoesOn 44 rfl) rfl ?_
              refine am_icmp_eq (q := 91) (t := 115) (am_tab tk_X10_qGoesOn 45 rfl) (by decide) rfl (fun h88 => ?_) (fun h88 => ?_)
              · refine am_aload_n (q := 116) rfl (am_tab tk_X10_qGoesOn 58 rfl) rfl ?_
                refine am_callVr (q := 119) (me2 := M_X10_qEndsPart) (b := 55) (kb := 10) (nb := 108) (As := []) (rest := []) (c_X10_qEndsPart (dtb rc ws).1 (dtb rc ws).2.tail out (o - 1) (am_setN (am_setN T2 55 99 (((((dtb rc ws).2.tail ++ out).length : Int) + 1) - 1)) 55 100 (o - 1)) hL2 hVp (by omega) (by omega) h5p) ⟨rfl, rfl⟩ (Ls_55 hL2) (by decide) ⟨Or.inl km_X10_609, kc_X10_qEndsPart, kn_X10, kd_X10_qEndsPart, ⟨(Nat.le_of_ble_eq_true rfl), (Nat.le_of_ble_eq_true rfl)⟩, ⟨(Nat.le_of_ble_eq_true rfl), (Nat.le_of_ble_eq_true rfl)⟩, (Nat.le_of_ble_eq_true rfl)⟩ ki_X10_qEndsPart ks_X10_qEndsPart rfl (am_tab tk_X10_qGoesOn 59 rfl) rfl ?_
                rintro r T4 ⟨rfl, hV4, hF4⟩
                refine am_st (st2 := []) rfl ?_
                refine am_goto (t := 0) (am_tab tk_X10_qGoesOn 60 rfl) (by decide) ?_
                have hce : clE rc ws o = endF (dtb rc ws).1 (dtb rc ws).2.tail (o - 1) := by unfold clE clR; rw [if_pos h22]
                rw [← hce] at hV4
                have hck := clE_ok (rc := rc) (o := o) hok hnb
                have hFp : frw W_p T T4 := (W_sc_p hFn).trans ((W_q_p hF2).trans ((W_q_p (by repeat (first | exact frw.refl _ T2 | refine frw.setN ?_ (by unfold W_q; omega)))).trans (W_q_p hF4)))
                have hFq : frw W_q (am_setN (am_setN T 55 2 (zP b E i : Int)) 55 2 ((zP b E i : Int) + 1)) T4 := hF2.trans ((show frw W_q T2 _ from by repeat (first | exact frw.refl _ T2 | refine frw.setN ?_ (by unfold W_q; omega))).trans hF4)
                have hZ4 : ZS b E (i + 1) T4 := hZn.q hFq
                have ea := opn_app (clE rc ws o).2.1 out
                have hQn : QT b E tk (i + 1) (clE rc ws o).1 (clE rc ws o).2.1 out (clE rc ws o).2.2 T4 := ⟨hZ4, hV4, (hFq.2.2 55 53 (by unfold W_q; omega)).trans h53, ⟨by omega, by omega⟩, by omega, zP_on (by omega) hiz⟩
                rw [show clsF b E (f + 1) i rc ws o = clsF b E f (i + 1) (clE rc ws o).1 (clE rc ws o).2.1 (clE rc ws o).2.2 from by show (if _ then _ else _) = _; rw [if_pos ⟨c1, by omega⟩]] at hres
                exact am_less (by intro q hq; simp only [List.mem_cons, List.not_mem_nil, or_false] at hq; rcases hq with rfl <;> simp) (ih0 f (i + 1) ((clE rc ws o).1) ((clE rc ws o).2.1) ((clE rc ws o).2.2) T4 (by omega) hQn hck.1 (hF.trans hFp) (by omega) hres)
              · exact absurd h88 (by omega)
            · refine am_aload_n (q := 26) rfl (am_tab tk_X10_qGoesOn 11 rfl) rfl ?_
              refine am_callV0 (q := 29) (me2 := M_X10_qBracket) (b := 55) (kb := 10) (nb := 108) (As := []) (rest := []) (out := [am_i (brF ws)]) (c_X10_qBracket rc ws out o (am_setN T 55 2 (zP b E i : Int)) hZ.1 (hV.sc ((frw.refl W_sc T).setN (by unfold W_sc; omega))) (by omega)) ⟨rfl, rfl⟩ (Ls_55 hZ.1) (by decide) ⟨Or.inl km_X10_612, kc_X10_qBracket, kn_X10, kd_X10_qBracket, ⟨(Nat.le_of_ble_eq_true rfl), (Nat.le_of_ble_eq_true rfl)⟩, ⟨(Nat.le_of_ble_eq_true rfl), (Nat.le_of_ble_eq_true rfl)⟩, (Nat.le_of_ble_eq_true rfl)⟩ ki_X10_qBracket ks_X10_qBracket rfl rfl (am_tab tk_X10_qGoesOn 12 rfl) rfl ?_
              refine am_bipush (q := 31) (n := 23) (by decide) rfl (am_tab tk_X10_qGoesOn 13 rfl) rfl ?_
              refine am_icmp_eq (q := 34) (t := 43) (am_tab tk_X10_qGoesOn 14 rfl) (by decide) rfl (fun h31 => ?_) (fun h31 => ?_)
              · refine am_aload_n (q := 44) rfl (am_tab tk_X10_qGoesOn 19 rfl) rfl ?_
                refine am_dup (q := 45) rfl (am_tab tk_X10_qGoesOn 20 rfl) rfl ?_
                refine am_getI (q := 48) (a := 55) (k := 10) (n := 108) (j := 2) (x := (zP b E i : Int)) (Ls_55 hZ.1) (by decide) rfl rfl (by decide) (Or.inl kf_X10_254) (am_tab tk_X10_qGoesOn 21 rfl) rfl ?_
                refine am_iconst (q := 49) (n := 1) (by decide) (am_tab tk_X10_qGoesOn 22 rfl) rfl ?_
                refine am_iadd (q := 50) (by omega) (am_tab tk_X10_qGoesOn 23 rfl) rfl ?_
                refine am_putI (q := 53) (k := 10) (n := 108) (j := 2) (Ls_55 hZ.1) (by decide) rfl (by decide) (Or.inl ⟨kf_X10_254, rfl⟩) (am_tab tk_X10_qGoesOn 24 rfl) rfl ?_
                have hFn : frw W_sc T (am_setN (am_setN T 55 2 (zP b E i : Int)) 55 2 ((zP b E i : Int) + 1)) := ((frw.refl W_sc T).setN (by unfold W_sc; omega)).setN (by unfold W_sc; omega)
                have hZn : ZS b E (i + 1) (am_setN (am_setN T 55 2 (zP b E i : Int)) 55 2 ((zP b E i : Int) + 1)) := ZS_of hZ.1 hZ.2.1 hFn (TS_sign hZ.look.2.2 (by decide) c1 (hZ.2.2.1.fr hFn) hZ.2.2.2.1 hZ.2.2.2.2.1 rfl rfl)
                have hnb : ¬ brF ws = -1 := by omega
                have hbr := brF_at ws rc hnb
                have hcle := clE_le (rc := rc) (o := o) hok hnb
                refine am_aload_n (q := 54) rfl (am_tab tk_X10_qGoesOn 25 rfl) rfl ?_
                refine am_callVr (q := 57) (me2 := M_X10_qDropsToBracket) (b := 55) (kb := 10) (nb := 108) (As := []) (rest := []) (c_X10_qDropsToBracket rc ws out o (am_setN (am_setN T 55 2 (zP b E i : Int)) 55 2 ((zP b E i : Int) + 1)) hZn.1 (hV.sc hFn) (by omega)) ⟨rfl, rfl⟩ (Ls_55 hZ.1) (by decide) ⟨Or.inl km_X10_615, kc_X10_qDropsToBracket, kn_X10, kd_X10_qDropsToBracket, ⟨(Nat.le_of_ble_eq_true rfl), (Nat.le_of_ble_eq_true rfl)⟩, ⟨(Nat.le_of_ble_eq_true rfl), (Nat.le_of_ble_eq_true rfl)⟩, (Nat.le_of_ble_eq_true rfl)⟩ ki_X10_qDropsToBracket ks_X10_qDropsToBracket rfl (am_tab tk_X10_qGoesOn 26 rfl) rfl ?_
                rintro r T2 ⟨rfl, hV2, hF2⟩
                have hL2 : lay T2 := hF2.L hZn.1
                rw [hbr.1, List.cons_append] at hV2
                refine am_st (st2 := []) rfl ?_
                refine am_aload_n (q := 58) rfl (am_tab tk_X10_qGoesOn 27 rfl) rfl ?_
                refine am_dup (q := 59) rfl (am_tab tk_X10_qGoesOn 28 rfl) rfl ?_
                refine am_getI (q := 62) (a := 55) (k := 10) (n := 108) (j := 99) (x := ((((dtb rc ws).2.tail ++ out).length : Int) + 1)) (Ls_55 hL2) (by decide) rfl (by rw [hV2.2.2.1, List.length_cons]; simp) (by decide) (Or.inl kf_X10_339) (am_tab tk_X10_qGoesOn 29 rfl) rfl ?_
                refine am_iconst (q := 63) (n := 1) (by decide) (am_tab tk_X10_qGoesOn 30 rfl) rfl ?_
                refine am_isub (q := 64) (by omega) (am_tab tk_X10_qGoesOn 31 rfl) rfl ?_
                refine am_putI (q := 67) (k := 10) (n := 108) (j := 99) (Ls_55 hL2) (by decide) rfl (by decide) (Or.inl ⟨kf_X10_339, rfl⟩) (am_tab tk_X10_qGoesOn 32 rfl) rfl ?_
                refine am_aload_n (q := 68) rfl (am_tab tk_X10_qGoesOn 33 rfl) rfl ?_
                refine am_dup (q := 69) rfl (am_tab tk_X10_qGoesOn 34 rfl) rfl ?_
                refine am_getI (q := 72) (a := 55) (k := 10) (n := 108) (j := 100) (x := o) (Ls_55 hL2) (by decide) rfl hV2.2.2.2.2.1 (by decide) (Or.inl kf_X10_342) (am_tab tk_X10_qGoesOn 35 rfl) rfl ?_
                refine am_iconst (q := 73) (n := 1) (by decide) (am_tab tk_X10_qGoesOn 36 rfl) rfl ?_
                refine am_isub (q := 74) (by omega) (am_tab tk_X10_qGoesOn 37 rfl) rfl ?_
                refine am_putI (q := 77) (k := 10) (n := 108) (j := 100) (Ls_55 hL2) (by decide) rfl (by decide) (Or.inl ⟨kf_X10_342, rfl⟩) (am_tab tk_X10_qGoesOn 38 rfl) rfl ?_
                have hVp : QV (dtb rc ws).1 ((dtb rc ws).2.tail ++ out) (o - 1) (out.length : Int) (am_setN (am_setN T2 55 99 (((((dtb rc ws).2.tail ++ out).length : Int) + 1) - 1)) 55 100 (o - 1)) := by
                  have h9 := hV2.pop
                  refine ⟨h9.1, h9.2.1, ?_, h9.2.2.2.1, rfl, h9.2.2.2.2.2⟩
                  show ((((dtb rc ws).2.tail ++ out).length : Int) + 1) - 1 = _; omega
                have h5p : ((am_setN (am_setN T2 55 99 (((((dtb rc ws).2.tail ++ out).length : Int) + 1) - 1)) 55 100 (o - 1))).2.1 55 5 = 0 := (hF2.2.2 55 5 (by unfold W_q; omega)).trans hZn.2.2.2.1
                refine am_aload_n (q := 78) rfl (am_tab tk_X10_qGoesOn 39 rfl) rfl ?_
                refine am_getR (q := 81) (a := 55) (k := 10) (n := 108) (j := 98) (r := some (128)) (Ls_55 hL2) (by decide) rfl (Lr_55_98 hL2) (by decide) (Or.inl kf_X10_236) (am_tab tk_X10_qGoesOn 40 rfl) rfl ?_
                refine am_aload_n (q := 82) rfl (am_tab tk_X10_qGoesOn 41 rfl) rfl ?_
                refine am_getI (q := 85) (a := 55) (k := 10) (n := 108) (j := 99) (x := (((((dtb rc ws).2.tail ++ out).length : Int) + 1) - 1)) (Ls_55 hL2) (by decide) rfl rfl (by decide) (Or.inl kf_X10_339) (am_tab tk_X10_qGoesOn 42 rfl) rfl ?_
                refine am_iald (q := 86) (a := 128) (n := 1700) (x := (brF ws)) (Ls_128 hL2) (by omega) (by omega) (by rw [show Int.toNat (((((dtb rc ws).2.tail ++ out).length : Int) + 1) - 1) = ((dtb rc ws).2.tail ++ out).length by omega]; exact hV2.top.1) (am_tab tk_X10_qGoesOn 43 rfl) rfl ?_
                refine am_bipush (q := 88) (n := 20) (by decide) rfl (am_tab tk_X10_qGoesOn 44 rfl) rfl ?_
                refine am_icmp_eq (q := 91) (t := 115) (am_tab tk_X10_qGoesOn 45 rfl) (by decide) rfl (fun h88 => ?_) (fun h88 => ?_)
                · exact absurd h88 (by omega)
                · refine am_aload_n (q := 92) rfl (am_tab tk_X10_qGoesOn 46 rfl) rfl ?_
                  refine am_aload_n (q := 93) rfl (am_tab tk_X10_qGoesOn 47 rfl) rfl ?_
                  refine am_getR (q := 96) (a := 55) (k := 10) (n := 108) (j := 98) (r := some (128)) (Ls_55 hL2) (by decide) rfl (Lr_55_98 hL2) (by decide) (Or.inl kf_X10_236) (am_tab tk_X10_qGoesOn 48 rfl) rfl ?_
                  refine am_aload_n (q := 97) rfl (am_tab tk_X10_qGoesOn 49 rfl) rfl ?_
                  refine am_getI (q := 100) (a := 55) (k := 10) (n := 108) (j := 99) (x := (((((dtb rc ws).2.tail ++ out).length : Int) + 1) - 1)) (Ls_55 hL2) (by decide) rfl rfl (by decide) (Or.inl kf_X10_339) (am_tab tk_X10_qGoesOn 50 rfl) rfl ?_
                  refine am_iald (q := 101) (a := 128) (n := 1700) (x := (brF ws)) (Ls_128 hL2) (by omega) (by omega) (by rw [show Int.toNat (((((dtb rc ws).2.tail ++ out).length : Int) + 1) - 1) = ((dtb rc ws).2.tail ++ out).length by omega]; exact hV2.top.1) (am_tab tk_X10_qGoesOn 51 rfl) rfl ?_
                  refine am_bipush (q := 103) (n := 23) (by decide) rfl (am_tab tk_X10_qGoesOn 52 rfl) rfl ?_
                  refine am_icmp_ne (q := 106) (t := 110) (am_tab tk_X10_qGoesOn 53 rfl) (by decide) rfl (fun h103 => ?_) (fun h103 => ?_)
                  · exact absurd h103 (by omega)
                  · refine am_iconst (q := 107) (n := 5) (by decide) (am_tab tk_X10_qGoesOn 54 rfl) rfl ?_
                    refine am_goto (t := 112) (am_tab tk_X10_qGoesOn 55 rfl) (by decide) ?_
                    refine am_callVr (q := 115) (me2 := M_X10_qCode) (b := 55) (kb := 10) (nb := 108) (As := [am_i 5]) (rest := []) (c_X10_qCode (dtb rc ws).1 ((dtb rc ws).2.tail ++ out) (o - 1) (out.length : Int) (am_setN (am_setN T2 55 99 (((((dtb rc ws).2.tail ++ out).length : Int) + 1) - 1)) 55 100 (o - 1)) hL2 hVp 5 (by omega)) ⟨rfl, rfl⟩ (Ls_55 hL2) (by decide) ⟨Or.inl km_X10_585, kc_X10_qCode, kn_X10, kd_X10_qCode, ⟨(Nat.le_of_ble_eq_true rfl), (Nat.le_of_ble_eq_true rfl)⟩, ⟨(Nat.le_of_ble_eq_true rfl), (Nat.le_of_ble_eq_true rfl)⟩, (Nat.le_of_ble_eq_true rfl)⟩ ki_X10_qCode ks_X10_qCode rfl (am_tab tk_X10_qGoesOn 57 rfl) rfl ?_
                    rintro r T3 ⟨rfl, hV3, hF3⟩
                    have hL3 : lay T3 := hF3.L hL2
                    refine am_st (st2 := []) rfl ?_
                    refine am_aload_n (q := 116) rfl (am_tab tk_X10_qGoesOn 58 rfl) rfl ?_
                    refine am_callVr (q := 119) (me2 := M_X10_qEndsPart) (b := 55) (kb := 10) (nb := 108) (As := []) (rest := []) (c_X10_qEndsPart (5 :: (dtb rc ws).1) (dtb rc ws).2.tail out (o - 1) T3 hL3 hV3 (by rw [List.length_cons]; omega) (by omega) (by rw [hF3.2.2 55 5 (by unfold W_q; omega)]; exact h5p)) ⟨rfl, rfl⟩ (Ls_55 hL3) (by decide) ⟨Or.inl km_X10_609, kc_X10_qEndsPart, kn_X10, kd_X10_qEndsPart, ⟨(Nat.le_of_ble_eq_true rfl), (Nat.le_of_ble_eq_true rfl)⟩, ⟨(Nat.le_of_ble_eq_true rfl), (Nat.le_of_ble_eq_true rfl)⟩, (Nat.le_of_ble_eq_true rfl)⟩ ki_X10_qEndsPart ks_X10_qEndsPart rfl (am_tab tk_X10_qGoesOn 59 rfl) rfl ?_
                    rintro r T4 ⟨rfl, hV4, hF4⟩
                    refine am_st (st2 := []) rfl ?_
                    refine am_goto (t := 0) (am_tab tk_X10_qGoesOn 60 rfl) (by decide) ?_
                    have hce : clE rc ws o = endF (5 :: (dtb rc ws).1) (dtb rc ws).2.tail (o - 1) := by unfold clE clR; rw [if_neg h22, if_pos h31]
                    rw [← hce] at hV4
                    have hck := clE_ok (rc := rc) (o := o) hok hnb
                    have hFp : frw W_p T T4 := (W_sc_p hFn).trans ((W_q_p hF2).trans ((W_q_p (by repeat (first | exact frw.refl _ T2 | refine frw.setN ?_ (by unfold W_q; omega)))).trans ((W_q_p hF3).trans (W_q_p hF4))))
                    have hFq : frw W_q (am_setN (am_setN T 55 2 (zP b E i : Int)) 55 2 ((zP b E i : Int) + 1)) T4 := hF2.trans ((show frw W_q T2 _ from by repeat (first | exact frw.refl _ T2 | refine frw.setN ?_ (by unfold W_q; omega))).trans (hF3.trans hF4))
                    have hZ4 : ZS b E (i + 1) T4 := hZn.q hFq
                    have ea := opn_app (clE rc ws o).2.1 out
                    have hQn : QT b E tk (i + 1) (clE rc ws o).1 (clE rc ws o).2.1 out (clE rc ws o).2.2 T4 := ⟨hZ4, hV4, (hFq.2.2 55 53 (by unfold W_q; omega)).trans h53, ⟨by omega, by omega⟩, by omega, zP_on (by omega) hiz⟩
                    rw [show clsF b E (f + 1) i rc ws o = clsF b E f (i + 1) (clE rc ws o).1 (clE rc ws o).2.1 (clE rc ws o).2.2 from by show (if _ then _ else _) = _; rw [if_pos ⟨c1, by omega⟩]] at hres
                    exact am_less (by intro q hq; simp only [List.mem_cons, List.not_mem_nil, or_false] at hq; rcases hq with rfl <;> simp) (ih0 f (i + 1) ((clE rc ws o).1) ((clE rc ws o).2.1) ((clE rc ws o).2.2) T4 (by omega) hQn hck.1 (hF.trans hFp) (by omega) hres)
              · refine am_aload_n (q := 35) rfl (am_tab tk_X10_qGoesOn 15 rfl) rfl ?_
                refine am_callV0 (q := 38) (me2 := M_X10_qBracket) (b := 55) (kb := 10) (nb := 108) (As := []) (rest := []) (out := [am_i (brF ws)]) (c_X10_qBracket rc ws out o (am_setN T 55 2 (zP b E i : Int)) hZ.1 (hV.sc ((frw.refl W_sc T).setN (by unfold W_sc; omega))) (by omega)) ⟨rfl, rfl⟩ (Ls_55 hZ.1) (by decide) ⟨Or.inl km_X10_612, kc_X10_qBracket, kn_X10, kd_X10_qBracket, ⟨(Nat.le_of_ble_eq_true rfl), (Nat.le_of_ble_eq_true rfl)⟩, ⟨(Nat.le_of_ble_eq_true rfl), (Nat.le_of_ble_eq_true rfl)⟩, (Nat.le_of_ble_eq_true rfl)⟩ ki_X10_qBracket ks_X10_qBracket rfl rfl (am_tab tk_X10_qGoesOn 16 rfl) rfl ?_
                refine am_bipush (q := 40) (n := 24) (by decide) rfl (am_tab tk_X10_qGoesOn 17 rfl) rfl ?_
                refine am_icmp_ne (q := 43) (t := 122) (am_tab tk_X10_qGoesOn 18 rfl) (by decide) rfl (fun h40 => ?_) (fun h40 => ?_)
                · have hcl : ¬ (zK b E i = 41 ∧ (brF ws = 20 ∨ brF ws = 23 ∨ brF ws = 24)) := by
                    intro hx
                    omega
                  refine am_less (by intro q hq; simp only [List.mem_cons, List.not_mem_nil, or_false] at hq; rcases hq with rfl <;> simp) (L122 (_ + 1)  (by exact Nat.lt_succ_self _) hcl)
                · refine am_aload_n (q := 44) rfl (am_tab tk_X10_qGoesOn 19 rfl) rfl ?_
                  refine am_dup (q := 45) rfl (am_tab tk_X10_qGoesOn 20 rfl) rfl ?_
                  refine am_getI (q := 48) (a := 55) (k := 10) (n := 108) (j := 2) (x := (zP b E i : Int)) (Ls_55 hZ.1) (by decide) rfl rfl (by decide) (Or.inl kf_X10_254) (am_tab tk_X10_qGoesOn 21 rfl) rfl ?_
                  refine am_iconst (q := 49) (n := 1) (by decide) (am_tab tk_X10_qGoesOn 22 rfl) rfl ?_
                  refine am_iadd (q := 50) (by omega) (am_tab tk_X10_qGoesOn 23 rfl) rfl ?_
                  refine am_putI (q := 53) (k := 10) (n := 108) (j := 2) (Ls_55 hZ.1) (by decide) rfl (by decide) (Or.inl ⟨kf_X10_254, rfl⟩) (am_tab tk_X10_qGoesOn 24 rfl) rfl ?_
                  have hFn : frw W_sc T (am_setN (am_setN T 55 2 (zP b E i : Int)) 55 2 ((zP b E i : Int) + 1)) := ((frw.refl W_sc T).setN (by unfold W_sc; omega)).setN (by unfold W_sc; omega)
                  have hZn : ZS b E (i + 1) (am_setN (am_setN T 55 2 (zP b E i : Int)) 55 2 ((zP b E i : Int) + 1)) := ZS_of hZ.1 hZ.2.1 hFn (TS_sign hZ.look.2.2 (by decide) c1 (hZ.2.2.1.fr hFn) hZ.2.2.2.1 hZ.2.2.2.2.1 rfl rfl)
                  have hnb : ¬ brF ws = -1 := by omega
                  have hbr := brF_at ws rc hnb
                  have hcle := clE_le (rc := rc) (o := o) hok hnb
                  refine am_aload_n (q := 54) rfl (am_tab tk_X10_qGoesOn 25 rfl) rfl ?_
                  refine am_callVr (q := 57) (me2 := M_X10_qDropsToBracket) (b := 55) (kb := 10) (nb := 108) (As := []) (rest := []) (c_X10_qDropsToBracket rc ws out o (am_setN (am_setN T 55 2 (zP b E i : Int)) 55 2 ((zP b E i : Int) + 1)) hZn.1 (hV.sc hFn) (by omega)) ⟨rfl, rfl⟩ (Ls_55 hZ.1) (by decide) ⟨Or.inl km_X10_615, kc_X10_qDropsToBracket, kn_X10, kd_X10_qDropsToBracket, ⟨(Nat.le_of_ble_eq_true rfl), (Nat.le_of_ble_eq_true rfl)⟩, ⟨(Nat.le_of_ble_eq_true rfl), (Nat.le_of_ble_eq_true rfl)⟩, (Nat.le_of_ble_eq_true rfl)⟩ ki_X10_qDropsToBracket ks_X10_qDropsToBracket rfl (am_tab tk_X10_qGoesOn 26 rfl) rfl ?_
                  rintro r T2 ⟨rfl, hV2, hF2⟩
                  have hL2 : lay T2 := hF2.L hZn.1
                  rw [hbr.1, List.cons_append] at hV2
                  refine am_st (st2 := []) rfl ?_
                  refine am_aload_n (q := 58) rfl (am_tab tk_X10_qGoesOn 27 rfl) rfl ?_
                  refine am_dup (q := 59) rfl (am_tab tk_X10_qGoesOn 28 rfl) rfl ?_
                  refine am_getI (q := 62) (a := 55) (k := 10) (n := 108) (j := 99) (x := ((((dtb rc ws).2.tail ++ out).length : Int) + 1)) (Ls_55 hL2) (by decide) rfl (by rw [hV2.2.2.1, List.length_cons]; simp) (by decide) (Or.inl kf_X10_339) (am_tab tk_X10_qGoesOn 29 rfl) rfl ?_
                  refine am_iconst (q := 63) (n := 1) (by decide) (am_tab tk_X10_qGoesOn 30 rfl) rfl ?_
                  refine am_isub (q := 64) (by omega) (am_tab tk_X10_qGoesOn 31 rfl) rfl ?_
                  refine am_putI (q := 67) (k := 10) (n := 108) (j := 99) (Ls_55 hL2) (by decide) rfl (by decide) (Or.inl ⟨kf_X10_339, rfl⟩) (am_tab tk_X10_qGoesOn 32 rfl) rfl ?_
                  refine am_aload_n (q := 68) rfl (am_tab tk_X10_qGoesOn 33 rfl) rfl ?_
                  refine am_dup (q := 69) rfl (am_tab tk_X10_qGoesOn 34 rfl) rfl ?_
                  refine am_getI (q := 72) (a := 55) (k := 10) (n := 108) (j := 100) (x := o) (Ls_55 hL2) (by decide) rfl hV2.2.2.2.2.1 (by decide) (Or.inl kf_X10_342) (am_tab tk_X10_qGoesOn 35 rfl) rfl ?_
                  refine am_iconst (q := 73) (n := 1) (by decide) (am_tab tk_X10_qGoesOn 36 rfl) rfl ?_
                  refine am_isub (q := 74) (by omega) (am_tab tk_X10_qGoesOn 37 rfl) rfl ?_
                  refine am_putI (q := 77) (k := 10) (n := 108) (j := 100) (Ls_55 hL2) (by decide) rfl (by decide) (Or.inl ⟨kf_X10_342, rfl⟩) (am_tab tk_X10_qGoesOn 38 rfl) rfl ?_
                  have hVp : QV (dtb rc ws).1 ((dtb rc ws).2.tail ++ out) (o - 1) (out.length : Int) (am_setN (am_setN T2 55 99 (((((dtb rc ws).2.tail ++ out).length : Int) + 1) - 1)) 55 100 (o - 1)) := by
                    have h9 := hV2.pop
                    refine ⟨h9.1, h9.2.1, ?_, h9.2.2.2.1, rfl, h9.2.2.2.2.2⟩
                    show ((((dtb rc ws).2.tail ++ out).length : Int) + 1) - 1 = _; omega
                  have h5p : ((am_setN (am_setN T2 55 99 (((((dtb rc ws).2.tail ++ out).length : Int) + 1) - 1)) 55 100 (o - 1))).2.1 55 5 = 0 := (hF2.2.2 55 5 (by unfold W_q; omega)).trans hZn.2.2.2.1
                  refine am_aload_n (q := 78) rfl (am_tab tk_X10_qGoesOn 39 rfl) rfl ?_
                  refine am_getR (q := 81) (a := 55) (k := 10) (n := 108) (j := 98) (r := some (128)) (Ls_55 hL2) (by decide) rfl (Lr_55_98 hL2) (by decide) (Or.inl kf_X10_236) (am_tab tk_X10_qGoesOn 40 rfl) rfl ?_
                  refine am_aload_n (q := 82) rfl (am_tab tk_X10_qGoesOn 41 rfl) rfl ?_
                  refine am_getI (q := 85) (a := 55) (k := 10) (n := 108) (j := 99) (x := (((((dtb rc ws).2.tail ++ out).length : Int) + 1) - 1)) (Ls_55 hL2) (by decide) rfl rfl (by decide) (Or.inl kf_X10_339) (am_tab tk_X10_qGoesOn 42 rfl) rfl ?_
                  refine am_iald (q := 86) (a := 128) (n := 1700) (x := (brF ws)) (Ls_128 hL2) (by omega) (by omega) (by rw [show Int.toNat (((((dtb rc ws).2.tail ++ out).length : Int) + 1) - 1) = ((dtb rc ws).2.tail ++ out).length by omega]; exact hV2.top.1) (am_tab tk_X10_qGoesOn 43 rfl) rfl ?_
                  refine am_bipush (q := 88) (n := 20) (by decide) rfl (am_tab tk_X10_qGoesOn 44 rfl) rfl ?_
                  refine am_icmp_eq (q := 91) (t := 115) (am_tab tk_X10_qGoesOn 45 rfl) (by decide) rfl (fun h88 => ?_) (fun h88 => ?_)
                  · exact absurd h88 (by omega)
                  · refine am_aload_n (q := 92) rfl (am_tab tk_X10_qGoesOn 46 rfl) rfl ?_
                    refine am_aload_n (q := 93) rfl (am_tab tk_X10_qGoesOn 47 rfl) rfl ?_
                    refine am_getR (q := 96) (a := 55) (k := 10) (n := 108) (j := 98) (r := some (128)) (Ls_55 hL2) (by decide) rfl (Lr_55_98 hL2) (by decide) (Or.inl kf_X10_236) (am_tab tk_X10_qGoesOn 48 rfl) rfl ?_
                    refine am_aload_n (q := 97) rfl (am_tab tk_X10_qGoesOn 49 rfl) rfl ?_
                    refine am_getI (q := 100) (a := 55) (k := 10) (n := 108) (j := 99) (x := (((((dtb rc ws).2.tail ++ out).length : Int) + 1) - 1)) (Ls_55 hL2) (by decide) rfl rfl (by decide) (Or.inl kf_X10_339) (am_tab tk_X10_qGoesOn 50 rfl) rfl ?_
                    refine am_iald (q := 101) (a := 128) (n := 1700) (x := (brF ws)) (Ls_128 hL2) (by omega) (by omega) (by rw [show Int.toNat (((((dtb rc ws).2.tail ++ out).length : Int) + 1) - 1) = ((dtb rc ws).2.tail ++ out).length by omega]; exact hV2.top.1) (am_tab tk_X10_qGoesOn 51 rfl) rfl ?_
                    refine am_bipush (q := 103) (n := 23) (by decide) rfl (am_tab tk_X10_qGoesOn 52 rfl) rfl ?_
                    refine am_icmp_ne (q := 106) (t := 110) (am_tab tk_X10_qGoesOn 53 rfl) (by decide) rfl (fun h103 => ?_) (fun h103 => ?_)
                    · refine am_bipush (q := 112) (n := 6) (by decide) rfl (am_tab tk_X10_qGoesOn 56 rfl) rfl ?_
                      refine am_callVr (q := 115) (me2 := M_X10_qCode) (b := 55) (kb := 10) (nb := 108) (As := [am_i 6]) (rest := []) (c_X10_qCode (dtb rc ws).1 ((dtb rc ws).2.tail ++ out) (o - 1) (out.length : Int) (am_setN (am_setN T2 55 99 (((((dtb rc ws).2.tail ++ out).length : Int) + 1) - 1)) 55 100 (o - 1)) hL2 hVp 6 (by omega)) ⟨rfl, rfl⟩ (Ls_55 hL2) (by decide) ⟨Or.inl km_X10_585, kc_X10_qCode, kn_X10, kd_X10_qCode, ⟨(Nat.le_of_ble_eq_true rfl), (Nat.le_of_ble_eq_true rfl)⟩, ⟨(Nat.le_of_ble_eq_true rfl), (Nat.le_of_ble_eq_true rfl)⟩, (Nat.le_of_ble_eq_true rfl)⟩ ki_X10_qCode ks_X10_qCode rfl (am_tab tk_X10_qGoesOn 57 rfl) rfl ?_
                      rintro r T3 ⟨rfl, hV3, hF3⟩
                      have hL3 : lay T3 := hF3.L hL2
                      refine am_st (st2 := []) rfl ?_
                      refine am_aload_n (q := 116) rfl (am_tab tk_X10_qGoesOn 58 rfl) rfl ?_
                      refine am_callVr (q := 119) (me2 := M_X10_qEndsPart) (b := 55) (kb := 10) (nb := 108) (As := []) (rest := []) (c_X10_qEndsPart (6 :: (dtb rc ws).1) (dtb rc ws).2.tail out (o - 1) T3 hL3 hV3 (by rw [List.length_cons]; omega) (by omega) (by rw [hF3.2.2 55 5 (by unfold W_q; omega)]; exact h5p)) ⟨rfl, rfl⟩ (Ls_55 hL3) (by decide) ⟨Or.inl km_X10_609, kc_X10_qEndsPart, kn_X10, kd_X10_qEndsPart, ⟨(Nat.le_of_ble_eq_true rfl), (Nat.le_of_ble_eq_true rfl)⟩, ⟨(Nat.le_of_ble_eq_true rfl), (Nat.le_of_ble_eq_true rfl)⟩, (Nat.le_of_ble_eq_true rfl)⟩ ki_X10_qEndsPart ks_X10_qEndsPart rfl (am_tab tk_X10_qGoesOn 59 rfl) rfl ?_
                      rintro r T4 ⟨rfl, hV4, hF4⟩
                      refine am_st (st2 := []) rfl ?_
                      refine am_goto (t := 0) (am_tab tk_X10_qGoesOn 60 rfl) (by decide) ?_
                      have hce : clE rc ws o = endF (6 :: (dtb rc ws).1) (dtb rc ws).2.tail (o - 1) := by unfold clE clR; rw [if_neg h22, if_neg h31]
                      rw [← hce] at hV4
                      have hck := clE_ok (rc := rc) (o := o) hok hnb
                      have hFp : frw W_p T T4 := (W_sc_p hFn).trans ((W_q_p hF2).trans ((W_q_p (by repeat (first | exact frw.refl _ T2 | refine frw.setN ?_ (by unfold W_q; omega)))).trans ((W_q_p hF3).trans (W_q_p hF4))))
                      have hFq : frw W_q (am_setN (am_setN T 55 2 (zP b E i : Int)) 55 2 ((zP b E i : Int) + 1)) T4 := hF2.trans ((show frw W_q T2 _ from by repeat (first | exact frw.refl _ T2 | refine frw.setN ?_ (by unfold W_q; omega))).trans (hF3.trans hF4))
                      have hZ4 : ZS b E (i + 1) T4 := hZn.q hFq
                      have ea := opn_app (clE rc ws o).2.1 out
                      have hQn : QT b E tk (i + 1) (clE rc ws o).1 (clE rc ws o).2.1 out (clE rc ws o).2.2 T4 := ⟨hZ4, hV4, (hFq.2.2 55 53 (by unfold W_q; omega)).trans h53, ⟨by omega, by omega⟩, by omega, zP_on (by omega) hiz⟩
                      rw [show clsF b E (f + 1) i rc ws o = clsF b E f (i + 1) (clE rc ws o).1 (clE rc ws o).2.1 (clE rc ws o).2.2 from by show (if _ then _ else _) = _; rw [if_pos ⟨c1, by omega⟩]] at hres
                      exact am_less (by intro q hq; simp only [List.mem_cons, List.not_mem_nil, or_false] at hq; rcases hq with rfl <;> simp) (ih0 f (i + 1) ((clE rc ws o).1) ((clE rc ws o).2.1) ((clE rc ws o).2.2) T4 (by omega) hQn hck.1 (hF.trans hFp) (by omega) hres)
                    · exact absurd h103 (by omega)
        · refine am_aload_n (q := 8) rfl (am_tab tk_X10_qGoesOn 3 rfl) rfl ?_
          refine am_callV0 (q := 11) (me2 := M_X10_look) (b := 55) (kb := 10) (nb := 108) (As := []) (rest := []) (out := [am_i (byt b E i)]) (c_X10_look b E i T hZ.1 hZ.2.2) ⟨rfl, rfl⟩ (Ls_55 hZ.1) (by decide) ⟨Or.inl km_X10_260, kc_X10_look, kn_X10, kd_X10_look, ⟨(Nat.le_of_ble_eq_true rfl), (Nat.le_of_ble_eq_true rfl)⟩, ⟨(Nat.le_of_ble_eq_true rfl), (Nat.le_of_ble_eq_true rfl)⟩, (Nat.le_of_ble_eq_true rfl)⟩ ki_X10_look ks_X10_look rfl rfl (am_tab tk_X10_qGoesOn 4 rfl) rfl ?_
          refine am_bipush (q := 13) (n := 41) (by decide) rfl (am_tab tk_X10_qGoesOn 5 rfl) rfl ?_
          refine am_icmp_ne (q := 16) (t := 122) (am_tab tk_X10_qGoesOn 6 rfl) (by decide) rfl (fun h13 => ?_) (fun h13 => ?_)
          · have hcl : ¬ (zK b E i = 41 ∧ (brF ws = 20 ∨ brF ws = 23 ∨ brF ws = 24)) := by
              intro hx
              exact c1 hx.1
            refine am_less (by intro q hq; simp only [List.mem_cons, List.not_mem_nil, or_false] at hq; rcases hq with rfl <;> simp) (L122 (_ + 1)  (by exact Nat.lt_succ_self _) hcl)
          · exact absurd ((sg_iff (by decide)).mp h13) c1
  refine am_less (by intro q hq; simp only [List.mem_cons, List.not_mem_nil, or_false] at hq; rcases hq with rfl <;> simp [am_args, am_cat]) (L0 (_ + 1) f0 i0 rc0 ws0 o0 S (by exact Nat.lt_succ_self _) hQ0 hok0 (frw.refl _ S) hf0 rfl)
