def PGX (b : Nat → Int) (E : Nat) (tk : Int) (r : Option am_V) (S : am_H) : (Int × QZ) ⊕ (Int × Int) → Prop
  | .inl q => r = some (am_i q.1) ∧ QX b E tk q.2.1 q.2.2.1 q.2.2.2.1 q.2.2.2.2 0 S ∧ okX false q.2.2.2.1 = true
  | .inr e => r = some (am_i 0) ∧ QB b E e.1 e.2 1650 S
set_option maxRecDepth 100000 in
theorem c_X10_qGoesOnTest (b : Nat → Int) (E : Nat) (tk : Int) (i0 : Nat) (rc0 ws0 : List Int) (o0 : Int) (S : am_H) (hQ0 : QX b E tk i0 rc0 ws0 o0 0 S)  (f0 : Nat) (hf0 : 1700 ≤ f0 + i0) (hok0 : okX false ws0 = true) : am_met M_X10_qGoesOnTest [am_r 55] S (fun r σ' => PGX b E tk r σ' (ggF b E f0 i0 rc0 ws0 o0) ∧ frw W_p S σ') := by
  refine am_qq (fun Q hQ => ?_)
  refine am_enter (show plainFor yX10_qGoesOnTest = true by decide +kernel) rfl (Nat.le_of_ble_eq_true rfl) (fun _ _ _ => trivial) ?_
  have hL := hQ0.1.1
  have L0 : ∀ (n0 : Nat) (f : Nat) (i : Nat) (rc : List Int) (ws : List Int) (o : Int) (T : am_H), 1700 - i < n0 → QX b E tk i rc ws o 0 T → okX false ws = true → frw W_p S T → 1700 ≤ f + i → gcF b E f0 i0 rc0 ws0 o0 = gcF b E f i rc ws o → am_wp M_X10_qGoesOnTest Q 0 0 0 [(0, am_r 55)] [] T := by
    intro n0
    induction n0 with
    | zero => intro f i rc ws o T hn0; exact absurd hn0 (Nat.not_lt_zero _)
    | succ n0 ih0 =>
      intro f i rc ws o T hn0 hQT hok hF hfi hres
      have hZ := hQT.1
      have hV := hQT.2.1
      have h53 := hQT.2.2.1
      have hon := hQT.2.2.2.1
      have hlen := hQT.2.2.2.2.1
      have hiz := hQT.2.2.2.2.2
      have hzp := zP_rng b E i
      have hE := hZ.2.2.1.2.2.1
      have hop := opn_nn ws
      obtain ⟨f, rfl⟩ : ∃ g, f = g + 1 := ⟨f - 1, by omega⟩
      have L76 : ∀ (n76 : Nat) , 0 < n76 → ¬ (zK b E i = 93 ∧ hsq ws = true) → am_wp M_X10_qGoesOnTest Q 0 0 76 [(0, am_r 55)] [] (am_setN T 55 2 (zP b E i : Int)) := by
        intro n76
        induction n76 with
        | zero => intro  hn76; exact absurd hn76 (Nat.not_lt_zero _)
        | succ n76 ih76 =>
          intro  hn76 hcl
          have hst : gcF b E (f + 1) i rc ws o = (i, rc, ws, o) := by show (if _ then _ else _) = _; rw [if_neg hcl]
          by_cases d1 : zK b E i = 150
          · refine am_aload_n (q := 77) rfl (am_tab tk_X10_qGoesOnTest 38 rfl) rfl ?_
            refine am_aload_n (q := 78) rfl (am_tab tk_X10_qGoesOnTest 39 rfl) rfl ?_
            refine am_getR (q := 81) (a := 55) (k := 10) (n := 108) (j := 79) (r := some (110)) (Ls_55 hZ.1) (by decide) rfl (Lr_55_79 hZ.1) (by decide) (Or.inl kf_X10_182) (am_tab tk_X10_qGoesOnTest 40 rfl) rfl ?_
            refine am_callVr (q := 84) (me2 := M_X10_takes) (b := 55) (kb := 10) (nb := 108) (As := [am_r 110]) (rest := []) (c_takesY b E i (am_setN T 55 2 (zP b E i : Int)) hZ.look 110 22 (by decide) (by omega)) ⟨rfl, rfl⟩ (Ls_55 hZ.1) (by decide) ⟨Or.inl km_X10_275, kc_X10_takes, kn_X10, kd_X10_takes, ⟨(Nat.le_of_ble_eq_true rfl), (Nat.le_of_ble_eq_true rfl)⟩, ⟨(Nat.le_of_ble_eq_true rfl), (Nat.le_of_ble_eq_true rfl)⟩, (Nat.le_of_ble_eq_true rfl)⟩ ki_X10_takes ks_X10_takes rfl (am_tab tk_X10_qGoesOnTest 41 rfl) rfl ?_
            rintro r T1 ⟨rfl, hZ1, hF1⟩
            refine am_st (st2 := [am_i 1]) rfl ?_
            refine am_if_eq (q := 87) (t := 126) (am_tab tk_X10_qGoesOnTest 42 rfl) (by decide) rfl (fun h84 => ?_) (fun h84 => ?_)
            · exact absurd h84 (by decide)
            · have L87 : ∀ (n87 : Nat) (t : List Int) (c : List Int) (T5 : am_H), t.length < n87 → QV c t o 0 T5 → frw W_q T1 T5 → c.length + t.length = rc.length + ws.length → drF pA rc ws = drF pA c t → am_wp M_X10_qGoesOnTest Q 0 0 87 [(0, am_r 55)] [] T5 := by
                intro n87
                induction n87 with
                | zero => intro t c T5 hn87; exact absurd hn87 (Nat.not_lt_zero _)
                | succ n87 ih87 =>
                  intro t c T5 hn87 hV5 hF5 hlc hd
                  have hL5 : lay T5 := hF5.L hZ1.1
                  refine am_aload_n (q := 88) rfl (am_tab tk_X10_qGoesOnTest 43 rfl) rfl ?_
                  refine am_bipush (q := 90) (n := 10) (by decide) rfl (am_tab tk_X10_qGoesOnTest 44 rfl) rfl ?_
                  refine am_callV0 (q := 93) (me2 := M_X10_qIsOn) (b := 55) (kb := 10) (nb := 108) (As := [am_i 10]) (rest := []) (out := [am_i (b2i (onT t 10))]) (c_X10_qIsOn c t o 0 T5 hL5 hV5 10 (by omega)) ⟨rfl, rfl⟩ (Ls_55 hL5) (by decide) ⟨Or.inl km_X10_618, kc_X10_qIsOn, kn_X10, kd_X10_qIsOn, ⟨(Nat.le_of_ble_eq_true rfl), (Nat.le_of_ble_eq_true rfl)⟩, ⟨(Nat.le_of_ble_eq_true rfl), (Nat.le_of_ble_eq_true rfl)⟩, (Nat.le_of_ble_eq_true rfl)⟩ ki_X10_qIsOn ks_X10_qIsOn rfl rfl (am_tab tk_X10_qGoesOnTest 45 rfl) rfl ?_
                  refine am_if_eq (q := 96) (t := 103) (am_tab tk_X10_qGoesOnTest 46 rfl) (by decide) rfl (fun h93 => ?_) (fun h93 => ?_)
                  · refine am_aload_n (q := 104) rfl (am_tab tk_X10_qGoesOnTest 50 rfl) rfl ?_
                    refine am_getR (q := 107) (a := 55) (k := 10) (n := 108) (j := 98) (r := some (128)) (Ls_55 hL5) (by decide) rfl (Lr_55_98 hL5) (by decide) (Or.inl kf_X10_236) (am_tab tk_X10_qGoesOnTest 51 rfl) rfl ?_
                    refine am_aload_n (q := 108) rfl (am_tab tk_X10_qGoesOnTest 52 rfl) rfl ?_
                    refine am_getI (q := 111) (a := 55) (k := 10) (n := 108) (j := 99) (x := (t.length : Int)) (Ls_55 hL5) (by decide) rfl hV5.2.2.1 (by decide) (Or.inl kf_X10_339) (am_tab tk_X10_qGoesOnTest 53 rfl) rfl ?_
                    refine am_bipush (q := 113) (n := 10) (by decide) rfl (am_tab tk_X10_qGoesOnTest 54 rfl) rfl ?_
                    refine am_iast (q := 114) (a := 128) (n := 1700) (Ls_128 hL5) (by omega) (by omega) (am_tab tk_X10_qGoesOnTest 55 rfl) rfl ?_
                    refine am_aload_n (q := 115) rfl (am_tab tk_X10_qGoesOnTest 56 rfl) rfl ?_
                    refine am_dup (q := 116) rfl (am_tab tk_X10_qGoesOnTest 57 rfl) rfl ?_
                    refine am_getI (q := 119) (a := 55) (k := 10) (n := 108) (j := 99) (x := (t.length : Int)) (Ls_55 hL5) (by decide) rfl hV5.2.2.1 (by decide) (Or.inl kf_X10_339) (am_tab tk_X10_qGoesOnTest 58 rfl) rfl ?_
                    refine am_iconst (q := 120) (n := 1) (by decide) (am_tab tk_X10_qGoesOnTest 59 rfl) rfl ?_
                    refine am_iadd (q := 121) (by omega) (am_tab tk_X10_qGoesOnTest 60 rfl) rfl ?_
                    refine am_putI (q := 124) (k := 10) (n := 108) (j := 99) (Ls_55 hL5) (by decide) rfl (by decide) (Or.inl ⟨kf_X10_339, rfl⟩) (am_tab tk_X10_qGoesOnTest 61 rfl) rfl ?_
                    refine am_iconst (q := 125) (n := 1) (by decide) (am_tab tk_X10_qGoesOnTest 62 rfl) rfl ?_
                    refine am_iret (Or.inr ⟨rfl, by first | exact Or.inl rfl | exact Or.inr rfl | omega⟩) (Nat.le_of_ble_eq_true rfl) (Nat.le_of_ble_eq_true rfl) (am_tab tk_X10_qGoesOnTest 63 rfl) ?_
                    refine hQ _ _ ?_
                    have hdd : drF pA c t = (c, t) := by
                      cases t with
                      | nil => rfl
                      | cons y t =>
                        show (if pA y = true then _ else _) = _
                        rw [if_neg ?_]
                        intro h9
                        unfold pA at h9
                        simp only [decide_eq_true_eq] at h9
                        have k93 : ¬ y = 10 := by
                          have h8 := b2f h93
                          exact of_decide_eq_false h8
                        omega
                    have hgt : gxF b E i rc ws o = .inl (1, i + 1, (drF pA rc ws).1, 10 :: (drF pA rc ws).2, o) := by
                      unfold gxF
                      rw [if_pos d1]
                    rw [hd, hdd] at hgt
                    unfold ggF
                    rw [hres, hst]
                    rw [hgt]
                    have hdl := drF_len pA ws rc
                    have hdo := okX_dr (p := pA) (by unfold pA; intro w h9; simp only [decide_eq_true_eq] at h9; omega) ws rc hok
                    rw [hd, hdd] at hdl hdo
                    simp only at hdl hdo
                    have hVn := hV5.push (v := 10)
                    have eb : opn (10 :: t) = (if (10 : Int) = 12 ∨ 20 ≤ (10 : Int) then 1 else 0) + opn t := rfl
                    rw [if_neg (by omega)] at eb
                    rw [show Int.toNat (t.length : Int) = t.length by omega]
                    have hFz : frw W_q T1 (am_setN (am_setN T5 128 t.length 10) 55 99 ((t.length : Int) + 1)) := (hF5.setN (by unfold W_q; omega)).setN (by unfold W_q; omega)
                    refine ⟨⟨rfl, ⟨hZ1.q hFz, hVn, ?_, ⟨?_, hon.2⟩, ?_, zP_on (by omega) hiz⟩, ?_⟩, hF.trans ((W_sc_p (((frw.refl W_sc T).setN (by unfold W_sc; omega)).trans hF1)).trans (W_q_p hFz))⟩
                    · rw [hFz.2.2 55 53 (by unfold W_q; omega), hF1.2.2 55 53 (by unfold W_sc; omega)]; exact h53
                    · show o = opn (10 :: t); omega
                    · show c.length + (10 :: t).length ≤ i + 1; rw [List.length_cons]; omega
                    · show okX false (10 :: t) = true; unfold okX; rw [if_pos (by omega)]; exact hdo.2
                  · have hge : 0 < t.length := by
                      rcases Nat.lt_or_ge 0 t.length with h9 | h9
                      · exact h9
                      · exfalso
                        have h8 := b2t h93
                        rw [onT_nil (by omega)] at h8
                        exact absurd h8 (by simp)
                    have htop : t.headD 0 = 10 := by
                      have h8 := b2t h93
                      rw [onT_hd hge] at h8
                      exact of_decide_eq_true h8
                    refine am_aload_n (q := 97) rfl (am_tab tk_X10_qGoesOnTest 47 rfl) rfl ?_
                    refine am_callVr (q := 100) (me2 := M_X10_qDrops) (b := 55) (kb := 10) (nb := 108) (As := []) (rest := []) (c_dropW c t o 0 T5 hL5 hV5 hge (by omega) (by omega)) ⟨rfl, rfl⟩ (Ls_55 hL5) (by decide) ⟨Or.inl km_X10_591, kc_X10_qDrops, kn_X10, kd_X10_qDrops, ⟨(Nat.le_of_ble_eq_true rfl), (Nat.le_of_ble_eq_true rfl)⟩, ⟨(Nat.le_of_ble_eq_true rfl), (Nat.le_of_ble_eq_true rfl)⟩, (Nat.le_of_ble_eq_true rfl)⟩ ki_X10_qDrops ks_X10_qDrops rfl (am_tab tk_X10_qGoesOnTest 48 rfl) rfl ?_
                    rintro r T6 ⟨rfl, hV6, hF6⟩
                    refine am_st (st2 := []) rfl ?_
                    refine am_goto (t := 87) (am_tab tk_X10_qGoesOnTest 49 rfl) (by decide) ?_
                    have hpx : pA (t.headD 0) = true := by
                      unfold pA
                      rw [decide_eq_true (by omega)]
                    exact am_less (by intro q hq; simp only [List.mem_cons, List.not_mem_nil, or_false] at hq; rcases hq with rfl <;> simp) (ih87 (t.tail) (t.headD 0 :: c) T6 (by rw [List.length_tail]; omega) hV6 (hF5.trans hF6) (by rw [List.length_cons, List.length_tail]; omega) (by rw [hd]; cases t with | nil => exact absurd hge (by simp) | cons x t => (show (if pA x = true then _ else _) = _; rw [if_pos (show pA x = true from hpx)]; rfl)))
              refine am_less (by intro q hq; simp only [List.mem_cons, List.not_mem_nil, or_false] at hq; rcases hq with rfl <;> simp) (L87 (_ + 1) ws rc T1 (by exact Nat.lt_succ_self _) (hV.sc (((frw.refl W_sc T).setN (by unfold W_sc; omega)).trans hF1)) (frw.refl _ _) rfl rfl)
          · by_cases d2 : zK b E i = 149
            · refine am_aload_n (q := 77) rfl (am_tab tk_X10_qGoesOnTest 38 rfl) rfl ?_
              refine am_aload_n (q := 78) rfl (am_tab tk_X10_qGoesOnTest 39 rfl) rfl ?_
              refine am_getR (q := 81) (a := 55) (k := 10) (n := 108) (j := 79) (r := some (110)) (Ls_55 hZ.1) (by decide) rfl (Lr_55_79 hZ.1) (by decide) (Or.inl kf_X10_182) (am_tab tk_X10_qGoesOnTest 40 rfl) rfl ?_
              refine am_callVr (q := 84) (me2 := M_X10_takes) (b := 55) (kb := 10) (nb := 108) (As := [am_r 110]) (rest := []) (c_takesN b E i (am_setN T 55 2 (zP b E i : Int)) hZ.look 110 22 (by decide) (by omega)) ⟨rfl, rfl⟩ (Ls_55 hZ.1) (by decide) ⟨Or.inl km_X10_275, kc_X10_takes, kn_X10, kd_X10_takes, ⟨(Nat.le_of_ble_eq_true rfl), (Nat.le_of_ble_eq_true rfl)⟩, ⟨(Nat.le_of_ble_eq_true rfl), (Nat.le_of_ble_eq_true rfl)⟩, (Nat.le_of_ble_eq_true rfl)⟩ ki_X10_takes ks_X10_takes rfl (am_tab tk_X10_qGoesOnTest 41 rfl) rfl ?_
              rintro r τ ⟨rfl, rfl⟩
              refine am_hp2 (σ1 := (am_setN T 55 2 (zP b E i : Int))) (am_setN_N _ _ _ _ _) ?_
              refine am_st (st2 := [am_i 0]) rfl ?_
              refine am_if_eq (q := 87) (t := 126) (am_tab tk_X10_qGoesOnTest 42 rfl) (by decide) rfl (fun h84 => ?_) (fun h84 => ?_)
              · refine am_aload_n (q := 127) rfl (am_tab tk_X10_qGoesOnTest 64 rfl) rfl ?_
                refine am_aload_n (q := 128) rfl (am_tab tk_X10_qGoesOnTest 65 rfl) rfl ?_
                refine am_getR (q := 131) (a := 55) (k := 10) (n := 108) (j := 80) (r := some (111)) (Ls_55 hZ.1) (by decide) rfl (Lr_55_80 hZ.1) (by decide) (Or.inl kf_X10_185) (am_tab tk_X10_qGoesOnTest 66 rfl) rfl ?_
                refine am_callVr (q := 134) (me2 := M_X10_takes) (b := 55) (kb := 10) (nb := 108) (As := [am_r 111]) (rest := []) (c_takesY b E i (am_setN T 55 2 (zP b E i : Int)) hZ.look 111 21 (by decide) (by omega)) ⟨rfl, rfl⟩ (Ls_55 hZ.1) (by decide) ⟨Or.inl km_X10_275, kc_X10_takes, kn_X10, kd_X10_takes, ⟨(Nat.le_of_ble_eq_true rfl), (Nat.le_of_ble_eq_true rfl)⟩, ⟨(Nat.le_of_ble_eq_true rfl), (Nat.le_of_ble_eq_true rfl)⟩, (Nat.le_of_ble_eq_true rfl)⟩ ki_X10_takes ks_X10_takes rfl (am_tab tk_X10_qGoesOnTest 67 rfl) rfl ?_
                rintro r T1 ⟨rfl, hZ1, hF1⟩
                refine am_st (st2 := [am_i 1]) rfl ?_
                refine am_if_eq (q := 137) (t := 185) (am_tab tk_X10_qGoesOnTest 68 rfl) (by decide) rfl (fun h134 => ?_) (fun h134 => ?_)
                · exact absurd h134 (by decide)
                · have L137 : ∀ (n137 : Nat) (t : List Int) (c : List Int) (T5 : am_H), t.length < n137 → QV c t o 0 T5 → frw W_q T1 T5 → c.length + t.length = rc.length + ws.length → drF pO rc ws = drF pO c t → am_wp M_X10_qGoesOnTest Q 0 0 137 [(0, am_r 55)] [] T5 := by
                    intro n137
                    induction n137 with
                    | zero => intro t c T5 hn137; exact absurd hn137 (Nat.not_lt_zero _)
                    | succ n137 ih137 =>
                      intro t c T5 hn137 hV5 hF5 hlc hd
                      have hL5 : lay T5 := hF5.L hZ1.1
                      refine am_aload_n (q := 138) rfl (am_tab tk_X10_qGoesOnTest 69 rfl) rfl ?_
                      refine am_bipush (q := 140) (n := 10) (by decide) rfl (am_tab tk_X10_qGoesOnTest 70 rfl) rfl ?_
                      refine am_callV0 (q := 143) (me2 := M_X10_qIsOn) (b := 55) (kb := 10) (nb := 108) (As := [am_i 10]) (rest := []) (out := [am_i (b2i (onT t 10))]) (c_X10_qIsOn c t o 0 T5 hL5 hV5 10 (by omega)) ⟨rfl, rfl⟩ (Ls_55 hL5) (by decide) ⟨Or.inl km_X10_618, kc_X10_qIsOn, kn_X10, kd_X10_qIsOn, ⟨(Nat.le_of_ble_eq_true rfl), (Nat.le_of_ble_eq_true rfl)⟩, ⟨(Nat.le_of_ble_eq_true rfl), (Nat.le_of_ble_eq_true rfl)⟩, (Nat.le_of_ble_eq_true rfl)⟩ ki_X10_qIsOn ks_X10_qIsOn rfl rfl (am_tab tk_X10_qGoesOnTest 71 rfl) rfl ?_
                      refine am_if_ne (q := 146) (t := 155) (am_tab tk_X10_qGoesOnTest 72 rfl) (by decide) rfl (fun h143 => ?_) (fun h143 => ?_)
                      · have hge : 0 < t.length := by
                          rcases Nat.lt_or_ge 0 t.length with h9 | h9
                          · exact h9
                          · exfalso
                            have h8 := b2t h143
                            rw [onT_nil (by omega)] at h8
                            exact absurd h8 (by simp)
                        have htop : t.headD 0 = 10 := by
                          have h8 := b2t h143
                          rw [onT_hd hge] at h8
                          exact of_decide_eq_true h8
                        refine am_aload_n (q := 156) rfl (am_tab tk_X10_qGoesOnTest 77 rfl) rfl ?_
                        refine am_callVr (q := 159) (me2 := M_X10_qDrops) (b := 55) (kb := 10) (nb := 108) (As := []) (rest := []) (c_dropW c t o 0 T5 hL5 hV5 hge (by omega) (by omega)) ⟨rfl, rfl⟩ (Ls_55 hL5) (by decide) ⟨Or.inl km_X10_591, kc_X10_qDrops, kn_X10, kd_X10_qDrops, ⟨(Nat.le_of_ble_eq_true rfl), (Nat.le_of_ble_eq_true rfl)⟩, ⟨(Nat.le_of_ble_eq_true rfl), (Nat.le_of_ble_eq_true rfl)⟩, (Nat.le_of_ble_eq_true rfl)⟩ ki_X10_qDrops ks_X10_qDrops rfl (am_tab tk_X10_qGoesOnTest 78 rfl) rfl ?_
                        rintro r T6 ⟨rfl, hV6, hF6⟩
                        refine am_st (st2 := []) rfl ?_
                        refine am_goto (t := 137) (am_tab tk_X10_qGoesOnTest 79 rfl) (by decide) ?_
                        have hpx : pO (t.headD 0) = true := by
                          unfold pO
                          rw [decide_eq_true (by omega)]
                        exact am_less (by intro q hq; simp only [List.mem_cons, List.not_mem_nil, or_false] at hq; rcases hq with rfl <;> simp) (ih137 (t.tail) (t.headD 0 :: c) T6 (by rw [List.length_tail]; omega) hV6 (hF5.trans hF6) (by rw [List.length_cons, List.length_tail]; omega) (by rw [hd]; cases t with | nil => exact absurd hge (by simp) | cons x t => (show (if pO x = true then _ else _) = _; rw [if_pos (show pO x = true from hpx)]; rfl)))
                      · refine am_aload_n (q := 147) rfl (am_tab tk_X10_qGoesOnTest 73 rfl) rfl ?_
                        refine am_bipush (q := 149) (n := 11) (by decide) rfl (am_tab tk_X10_qGoesOnTest 74 rfl) rfl ?_
                        refine am_callV0 (q := 152) (me2 := M_X10_qIsOn) (b := 55) (kb := 10) (nb := 108) (As := [am_i 11]) (rest := []) (out := [am_i (b2i (onT t 11))]) (c_X10_qIsOn c t o 0 T5 hL5 hV5 11 (by omega)) ⟨rfl, rfl⟩ (Ls_55 hL5) (by decide) ⟨Or.inl km_X10_618, kc_X10_qIsOn, kn_X10, kd_X10_qIsOn, ⟨(Nat.le_of_ble_eq_true rfl), (Nat.le_of_ble_eq_true rfl)⟩, ⟨(Nat.le_of_ble_eq_true rfl), (Nat.le_of_ble_eq_true rfl)⟩, (Nat.le_of_ble_eq_true rfl)⟩ ki_X10_qIsOn ks_X10_qIsOn rfl rfl (am_tab tk_X10_qGoesOnTest 75 rfl) rfl ?_
                        refine am_if_eq (q := 155) (t := 162) (am_tab tk_X10_qGoesOnTest 76 rfl) (by decide) rfl (fun h152 => ?_) (fun h152 => ?_)
                        · refine am_aload_n (q := 163) rfl (am_tab tk_X10_qGoesOnTest 80 rfl) rfl ?_
                          refine am_getR (q := 166) (a := 55) (k := 10) (n := 108) (j := 98) (r := some (128)) (Ls_55 hL5) (by decide) rfl (Lr_55_98 hL5) (by decide) (Or.inl kf_X10_236) (am_tab tk_X10_qGoesOnTest 81 rfl) rfl ?_
                          refine am_aload_n (q := 167) rfl (am_tab tk_X10_qGoesOnTest 82 rfl) rfl ?_
                          refine am_getI (q := 170) (a := 55) (k := 10) (n := 108) (j := 99) (x := (t.length : Int)) (Ls_55 hL5) (by decide) rfl hV5.2.2.1 (by decide) (Or.inl kf_X10_339) (am_tab tk_X10_qGoesOnTest 83 rfl) rfl ?_
                          refine am_bipush (q := 172) (n := 11) (by decide) rfl (am_tab tk_X10_qGoesOnTest 84 rfl) rfl ?_
                          refine am_iast (q := 173) (a := 128) (n := 1700) (Ls_128 hL5) (by omega) (by omega) (am_tab tk_X10_qGoesOnTest 85 rfl) rfl ?_
                          refine am_aload_n (q := 174) rfl (am_tab tk_X10_qGoesOnTest 86 rfl) rfl ?_
                          refine am_dup (q := 175) rfl (am_tab tk_X10_qGoesOnTest 87 rfl) rfl ?_
                          refine am_getI (q := 178) (a := 55) (k := 10) (n := 108) (j := 99) (x := (t.length : Int)) (Ls_55 hL5) (by decide) rfl hV5.2.2.1 (by decide) (Or.inl kf_X10_339) (am_tab tk_X10_qGoesOnTest 88 rfl) rfl ?_
                          refine am_iconst (q := 179) (n := 1) (by decide) (am_tab tk_X10_qGoesOnTest 89 rfl) rfl ?_
                          refine am_iadd (q := 180) (by omega) (am_tab tk_X10_qGoesOnTest 90 rfl) rfl ?_
                          refine am_putI (q := 183) (k := 10) (n := 108) (j := 99) (Ls_55 hL5) (by decide) rfl (by decide) (Or.inl ⟨kf_X10_339, rfl⟩) (am_tab tk_X10_qGoesOnTest 91 rfl) rfl ?_
                          refine am_iconst (q := 184) (n := 1) (by decide) (am_tab tk_X10_qGoesOnTest 92 rfl) rfl ?_
                          refine am_iret (Or.inr ⟨rfl, by first | exact Or.inl rfl | exact Or.inr rfl | omega⟩) (Nat.le_of_ble_eq_true rfl) (Nat.le_of_ble_eq_true rfl) (am_tab tk_X10_qGoesOnTest 93 rfl) ?_
                          refine hQ _ _ ?_
                          have hdd : drF pO c t = (c, t) := by
                            cases t with
                            | nil => rfl
                            | cons y t =>
                              show (if pO y = true then _ else _) = _
                              rw [if_neg ?_]
                              intro h9
                              unfold pO at h9
                              simp only [decide_eq_true_eq] at h9
                              have k143 : ¬ y = 10 := by
                                have h8 := b2f h143
                                exact of_decide_eq_false h8
                              have k152 : ¬ y = 11 := by
                                have h8 := b2f h152
                                exact of_decide_eq_false h8
                              omega
                          have hgt : gxF b E i rc ws o = .inl (1, i + 1, (drF pO rc ws).1, 11 :: (drF pO rc ws).2, o) := by
                            unfold gxF
                            rw [if_neg d1, if_pos d2]
                          rw [hd, hdd] at hgt
                          unfold ggF
                          rw [hres, hst]
                          rw [hgt]
                          have hdl := drF_len pO ws rc
                          have hdo := okX_dr (p := pO) (by unfold pO; intro w h9; simp only [decide_eq_true_eq] at h9; omega) ws rc hok
                          rw [hd, hdd] at hdl hdo
                          simp only at hdl hdo
                          have hVn := hV5.push (v := 11)
                          have eb : opn (11 :: t) = (if (11 : Int) = 12 ∨ 20 ≤ (11 : Int) then 1 else 0) + opn t := rfl
                          rw [if_neg (by omega)] at eb
                          rw [show Int.toNat (t.length : Int) = t.length by omega]
                          have hFz : frw W_q T1 (am_setN (am_setN T5 128 t.length 11) 55 99 ((t.length : Int) + 1)) := (hF5.setN (by unfold W_q; omega)).setN (by unfold W_q; omega)
                          refine ⟨⟨rfl, ⟨hZ1.q hFz, hVn, ?_, ⟨?_, hon.2⟩, ?_, zP_on (by omega) hiz⟩, ?_⟩, hF.trans ((W_sc_p (((frw.refl W_sc T).setN (by unfold W_sc; omega)).trans hF1)).trans (W_q_p hFz))⟩
                          · rw [hFz.2.2 55 53 (by unfold W_q; omega), hF1.2.2 55 53 (by unfold W_sc; omega)]; exact h53
                          · show o = opn (11 :: t); omega
                          · show c.length + (11 :: t).length ≤ i + 1; rw [List.length_cons]; omega
                          · show okX false (11 :: t) = true; unfold okX; rw [if_pos (by omega)]; exact hdo.2
                        · have hge : 0 < t.length := by
                            rcases Nat.lt_or_ge 0 t.length with h9 | h9
                            · exact h9
                            · exfalso
                              have h8 := b2t h152
                              rw [onT_nil (by omega)] at h8
                              exact absurd h8 (by simp)
                          have htop : t.headD 0 = 11 := by
                            have h8 := b2t h152
                            rw [onT_hd hge] at h8
                            exact of_decide_eq_true h8
                          refine am_aload_n (q := 156) rfl (am_tab tk_X10_qGoesOnTest 77 rfl) rfl ?_
                          refine am_callVr (q := 159) (me2 := M_X10_qDrops) (b := 55) (kb := 10) (nb := 108) (As := []) (rest := []) (c_dropW c t o 0 T5 hL5 hV5 hge (by omega) (by omega)) ⟨rfl, rfl⟩ (Ls_55 hL5) (by decide) ⟨Or.inl km_X10_591, kc_X10_qDrops, kn_X10, kd_X10_qDrops, ⟨(Nat.le_of_ble_eq_true rfl), (Nat.le_of_ble_eq_true rfl)⟩, ⟨(Nat.le_of_ble_eq_true rfl), (Nat.le_of_ble_eq_true rfl)⟩, (Nat.le_of_ble_eq_true rfl)⟩ ki_X10_qDrops ks_X10_qDrops rfl (am_tab tk_X10_qGoesOnTest 78 rfl) rfl ?_
                          rintro r T6 ⟨rfl, hV6, hF6⟩
                          refine am_st (st2 := []) rfl ?_
                          refine am_goto (t := 137) (am_tab tk_X10_qGoesOnTest 79 rfl) (by decide) ?_
                          have hpx : pO (t.headD 0) = true := by
                            unfold pO
                            rw [decide_eq_true (by omega)]
                          exact am_less (by intro q hq; simp only [List.mem_cons, List.not_mem_nil, or_false] at hq; rcases hq with rfl <;> simp) (ih137 (t.tail) (t.headD 0 :: c) T6 (by rw [List.length_tail]; omega) hV6 (hF5.trans hF6) (by rw [List.length_cons, List.length_tail]; omega) (by rw [hd]; cases t with | nil => exact absurd hge (by simp) | cons x t => (show (if pO x = true then _ else _) = _; rw [if_pos (show pO x = true from hpx)]; rfl)))
                  refine am_less (by intro q hq; simp only [List.mem_cons, List.not_mem_nil, or_false] at hq; rcases hq with rfl <;> simp) (L137 (_ + 1) ws rc T1 (by exact Nat.lt_succ_self _) (hV.sc (((frw.refl W_sc T).setN (by unfold W_sc; omega)).trans hF1)) (frw.refl _ _) rfl rfl)
              · exact absurd h84 (by decide)
            · refine am_aload_n (q := 77) rfl (am_tab tk_X10_qGoesOnTest 38 rfl) rfl ?_
              refine am_aload_n (q := 78) rfl (am_tab tk_X10_qGoesOnTest 39 rfl) rfl ?_
              refine am_getR (q := 81) (a := 55) (k := 10) (n := 108) (j := 79) (r := some (110)) (Ls_55 hZ.1) (by decide) rfl (Lr_55_79 hZ.1) (by decide) (Or.inl kf_X10_182) (am_tab tk_X10_qGoesOnTest 40 rfl) rfl ?_
              refine am_callVr (q := 84) (me2 := M_X10_takes) (b := 55) (kb := 10) (nb := 108) (As := [am_r 110]) (rest := []) (c_takesN b E i (am_setN T 55 2 (zP b E i : Int)) hZ.look 110 22 (by decide) (by omega)) ⟨rfl, rfl⟩ (Ls_55 hZ.1) (by decide) ⟨Or.inl km_X10_275, kc_X10_takes, kn_X10, kd_X10_takes, ⟨(Nat.le_of_ble_eq_true rfl), (Nat.le_of_ble_eq_true rfl)⟩, ⟨(Nat.le_of_ble_eq_true rfl), (Nat.le_of_ble_eq_true rfl)⟩, (Nat.le_of_ble_eq_true rfl)⟩ ki_X10_takes ks_X10_takes rfl (am_tab tk_X10_qGoesOnTest 41 rfl) rfl ?_
              rintro r τ ⟨rfl, rfl⟩
              refine am_hp2 (σ1 := (am_setN T 55 2 (zP b E i : Int))) (am_setN_N _ _ _ _ _) ?_
              refine am_st (st2 := [am_i 0]) rfl ?_
              refine am_if_eq (q := 87) (t := 126) (am_tab tk_X10_qGoesOnTest 42 rfl) (by decide) rfl (fun h84 => ?_) (fun h84 => ?_)
              · refine am_aload_n (q := 127) rfl (am_tab tk_X10_qGoesOnTest 64 rfl) rfl ?_
                refine am_aload_n (q := 128) rfl (am_tab tk_X10_qGoesOnTest 65 rfl) rfl ?_
                refine am_getR (q := 131) (a := 55) (k := 10) (n := 108) (j := 80) (r := some (111)) (Ls_55 hZ.1) (by decide) rfl (Lr_55_80 hZ.1) (by decide) (Or.inl kf_X10_185) (am_tab tk_X10_qGoesOnTest 66 rfl) rfl ?_
                refine am_callVr (q := 134) (me2 := M_X10_takes) (b := 55) (kb := 10) (nb := 108) (As := [am_r 111]) (rest := []) (c_takesN b E i (am_setN T 55 2 (zP b E i : Int)) hZ.look 111 21 (by decide) (by omega)) ⟨rfl, rfl⟩ (Ls_55 hZ.1) (by decide) ⟨Or.inl km_X10_275, kc_X10_takes, kn_X10, kd_X10_takes, ⟨(Nat.le_of_ble_eq_true rfl), (Nat.le_of_ble_eq_true rfl)⟩, ⟨(Nat.le_of_ble_eq_true rfl), (Nat.le_of_ble_eq_true rfl)⟩, (Nat.le_of_ble_eq_true rfl)⟩ ki_X10_takes ks_X10_takes rfl (am_tab tk_X10_qGoesOnTest 67 rfl) rfl ?_
                rintro r τ ⟨rfl, rfl⟩
                refine am_hp2 (σ1 := (am_setN T 55 2 (zP b E i : Int))) (am_setN_N _ _ _ _ _) ?_
                refine am_st (st2 := [am_i 0]) rfl ?_
                refine am_if_eq (q := 137) (t := 185) (am_tab tk_X10_qGoesOnTest 68 rfl) (by decide) rfl (fun h134 => ?_) (fun h134 => ?_)
                · refine am_aload_n (q := 186) rfl (am_tab tk_X10_qGoesOnTest 94 rfl) rfl ?_
                  refine am_getI (q := 189) (a := 55) (k := 10) (n := 108) (j := 5) (x := 0) (Ls_55 hZ.1) (by decide) rfl hZ.2.2.2.1 (by decide) (Or.inl kf_X10_248) (am_tab tk_X10_qGoesOnTest 95 rfl) rfl ?_
                  refine am_if_ne (q := 192) (t := 208) (am_tab tk_X10_qGoesOnTest 96 rfl) (by decide) rfl (fun h189 => ?_) (fun h189 => ?_)
                  · exact absurd h189 (by decide)
                  · refine am_aload_n (q := 193) rfl (am_tab tk_X10_qGoesOnTest 97 rfl) rfl ?_
                    refine am_callV0 (q := 196) (me2 := M_X10_qHasSquare) (b := 55) (kb := 10) (nb := 108) (As := []) (rest := []) (out := [am_i (b2i (hsq ws))]) (c_X10_qHasSquare rc ws o 0 (am_setN T 55 2 (zP b E i : Int)) hZ.1 (hV.sc ((frw.refl W_sc T).setN (by unfold W_sc; omega))) (by omega)) ⟨rfl, rfl⟩ (Ls_55 hZ.1) (by decide) ⟨Or.inl km_X10_639, kc_X10_qHasSquare, kn_X10, kd_X10_qHasSquare, ⟨(Nat.le_of_ble_eq_true rfl), (Nat.le_of_ble_eq_true rfl)⟩, ⟨(Nat.le_of_ble_eq_true rfl), (Nat.le_of_ble_eq_true rfl)⟩, (Nat.le_of_ble_eq_true rfl)⟩ ki_X10_qHasSquare ks_X10_qHasSquare rfl rfl (am_tab tk_X10_qGoesOnTest 98 rfl) rfl ?_
                    refine am_if_eq (q := 199) (t := 208) (am_tab tk_X10_qGoesOnTest 99 rfl) (by decide) rfl (fun h196 => ?_) (fun h196 => ?_)
                    · refine am_iconst (q := 209) (n := 0) (by decide) (am_tab tk_X10_qGoesOnTest 105 rfl) rfl ?_
                      refine am_iret (Or.inr ⟨rfl, by first | exact Or.inl rfl | exact Or.inr rfl | omega⟩) (Nat.le_of_ble_eq_true rfl) (Nat.le_of_ble_eq_true rfl) (am_tab tk_X10_qGoesOnTest 106 rfl) ?_
                      refine hQ _ _ ?_
                      have hgt : gxF b E i rc ws o = .inl (0, i, rc, ws, o) := by
                        unfold gxF
                        rw [if_neg d1, if_neg d2, if_neg (by rw [b2f h196]; simp)]
                      unfold ggF
                      rw [hres, hst]
                      rw [hgt]
                      have hFb : frw W_sc T (am_setN T 55 2 (zP b E i : Int)) := by repeat (first | exact frw.refl _ T | refine frw.setN ?_ (by unfold W_sc; omega))
                      exact ⟨⟨rfl, ⟨hZ.look, hV.sc hFb, h53, hon, hlen, hiz⟩, hok⟩, hF.trans (W_sc_p hFb)⟩
                    · refine am_aload_n (q := 200) rfl (am_tab tk_X10_qGoesOnTest 100 rfl) rfl ?_
                      refine am_iconst (q := 201) (n := 1) (by decide) (am_tab tk_X10_qGoesOnTest 101 rfl) rfl ?_
                      refine am_aload_n (q := 202) rfl (am_tab tk_X10_qGoesOnTest 102 rfl) rfl ?_
                      refine am_getI (q := 205) (a := 55) (k := 10) (n := 108) (j := 2) (x := (zP b E i : Int)) (Ls_55 hZ.1) (by decide) rfl rfl (by decide) (Or.inl kf_X10_254) (am_tab tk_X10_qGoesOnTest 103 rfl) rfl ?_
                      refine am_callV0 (q := 208) (me2 := M_X10_fail) (b := 55) (kb := 10) (nb := 108) (As := [am_i 1, am_i ((zP b E i : Int))]) (rest := []) (out := []) (c_fail0 (am_setN T 55 2 (zP b E i : Int)) hZ.1 1 (zP b E i : Int) hZ.2.2.2.1) ⟨rfl, rfl⟩ (Ls_55 hZ.1) (by decide) ⟨Or.inl km_X10_278, kc_X10_fail, kn_X10, kd_X10_fail, ⟨(Nat.le_of_ble_eq_true rfl), (Nat.le_of_ble_eq_true rfl)⟩, ⟨(Nat.le_of_ble_eq_true rfl), (Nat.le_of_ble_eq_true rfl)⟩, (Nat.le_of_ble_eq_true rfl)⟩ ki_X10_fail ks_X10_fail rfl rfl (am_tab tk_X10_qGoesOnTest 104 rfl) rfl ?_
                      refine am_iconst (q := 209) (n := 0) (by decide) (am_tab tk_X10_qGoesOnTest 105 rfl) rfl ?_
                      refine am_iret (Or.inr ⟨rfl, by first | exact Or.inl rfl | exact Or.inr rfl | omega⟩) (Nat.le_of_ble_eq_true rfl) (Nat.le_of_ble_eq_true rfl) (am_tab tk_X10_qGoesOnTest 106 rfl) ?_
                      refine hQ _ _ ?_
                      have hgt : gxF b E i rc ws o = .inr (1, (zP b E i : Int)) := by
                        unfold gxF
                        rw [if_neg d1, if_neg d2, if_pos (b2t h196)]
                      unfold ggF
                      rw [hres, hst]
                      rw [hgt]
                      have hFb : frw W_sc T (am_setN (am_setN (am_setN T 55 2 (zP b E i : Int)) 55 5 1) 55 6 (zP b E i : Int)) := by repeat (first | exact frw.refl _ T | refine frw.setN ?_ (by unfold W_sc; omega))
                      exact ⟨⟨rfl, QB_of (ZB_of hZ.1 hZ.2.1 hFb hZ.2.2.1 rfl (show ¬ (1 : Int) = 0 by decide) rfl (by show 0 ≤ (zP b E i : Int) ∧ (zP b E i : Int) ≤ _; omega)) (hV.sc hFb) (by omega) (by omega)⟩, hF.trans (W_sc_p hFb)⟩
                · exact absurd h134 (by decide)
              · exact absurd h84 (by decide)
      refine am_aload_n (q := 1) rfl (am_tab tk_X10_qGoesOnTest 0 rfl) rfl ?_
      refine am_getI (q := 4) (a := 55) (k := 10) (n := 108) (j := 5) (x := 0) (Ls_55 hZ.1) (by decide) rfl hZ.2.2.2.1 (by decide) (Or.inl kf_X10_248) (am_tab tk_X10_qGoesOnTest 1 rfl) rfl ?_
      refine am_if_ne (q := 7) (t := 76) (am_tab tk_X10_qGoesOnTest 2 rfl) (by decide) rfl (fun h4 => ?_) (fun h4 => ?_)
      · exact absurd h4 (by decide)
      · by_cases c1 : zK b E i = 93
        · refine am_aload_n (q := 8) rfl (am_tab tk_X10_qGoesOnTest 3 rfl) rfl ?_
          refine am_callV0 (q := 11) (me2 := M_X10_look) (b := 55) (kb := 10) (nb := 108) (As := []) (rest := []) (out := [am_i (byt b E i)]) (c_X10_look b E i T hZ.1 hZ.2.2) ⟨rfl, rfl⟩ (Ls_55 hZ.1) (by decide) ⟨Or.inl km_X10_260, kc_X10_look, kn_X10, kd_X10_look, ⟨(Nat.le_of_ble_eq_true rfl), (Nat.le_of_ble_eq_true rfl)⟩, ⟨(Nat.le_of_ble_eq_true rfl), (Nat.le_of_ble_eq_true rfl)⟩, (Nat.le_of_ble_eq_true rfl)⟩ ki_X10_look ks_X10_look rfl rfl (am_tab tk_X10_qGoesOnTest 4 rfl) rfl ?_
          refine am_bipush (q := 13) (n := 93) (by decide) rfl (am_tab tk_X10_qGoesOnTest 5 rfl) rfl ?_
          refine am_icmp_ne (q := 16) (t := 76) (am_tab tk_X10_qGoesOnTest 6 rfl) (by decide) rfl (fun h13 => ?_) (fun h13 => ?_)
          · exact absurd ((sg_iff (by decide)).mpr c1) h13
          · refine am_aload_n (q := 17) rfl (am_tab tk_X10_qGoesOnTest 7 rfl) rfl ?_
            refine am_callV0 (q := 20) (me2 := M_X10_qHasSquare) (b := 55) (kb := 10) (nb := 108) (As := []) (rest := []) (out := [am_i (b2i (hsq ws))]) (c_X10_qHasSquare rc ws o 0 (am_setN T 55 2 (zP b E i : Int)) hZ.1 (hV.sc ((frw.refl W_sc T).setN (by unfold W_sc; omega))) (by omega)) ⟨rfl, rfl⟩ (Ls_55 hZ.1) (by decide) ⟨Or.inl km_X10_639, kc_X10_qHasSquare, kn_X10, kd_X10_qHasSquare, ⟨(Nat.le_of_ble_eq_true rfl), (Nat.le_of_ble_eq_true rfl)⟩, ⟨(Nat.le_of_ble_eq_true rfl), (Nat.le_of_ble_eq_true rfl)⟩, (Nat.le_of_ble_eq_true rfl)⟩ ki_X10_qHasSquare ks_X10_qHasSquare rfl rfl (am_tab tk_X10_qGoesOnTest 8 rfl) rfl ?_
            refine am_if_eq (q := 23) (t := 76) (am_tab tk_X10_qGoesOnTest 9 rfl) (by decide) rfl (fun h20 => ?_) (fun h20 => ?_)
            · have hcl : ¬ (zK b E i = 93 ∧ hsq ws = true) := by
                intro hx
                rw [hx.2] at h20; exact absurd h20 (by decide)
              refine am_less (by intro q hq; simp only [List.mem_cons, List.not_mem_nil, or_false] at hq; rcases hq with rfl <;> simp) (L76 (_ + 1)  (by exact Nat.lt_succ_self _) hcl)
            · refine am_aload_n (q := 24) rfl (am_tab tk_X10_qGoesOnTest 10 rfl) rfl ?_
              refine am_dup (q := 25) rfl (am_tab tk_X10_qGoesOnTest 11 rfl) rfl ?_
              refine am_getI (q := 28) (a := 55) (k := 10) (n := 108) (j := 2) (x := (zP b E i : Int)) (Ls_55 hZ.1) (by decide) rfl rfl (by decide) (Or.inl kf_X10_254) (am_tab tk_X10_qGoesOnTest 12 rfl) rfl ?_
              refine am_iconst (q := 29) (n := 1) (by decide) (am_tab tk_X10_qGoesOnTest 13 rfl) rfl ?_
              refine am_iadd (q := 30) (by omega) (am_tab tk_X10_qGoesOnTest 14 rfl) rfl ?_
              refine am_putI (q := 33) (k := 10) (n := 108) (j := 2) (Ls_55 hZ.1) (by decide) rfl (by decide) (Or.inl ⟨kf_X10_254, rfl⟩) (am_tab tk_X10_qGoesOnTest 15 rfl) rfl ?_
              have hsqt := b2t h20
              have hgk := gcE_ok (rc := rc) (o := o) hok hsqt
              have hFn : frw W_sc T (am_setN (am_setN T 55 2 (zP b E i : Int)) 55 2 ((zP b E i : Int) + 1)) := ((frw.refl W_sc T).setN (by unfold W_sc; omega)).setN (by unfold W_sc; omega)
              have hZn : ZS b E (i + 1) (am_setN (am_setN T 55 2 (zP b E i : Int)) 55 2 ((zP b E i : Int) + 1)) := ZS_of hZ.1 hZ.2.1 hFn (TS_sign hZ.look.2.2 (by decide) c1 (hZ.2.2.1.fr hFn) hZ.2.2.2.1 hZ.2.2.2.2.1 rfl rfl)
              have L33 : ∀ (n33 : Nat) (t : List Int) (c : List Int) (T5 : am_H), t.length < n33 → QV c t o 0 T5 → frw W_q (am_setN (am_setN T 55 2 (zP b E i : Int)) 55 2 ((zP b E i : Int) + 1)) T5 → c.length + t.length = rc.length + ws.length → drF pS rc ws = drF pS c t → am_wp M_X10_qGoesOnTest Q 0 0 33 [(0, am_r 55)] [] T5 := by
                intro n33
                induction n33 with
                | zero => intro t c T5 hn33; exact absurd hn33 (Nat.not_lt_zero _)
                | succ n33 ih33 =>
                  intro t c T5 hn33 hV5 hF5 hlc hd
                  have hL5 : lay T5 := hF5.L hZn.1
                  refine am_aload_n (q := 34) rfl (am_tab tk_X10_qGoesOnTest 16 rfl) rfl ?_
                  refine am_bipush (q := 36) (n := 25) (by decide) rfl (am_tab tk_X10_qGoesOnTest 17 rfl) rfl ?_
                  refine am_callV0 (q := 39) (me2 := M_X10_qIsOn) (b := 55) (kb := 10) (nb := 108) (As := [am_i 25]) (rest := []) (out := [am_i (b2i (onT t 25))]) (c_X10_qIsOn c t o 0 T5 hL5 hV5 25 (by omega)) ⟨rfl, rfl⟩ (Ls_55 hL5) (by decide) ⟨Or.inl km_X10_618, kc_X10_qIsOn, kn_X10, kd_X10_qIsOn, ⟨(Nat.le_of_ble_eq_true rfl), (Nat.le_of_ble_eq_true rfl)⟩, ⟨(Nat.le_of_ble_eq_true rfl), (Nat.le_of_ble_eq_true rfl)⟩, (Nat.le_of_ble_eq_true rfl)⟩ ki_X10_qIsOn ks_X10_qIsOn rfl rfl (am_tab tk_X10_qGoesOnTest 18 rfl) rfl ?_
                  refine am_if_ne (q := 42) (t := 49) (am_tab tk_X10_qGoesOnTest 19 rfl) (by decide) rfl (fun h39 => ?_) (fun h39 => ?_)
                  · have hge : 0 < t.length := by
                      rcases Nat.lt_or_ge 0 t.length with h9 | h9
                      · exact h9
                      · exfalso
                        have h8 := b2t h39
                        rw [onT_nil (by omega)] at h8
                        exact absurd h8 (by simp)
                    have htop : t.headD 0 = 25 := by
                      have h8 := b2t h39
                      rw [onT_hd hge] at h8
                      exact of_decide_eq_true h8
                    have hdd : drF pS c t = (c, t) := by
                      cases t with
                      | nil => rfl
                      | cons x t =>
                        show (if pS x = true then _ else _) = _
                        rw [if_neg (by have h9 : x = 25 := htop; unfold pS; simp [h9])]
                    have ht25 : t = 25 :: t.tail := by
                      cases t with
                      | nil => exact absurd hge (by simp)
                      | cons x t => rw [show x = 25 from htop]; rfl
                    have hV5b := hV5
                    rw [ht25] at hV5b
                    refine am_aload_n (q := 50) rfl (am_tab tk_X10_qGoesOnTest 23 rfl) rfl ?_
                    refine am_dup (q := 51) rfl (am_tab tk_X10_qGoesOnTest 24 rfl) rfl ?_
                    refine am_getI (q := 54) (a := 55) (k := 10) (n := 108) (j := 99) (x := (t.length : Int)) (Ls_55 hL5) (by decide) rfl hV5.2.2.1 (by decide) (Or.inl kf_X10_339) (am_tab tk_X10_qGoesOnTest 25 rfl) rfl ?_
                    refine am_iconst (q := 55) (n := 1) (by decide) (am_tab tk_X10_qGoesOnTest 26 rfl) rfl ?_
                    refine am_isub (q := 56) (by omega) (am_tab tk_X10_qGoesOnTest 27 rfl) rfl ?_
                    refine am_putI (q := 59) (k := 10) (n := 108) (j := 99) (Ls_55 hL5) (by decide) rfl (by decide) (Or.inl ⟨kf_X10_339, rfl⟩) (am_tab tk_X10_qGoesOnTest 28 rfl) rfl ?_
                    refine am_aload_n (q := 60) rfl (am_tab tk_X10_qGoesOnTest 29 rfl) rfl ?_
                    refine am_dup (q := 61) rfl (am_tab tk_X10_qGoesOnTest 30 rfl) rfl ?_
                    refine am_getI (q := 64) (a := 55) (k := 10) (n := 108) (j := 100) (x := o) (Ls_55 hL5) (by decide) rfl hV5.2.2.2.2.1 (by decide) (Or.inl kf_X10_342) (am_tab tk_X10_qGoesOnTest 31 rfl) rfl ?_
                    refine am_iconst (q := 65) (n := 1) (by decide) (am_tab tk_X10_qGoesOnTest 32 rfl) rfl ?_
                    refine am_isub (q := 66) (by omega) (am_tab tk_X10_qGoesOnTest 33 rfl) rfl ?_
                    refine am_putI (q := 69) (k := 10) (n := 108) (j := 100) (Ls_55 hL5) (by decide) rfl (by decide) (Or.inl ⟨kf_X10_342, rfl⟩) (am_tab tk_X10_qGoesOnTest 34 rfl) rfl ?_
                    have hVp : QV c t.tail (o - 1) 0 (am_setN (am_setN T5 55 99 ((t.length : Int) - 1)) 55 100 (o - 1)) := by
                      have h9 := hV5b.pop
                      refine ⟨h9.1, h9.2.1, ?_, h9.2.2.2.1, rfl, h9.2.2.2.2.2⟩
                      show (t.length : Int) - 1 = _; rw [List.length_tail]; omega
                    have h5p : ((am_setN (am_setN T5 55 99 ((t.length : Int) - 1)) 55 100 (o - 1))).2.1 55 5 = 0 := (hF5.2.2 55 5 (by unfold W_q; omega)).trans hZn.2.2.2.1
                    refine am_aload_n (q := 70) rfl (am_tab tk_X10_qGoesOnTest 35 rfl) rfl ?_
                    refine am_callVr (q := 73) (me2 := M_X10_qDropsNots) (b := 55) (kb := 10) (nb := 108) (As := []) (rest := []) (c_X10_qDropsNots c t.tail (o - 1) 0 (am_setN (am_setN T5 55 99 ((t.length : Int) - 1)) 55 100 (o - 1)) hL5 hVp (by rw [List.length_tail]; omega) (by omega) h5p) ⟨rfl, rfl⟩ (Ls_55 hL5) (by decide) ⟨Or.inl km_X10_633, kc_X10_qDropsNots, kn_X10, kd_X10_qDropsNots, ⟨(Nat.le_of_ble_eq_true rfl), (Nat.le_of_ble_eq_true rfl)⟩, ⟨(Nat.le_of_ble_eq_true rfl), (Nat.le_of_ble_eq_true rfl)⟩, (Nat.le_of_ble_eq_true rfl)⟩ ki_X10_qDropsNots ks_X10_qDropsNots rfl (am_tab tk_X10_qGoesOnTest 36 rfl) rfl ?_
                    rintro r T7 ⟨rfl, hV7, hF7⟩
                    refine am_st (st2 := []) rfl ?_
                    refine am_goto (t := 0) (am_tab tk_X10_qGoesOnTest 37 rfl) (by decide) ?_
                    have hge2 : gcE rc ws o = dnF c t.tail (o - 1) := by unfold gcE; rw [hd, hdd]
                    rw [← hge2] at hV7
                    have hFq : frw W_q (am_setN (am_setN T 55 2 (zP b E i : Int)) 55 2 ((zP b E i : Int) + 1)) T7 := hF5.trans ((show frw W_q T5 _ from by repeat (first | exact frw.refl _ T5 | refine frw.setN ?_ (by unfold W_q; omega))).trans hF7)
                    have hQn : QX b E tk (i + 1) (gcE rc ws o).1 (gcE rc ws o).2.1 (gcE rc ws o).2.2 0 T7 := ⟨hZn.q hFq, hV7, (hFq.2.2 55 53 (by unfold W_q; omega)).trans h53, ⟨by omega, by omega⟩, by omega, zP_on (by omega) hiz⟩
                    rw [show gcF b E (f + 1) i rc ws o = gcF b E f (i + 1) (gcE rc ws o).1 (gcE rc ws o).2.1 (gcE rc ws o).2.2 from by show (if _ then _ else _) = _; rw [if_pos ⟨c1, hsqt⟩]] at hres
                    exact am_less (by intro q hq; simp only [List.mem_cons, List.not_mem_nil, or_false] at hq; rcases hq with rfl <;> simp) (ih0 f (i + 1) ((gcE rc ws o).1) ((gcE rc ws o).2.1) ((gcE rc ws o).2.2) T7 (by omega) hQn hgk.1 (hF.trans ((W_sc_p hFn).trans (W_q_p hFq))) (by omega) hres)
                  · have hge : 0 < t.length := by
                      rcases Nat.lt_or_ge 0 t.length with h9 | h9
                      · exact h9
                      · exfalso
                        have ht0 : t = [] := List.eq_nil_of_length_eq_zero (by omega)
                        have h8 := hsq_at ws rc hsqt
                        rw [hd, ht0] at h8
                        exact absurd h8 (by simp [drF])
                    have htop : ¬ t.headD 0 = 25 := by
                      have h8 := b2f h39
                      rw [onT_hd hge] at h8
                      exact of_decide_eq_false h8
                    refine am_aload_n (q := 43) rfl (am_tab tk_X10_qGoesOnTest 20 rfl) rfl ?_
                    refine am_callVr (q := 46) (me2 := M_X10_qDrops) (b := 55) (kb := 10) (nb := 108) (As := []) (rest := []) (c_dropW c t o 0 T5 hL5 hV5 hge (by omega) (by omega)) ⟨rfl, rfl⟩ (Ls_55 hL5) (by decide) ⟨Or.inl km_X10_591, kc_X10_qDrops, kn_X10, kd_X10_qDrops, ⟨(Nat.le_of_ble_eq_true rfl), (Nat.le_of_ble_eq_true rfl)⟩, ⟨(Nat.le_of_ble_eq_true rfl), (Nat.le_of_ble_eq_true rfl)⟩, (Nat.le_of_ble_eq_true rfl)⟩ ki_X10_qDrops ks_X10_qDrops rfl (am_tab tk_X10_qGoesOnTest 21 rfl) rfl ?_
                    rintro r T6 ⟨rfl, hV6, hF6⟩
                    refine am_st (st2 := []) rfl ?_
                    refine am_goto (t := 33) (am_tab tk_X10_qGoesOnTest 22 rfl) (by decide) ?_
                    have hpx : pS (t.headD 0) = true := by
                      unfold pS
                      rw [decide_eq_true (by omega)]
                    exact am_less (by intro q hq; simp only [List.mem_cons, List.not_mem_nil, or_false] at hq; rcases hq with rfl <;> simp) (ih33 (t.tail) (t.headD 0 :: c) T6 (by rw [List.length_tail]; omega) hV6 (hF5.trans hF6) (by rw [List.length_cons, List.length_tail]; omega) (by rw [hd]; cases t with | nil => exact absurd hge (by simp) | cons x t => (show (if pS x = true then _ else _) = _; rw [if_pos (show pS x = true from hpx)]; rfl)))
              refine am_less (by intro q hq; simp only [List.mem_cons, List.not_mem_nil, or_false] at hq; rcases hq with rfl <;> simp) (L33 (_ + 1) ws rc (am_setN (am_setN T 55 2 (zP b E i : Int)) 55 2 ((zP b E i : Int) + 1)) (by exact Nat.lt_succ_self _) (hV.sc hFn) (frw.refl _ _) rfl rfl)
        · refine am_aload_n (q := 8) rfl (am_tab tk_X10_qGoesOnTest 3 rfl) rfl ?_
          refine am_callV0 (q := 11) (me2 := M_X10_look) (b := 55) (kb := 10) (nb := 108) (As := []) (rest := []) (out := [am_i (byt b E i)]) (c_X10_look b E i T hZ.1 hZ.2.2) ⟨rfl, rfl⟩ (Ls_55 hZ.1) (by decide) ⟨Or.inl km_X10_260, kc_X10_look, kn_X10, kd_X10_look, ⟨(Nat.le_of_ble_eq_true rfl), (Nat.le_of_ble_eq_true rfl)⟩, ⟨(Nat.le_of_ble_eq_true rfl), (Nat.le_of_ble_eq_true rfl)⟩, (Nat.le_of_ble_eq_true rfl)⟩ ki_X10_look ks_X10_look rfl rfl (am_tab tk_X10_qGoesOnTest 4 rfl) rfl ?_
          refine am_bipush (q := 13) (n := 93) (by decide) rfl (am_tab tk_X10_qGoesOnTest 5 rfl) rfl ?_
          refine am_icmp_ne (q := 16) (t := 76) (am_tab tk_X10_qGoesOnTest 6 rfl) (by decide) rfl (fun h13 => ?_) (fun h13 => ?_)
          · have hcl : ¬ (zK b E i = 93 ∧ hsq ws = true) := by
              intro hx
              exact c1 hx.1
            refine am_less (by intro q hq; simp only [List.mem_cons, List.not_mem_nil, or_false] at hq; rcases hq with rfl <;> simp) (L76 (_ + 1)  (by exact Nat.lt_succ_self _) hcl)
          · exact absurd ((sg_iff (by decide)).mp h13) c1
  refine am_less (by intro q hq; simp only [List.mem_cons, List.not_mem_nil, or_false] at hq; rcases hq with rfl <;> simp [am_args, am_cat]) (L0 (_ + 1) f0 i0 rc0 ws0 o0 S (by exact Nat.lt_succ_self _) hQ0 hok0 (frw.refl _ S) hf0 rfl)
