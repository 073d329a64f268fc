theorem c_dropI (rc t out : List Int) (o : Int) (S : am_H) (hL : lay S) (hQv : QV rc (t ++ out) o (out.length : Int) S) (hg : 0 < t.length) (hl : rc.length < 1700) (hl2 : t.length + out.length ≤ 1700) : am_met M_X10_qDrops [am_r 55] S (fun r σ' => r = none ∧ QV (t.headD 0 :: rc) (t.tail ++ out) o (out.length : Int) σ' ∧ frw W_q S σ') := by
  cases t with
  | nil => exact absurd hg (by simp)
  | cons x t => exact c_X10_qDrops rc (t ++ out) x o (out.length : Int) S hL hQv hl (by simp only [List.length_cons, List.length_append] at *; omega)
theorem c_X10_qDropsToBracket (rc inn out : List Int) (o : Int) (S : am_H) (hL : lay S) (hQv : QV rc (inn ++ out) o (out.length : Int) S)  (hl : rc.length + inn.length + out.length ≤ 1690) : am_met M_X10_qDropsToBracket [am_r 55] S (fun r σ' => r = none ∧ QV (dtb rc inn).1 ((dtb rc inn).2 ++ out) o (out.length : Int) σ' ∧ frw W_q S σ') := by
  refine am_qq (fun Q hQ => ?_)
  refine am_enter (show plainFor yX10_qDropsToBracket = true by decide +kernel) rfl (Nat.le_of_ble_eq_true rfl) (fun _ _ _ => trivial) ?_
  have L0 : ∀ (n0 : Nat) (t : List Int) (c : List Int) (T : am_H), t.length < n0 → QV c (t ++ out) o (out.length : Int) T → frw W_q S T → c.length + t.length = rc.length + inn.length → dtb rc inn = dtb c t → am_wp M_X10_qDropsToBracket Q 0 0 0 [(0, am_r 55)] [] T := by
    intro n0
    induction n0 with
    | zero => intro t c T hn0; exact absurd hn0 (Nat.not_lt_zero _)
    | succ n0 ih0 =>
      intro t c T hn0 hT0 hF hlc hd
      have hLT : lay T := hF.L hL
      have hT := hT0
      obtain ⟨p, hpo⟩ : ∃ p, p = o := ⟨o, rfl⟩
      rw [← hpo] at hT
      refine am_aload_n (q := 1) rfl (am_tab tk_X10_qDropsToBracket 0 rfl) rfl ?_
      refine am_getI (q := 4) (a := 55) (k := 10) (n := 108) (j := 99) (x := ((t.length : Int) + (out.length : Int))) (Ls_55 hLT) (by decide) rfl (by rw [hT.2.2.1, List.length_append]; omega) (by decide) (Or.inl kf_X10_339) (am_tab tk_X10_qDropsToBracket 1 rfl) rfl ?_
      refine am_aload_n (q := 5) rfl (am_tab tk_X10_qDropsToBracket 2 rfl) rfl ?_
      refine am_getI (q := 8) (a := 55) (k := 10) (n := 108) (j := 101) (x := (out.length : Int)) (Ls_55 hLT) (by decide) rfl hT.2.2.2.2.2 (by decide) (Or.inl kf_X10_345) (am_tab tk_X10_qDropsToBracket 3 rfl) rfl ?_
      refine am_icmp_le (q := 11) (t := 35) (am_tab tk_X10_qDropsToBracket 4 rfl) (by decide) rfl (fun h8 => ?_) (fun h8 => ?_)
      · refine am_vret rfl (Nat.le_of_ble_eq_true rfl) (Nat.le_of_ble_eq_true rfl) (am_tab tk_X10_qDropsToBracket 17 rfl) ?_
        refine hQ _ _ ?_
        rw [hd]
        have h9 : t = [] := List.eq_nil_of_length_eq_zero (by omega)
        rw [h9] at hT0 ⊢
        exact ⟨rfl, hT0, hF⟩
      · have hge : 0 < t.length := by omega
        refine am_aload_n (q := 12) rfl (am_tab tk_X10_qDropsToBracket 5 rfl) rfl ?_
        refine am_getR (q := 15) (a := 55) (k := 10) (n := 108) (j := 98) (r := some (128)) (Ls_55 hLT) (by decide) rfl (Lr_55_98 hLT) (by decide) (Or.inl kf_X10_236) (am_tab tk_X10_qDropsToBracket 6 rfl) rfl ?_
        refine am_aload_n (q := 16) rfl (am_tab tk_X10_qDropsToBracket 7 rfl) rfl ?_
        refine am_getI (q := 19) (a := 55) (k := 10) (n := 108) (j := 99) (x := ((t.length : Int) + (out.length : Int))) (Ls_55 hLT) (by decide) rfl (by rw [hT.2.2.1, List.length_append]; omega) (by decide) (Or.inl kf_X10_339) (am_tab tk_X10_qDropsToBracket 8 rfl) rfl ?_
        refine am_iconst (q := 20) (n := 1) (by decide) (am_tab tk_X10_qDropsToBracket 9 rfl) rfl ?_
        refine am_isub (q := 21) (by omega) (am_tab tk_X10_qDropsToBracket 10 rfl) rfl ?_
        refine am_iald (q := 22) (a := 128) (n := 1700) (x := (t.headD 0)) (Ls_128 hLT) (by omega) (by omega) (by cases t with | nil => exact absurd hge (by simp) | cons x t => (rw [show Int.toNat _ = (t ++ out).length by simp; omega]; exact hT.top.1)) (am_tab tk_X10_qDropsToBracket 11 rfl) rfl ?_
        refine am_callS0 (q := 25) (me2 := M_X10_qIsBracket) (As := [am_i ((t.headD 0))]) (rest := []) (out := [am_i (b2i (isBr (t.headD 0)))]) (c_X10_qIsBracket T hLT (t.headD 0)) ⟨rfl, rfl⟩ ⟨Or.inl km_X10_588, kc_X10_qIsBracket, kn_X10, kd_X10_qIsBracket, ⟨(Nat.le_of_ble_eq_true rfl), (Nat.le_of_ble_eq_true rfl)⟩, ⟨(Nat.le_of_ble_eq_true rfl), (Nat.le_of_ble_eq_true rfl)⟩, (Nat.le_of_ble_eq_true rfl)⟩ ki_X10_qIsBracket rfl rfl (am_tab tk_X10_qDropsToBracket 12 rfl) rfl ?_
        refine am_if_ne (q := 28) (t := 35) (am_tab tk_X10_qDropsToBracket 13 rfl) (by decide) rfl (fun h25 => ?_) (fun h25 => ?_)
        · refine am_vret rfl (Nat.le_of_ble_eq_true rfl) (Nat.le_of_ble_eq_true rfl) (am_tab tk_X10_qDropsToBracket 17 rfl) ?_
          refine hQ _ _ ?_
          rw [hd]
          have hdd : dtb c t = (c, t) := by
            cases t with
            | nil => rfl
            | cons x t =>
              show (if isBr x = true then _ else _) = _
              rw [if_pos (by have h9 := b2t h25; simpa only [List.headD_cons] using h9)]
          rw [hdd]
          exact ⟨rfl, hT0, hF⟩
        · refine am_aload_n (q := 29) rfl (am_tab tk_X10_qDropsToBracket 14 rfl) rfl ?_
          refine am_callVr (q := 32) (me2 := M_X10_qDrops) (b := 55) (kb := 10) (nb := 108) (As := []) (rest := []) (c_dropI c t out p T hLT (by exact hT) hge (by omega) (by omega)) ⟨rfl, rfl⟩ (Ls_55 hLT) (by decide) ⟨Or.inl km_X10_591, kc_X10_qDrops, kn_X10, kd_X10_qDrops, ⟨(Nat.le_of_ble_eq_true rfl), (Nat.le_of_ble_eq_true rfl)⟩, ⟨(Nat.le_of_ble_eq_true rfl), (Nat.le_of_ble_eq_true rfl)⟩, (Nat.le_of_ble_eq_true rfl)⟩ ki_X10_qDrops ks_X10_qDrops rfl (am_tab tk_X10_qDropsToBracket 15 rfl) rfl ?_
          rintro r T2 ⟨rfl, hT2, hF2⟩
          have hLT2 : lay T2 := hF2.L hLT
          refine am_st (st2 := []) rfl ?_
          refine am_goto (t := 0) (am_tab tk_X10_qDropsToBracket 16 rfl) (by decide) ?_
          exact am_less (by intro q hq; simp only [List.mem_cons, List.not_mem_nil, or_false] at hq; rcases hq with rfl <;> simp) (ih0 (t.tail) (t.headD 0 :: c) T2 (by rw [List.length_tail]; omega) (by rw [← hpo]; exact hT2) (hF.trans hF2) (by rw [List.length_cons, List.length_tail]; omega) (by rw [hd]; cases t with | nil => exact absurd hge (by simp) | cons x t => (show (if isBr x = true then _ else _) = _; rw [if_neg (by have h9 := b2f h25; simp only [List.headD_cons] at h9; rw [h9]; simp)]; rfl)))
  refine am_less (by intro q hq; simp only [List.mem_cons, List.not_mem_nil, or_false] at hq; rcases hq with rfl <;> simp [am_args, am_cat]) (L0 (_ + 1) inn rc S (by exact Nat.lt_succ_self _) hQv (frw.refl _ S) rfl rfl)
theorem c_X10_qEndsPart (rc inn out : List Int) (o : Int) (S : am_H) (hL : lay S) (hQv : QV rc (inn ++ out) o (out.length : Int) S)  (hl : rc.length + inn.length + out.length ≤ 1690) (ho : 0 ≤ o ∧ o ≤ 10) (h50 : S.2.1 55 5 = 0) : am_met M_X10_qEndsPart [am_r 55] S (fun r σ' => r = none ∧ QV (endF rc inn o).1 ((endF rc inn o).2.1 ++ out) (endF rc inn o).2.2 (out.length : Int) σ' ∧ frw W_q S σ') := by
  refine am_qq (fun Q hQ => ?_)
  refine am_enter (show plainFor yX10_qEndsPart = true by decide +kernel) rfl (Nat.le_of_ble_eq_true rfl) (fun _ _ _ => trivial) ?_
  have L0 : ∀ (n0 : Nat) (t : List Int) (c : List Int) (p : Int) (T : am_H), t.length < n0 → QV c (t ++ out) p (out.length : Int) T → frw W_q S T → c.length + t.length = rc.length + inn.length → p + (inn.length : Int) = o + (t.length : Int) → endF rc inn o = endF c t p → am_wp M_X10_qEndsPart Q 0 0 0 [(0, am_r 55)] [] T := by
    intro n0
    induction n0 with
    | zero => intro t c p T hn0; exact absurd hn0 (Nat.not_lt_zero _)
    | succ n0 ih0 =>
      intro t c p T hn0 hT hF hlc hp hd
      have hLT : lay T := hF.L hL
      have h5 : T.2.1 55 5 = 0 := (hF.2.2 55 5 (by unfold W_q; omega)).trans h50
      refine am_aload_n (q := 1) rfl (am_tab tk_X10_qEndsPart 0 rfl) rfl ?_
      refine am_getI (q := 4) (a := 55) (k := 10) (n := 108) (j := 5) (x := 0) (Ls_55 hLT) (by decide) rfl h5 (by decide) (Or.inl kf_X10_248) (am_tab tk_X10_qEndsPart 1 rfl) rfl ?_
      refine am_if_ne (q := 7) (t := 51) (am_tab tk_X10_qEndsPart 2 rfl) (by decide) rfl (fun h4 => ?_) (fun h4 => ?_)
      · exact absurd rfl h4
      · refine am_aload_n (q := 8) rfl (am_tab tk_X10_qEndsPart 3 rfl) rfl ?_
        refine am_getI (q := 11) (a := 55) (k := 10) (n := 108) (j := 99) (x := ((t.length : Int) + (out.length : Int))) (Ls_55 hLT) (by decide) rfl (by rw [hT.2.2.1, List.length_append]; omega) (by decide) (Or.inl kf_X10_339) (am_tab tk_X10_qEndsPart 4 rfl) rfl ?_
        refine am_aload_n (q := 12) rfl (am_tab tk_X10_qEndsPart 5 rfl) rfl ?_
        refine am_getI (q := 15) (a := 55) (k := 10) (n := 108) (j := 101) (x := (out.length : Int)) (Ls_55 hLT) (by decide) rfl hT.2.2.2.2.2 (by decide) (Or.inl kf_X10_345) (am_tab tk_X10_qEndsPart 6 rfl) rfl ?_
        refine am_icmp_le (q := 18) (t := 51) (am_tab tk_X10_qEndsPart 7 rfl) (by decide) rfl (fun h15 => ?_) (fun h15 => ?_)
        · refine am_vret rfl (Nat.le_of_ble_eq_true rfl) (Nat.le_of_ble_eq_true rfl) (am_tab tk_X10_qEndsPart 26 rfl) ?_
          refine hQ _ _ ?_
          rw [hd]
          have h9 : t = [] := List.eq_nil_of_length_eq_zero (by omega)
          rw [h9] at hT ⊢
          exact ⟨rfl, hT, hF⟩
        · have hge : 0 < t.length := by omega
          refine am_aload_n (q := 19) rfl (am_tab tk_X10_qEndsPart 8 rfl) rfl ?_
          refine am_getR (q := 22) (a := 55) (k := 10) (n := 108) (j := 98) (r := some (128)) (Ls_55 hLT) (by decide) rfl (Lr_55_98 hLT) (by decide) (Or.inl kf_X10_236) (am_tab tk_X10_qEndsPart 9 rfl) rfl ?_
          refine am_aload_n (q := 23) rfl (am_tab tk_X10_qEndsPart 10 rfl) rfl ?_
          refine am_getI (q := 26) (a := 55) (k := 10) (n := 108) (j := 99) (x := ((t.length : Int) + (out.length : Int))) (Ls_55 hLT) (by decide) rfl (by rw [hT.2.2.1, List.length_append]; omega) (by decide) (Or.inl kf_X10_339) (am_tab tk_X10_qEndsPart 11 rfl) rfl ?_
          refine am_iconst (q := 27) (n := 1) (by decide) (am_tab tk_X10_qEndsPart 12 rfl) rfl ?_
          refine am_isub (q := 28) (by omega) (am_tab tk_X10_qEndsPart 13 rfl) rfl ?_
          refine am_iald (q := 29) (a := 128) (n := 1700) (x := (t.headD 0)) (Ls_128 hLT) (by omega) (by omega) (by cases t with | nil => exact absurd hge (by simp) | cons x t => (rw [show Int.toNat _ = (t ++ out).length by simp; omega]; exact hT.top.1)) (am_tab tk_X10_qEndsPart 14 rfl) rfl ?_
          refine am_bipush (q := 31) (n := 60) (by decide) rfl (am_tab tk_X10_qEndsPart 15 rfl) rfl ?_
          refine am_icmp_lt (q := 34) (t := 51) (am_tab tk_X10_qEndsPart 16 rfl) (by decide) rfl (fun h31 => ?_) (fun h31 => ?_)
          · refine am_vret rfl (Nat.le_of_ble_eq_true rfl) (Nat.le_of_ble_eq_true rfl) (am_tab tk_X10_qEndsPart 26 rfl) ?_
            refine hQ _ _ ?_
            rw [hd]
            have hdd : endF c t p = (c, t, p) := by
              cases t with
              | nil => rfl
              | cons x t =>
                show (if 60 ≤ x then _ else _) = _
                rw [if_neg (by simp only [List.headD_cons] at h31; omega)]
            rw [hdd]
            exact ⟨rfl, hT, hF⟩
          · refine am_aload_n (q := 35) rfl (am_tab tk_X10_qEndsPart 17 rfl) rfl ?_
            refine am_dup (q := 36) rfl (am_tab tk_X10_qEndsPart 18 rfl) rfl ?_
            refine am_getI (q := 39) (a := 55) (k := 10) (n := 108) (j := 100) (x := p) (Ls_55 hLT) (by decide) rfl hT.2.2.2.2.1 (by decide) (Or.inl kf_X10_342) (am_tab tk_X10_qEndsPart 19 rfl) rfl ?_
            refine am_iconst (q := 40) (n := 1) (by decide) (am_tab tk_X10_qEndsPart 20 rfl) rfl ?_
            refine am_isub (q := 41) (by omega) (am_tab tk_X10_qEndsPart 21 rfl) rfl ?_
            refine am_putI (q := 44) (k := 10) (n := 108) (j := 100) (Ls_55 hLT) (by decide) rfl (by decide) (Or.inl ⟨kf_X10_342, rfl⟩) (am_tab tk_X10_qEndsPart 22 rfl) rfl ?_
            refine am_aload_n (q := 45) rfl (am_tab tk_X10_qEndsPart 23 rfl) rfl ?_
            refine am_callVr (q := 48) (me2 := M_X10_qDrops) (b := 55) (kb := 10) (nb := 108) (As := []) (rest := []) (c_dropI c t out (p - 1) (am_setN T 55 100 (p - 1)) hLT (by exact ⟨hT.1, hT.2.1, hT.2.2.1, hT.2.2.2.1, rfl, hT.2.2.2.2.2⟩) hge (by omega) (by omega)) ⟨rfl, rfl⟩ (Ls_55 hLT) (by decide) ⟨Or.inl km_X10_591, kc_X10_qDrops, kn_X10, kd_X10_qDrops, ⟨(Nat.le_of_ble_eq_true rfl), (Nat.le_of_ble_eq_true rfl)⟩, ⟨(Nat.le_of_ble_eq_true rfl), (Nat.le_of_ble_eq_true rfl)⟩, (Nat.le_of_ble_eq_true rfl)⟩ ki_X10_qDrops ks_X10_qDrops rfl (am_tab tk_X10_qEndsPart 24 rfl) rfl ?_
            rintro r T2 ⟨rfl, hT2, hF2⟩
            have hLT2 : lay T2 := hF2.L hLT
            refine am_st (st2 := []) rfl ?_
            refine am_goto (t := 0) (am_tab tk_X10_qEndsPart 25 rfl) (by decide) ?_
            exact am_less (by intro q hq; simp only [List.mem_cons, List.not_mem_nil, or_false] at hq; rcases hq with rfl <;> simp) (ih0 (t.tail) (t.headD 0 :: c) (p - 1) T2 (by rw [List.length_tail]; omega) hT2 (hF.trans (((frw.refl W_q T).setN (by unfold W_q; omega)).trans hF2)) (by rw [List.length_cons, List.length_tail]; omega) (by rw [List.length_tail]; omega) (by rw [hd]; cases t with | nil => exact absurd hge (by simp) | cons x t => (show (if 60 ≤ x then _ else _) = _; rw [if_pos (by simp only [List.headD_cons] at h31; omega)]; rfl)))
  refine am_less (by intro q hq; simp only [List.mem_cons, List.not_mem_nil, or_false] at hq; rcases hq with rfl <;> simp [am_args, am_cat]) (L0 (_ + 1) inn rc o S (by exact Nat.lt_succ_self _) hQv (frw.refl _ S) rfl rfl rfl)
theorem c_qEndsPart0 (S : am_H) (hL : lay S)  (h5 : ¬ S.2.1 55 5 = 0) : am_met M_X10_qEndsPart [am_r 55] S (fun r σ' => r = none ∧ σ' = S) := by
  refine am_qq (fun Q hQ => ?_)
  refine am_enter (show plainFor yX10_qEndsPart = true by decide +kernel) rfl (Nat.le_of_ble_eq_true rfl) (fun _ _ _ => trivial) ?_
  refine am_aload_n (q := 1) rfl (am_tab tk_X10_qEndsPart 0 rfl) rfl ?_
  refine am_getI (q := 4) (a := 55) (k := 10) (n := 108) (j := 5) (x := (S.2.1 55 5)) (Ls_55 hL) (by decide) rfl rfl (by decide) (Or.inl kf_X10_248) (am_tab tk_X10_qEndsPart 1 rfl) rfl ?_
  refine am_if_ne (q := 7) (t := 51) (am_tab tk_X10_qEndsPart 2 rfl) (by decide) rfl (fun h4 => ?_) (fun h4 => ?_)
  · refine am_vret rfl (Nat.le_of_ble_eq_true rfl) (Nat.le_of_ble_eq_true rfl) (am_tab tk_X10_qEndsPart 26 rfl) ?_
    refine hQ _ _ ?_
    exact ⟨rfl, rfl⟩
  · exact absurd h4 h5
theorem c_qOpensY (rc ws : List Int) (o bs : Int) (S : am_H) (hL : lay S) (hQv : QV rc ws o bs S) (v : Int) (pl : Int) (h5 : S.2.1 55 5 = 0) (hl : ws.length < 1690) (ho : ¬ o = 6) (ho2 : 0 ≤ o ∧ o ≤ 6) : am_met M_X10_qOpens [am_r 55, am_i v, am_i pl] S (fun r σ' => r = none ∧ QV rc (v :: ws) (o + 1) bs σ' ∧ frw W_q S σ') := by
  refine am_qq (fun Q hQ => ?_)
  refine am_enter (show plainFor yX10_qOpens = true by decide +kernel) rfl (Nat.le_of_ble_eq_true rfl) (fun _ _ _ => trivial) ?_
  refine am_aload_n (q := 1) rfl (am_tab tk_X10_qOpens 0 rfl) rfl ?_
  refine am_getI (q := 4) (a := 55) (k := 10) (n := 108) (j := 5) (x := 0) (Ls_55 hL) (by decide) rfl h5 (by decide) (Or.inl kf_X10_248) (am_tab tk_X10_qOpens 1 rfl) rfl ?_
  refine am_if_eq (q := 7) (t := 8) (am_tab tk_X10_qOpens 2 rfl) (by decide) rfl (fun h4 => ?_) (fun h4 => ?_)
  · refine am_aload_n (q := 9) rfl (am_tab tk_X10_qOpens 4 rfl) rfl ?_
    refine am_getI (q := 12) (a := 55) (k := 10) (n := 108) (j := 100) (x := o) (Ls_55 hL) (by decide) rfl hQv.2.2.2.2.1 (by decide) (Or.inl kf_X10_342) (am_tab tk_X10_qOpens 5 rfl) rfl ?_
    refine am_bipush (q := 14) (n := 6) (by decide) rfl (am_tab tk_X10_qOpens 6 rfl) rfl ?_
    refine am_icmp_ne (q := 17) (t := 24) (am_tab tk_X10_qOpens 7 rfl) (by decide) rfl (fun h14 => ?_) (fun h14 => ?_)
    · refine am_aload_n (q := 25) rfl (am_tab tk_X10_qOpens 13 rfl) rfl ?_
      refine am_dup (q := 26) rfl (am_tab tk_X10_qOpens 14 rfl) rfl ?_
      refine am_getI (q := 29) (a := 55) (k := 10) (n := 108) (j := 100) (x := o) (Ls_55 hL) (by decide) rfl hQv.2.2.2.2.1 (by decide) (Or.inl kf_X10_342) (am_tab tk_X10_qOpens 15 rfl) rfl ?_
      refine am_iconst (q := 30) (n := 1) (by decide) (am_tab tk_X10_qOpens 16 rfl) rfl ?_
      refine am_iadd (q := 31) (by omega) (am_tab tk_X10_qOpens 17 rfl) rfl ?_
      refine am_putI (q := 34) (k := 10) (n := 108) (j := 100) (Ls_55 hL) (by decide) rfl (by decide) (Or.inl ⟨kf_X10_342, rfl⟩) (am_tab tk_X10_qOpens 18 rfl) rfl ?_
      refine am_aload_n (q := 35) rfl (am_tab tk_X10_qOpens 19 rfl) rfl ?_
      refine am_getR (q := 38) (a := 55) (k := 10) (n := 108) (j := 98) (r := some (128)) (Ls_55 hL) (by decide) rfl (Lr_55_98 hL) (by decide) (Or.inl kf_X10_236) (am_tab tk_X10_qOpens 20 rfl) rfl ?_
      refine am_aload_n (q := 39) rfl (am_tab tk_X10_qOpens 21 rfl) rfl ?_
      refine am_getI (q := 42) (a := 55) (k := 10) (n := 108) (j := 99) (x := (ws.length : Int)) (Ls_55 hL) (by decide) rfl hQv.2.2.1 (by decide) (Or.inl kf_X10_339) (am_tab tk_X10_qOpens 22 rfl) rfl ?_
      refine am_iload_n (q := 43) rfl (am_tab tk_X10_qOpens 23 rfl) rfl ?_
      refine am_iast (q := 44) (a := 128) (n := 1700) (Ls_128 hL) (by omega) (by omega) (am_tab tk_X10_qOpens 24 rfl) rfl ?_
      refine am_aload_n (q := 45) rfl (am_tab tk_X10_qOpens 25 rfl) rfl ?_
      refine am_dup (q := 46) rfl (am_tab tk_X10_qOpens 26 rfl) rfl ?_
      refine am_getI (q := 49) (a := 55) (k := 10) (n := 108) (j := 99) (x := (ws.length : Int)) (Ls_55 hL) (by decide) rfl hQv.2.2.1 (by decide) (Or.inl kf_X10_339) (am_tab tk_X10_qOpens 27 rfl) rfl ?_
      refine am_iconst (q := 50) (n := 1) (by decide) (am_tab tk_X10_qOpens 28 rfl) rfl ?_
      refine am_iadd (q := 51) (by omega) (am_tab tk_X10_qOpens 29 rfl) rfl ?_
      refine am_putI (q := 54) (k := 10) (n := 108) (j := 99) (Ls_55 hL) (by decide) rfl (by decide) (Or.inl ⟨kf_X10_339, rfl⟩) (am_tab tk_X10_qOpens 30 rfl) rfl ?_
      refine am_vret rfl (Nat.le_of_ble_eq_true rfl) (Nat.le_of_ble_eq_true rfl) (am_tab tk_X10_qOpens 31 rfl) ?_
      refine hQ _ _ ?_
      rw [show Int.toNat (ws.length : Int) = ws.length by omega]
      have h9 : QV rc ws (o + 1) bs (am_setN S 55 100 (o + 1)) := ⟨hQv.1, hQv.2.1, hQv.2.2.1, hQv.2.2.2.1, rfl, hQv.2.2.2.2.2⟩
      exact ⟨rfl, h9.push, by repeat (first | exact frw.refl _ S | refine frw.setN ?_ (by unfold W_q; omega))⟩
    · exact absurd h14 ho
  · exact absurd rfl h4
theorem c_qOpensN (rc ws : List Int) (o bs : Int) (S : am_H) (hL : lay S) (hQv : QV rc ws o bs S) (v : Int) (pl : Int) (h5 : S.2.1 55 5 = 0) (ho : o = 6) : am_met M_X10_qOpens [am_r 55, am_i v, am_i pl] S (fun r σ' => r = none ∧ σ' = am_setN (am_setN S 55 5 4) 55 6 pl) := by
  refine am_qq (fun Q hQ => ?_)
  refine am_enter (show plainFor yX10_qOpens = true by decide +kernel) rfl (Nat.le_of_ble_eq_true rfl) (fun _ _ _ => trivial) ?_
  refine am_aload_n (q := 1) rfl (am_tab tk_X10_qOpens 0 rfl) rfl ?_
  refine am_getI (q := 4) (a := 55) (k := 10) (n := 108) (j := 5) (x := 0) (Ls_55 hL) (by decide) rfl h5 (by decide) (Or.inl kf_X10_248) (am_tab tk_X10_qOpens 1 rfl) rfl ?_
  refine am_if_eq (q := 7) (t := 8) (am_tab tk_X10_qOpens 2 rfl) (by decide) rfl (fun h4 => ?_) (fun h4 => ?_)
  · refine am_aload_n (q := 9) rfl (am_tab tk_X10_qOpens 4 rfl) rfl ?_
    refine am_getI (q := 12) (a := 55) (k := 10) (n := 108) (j := 100) (x := o) (Ls_55 hL) (by decide) rfl hQv.2.2.2.2.1 (by decide) (Or.inl kf_X10_342) (am_tab tk_X10_qOpens 5 rfl) rfl ?_
    refine am_bipush (q := 14) (n := 6) (by decide) rfl (am_tab tk_X10_qOpens 6 rfl) rfl ?_
    refine am_icmp_ne (q := 17) (t := 24) (am_tab tk_X10_qOpens 7 rfl) (by decide) rfl (fun h14 => ?_) (fun h14 => ?_)
    · exact absurd ho h14
    · refine am_aload_n (q := 18) rfl (am_tab tk_X10_qOpens 8 rfl) rfl ?_
      refine am_iconst (q := 19) (n := 4) (by decide) (am_tab tk_X10_qOpens 9 rfl) rfl ?_
      refine am_iload_n (q := 20) rfl (am_tab tk_X10_qOpens 10 rfl) rfl ?_
      refine am_callV0 (q := 23) (me2 := M_X10_fail) (b := 55) (kb := 10) (nb := 108) (As := [am_i 4, am_i pl]) (rest := []) (out := []) (c_fail0 S hL 4 pl h5) ⟨rfl, rfl⟩ (Ls_55 hL) (by decide) ⟨Or.inl km_X10_278, kc_X10_fail, kn_X10, kd_X10_fail, ⟨(Nat.le_of_ble_eq_true rfl), (Nat.le_of_ble_eq_true rfl)⟩, ⟨(Nat.le_of_ble_eq_true rfl), (Nat.le_of_ble_eq_true rfl)⟩, (Nat.le_of_ble_eq_true rfl)⟩ ki_X10_fail ks_X10_fail rfl rfl (am_tab tk_X10_qOpens 11 rfl) rfl ?_
      refine am_vret rfl (Nat.le_of_ble_eq_true rfl) (Nat.le_of_ble_eq_true rfl) (am_tab tk_X10_qOpens 12 rfl) ?_
      refine hQ _ _ ?_
      exact ⟨rfl, rfl⟩
  · exact absurd rfl h4
theorem c_qOpens0 (S : am_H) (hL : lay S) (v : Int) (pl : Int) (h5 : ¬ S.2.1 55 5 = 0) : am_met M_X10_qOpens [am_r 55, am_i v, am_i pl] S (fun r σ' => r = none ∧ σ' = S) := by
  refine am_qq (fun Q hQ => ?_)
  refine am_enter (show plainFor yX10_qOpens = true by decide +kernel) rfl (Nat.le_of_ble_eq_true rfl) (fun _ _ _ => trivial) ?_
  refine am_aload_n (q := 1) rfl (am_tab tk_X10_qOpens 0 rfl) rfl ?_
  refine am_getI (q := 4) (a := 55) (k := 10) (n := 108) (j := 5) (x := (S.2.1 55 5)) (Ls_55 hL) (by decide) rfl rfl (by decide) (Or.inl kf_X10_248) (am_tab tk_X10_qOpens 1 rfl) rfl ?_
  refine am_if_eq (q := 7) (t := 8) (am_tab tk_X10_qOpens 2 rfl) (by decide) rfl (fun h4 => ?_) (fun h4 => ?_)
  · exact absurd h4 h5
  · refine am_vret rfl (Nat.le_of_ble_eq_true rfl) (Nat.le_of_ble_eq_true rfl) (am_tab tk_X10_qOpens 3 rfl) ?_
    refine hQ _ _ ?_
    exact ⟨rfl, rfl⟩
def pwI (k : Int) : Int := if k = 141 then 0 else if k = 132 then 1 else if k = 143 then 2 else if k = 130 then 3 else if k = 144 then 4 else if k = 142 then 5 else if k = 135 then 6 else if k = 145 then 7 else if k = 146 then 8 else if k = 147 then 9 else if k = 137 then 10 else if k = 148 then 11 else -1
def pwK (n : Int) : Int := if n = 0 then 141 else if n = 1 then 132 else if n = 2 then 143 else if n = 3 then 130 else if n = 4 then 144 else if n = 5 then 142 else if n = 6 then 135 else if n = 7 then 145 else if n = 8 then 146 else if n = 9 then 147 else if n = 10 then 137 else if n = 11 then 148 else 0
theorem pw_inv {z k : Int} (h : pwI z = k) (hk : 0 ≤ k) : z = pwK k := by
  subst h
  unfold pwI at hk ⊢
  repeat' split
  all_goals first | assumption | (exfalso; revert hk; repeat' split <;> omega)
theorem pwI_rng (z : Int) : -1 ≤ pwI z ∧ pwI z ≤ 11 := by
  unfold pwI
  repeat' split
  all_goals omega
def alw (tk k : Int) : Bool := if tk = 2 then decide (k < 5 ∨ 7 < k) else decide (k < 7 + tk)
def wof (tk z f t : Int) : Int := if f ≤ pwI z ∧ pwI z < t ∧ alw tk (pwI z) = true then pwI z else -1
set_option maxRecDepth 100000 in
theorem c_X10_qWordHere (b : Nat → Int) (E i : Nat) (S : am_H) (hZ : ZS b E i S)   : am_met M_X10_qWordHere [am_r 55] S (fun r σ' => r = some (am_i (pwI (zK b E i))) ∧ σ' = am_setN S 55 2 (zP b E i : Int)) := by
  refine am_qq (fun Q hQ => ?_)
  refine am_enter (show plainFor yX10_qWordHere = true by decide +kernel) rfl (Nat.le_of_ble_eq_true rfl) (fun _ _ _ => trivial) ?_
  have hL := hZ.1
  refine am_aload_n (q := 1) rfl (am_tab tk_X10_qWordHere 0 rfl) rfl ?_
  refine am_aload_n (q := 2) rfl (am_tab tk_X10_qWordHere 1 rfl) rfl ?_
  refine am_getR (q := 5) (a := 55) (k := 10) (n := 108) (j := 84) (r := some (115)) (Ls_55 hL) (by decide) rfl (Lr_55_84 hL) (by decide) (Or.inl kf_X10_197) (am_tab tk_X10_qWordHere 2 rfl) rfl ?_
  refine am_callVr (q := 8) (me2 := M_X10_isHere) (b := 55) (kb := 10) (nb := 108) (As := [am_r 115]) (rest := []) (c_hereX b E i S hZ 115 13 (by decide)) ⟨rfl, rfl⟩ (Ls_55 hL) (by decide) ⟨Or.inl km_X10_271, kc_X10_isHere, kn_X10, kd_X10_isHere, ⟨(Nat.le_of_ble_eq_true rfl), (Nat.le_of_ble_eq_true rfl)⟩, ⟨(Nat.le_of_ble_eq_true rfl), (Nat.le_of_ble_eq_true rfl)⟩, (Nat.le_of_ble_eq_true rfl)⟩ ki_X10_isHere ks_X10_isHere rfl (am_tab tk_X10_qWordHere 3 rfl) rfl ?_
  rintro r τ ⟨rfl, rfl⟩
  refine am_st (st2 := [am_i (b2i (decide (zK b E i = 128 + ((13 : Nat) : Int))))]) rfl ?_
  refine am_if_eq (q := 11) (t := 13) (am_tab tk_X10_qWordHere 4 rfl) (by decide) rfl (fun h8 => ?_) (fun h8 => ?_)
  · refine am_aload_n (q := 14) rfl (am_tab tk_X10_qWordHere 7 rfl) rfl ?_
    refine am_aload_n (q := 15) rfl (am_tab tk_X10_qWordHere 8 rfl) rfl ?_
    refine am_getR (q := 18) (a := 55) (k := 10) (n := 108) (j := 85) (r := some (116)) (Ls_55 hL) (by decide) rfl (Lr_55_85 hL) (by decide) (Or.inl kf_X10_200) (am_tab tk_X10_qWordHere 9 rfl) rfl ?_
    refine am_callVr (q := 21) (me2 := M_X10_isHere) (b := 55) (kb := 10) (nb := 108) (As := [am_r 116]) (rest := []) (c_hereX b E i (am_setN S 55 2 (zP b E i : Int)) hZ.look 116 4 (by decide)) ⟨rfl, rfl⟩ (Ls_55 hL) (by decide) ⟨Or.inl km_X10_271, kc_X10_isHere, kn_X10, kd_X10_isHere, ⟨(Nat.le_of_ble_eq_true rfl), (Nat.le_of_ble_eq_true rfl)⟩, ⟨(Nat.le_of_ble_eq_true rfl), (Nat.le_of_ble_eq_true rfl)⟩, (Nat.le_of_ble_eq_true rfl)⟩ ki_X10_isHere ks_X10_isHere rfl (am_tab tk_X10_qWordHere 10 rfl) rfl ?_
    rintro r τ ⟨rfl, rfl⟩
    refine am_hp2 (σ1 := (am_setN S 55 2 (zP b E i : Int))) (am_setN_N _ _ _ _ _) ?_
    refine am_st (st2 := [am_i (b2i (decide (zK b E i = 128 + ((4 : Nat) : Int))))]) rfl ?_
    refine am_if_eq (q := 24) (t := 26) (am_tab tk_X10_qWordHere 11 rfl) (by decide) rfl (fun h21 => ?_) (fun h21 => ?_)
    · refine am_aload_n (q := 27) rfl (am_tab tk_X10_qWordHere 14 rfl) rfl ?_
      refine am_aload_n (q := 28) rfl (am_tab tk_X10_qWordHere 15 rfl) rfl ?_
      refine am_getR (q := 31) (a := 55) (k := 10) (n := 108) (j := 86) (r := some (117)) (Ls_55 hL) (by decide) rfl (Lr_55_86 hL) (by decide) (Or.inl kf_X10_203) (am_tab tk_X10_qWordHere 16 rfl) rfl ?_
      refine am_callVr (q := 34) (me2 := M_X10_isHere) (b := 55) (kb := 10) (nb := 108) (As := [am_r 117]) (rest := []) (c_hereX b E i (am_setN S 55 2 (zP b E i : Int)) hZ.look 117 15 (by decide)) ⟨rfl, rfl⟩ (Ls_55 hL) (by decide) ⟨Or.inl km_X10_271, kc_X10_isHere, kn_X10, kd_X10_isHere, ⟨(Nat.le_of_ble_eq_true rfl), (Nat.le_of_ble_eq_true rfl)⟩, ⟨(Nat.le_of_ble_eq_true rfl), (Nat.le_of_ble_eq_true rfl)⟩, (Nat.le_of_ble_eq_true rfl)⟩ ki_X10_isHere ks_X10_isHere rfl (am_tab tk_X10_qWordHere 17 rfl) rfl ?_
      rintro r τ ⟨rfl, rfl⟩
      refine am_hp2 (σ1 := (am_setN S 55 2 (zP b E i : Int))) (am_setN_N _ _ _ _ _) ?_
      refine am_st (st2 := [am_i (b2i (decide (zK b E i = 128 + ((15 : Nat) : Int))))]) rfl ?_
      refine am_if_eq (q := 37) (t := 39) (am_tab tk_X10_qWordHere 18 rfl) (by decide) rfl (fun h34 => ?_) (fun h34 => ?_)
      · refine am_aload_n (q := 40) rfl (am_tab tk_X10_qWordHere 21 rfl) rfl ?_
        refine am_aload_n (q := 41) rfl (am_tab tk_X10_qWordHere 22 rfl) rfl ?_
        refine am_getR (q := 44) (a := 55) (k := 10) (n := 108) (j := 87) (r := some (118)) (Ls_55 hL) (by decide) rfl (Lr_55_87 hL) (by decide) (Or.inl kf_X10_206) (am_tab tk_X10_qWordHere 23 rfl) rfl ?_
        refine am_callVr (q := 47) (me2 := M_X10_isHere) (b := 55) (kb := 10) (nb := 108) (As := [am_r 118]) (rest := []) (c_hereX b E i (am_setN S 55 2 (zP b E i : Int)) hZ.look 118 2 (by decide)) ⟨rfl, rfl⟩ (Ls_55 hL) (by decide) ⟨Or.inl km_X10_271, kc_X10_isHere, kn_X10, kd_X10_isHere, ⟨(Nat.le_of_ble_eq_true rfl), (Nat.le_of_ble_eq_true rfl)⟩, ⟨(Nat.le_of_ble_eq_true rfl), (Nat.le_of_ble_eq_true rfl)⟩, (Nat.le_of_ble_eq_true rfl)⟩ ki_X10_isHere ks_X10_isHere rfl (am_tab tk_X10_qWordHere 24 rfl) rfl ?_
        rintro r τ ⟨rfl, rfl⟩
        refine am_hp2 (σ1 := (am_setN S 55 2 (zP b E i : Int))) (am_setN_N _ _ _ _ _) ?_
        refine am_st (st2 := [am_i (b2i (decide (zK b E i = 128 + ((2 : Nat) : Int))))]) rfl ?_
        refine am_if_eq (q := 50) (t := 52) (am_tab tk_X10_qWordHere 25 rfl) (by decide) rfl (fun h47 => ?_) (fun h47 => ?_)
        · refine am_aload_n (q := 53) rfl (am_tab tk_X10_qWordHere 28 rfl) rfl ?_
          refine am_aload_n (q := 54) rfl (am_tab tk_X10_qWordHere 29 rfl) rfl ?_
          refine am_getR (q := 57) (a := 55) (k := 10) (n := 108) (j := 88) (r := some (119)) (Ls_55 hL) (by decide) rfl (Lr_55_88 hL) (by decide) (Or.inl kf_X10_209) (am_tab tk_X10_qWordHere 30 rfl) rfl ?_
          refine am_callVr (q := 60) (me2 := M_X10_isHere) (b := 55) (kb := 10) (nb := 108) (As := [am_r 119]) (rest := []) (c_hereX b E i (am_setN S 55 2 (zP b E i : Int)) hZ.look 119 16 (by decide)) ⟨rfl, rfl⟩ (Ls_55 hL) (by decide) ⟨Or.inl km_X10_271, kc_X10_isHere, kn_X10, kd_X10_isHere, ⟨(Nat.le_of_ble_eq_true rfl), (Nat.le_of_ble_eq_true rfl)⟩, ⟨(Nat.le_of_ble_eq_true rfl), (Nat.le_of_ble_eq_true rfl)⟩, (Nat.le_of_ble_eq_true rfl)⟩ ki_X10_isHere ks_X10_isHere rfl (am_tab tk_X10_qWordHere 31 rfl) rfl ?_
          rintro r τ ⟨rfl, rfl⟩
          refine am_hp2 (σ1 := (am_setN S 55 2 (zP b E i : Int))) (am_setN_N _ _ _ _ _) ?_
          refine am_st (st2 := [am_i (b2i (decide (zK b E i = 128 + ((16 : Nat) : Int))))]) rfl ?_
          refine am_if_eq (q := 63) (t := 65) (am_tab tk_X10_qWordHere 32 rfl) (by decide) rfl (fun h60 => ?_) (fun h60 => ?_)
          · refine am_aload_n (q := 66) rfl (am_tab tk_X10_qWordHere 35 rfl) rfl ?_
            refine am_aload_n (q := 67) rfl (am_tab tk_X10_qWordHere 36 rfl) rfl ?_
            refine am_getR (q := 70) (a := 55) (k := 10) (n := 108) (j := 89) (r := some (120)) (Ls_55 hL) (by decide) rfl (Lr_55_89 hL) (by decide) (Or.inl kf_X10_212) (am_tab tk_X10_qWordHere 37 rfl) rfl ?_
            refine am_callVr (q := 73) (me2 := M_X10_isHere) (b := 55) (kb := 10) (nb := 108) (As := [am_r 120]) (rest := []) (c_hereX b E i (am_setN S 55 2 (zP b E i : Int)) hZ.look 120 14 (by decide)) ⟨rfl, rfl⟩ (Ls_55 hL) (by decide) ⟨Or.inl km_X10_271, kc_X10_isHere, kn_X10, kd_X10_isHere, ⟨(Nat.le_of_ble_eq_true rfl), (Nat.le_of_ble_eq_true rfl)⟩, ⟨(Nat.le_of_ble_eq_true rfl), (Nat.le_of_ble_eq_true rfl)⟩, (Nat.le_of_ble_eq_true rfl)⟩ ki_X10_isHere ks_X10_isHere rfl (am_tab tk_X10_qWordHere 38 rfl) rfl ?_
            rintro r τ ⟨rfl, rfl⟩
            refine am_hp2 (σ1 := (am_setN S 55 2 (zP b E i : Int))) (am_setN_N _ _ _ _ _) ?_
            refine am_st (st2 := [am_i (b2i (decide (zK b E i = 128 + ((14 : Nat) : Int))))]) rfl ?_
            refine am_if_eq (q := 76) (t := 78) (am_tab tk_X10_qWordHere 39 rfl) (by decide) rfl (fun h73 => ?_) (fun h73 => ?_)
            · refine am_aload_n (q := 79) rfl (am_tab tk_X10_qWordHere 42 rfl) rfl ?_
              refine am_aload_n (q := 80) rfl (am_tab tk_X10_qWordHere 43 rfl) rfl ?_
              refine am_getR (q := 83) (a := 55) (k := 10) (n := 108) (j := 90) (r := some (121)) (Ls_55 hL) (by decide) rfl (Lr_55_90 hL) (by decide) (Or.inl kf_X10_215) (am_tab tk_X10_qWordHere 44 rfl) rfl ?_
              refine am_callVr (q := 86) (me2 := M_X10_isHere) (b := 55) (kb := 10) (nb := 108) (As := [am_r 121]) (rest := []) (c_hereX b E i (am_setN S 55 2 (zP b E i : Int)) hZ.look 121 7 (by decide)) ⟨rfl, rfl⟩ (Ls_55 hL) (by decide) ⟨Or.inl km_X10_271, kc_X10_isHere, kn_X10, kd_X10_isHere, ⟨(Nat.le_of_ble_eq_true rfl), (Nat.le_of_ble_eq_true rfl)⟩, ⟨(Nat.le_of_ble_eq_true rfl), (Nat.le_of_ble_eq_true rfl)⟩, (Nat.le_of_ble_eq_true rfl)⟩ ki_X10_isHere ks_X10_isHere rfl (am_tab tk_X10_qWordHere 45 rfl) rfl ?_
              rintro r τ ⟨rfl, rfl⟩
              refine am_hp2 (σ1 := (am_setN S 55 2 (zP b E i : Int))) (am_setN_N _ _ _ _ _) ?_
              refine am_st (st2 := [am_i (b2i (decide (zK b E i = 128 + ((7 : Nat) : Int))))]) rfl ?_
              refine am_if_eq (q := 89) (t := 92) (am_tab tk_X10_qWordHere 46 rfl) (by decide) rfl (fun h86 => ?_) (fun h86 => ?_)
              · refine am_aload_n (q := 93) rfl (am_tab tk_X10_qWordHere 49 rfl) rfl ?_
                refine am_aload_n (q := 94) rfl (am_tab tk_X10_qWordHere 50 rfl) rfl ?_
                refine am_getR (q := 97) (a := 55) (k := 10) (n := 108) (j := 91) (r := some (122)) (Ls_55 hL) (by decide) rfl (Lr_55_91 hL) (by decide) (Or.inl kf_X10_218) (am_tab tk_X10_qWordHere 51 rfl) rfl ?_
                refine am_callVr (q := 100) (me2 := M_X10_isHere) (b := 55) (kb := 10) (nb := 108) (As := [am_r 122]) (rest := []) (c_hereX b E i (am_setN S 55 2 (zP b E i : Int)) hZ.look 122 17 (by decide)) ⟨rfl, rfl⟩ (Ls_55 hL) (by decide) ⟨Or.inl km_X10_271, kc_X10_isHere, kn_X10, kd_X10_isHere, ⟨(Nat.le_of_ble_eq_true rfl), (Nat.le_of_ble_eq_true rfl)⟩, ⟨(Nat.le_of_ble_eq_true rfl), (Nat.le_of_ble_eq_true rfl)⟩, (Nat.le_of_ble_eq_true rfl)⟩ ki_X10_isHere ks_X10_isHere rfl (am_tab tk_X10_qWordHere 52 rfl) rfl ?_
                rintro r τ ⟨rfl, rfl⟩
                refine am_hp2 (σ1 := (am_setN S 55 2 (zP b E i : Int))) (am_setN_N _ _ _ _ _) ?_
                refine am_st (st2 := [am_i (b2i (decide (zK b E i = 128 + ((17 : Nat) : Int))))]) rfl ?_
                refine am_if_eq (q := 103) (t := 106) (am_tab tk_X10_qWordHere 53 rfl) (by decide) rfl (fun h100 => ?_) (fun h100 => ?_)
                · refine am_aload_n (q := 107) rfl (am_tab tk_X10_qWordHere 56 rfl) rfl ?_
                  refine am_aload_n (q := 108) rfl (am_tab tk_X10_qWordHere 57 rfl) rfl ?_
                  refine am_getR (q := 111) (a := 55) (k := 10) (n := 108) (j := 92) (r := some (123)) (Ls_55 hL) (by decide) rfl (Lr_55_92 hL) (by decide) (Or.inl kf_X10_221) (am_tab tk_X10_qWordHere 58 rfl) rfl ?_
                  refine am_callVr (q := 114) (me2 := M_X10_isHere) (b := 55) (kb := 10) (nb := 108) (As := [am_r 123]) (rest := []) (c_hereX b E i (am_setN S 55 2 (zP b E i : Int)) hZ.look 123 18 (by decide)) ⟨rfl, rfl⟩ (Ls_55 hL) (by decide) ⟨Or.inl km_X10_271, kc_X10_isHere, kn_X10, kd_X10_isHere, ⟨(Nat.le_of_ble_eq_true rfl), (Nat.le_of_ble_eq_true rfl)⟩, ⟨(Nat.le_of_ble_eq_true rfl), (Nat.le_of_ble_eq_true rfl)⟩, (Nat.le_of_ble_eq_true rfl)⟩ ki_X10_isHere ks_X10_isHere rfl (am_tab tk_X10_qWordHere 59 rfl) rfl ?_
                  rintro r τ ⟨rfl, rfl⟩
                  refine am_hp2 (σ1 := (am_setN S 55 2 (zP b E i : Int))) (am_setN_N _ _ _ _ _) ?_
                  refine am_st (st2 := [am_i (b2i (decide (zK b E i = 128 + ((18 : Nat) : Int))))]) rfl ?_
                  refine am_if_eq (q := 117) (t := 120) (am_tab tk_X10_qWordHere 60 rfl) (by decide) rfl (fun h114 => ?_) (fun h114 => ?_)
                  · refine am_aload_n (q := 121) rfl (am_tab tk_X10_qWordHere 63 rfl) rfl ?_
                    refine am_aload_n (q := 122) rfl (am_tab tk_X10_qWordHere 64 rfl) rfl ?_
                    refine am_getR (q := 125) (a := 55) (k := 10) (n := 108) (j := 93) (r := some (124)) (Ls_55 hL) (by decide) rfl (Lr_55_93 hL) (by decide) (Or.inl kf_X10_224) (am_tab tk_X10_qWordHere 65 rfl) rfl ?_
                    refine am_callVr (q := 128) (me2 := M_X10_isHere) (b := 55) (kb := 10) (nb := 108) (As := [am_r 124]) (rest := []) (c_hereX b E i (am_setN S 55 2 (zP b E i : Int)) hZ.look 124 19 (by decide)) ⟨rfl, rfl⟩ (Ls_55 hL) (by decide) ⟨Or.inl km_X10_271, kc_X10_isHere, kn_X10, kd_X10_isHere, ⟨(Nat.le_of_ble_eq_true rfl), (Nat.le_of_ble_eq_true rfl)⟩, ⟨(Nat.le_of_ble_eq_true rfl), (Nat.le_of_ble_eq_true rfl)⟩, (Nat.le_of_ble_eq_true rfl)⟩ ki_X10_isHere ks_X10_isHere rfl (am_tab tk_X10_qWordHere 66 rfl) rfl ?_
                    rintro r τ ⟨rfl, rfl⟩
                    refine am_hp2 (σ1 := (am_setN S 55 2 (zP b E i : Int))) (am_setN_N _ _ _ _ _) ?_
                    refine am_st (st2 := [am_i (b2i (decide (zK b E i = 128 + ((19 : Nat) : Int))))]) rfl ?_
                    refine am_if_eq (q := 131) (t := 134) (am_tab tk_X10_qWordHere 67 rfl) (by decide) rfl (fun h128 => ?_) (fun h128 => ?_)
                    · refine am_aload_n (q := 135) rfl (am_tab tk_X10_qWordHere 70 rfl) rfl ?_
                      refine am_aload_n (q := 136) rfl (am_tab tk_X10_qWordHere 71 rfl) rfl ?_
                      refine am_getR (q := 139) (a := 55) (k := 10) (n := 108) (j := 94) (r := some (125)) (Ls_55 hL) (by decide) rfl (Lr_55_94 hL) (by decide) (Or.inl kf_X10_227) (am_tab tk_X10_qWordHere 72 rfl) rfl ?_
                      refine am_callVr (q := 142) (me2 := M_X10_isHere) (b := 55) (kb := 10) (nb := 108) (As := [am_r 125]) (rest := []) (c_hereX b E i (am_setN S 55 2 (zP b E i : Int)) hZ.look 125 9 (by decide)) ⟨rfl, rfl⟩ (Ls_55 hL) (by decide) ⟨Or.inl km_X10_271, kc_X10_isHere, kn_X10, kd_X10_isHere, ⟨(Nat.le_of_ble_eq_true rfl), (Nat.le_of_ble_eq_true rfl)⟩, ⟨(Nat.le_of_ble_eq_true rfl), (Nat.le_of_ble_eq_true rfl)⟩, (Nat.le_of_ble_eq_true rfl)⟩ ki_X10_isHere ks_X10_isHere rfl (am_tab tk_X10_qWordHere 73 rfl) rfl ?_
                      rintro r τ ⟨rfl, rfl⟩
                      refine am_hp2 (σ1 := (am_setN S 55 2 (zP b E i : Int))) (am_setN_N _ _ _ _ _) ?_
                      refine am_st (st2 := [am_i (b2i (decide (zK b E i = 128 + ((9 : Nat) : Int))))]) rfl ?_
                      refine am_if_eq (q := 145) (t := 148) (am_tab tk_X10_qWordHere 74 rfl) (by decide) rfl (fun h142 => ?_) (fun h142 => ?_)
                      · refine am_aload_n (q := 149) rfl (am_tab tk_X10_qWordHere 77 rfl) rfl ?_
                        refine am_aload_n (q := 150) rfl (am_tab tk_X10_qWordHere 78 rfl) rfl ?_
                        refine am_getR (q := 153) (a := 55) (k := 10) (n := 108) (j := 95) (r := some (126)) (Ls_55 hL) (by decide) rfl (Lr_55_95 hL) (by decide) (Or.inl kf_X10_230) (am_tab tk_X10_qWordHere 79 rfl) rfl ?_
                        refine am_callVr (q := 156) (me2 := M_X10_isHere) (b := 55) (kb := 10) (nb := 108) (As := [am_r 126]) (rest := []) (c_hereX b E i (am_setN S 55 2 (zP b E i : Int)) hZ.look 126 20 (by decide)) ⟨rfl, rfl⟩ (Ls_55 hL) (by decide) ⟨Or.inl km_X10_271, kc_X10_isHere, kn_X10, kd_X10_isHere, ⟨(Nat.le_of_ble_eq_true rfl), (Nat.le_of_ble_eq_true rfl)⟩, ⟨(Nat.le_of_ble_eq_true rfl), (Nat.le_of_ble_eq_true rfl)⟩, (Nat.le_of_ble_eq_true rfl)⟩ ki_X10_isHere ks_X10_isHere rfl (am_tab tk_X10_qWordHere 80 rfl) rfl ?_
                        rintro r τ ⟨rfl, rfl⟩
                        refine am_hp2 (σ1 := (am_setN S 55 2 (zP b E i : Int))) (am_setN_N _ _ _ _ _) ?_
                        refine am_st (st2 := [am_i (b2i (decide (zK b E i = 128 + ((20 : Nat) : Int))))]) rfl ?_
                        refine am_if_eq (q := 159) (t := 162) (am_tab tk_X10_qWordHere 81 rfl) (by decide) rfl (fun h156 => ?_) (fun h156 => ?_)
                        · refine am_iconst (q := 163) (n := (-1)) (by decide) (am_tab tk_X10_qWordHere 84 rfl) rfl ?_
                          refine am_iret (Or.inl rfl) (Nat.le_of_ble_eq_true rfl) (Nat.le_of_ble_eq_true rfl) (am_tab tk_X10_qWordHere 85 rfl) ?_
                          refine hQ _ _ ?_
                          refine ⟨congrArg (fun z => some (am_i z)) ?_, rfl⟩
                          have k8 := bd0 h8
                          have k21 := bd0 h21
                          have k34 := bd0 h34
                          have k47 := bd0 h47
                          have k60 := bd0 h60
                          have k73 := bd0 h73
                          have k86 := bd0 h86
                          have k100 := bd0 h100
                          have k114 := bd0 h114
                          have k128 := bd0 h128
                          have k142 := bd0 h142
                          have k156 := bd0 h156
                          unfold pwI
                          rw [if_neg (by omega)]
                          rw [if_neg (by omega)]
                          rw [if_neg (by omega)]
                          rw [if_neg (by omega)]
                          rw [if_neg (by omega)]
                          rw [if_neg (by omega)]
                          rw [if_neg (by omega)]
                          rw [if_neg (by omega)]
                          rw [if_neg (by omega)]
                          rw [if_neg (by omega)]
                          rw [if_neg (by omega)]
                          rw [if_neg (by omega)]
                        · refine am_bipush (q := 161) (n := 11) (by decide) rfl (am_tab tk_X10_qWordHere 82 rfl) rfl ?_
                          refine am_iret (Or.inl rfl) (Nat.le_of_ble_eq_true rfl) (Nat.le_of_ble_eq_true rfl) (am_tab tk_X10_qWordHere 83 rfl) ?_
                          refine hQ _ _ ?_
                          refine ⟨congrArg (fun z => some (am_i z)) ?_, rfl⟩
                          have k8 := bd0 h8
                          have k21 := bd0 h21
                          have k34 := bd0 h34
                          have k47 := bd0 h47
                          have k60 := bd0 h60
                          have k73 := bd0 h73
                          have k86 := bd0 h86
                          have k100 := bd0 h100
                          have k114 := bd0 h114
                          have k128 := bd0 h128
                          have k142 := bd0 h142
                          have k156 := bd1 h156
                          unfold pwI
                          rw [if_neg (by omega)]
                          rw [if_neg (by omega)]
                          rw [if_neg (by omega)]
                          rw [if_neg (by omega)]
                          rw [if_neg (by omega)]
                          rw [if_neg (by omega)]
                          rw [if_neg (by omega)]
                          rw [if_neg (by omega)]
                          rw [if_neg (by omega)]
                          rw [if_neg (by omega)]
                          rw [if_neg (by omega)]
                          rw [if_pos (by omega)]
                      · refine am_bipush (q := 147) (n := 10) (by decide) rfl (am_tab tk_X10_qWordHere 75 rfl) rfl ?_
                        refine am_iret (Or.inl rfl) (Nat.le_of_ble_eq_true rfl) (Nat.le_of_ble_eq_true rfl) (am_tab tk_X10_qWordHere 76 rfl) ?_
                        refine hQ _ _ ?_
                        refine ⟨congrArg (fun z => some (am_i z)) ?_, rfl⟩
                        have k8 := bd0 h8
                        have k21 := bd0 h21
                        have k34 := bd0 h34
                        have k47 := bd0 h47
                        have k60 := bd0 h60
                        have k73 := bd0 h73
                        have k86 := bd0 h86
                        have k100 := bd0 h100
                        have k114 := bd0 h114
                        have k128 := bd0 h128
                        have k142 := bd1 h142
                        unfold pwI
                        rw [if_neg (by omega)]
                        rw [if_neg (by omega)]
                        rw [if_neg (by omega)]
                        rw [if_neg (by omega)]
                        rw [if_neg (by omega)]
                        rw [if_neg (by omega)]
                        rw [if_neg (by omega)]
                        rw [if_neg (by omega)]
                        rw [if_neg (by omega)]
                        rw [if_neg (by omega)]
                        rw [if_pos (by omega)]
                    · refine am_bipush (q := 133) (n := 9) (by decide) rfl (am_tab tk_X10_qWordHere 68 rfl) rfl ?_
                      refine am_iret (Or.inl rfl) (Nat.le_of_ble_eq_true rfl) (Nat.le_of_ble_eq_true rfl) (am_tab tk_X10_qWordHere 69 rfl) ?_
                      refine hQ _ _ ?_
                      refine ⟨congrArg (fun z => some (am_i z)) ?_, rfl⟩
                      have k8 := bd0 h8
                      have k21 := bd0 h21
                      have k34 := bd0 h34
                      have k47 := bd0 h47
                      have k60 := bd0 h60
                      have k73 := bd0 h73
                      have k86 := bd0 h86
                      have k100 := bd0 h100
                      have k114 := bd0 h114
                      have k128 := bd1 h128
                      unfold pwI
                      rw [if_neg (by omega)]
                      rw [if_neg (by omega)]
                      rw [if_neg (by omega)]
                      rw [if_neg (by omega)]
                      rw [if_neg (by omega)]
                      rw [if_neg (by omega)]
                      rw [if_neg (by omega)]
                      rw [if_neg (by omega)]
                      rw [if_neg (by omega)]
                      rw [if_pos (by omega)]
                  · refine am_bipush (q := 119) (n := 8) (by decide) rfl (am_tab tk_X10_qWordHere 61 rfl) rfl ?_
                    refine am_iret (Or.inl rfl) (Nat.le_of_ble_eq_true rfl) (Nat.le_of_ble_eq_true rfl) (am_tab tk_X10_qWordHere 62 rfl) ?_
                    refine hQ _ _ ?_
                    refine ⟨congrArg (fun z => some (am_i z)) ?_, rfl⟩
                    have k8 := bd0 h8
                    have k21 := bd0 h21
                    have k34 := bd0 h34
                    have k47 := bd0 h47
                    have k60 := bd0 h60
                    have k73 := bd0 h73
                    have k86 := bd0 h86
                    have k100 := bd0 h100
                    have k114 := bd1 h114
                    unfold pwI
                    rw [if_neg (by omega)]
                    rw [if_neg (by omega)]
                    rw [if_neg (by omega)]
                    rw [if_neg (by omega)]
                    rw [if_neg (by omega)]
                    rw [if_neg (by omega)]
                    rw [if_neg (by omega)]
                    rw [if_neg (by omega)]
                    rw [if_pos (by omega)]
                · refine am_bipush (q := 105) (n := 7) (by decide) rfl (am_tab tk_X10_qWordHere 54 rfl) rfl ?_
                  refine am_iret (Or.inl rfl) (Nat.le_of_ble_eq_true rfl) (Nat.le_of_ble_eq_true rfl) (am_tab tk_X10_qWordHere 55 rfl) ?_
                  refine hQ _ _ ?_
                  refine ⟨congrArg (fun z => some (am_i z)) ?_, rfl⟩
                  have k8 := bd0 h8
                  have k21 := bd0 h21
                  have k34 := bd0 h34
                  have k47 := bd0 h47
                  have k60 := bd0 h60
                  have k73 := bd0 h73
                  have k86 := bd0 h86
                  have k100 := bd1 h100
                  unfold pwI
                  rw [if_neg (by omega)]
                  rw [if_neg (by omega)]
                  rw [if_neg (by omega)]
                  rw [if_neg (by omega)]
                  rw [if_neg (by omega)]
                  rw [if_neg (by omega)]
                  rw [if_neg (by omega)]
                  rw [if_pos (by omega)]
              · refine am_bipush (q := 91) (n := 6) (by decide) rfl (am_tab tk_X10_qWordHere 47 rfl) rfl ?_
                refine am_iret (Or.inl rfl) (Nat.le_of_ble_eq_true rfl) (Nat.le_of_ble_eq_true rfl) (am_tab tk_X10_qWordHere 48 rfl) ?_
                refine hQ _ _ ?_
                refine ⟨congrArg (fun z => some (am_i z)) ?_, rfl⟩
                have k8 := bd0 h8
                have k21 := bd0 h21
                have k34 := bd0 h34
                have k47 := bd0 h47
                have k60 := bd0 h60
                have k73 := bd0 h73
                have k86 := bd1 h86
                unfold pwI
                rw [if_neg (by omega)]
                rw [if_neg (by omega)]
                rw [if_neg (by omega)]
                rw [if_neg (by omega)]
                rw [if_neg (by omega)]
                rw [if_neg (by omega)]
                rw [if_pos (by omega)]
            · refine am_iconst (q := 77) (n := 5) (by decide) (am_tab tk_X10_qWordHere 40 rfl) rfl ?_
              refine am_iret (Or.inl rfl) (Nat.le_of_ble_eq_true rfl) (Nat.le_of_ble_eq_true rfl) (am_tab tk_X10_qWordHere 41 rfl) ?_
              refine hQ _ _ ?_
              refine ⟨congrArg (fun z => some (am_i z)) ?_, rfl⟩
              have k8 := bd0 h8
              have k21 := bd0 h21
              have k34 := bd0 h34
              have k47 := bd0 h47
              have k60 := bd0 h60
              have k73 := bd1 h73
              unfold pwI
              rw [if_neg (by omega)]
              rw [if_neg (by omega)]
              rw [if_neg (by omega)]
              rw [if_neg (by omega)]
              rw [if_neg (by omega)]
              rw [if_pos (by omega)]
          · refine am_iconst (q := 64) (n := 4) (by decide) (am_tab tk_X10_qWordHere 33 rfl) rfl ?_
            refine am_iret (Or.inl rfl) (Nat.le_of_ble_eq_true rfl) (Nat.le_of_ble_eq_true rfl) (am_tab tk_X10_qWordHere 34 rfl) ?_
            refine hQ _ _ ?_
            refine ⟨congrArg (fun z => some (am_i z)) ?_, rfl⟩
            have k8 := bd0 h8
            have k21 := bd0 h21
            have k34 := bd0 h34
            have k47 := bd0 h47
            have k60 := bd1 h60
            unfold pwI
            rw [if_neg (by omega)]
            rw [if_neg (by omega)]
            rw [if_neg (by omega)]
            rw [if_neg (by omega)]
            rw [if_pos (by omega)]
        · refine am_iconst (q := 51) (n := 3) (by decide) (am_tab tk_X10_qWordHere 26 rfl) rfl ?_
          refine am_iret (Or.inl rfl) (Nat.le_of_ble_eq_true rfl) (Nat.le_of_ble_eq_true rfl) (am_tab tk_X10_qWordHere 27 rfl) ?_
          refine hQ _ _ ?_
          refine ⟨congrArg (fun z => some (am_i z)) ?_, rfl⟩
          have k8 := bd0 h8
          have k21 := bd0 h21
          have k34 := bd0 h34
          have k47 := bd1 h47
          unfold pwI
          rw [if_neg (by omega)]
          rw [if_neg (by omega)]
          rw [if_neg (by omega)]
          rw [if_pos (by omega)]
      · refine am_iconst (q := 38) (n := 2) (by decide) (am_tab tk_X10_qWordHere 19 rfl) rfl ?_
        refine am_iret (Or.inl rfl) (Nat.le_of_ble_eq_true rfl) (Nat.le_of_ble_eq_true rfl) (am_tab tk_X10_qWordHere 20 rfl) ?_
        refine hQ _ _ ?_
        refine ⟨congrArg (fun z => some (am_i z)) ?_, rfl⟩
        have k8 := bd0 h8
        have k21 := bd0 h21
        have k34 := bd1 h34
        unfold pwI
        rw [if_neg (by omega)]
        rw [if_neg (by omega)]
        rw [if_pos (by omega)]
    · refine am_iconst (q := 25) (n := 1) (by decide) (am_tab tk_X10_qWordHere 12 rfl) rfl ?_
      refine am_iret (Or.inl rfl) (Nat.le_of_ble_eq_true rfl) (Nat.le_of_ble_eq_true rfl) (am_tab tk_X10_qWordHere 13 rfl) ?_
      refine hQ _ _ ?_
      refine ⟨congrArg (fun z => some (am_i z)) ?_, rfl⟩
      have k8 := bd0 h8
      have k21 := bd1 h21
      unfold pwI
      rw [if_neg (by omega)]
      rw [if_pos (by omega)]
  · refine am_iconst (q := 12) (n := 0) (by decide) (am_tab tk_X10_qWordHere 5 rfl) rfl ?_
    refine am_iret (Or.inl rfl) (Nat.le_of_ble_eq_true rfl) (Nat.le_of_ble_eq_true rfl) (am_tab tk_X10_qWordHere 6 rfl) ?_
    refine hQ _ _ ?_
    refine ⟨congrArg (fun z => some (am_i z)) ?_, rfl⟩
    have k8 := bd1 h8
    unfold pwI
    rw [if_pos (by omega)]
theorem c_X10_isAllowed (S : am_H) (hL : lay S) (k : Int) (tk : Int) (ht : S.2.1 55 53 = tk) (htr : 0 ≤ tk ∧ tk ≤ 2) : am_met M_X10_isAllowed [am_r 55, am_i k] S (fun r σ' => r = some (am_i (b2i (alw tk k))) ∧ σ' = S) := by
  refine am_qq (fun Q hQ => ?_)
  refine am_enter (show plainFor yX10_isAllowed = true by decide +kernel) rfl (Nat.le_of_ble_eq_true rfl) (fun _ _ _ => trivial) ?_
  refine am_aload_n (q := 1) rfl (am_tab tk_X10_isAllowed 0 rfl) rfl ?_
  refine am_getI (q := 4) (a := 55) (k := 10) (n := 108) (j := 53) (x := tk) (Ls_55 hL) (by decide) rfl ht (by decide) (Or.inl kf_X10_306) (am_tab tk_X10_isAllowed 1 rfl) rfl ?_
  refine am_iconst (q := 5) (n := 2) (by decide) (am_tab tk_X10_isAllowed 2 rfl) rfl ?_
  refine am_icmp_ne (q := 8) (t := 27) (am_tab tk_X10_isAllowed 3 rfl) (by decide) rfl (fun h5 => ?_) (fun h5 => ?_)
  · refine am_iload_n (q := 28) rfl (am_tab tk_X10_isAllowed 14 rfl) rfl ?_
    refine am_bipush (q := 30) (n := 7) (by decide) rfl (am_tab tk_X10_isAllowed 15 rfl) rfl ?_
    refine am_aload_n (q := 31) rfl (am_tab tk_X10_isAllowed 16 rfl) rfl ?_
    refine am_getI (q := 34) (a := 55) (k := 10) (n := 108) (j := 53) (x := tk) (Ls_55 hL) (by decide) rfl ht (by decide) (Or.inl kf_X10_306) (am_tab tk_X10_isAllowed 17 rfl) rfl ?_
    refine am_iadd (q := 35) (by omega) (am_tab tk_X10_isAllowed 18 rfl) rfl ?_
    refine am_icmp_ge (q := 38) (t := 42) (am_tab tk_X10_isAllowed 19 rfl) (by decide) rfl (fun h35 => ?_) (fun h35 => ?_)
    · refine am_iconst (q := 43) (n := 0) (by decide) (am_tab tk_X10_isAllowed 22 rfl) rfl ?_
      refine am_iret (Or.inr ⟨rfl, by first | exact Or.inl rfl | exact Or.inr rfl | omega⟩) (Nat.le_of_ble_eq_true rfl) (Nat.le_of_ble_eq_true rfl) (am_tab tk_X10_isAllowed 23 rfl) ?_
      refine hQ _ _ ?_
      refine ⟨congrArg (fun z => some (am_i z)) ?_, rfl⟩
      unfold alw
      rw [if_neg h5, decide_eq_false (by omega)]; rfl
    · refine am_iconst (q := 39) (n := 1) (by decide) (am_tab tk_X10_isAllowed 20 rfl) rfl ?_
      refine am_goto (t := 43) (am_tab tk_X10_isAllowed 21 rfl) (by decide) ?_
      refine am_iret (Or.inr ⟨rfl, by first | exact Or.inl rfl | exact Or.inr rfl | omega⟩) (Nat.le_of_ble_eq_true rfl) (Nat.le_of_ble_eq_true rfl) (am_tab tk_X10_isAllowed 23 rfl) ?_
      refine hQ _ _ ?_
      refine ⟨congrArg (fun z => some (am_i z)) ?_, rfl⟩
      unfold alw
      rw [if_neg h5, decide_eq_true (by omega)]; rfl
  · refine am_iload_n (q := 9) rfl (am_tab tk_X10_isAllowed 4 rfl) rfl ?_
    refine am_iconst (q := 10) (n := 5) (by decide) (am_tab tk_X10_isAllowed 5 rfl) rfl ?_
    refine am_icmp_lt (q := 13) (t := 19) (am_tab tk_X10_isAllowed 6 rfl) (by decide) rfl (fun h10 => ?_) (fun h10 => ?_)
    · refine am_iconst (q := 20) (n := 1) (by decide) (am_tab tk_X10_isAllowed 10 rfl) rfl ?_
      refine am_goto (t := 43) (am_tab tk_X10_isAllowed 11 rfl) (by decide) ?_
      refine am_iret (Or.inr ⟨rfl, by first | exact Or.inl rfl | exact Or.inr rfl | omega⟩) (Nat.le_of_ble_eq_true rfl) (Nat.le_of_ble_eq_true rfl) (am_tab tk_X10_isAllowed 23 rfl) ?_
      refine hQ _ _ ?_
      refine ⟨congrArg (fun z => some (am_i z)) ?_, rfl⟩
      unfold alw
      rw [if_pos h5, decide_eq_true (by omega)]; rfl
    · refine am_iload_n (q := 14) rfl (am_tab tk_X10_isAllowed 7 rfl) rfl ?_
      refine am_bipush (q := 16) (n := 7) (by decide) rfl (am_tab tk_X10_isAllowed 8 rfl) rfl ?_
      refine am_icmp_le (q := 19) (t := 23) (am_tab tk_X10_isAllowed 9 rfl) (by decide) rfl (fun h16 => ?_) (fun h16 => ?_)
      · refine am_iconst (q := 24) (n := 0) (by decide) (am_tab tk_X10_isAllowed 12 rfl) rfl ?_
        refine am_goto (t := 43) (am_tab tk_X10_isAllowed 13 rfl) (by decide) ?_
        refine am_iret (Or.inr ⟨rfl, by first | exact Or.inl rfl | exact Or.inr rfl | omega⟩) (Nat.le_of_ble_eq_true rfl) (Nat.le_of_ble_eq_true rfl) (am_tab tk_X10_isAllowed 23 rfl) ?_
        refine hQ _ _ ?_
        refine ⟨congrArg (fun z => some (am_i z)) ?_, rfl⟩
        unfold alw
        rw [if_pos h5, decide_eq_false (by omega)]; rfl
      · refine am_iconst (q := 20) (n := 1) (by decide) (am_tab tk_X10_isAllowed 10 rfl) rfl ?_
        refine am_goto (t := 43) (am_tab tk_X10_isAllowed 11 rfl) (by decide) ?_
        refine am_iret (Or.inr ⟨rfl, by first | exact Or.inl rfl | exact Or.inr rfl | omega⟩) (Nat.le_of_ble_eq_true rfl) (Nat.le_of_ble_eq_true rfl) (am_tab tk_X10_isAllowed 23 rfl) ?_
        refine hQ _ _ ?_
        refine ⟨congrArg (fun z => some (am_i z)) ?_, rfl⟩
        unfold alw
        rw [if_pos h5, decide_eq_true (by omega)]; rfl
theorem c_X10_qWordOf (b : Nat → Int) (E i : Nat) (S : am_H) (hZ : ZS b E i S) (f : Int) (t : Int) (tk : Int) (ht : S.2.1 55 53 = tk) (htr : 0 ≤ tk ∧ tk ≤ 2) : am_met M_X10_qWordOf [am_r 55, am_i f, am_i t] S (fun r σ' => r = some (am_i (wof tk (zK b E i) f t)) ∧ σ' = am_setN S 55 2 (zP b E i : Int)) := by
  refine am_qq (fun Q hQ => ?_)
  refine am_enter (show plainFor yX10_qWordOf = true by decide +kernel) rfl (Nat.le_of_ble_eq_true rfl) (fun _ _ _ => trivial) ?_
  have hL := hZ.1
  refine am_aload_n (q := 1) rfl (am_tab tk_X10_qWordOf 0 rfl) rfl ?_
  refine am_callV0 (q := 4) (me2 := M_X10_qWordHere) (b := 55) (kb := 10) (nb := 108) (As := []) (rest := []) (out := [am_i (pwI (zK b E i))]) (c_X10_qWordHere b E i S hZ) ⟨rfl, rfl⟩ (Ls_55 hL) (by decide) ⟨Or.inl km_X10_594, kc_X10_qWordHere, kn_X10, kd_X10_qWordHere, ⟨(Nat.le_of_ble_eq_true rfl), (Nat.le_of_ble_eq_true rfl)⟩, ⟨(Nat.le_of_ble_eq_true rfl), (Nat.le_of_ble_eq_true rfl)⟩, (Nat.le_of_ble_eq_true rfl)⟩ ki_X10_qWordHere ks_X10_qWordHere rfl rfl (am_tab tk_X10_qWordOf 1 rfl) rfl ?_
  refine am_istore_n (q := 5) (by decide) (ls2 := [(3, am_i (pwI (zK b E i))), (0, am_r 55), (1, am_i f), (2, am_i t)]) rfl (am_tab tk_X10_qWordOf 2 rfl) rfl ?_
  refine am_iload_n (q := 6) rfl (am_tab tk_X10_qWordOf 3 rfl) rfl ?_
  refine am_iload_n (q := 7) rfl (am_tab tk_X10_qWordOf 4 rfl) rfl ?_
  refine am_icmp_lt (q := 10) (t := 27) (am_tab tk_X10_qWordOf 5 rfl) (by decide) rfl (fun h7 => ?_) (fun h7 => ?_)
  · refine am_iconst (q := 28) (n := (-1)) (by decide) (am_tab tk_X10_qWordOf 15 rfl) rfl ?_
    refine am_iret (Or.inl rfl) (Nat.le_of_ble_eq_true rfl) (Nat.le_of_ble_eq_true rfl) (am_tab tk_X10_qWordOf 16 rfl) ?_
    refine hQ _ _ ?_
    refine ⟨congrArg (fun z => some (am_i z)) ?_, rfl⟩
    unfold wof
    rw [if_neg (by intro hx; first | (exfalso; omega) | (rw [hx.2.2] at h20; exact absurd h20 (by decide)))]
  · refine am_iload_n (q := 11) rfl (am_tab tk_X10_qWordOf 6 rfl) rfl ?_
    refine am_iload_n (q := 12) rfl (am_tab tk_X10_qWordOf 7 rfl) rfl ?_
    refine am_icmp_ge (q := 15) (t := 27) (am_tab tk_X10_qWordOf 8 rfl) (by decide) rfl (fun h12 => ?_) (fun h12 => ?_)
    · refine am_iconst (q := 28) (n := (-1)) (by decide) (am_tab tk_X10_qWordOf 15 rfl) rfl ?_
      refine am_iret (Or.inl rfl) (Nat.le_of_ble_eq_true rfl) (Nat.le_of_ble_eq_true rfl) (am_tab tk_X10_qWordOf 16 rfl) ?_
      refine hQ _ _ ?_
      refine ⟨congrArg (fun z => some (am_i z)) ?_, rfl⟩
      unfold wof
      rw [if_neg (by intro hx; first | (exfalso; omega) | (rw [hx.2.2] at h20; exact absurd h20 (by decide)))]
    · refine am_aload_n (q := 16) rfl (am_tab tk_X10_qWordOf 9 rfl) rfl ?_
      refine am_iload_n (q := 17) rfl (am_tab tk_X10_qWordOf 10 rfl) rfl ?_
      refine am_callV0 (q := 20) (me2 := M_X10_isAllowed) (b := 55) (kb := 10) (nb := 108) (As := [am_i (pwI (zK b E i))]) (rest := []) (out := [am_i (b2i (alw tk (pwI (zK b E i))))]) (c_X10_isAllowed (am_setN S 55 2 (zP b E i : Int)) hL (pwI (zK b E i)) tk ht htr) ⟨rfl, rfl⟩ (Ls_55 hL) (by decide) ⟨Or.inl km_X10_597, kc_X10_isAllowed, kn_X10, kd_X10_isAllowed, ⟨(Nat.le_of_ble_eq_true rfl), (Nat.le_of_ble_eq_true rfl)⟩, ⟨(Nat.le_of_ble_eq_true rfl), (Nat.le_of_ble_eq_true rfl)⟩, (Nat.le_of_ble_eq_true rfl)⟩ ki_X10_isAllowed ks_X10_isAllowed rfl rfl (am_tab tk_X10_qWordOf 11 rfl) rfl ?_
      refine am_if_eq (q := 23) (t := 27) (am_tab tk_X10_qWordOf 12 rfl) (by decide) rfl (fun h20 => ?_) (fun h20 => ?_)
      · refine am_iconst (q := 28) (n := (-1)) (by decide) (am_tab tk_X10_qWordOf 15 rfl) rfl ?_
        refine am_iret (Or.inl rfl) (Nat.le_of_ble_eq_true rfl) (Nat.le_of_ble_eq_true rfl) (am_tab tk_X10_qWordOf 16 rfl) ?_
        refine hQ _ _ ?_
        refine ⟨congrArg (fun z => some (am_i z)) ?_, rfl⟩
        unfold wof
        rw [if_neg (by intro hx; first | (exfalso; omega) | (rw [hx.2.2] at h20; exact absurd h20 (by decide)))]
      · refine am_iload_n (q := 24) rfl (am_tab tk_X10_qWordOf 13 rfl) rfl ?_
        refine am_goto (t := 28) (am_tab tk_X10_qWordOf 14 rfl) (by decide) ?_
        refine am_iret (Or.inl rfl) (Nat.le_of_ble_eq_true rfl) (Nat.le_of_ble_eq_true rfl) (am_tab tk_X10_qWordOf 16 rfl) ?_
        refine hQ _ _ ?_
        refine ⟨congrArg (fun z => some (am_i z)) ?_, rfl⟩
        unfold wof
        rw [if_pos ⟨by omega, by omega, b2t h20⟩]
