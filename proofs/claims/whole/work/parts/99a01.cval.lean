theorem okQ_cons {v : Int} {cs : List Int} {ts : List Bool} (h : okQ (v :: cs) ts = true) : ∃ t, ty1q ts v = some t ∧ t.length ≤ 60 ∧ okQ cs t = true := by
  unfold okQ at h
  split at h
  · rename_i t ht
    simp only [Bool.and_eq_true, decide_eq_true_eq] at h
    exact ⟨t, ht, h.1, h.2⟩
  · cases h
theorem ty1q_ao {v : Int} {ts t : List Bool} (h : ty1q ts v = some t) (hv : v = 10 ∨ v = 11) : ∃ t0, ts = true :: true :: t0 ∧ t = true :: t0 := by
  unfold ty1q at h
  rw [if_neg (by omega), if_neg (by omega)] at h
  unfold ty1 at h
  rw [if_neg (by omega), if_neg (by omega), if_neg (by omega)] at h
  split at h
  · rw [if_neg (by omega)] at h
    split at h
    · rw [if_pos hv] at h
      exact ⟨_, rfl, (Option.some.inj h).symm⟩
    · cases h
  · rw [if_neg (by omega), if_neg (by omega)] at h
    cases h
  · cases h
theorem pl_set {T : am_H} {a n m : Nat} {x : Int} (hm : m = n) : pl (fun k => (am_setN T a m x).2.1 a k) (n + 1) = x :: pl (fun k => T.2.1 a k) n := by
  rw [hm, ← pl_push (fun k => T.2.1 a k) n x]
  exact pl_eq _ (fun i _ => by show (if a = a ∧ i = n then x else T.2.1 a i) = _; simp)
def W_46 (a j : Nat) : Prop := a = 46
theorem sh1 {v : Int} {ts t : List Bool} (h : ty1q ts v = some t) (c : 1000 ≤ v) : v < 11000 ∧ t = false :: ts := by
  rcases ty1q_shape h with ⟨c1, c2, rfl⟩ | ⟨c1, t0, rfl, rfl⟩ | ⟨c1, c2, rfl⟩ | ⟨c1, rfl⟩ | ⟨c1, t0, rfl, rfl⟩ | ⟨c1, x, y, z, t0, rfl, rfl⟩
  · exact ⟨c2, rfl⟩
  all_goals omega
theorem sh2 {v : Int} {ts t : List Bool} (h : ty1q ts v = some t) (c : v = 60) : ∃ t0, ts = false :: t0 ∧ t = false :: t0 := by
  rcases ty1q_shape h with ⟨c1, c2, rfl⟩ | ⟨c1, t0, rfl, rfl⟩ | ⟨c1, c2, rfl⟩ | ⟨c1, rfl⟩ | ⟨c1, t0, rfl, rfl⟩ | ⟨c1, x, y, z, t0, rfl, rfl⟩
  · omega
  · exact ⟨t0, rfl, rfl⟩
  all_goals omega
theorem sh3 {v : Int} {ts t : List Bool} (h : ty1q ts v = some t) (c : 40 ≤ v ∧ v ≤ 50) : t = false :: ts := by
  rcases ty1q_shape h with ⟨c1, c2, rfl⟩ | ⟨c1, t0, rfl, rfl⟩ | ⟨c1, c2, rfl⟩ | ⟨c1, rfl⟩ | ⟨c1, t0, rfl, rfl⟩ | ⟨c1, x, y, z, t0, rfl, rfl⟩
  · omega
  · omega
  · rfl
  all_goals omega
theorem sh4 {v : Int} {ts t : List Bool} (h : ty1q ts v = some t) (c : v = 13) : t = true :: ts := by
  rcases ty1q_shape h with ⟨c1, c2, rfl⟩ | ⟨c1, t0, rfl, rfl⟩ | ⟨c1, c2, rfl⟩ | ⟨c1, rfl⟩ | ⟨c1, t0, rfl, rfl⟩ | ⟨c1, x, y, z, t0, rfl, rfl⟩
  · omega
  · omega
  · omega
  · rfl
  all_goals omega
theorem sh5 {v : Int} {ts t : List Bool} (h : ty1q ts v = some t) (c : v = 12) : ∃ t0, ts = true :: t0 ∧ t = true :: t0 := by
  rcases ty1q_shape h with ⟨c1, c2, rfl⟩ | ⟨c1, t0, rfl, rfl⟩ | ⟨c1, c2, rfl⟩ | ⟨c1, rfl⟩ | ⟨c1, t0, rfl, rfl⟩ | ⟨c1, x, y, z, t0, rfl, rfl⟩
  · omega
  · omega
  · omega
  · omega
  · exact ⟨t0, rfl, rfl⟩
  all_goals omega
theorem sh6 {v : Int} {ts t : List Bool} (h : ty1q ts v = some t) (c1 : ¬ 1000 ≤ v) (c2 : ¬ v = 60) (c3 : ¬ (40 ≤ v ∧ v ≤ 50)) (c4 : ¬ v = 13) (c5 : ¬ v = 12) : (1 ≤ v ∧ v ≤ 11) ∧ ∃ x y z t0, ts = x :: y :: t0 ∧ t = z :: t0 := by
  rcases ty1q_shape h with ⟨d1, d2, rfl⟩ | ⟨d1, t0, rfl, rfl⟩ | ⟨d1, d2, rfl⟩ | ⟨d1, rfl⟩ | ⟨d1, t0, rfl, rfl⟩ | ⟨d1, x, y, z, t0, rfl, rfl⟩
  · omega
  · omega
  · omega
  · omega
  · omega
  · exact ⟨d1, x, y, z, t0, rfl, rfl⟩
set_option maxRecDepth 100000 in
theorem c_X5_valueOf (σ : am_H) (hL : lay σ) (rr c m : Nat) (hrs : σ.1[rr]? = some (5, 2)) (hrc : σ.2.2 rr 0 = some c) (hr46 : ¬ rr = 46) (hcs : σ.1[c]? = some (11, m)) (hc46 : ¬ c = 46) (cs0 : List Int) (env of : Int → Int) (hsz : σ.2.1 rr 1 = (cs0.length : Int)) (hm : cs0.length ≤ m ∧ m < 2000000) (hcod : ∀ i, i < cs0.length → σ.2.1 c i = kap (cs0.getD i 0)) (hok0 : okQ cs0 [] = true) (henv : ∀ v ∈ cs0, 40 ≤ v → v ≤ 50 → σ.2.1 45 (rwP (v - 40)).toNat = clp (env (v - 40))) (hof : 60 ∈ cs0 → ∀ x : Int, -1000000 ≤ x → x ≤ 1000000 → (if 0 ≤ x ∧ x < 8 then ao_and (ao_shr (σ.2.1 45 33) x) 1 else 0) = clp (of x))   : am_met M_X5_valueOf [am_r rr, am_r 45, am_r 46] σ (fun r σ' => r = some (am_i ((evQ env of [] cs0).headD 0)) ∧ frw W_46 σ σ') := by
  refine am_qq (fun Q hQ => ?_)
  refine am_enter (show plainFor yX5_valueOf = true by decide +kernel) rfl (Nat.le_of_ble_eq_true rfl) (fun _ _ _ => trivial) ?_
  refine am_iconst (q := 1) (n := 0) (by decide) (am_tab tk_X5_valueOf 0 rfl) rfl ?_
  refine am_istore_n (q := 2) (by decide) (ls2 := [(3, am_i 0), (0, am_r rr), (1, am_r 45), (2, am_r 46)]) rfl (am_tab tk_X5_valueOf 1 rfl) rfl ?_
  refine am_iconst (q := 3) (n := 0) (by decide) (am_tab tk_X5_valueOf 2 rfl) rfl ?_
  refine am_istore (q := 5) (by decide) (ls2 := [(4, am_i 0), (3, am_i 0), (0, am_r rr), (1, am_r 45), (2, am_r 46)]) rfl (am_tab tk_X5_valueOf 3 rfl) rfl ?_
  have L5 : ∀ (n5 : Nat) (cs : List Int) (j : Nat) (ts : List Bool) (T : am_H), cs.length < n5 → frw W_46 σ T → j + cs.length = cs0.length → (∀ i, i < cs.length → σ.2.1 c (j + i) = kap (cs.getD i 0)) → (∀ v ∈ cs, v ∈ cs0) → ts.length ≤ 60 → tyOK ts (pl (fun k => T.2.1 46 k) ts.length) → okQ cs ts = true → evQ env of (pl (fun k => T.2.1 46 k) ts.length) cs = evQ env of [] cs0 → am_wp M_X5_valueOf Q 0 0 5 [(4, am_i ((j : Int))), (3, am_i ((ts.length : Int))), (0, am_r rr), (1, am_r 45), (2, am_r 46)] [] T := by
    intro n5
    induction n5 with
    | zero => intro cs j ts T hn5; exact absurd hn5 (Nat.not_lt_zero _)
    | succ n5 ih5 =>
      intro cs j ts T hn5 hF hj hc hin hlen hty hok hev
      have hL8 : lay T := hF.L hL
      refine am_iload (q := 7) rfl (am_tab tk_X5_valueOf 4 rfl) rfl ?_
      refine am_aload_n (q := 8) rfl (am_tab tk_X5_valueOf 5 rfl) rfl ?_
      refine am_getI (q := 11) (a := rr) (k := 5) (n := 2) (j := 1) (x := (cs0.length : Int)) (by rw [hF.1]; exact hrs) (by decide) rfl (by rw [hF.2.2 rr 1 (by unfold W_46; omega)]; exact hsz) (by decide) (Or.inl kf_X5_21) (am_tab tk_X5_valueOf 6 rfl) rfl ?_
      refine am_icmp_ge (q := 14) (t := 171) (am_tab tk_X5_valueOf 7 rfl) (by decide) rfl (fun h11 => ?_) (fun h11 => ?_)
      · have hcs0 : cs = [] := List.eq_nil_of_length_eq_zero (by omega)
        subst hcs0
        have hl1 : ts.length = 1 := by simpa [okQ] using hok
        refine am_iload_n (q := 172) rfl (am_tab tk_X5_valueOf 99 rfl) rfl ?_
        refine am_if_le (q := 175) (t := 181) (am_tab tk_X5_valueOf 100 rfl) (by decide) rfl (fun h172 => ?_) (fun h172 => ?_)
        · exact absurd h172 (by omega)
        · refine am_aload_n (q := 176) rfl (am_tab tk_X5_valueOf 101 rfl) rfl ?_
          refine am_iconst (q := 177) (n := 0) (by decide) (am_tab tk_X5_valueOf 102 rfl) rfl ?_
          refine am_iald (q := 178) (a := 46) (n := 64) (x := (T.2.1 46 0)) (Ls_46 hL8) (by omega) (by omega) rfl (am_tab tk_X5_valueOf 103 rfl) rfl ?_
          refine am_goto (t := 182) (am_tab tk_X5_valueOf 104 rfl) (by decide) ?_
          refine am_iret (Or.inl rfl) (Nat.le_of_ble_eq_true rfl) (Nat.le_of_ble_eq_true rfl) (am_tab tk_X5_valueOf 106 rfl) ?_
          refine hQ _ _ ?_
          rw [hl1] at hev
          refine ⟨congrArg (fun z => some (am_i z)) ?_, hF⟩
          rw [← hev]
          rfl
      · obtain ⟨v, t, rfl⟩ : ∃ v t, cs = v :: t := by
          cases cs with
          | nil => simp at hj; omega
          | cons v t => exact ⟨v, t, rfl⟩
        have hv : σ.2.1 c j = kap v := by have h9 := hc 0 (by simp); simpa using h9
        obtain ⟨t2, ht2, ht60, hok2⟩ := okQ_cons hok
        have h1 := ty1q_ok (env := env) (of := of) hty ht2
        have hjl : j + 1 + t.length = cs0.length := by simp at hj; omega
        refine am_aload_n (q := 15) rfl (am_tab tk_X5_valueOf 8 rfl) rfl ?_
        refine am_getR (q := 18) (a := rr) (k := 5) (n := 2) (j := 0) (r := some (c)) (by rw [hF.1]; exact hrs) (by decide) rfl (by rw [hF.2.1]; exact hrc) (by decide) (Or.inl kf_X5_15) (am_tab tk_X5_valueOf 9 rfl) rfl ?_
        refine am_iload (q := 20) rfl (am_tab tk_X5_valueOf 10 rfl) rfl ?_
        refine am_iald (q := 21) (a := c) (n := m) (x := (kap v)) (by rw [hF.1]; exact hcs) (by omega) (by omega) (by rw [show Int.toNat (j : Int) = j by omega, hF.2.2 c j (by unfold W_46; omega)]; exact hv) (am_tab tk_X5_valueOf 11 rfl) rfl ?_
        refine am_istore (q := 23) (by decide) (ls2 := [(5, am_i ((kap v))), (4, am_i ((j : Int))), (3, am_i ((ts.length : Int))), (0, am_r rr), (1, am_r 45), (2, am_r 46)]) rfl (am_tab tk_X5_valueOf 12 rfl) rfl ?_
        by_cases c1 : 1000 ≤ v
        · have hk : kap v = v - 1000 := by unfold kap; rw [if_pos c1]
          obtain ⟨hv9, rfl⟩ := sh1 ht2 c1
          have hl2 := hk
          refine am_iload (q := 25) rfl (am_tab tk_X5_valueOf 13 rfl) rfl ?_
          refine am_sipush (q := 28) (n := 20000) (by decide) rfl (am_tab tk_X5_valueOf 14 rfl) rfl ?_
          refine am_icmp_ge (q := 31) (t := 69) (am_tab tk_X5_valueOf 15 rfl) (by decide) rfl (fun h28 => ?_) (fun h28 => ?_)
          · exact absurd h28 (by omega)
          · refine am_iload_n (q := 32) rfl (am_tab tk_X5_valueOf 16 rfl) rfl ?_
            refine am_aload_n (q := 33) rfl (am_tab tk_X5_valueOf 17 rfl) rfl ?_
            refine am_alen (q := 34) (a := 46) (k := 11) (n := 64) (Ls_46 hL8) (by decide) (by decide) (am_tab tk_X5_valueOf 18 rfl) rfl ?_
            refine am_icmp_ge (q := 37) (t := 69) (am_tab tk_X5_valueOf 19 rfl) (by decide) rfl (fun h34 => ?_) (fun h34 => ?_)
            · exact absurd h34 (by omega)
            · refine am_aload_n (q := 38) rfl (am_tab tk_X5_valueOf 20 rfl) rfl ?_
              refine am_iload_n (q := 39) rfl (am_tab tk_X5_valueOf 21 rfl) rfl ?_
              refine am_iload (q := 41) rfl (am_tab tk_X5_valueOf 22 rfl) rfl ?_
              refine am_sipush (q := 44) (n := 10000) (by decide) rfl (am_tab tk_X5_valueOf 23 rfl) rfl ?_
              refine am_icmp_ge (q := 47) (t := 52) (am_tab tk_X5_valueOf 24 rfl) (by decide) rfl (fun h44 => ?_) (fun h44 => ?_)
              · exact absurd h44 (by omega)
              · refine am_iload (q := 49) rfl (am_tab tk_X5_valueOf 25 rfl) rfl ?_
                refine am_goto (t := 62) (am_tab tk_X5_valueOf 26 rfl) (by decide) ?_
                refine am_iast (q := 63) (a := 46) (n := 64) (Ls_46 hL8) (by omega) (by omega) (am_tab tk_X5_valueOf 32 rfl) rfl ?_
                refine am_iinc (q := 66) rfl (by omega) (by decide) (ls2 := [(3, am_i (((ts.length : Int) + 1))), (5, am_i ((kap v))), (4, am_i ((j : Int))), (0, am_r rr), (1, am_r 45), (2, am_r 46)]) rfl (am_tab tk_X5_valueOf 33 rfl) rfl ?_
                refine am_goto (t := 165) (am_tab tk_X5_valueOf 34 rfl) (by decide) ?_
                refine am_iinc (q := 168) rfl (by omega) (by decide) (ls2 := [(4, am_i (((j : Int) + 1))), (3, am_i (((ts.length : Int) + 1))), (5, am_i ((kap v))), (0, am_r rr), (1, am_r 45), (2, am_r 46)]) rfl (am_tab tk_X5_valueOf 97 rfl) rfl ?_
                refine am_goto (t := 5) (am_tab tk_X5_valueOf 98 rfl) (by decide) ?_
                have hpl : pl (fun k => (am_setN T 46 (Int.toNat (ts.length : Int)) (kap v)).2.1 46 k) (false :: ts).length = ev1q env of (pl (fun k => T.2.1 46 k) ts.length) v := by
                  rw [List.length_cons, pl_set (by omega)]
                  unfold ev1q
                  rw [if_neg (by omega), if_neg (by omega)]
                  unfold ev1
                  rw [if_pos c1, hk]
                exact am_less (by intro q hq; simp only [List.mem_cons, List.not_mem_nil, or_false] at hq; rcases hq with rfl | rfl | rfl | rfl | rfl <;> simp [hl2] <;> omega) (ih5 t (j + 1) (false :: ts) (am_setN T 46 (Int.toNat (ts.length : Int)) (kap v)) (by have h9 := hn5; simp only [List.length_cons] at h9; omega) (hF.setN (by unfold W_46; omega)) hjl (fun i hi => by rw [show j + 1 + i = j + (i + 1) by omega]; exact hc (i + 1) (by simp; omega)) (fun v2 hv2 => hin v2 (List.mem_cons_of_mem _ hv2)) ht60 (by rw [hpl]; exact h1) hok2 (by rw [hpl]; exact hev))
        · by_cases c2 : v = 60
          · have hk : kap v = 20148 := by rw [c2]; rfl
            obtain ⟨t0, hts, rfl⟩ := sh2 ht2 c2
            have hl : ts.length = t0.length + 1 := by rw [hts]; rfl
            have hl2 : (ts.length : Int) = (t0.length : Int) + 1 := by omega
            refine am_iload (q := 25) rfl (am_tab tk_X5_valueOf 13 rfl) rfl ?_
            refine am_sipush (q := 28) (n := 20000) (by decide) rfl (am_tab tk_X5_valueOf 14 rfl) rfl ?_
            refine am_icmp_ge (q := 31) (t := 69) (am_tab tk_X5_valueOf 15 rfl) (by decide) rfl (fun h28 => ?_) (fun h28 => ?_)
            · refine am_iload (q := 71) rfl (am_tab tk_X5_valueOf 35 rfl) rfl ?_
              refine am_sipush (q := 74) (n := 20151) (by decide) rfl (am_tab tk_X5_valueOf 36 rfl) rfl ?_
              refine am_icmp_ne (q := 77) (t := 97) (am_tab tk_X5_valueOf 37 rfl) (by decide) rfl (fun h74 => ?_) (fun h74 => ?_)
              · refine am_iload (q := 99) rfl (am_tab tk_X5_valueOf 54 rfl) rfl ?_
                refine am_sipush (q := 102) (n := 20148) (by decide) rfl (am_tab tk_X5_valueOf 55 rfl) rfl ?_
                refine am_icmp_ne (q := 105) (t := 127) (am_tab tk_X5_valueOf 56 rfl) (by decide) rfl (fun h102 => ?_) (fun h102 => ?_)
                · exact absurd h102 (by omega)
                · refine am_iload_n (q := 106) rfl (am_tab tk_X5_valueOf 57 rfl) rfl ?_
                  refine am_iconst (q := 107) (n := 1) (by decide) (am_tab tk_X5_valueOf 58 rfl) rfl ?_
                  refine am_icmp_lt (q := 110) (t := 127) (am_tab tk_X5_valueOf 59 rfl) (by decide) rfl (fun h107 => ?_) (fun h107 => ?_)
                  · exact absurd h107 (by omega)
                  · refine am_aload_n (q := 111) rfl (am_tab tk_X5_valueOf 60 rfl) rfl ?_
                    refine am_iload_n (q := 112) rfl (am_tab tk_X5_valueOf 61 rfl) rfl ?_
                    refine am_iconst (q := 113) (n := 1) (by decide) (am_tab tk_X5_valueOf 62 rfl) rfl ?_
                    refine am_isub (q := 114) (by omega) (am_tab tk_X5_valueOf 63 rfl) rfl ?_
                    refine am_aload_n (q := 115) rfl (am_tab tk_X5_valueOf 64 rfl) rfl ?_
                    refine am_iload_n (q := 116) rfl (am_tab tk_X5_valueOf 65 rfl) rfl ?_
                    refine am_iconst (q := 117) (n := 1) (by decide) (am_tab tk_X5_valueOf 66 rfl) rfl ?_
                    refine am_isub (q := 118) (by omega) (am_tab tk_X5_valueOf 67 rfl) rfl ?_
                    refine am_iald (q := 119) (a := 46) (n := 64) (x := (T.2.1 46 t0.length)) (Ls_46 hL8) (by omega) (by omega) (by rw [show Int.toNat ((ts.length : Int) - 1) = t0.length by omega]) (am_tab tk_X5_valueOf 68 rfl) rfl ?_
                    have hty2 := hty
                    rw [hl, hts] at hty2
                    have hb9 := vOK_r (show vOK false (T.2.1 46 t0.length) from hty2.1)
                    refine am_aload_n (q := 120) rfl (am_tab tk_X5_valueOf 69 rfl) rfl ?_
                    refine am_callSr (q := 123) (me2 := M_X5_isRemindedBy) (As := [am_i ((T.2.1 46 t0.length)), am_r 45]) (rest := [am_i (((ts.length : Int) - 1)), am_r 46]) (c_X5_isRemindedBy T hL8 (T.2.1 46 t0.length)) ⟨rfl, rfl⟩ ⟨Or.inl km_X5_35, kc_X5_isRemindedBy, kn_X5, kd_X5_isRemindedBy, ⟨(Nat.le_of_ble_eq_true rfl), (Nat.le_of_ble_eq_true rfl)⟩, ⟨(Nat.le_of_ble_eq_true rfl), (Nat.le_of_ble_eq_true rfl)⟩, (Nat.le_of_ble_eq_true rfl)⟩ ki_X5_isRemindedBy rfl (am_tab tk_X5_valueOf 70 rfl) rfl ?_
                    rintro r τ ⟨hr9, hτ⟩
                    rw [hF.2.2 45 33 (by unfold W_46; omega), hof (by have h9 := hin v (List.mem_cons_self ..); rw [c2] at h9; exact h9) _ hb9.1 hb9.2] at hr9
                    rw [hr9, hτ]
                    refine am_st (st2 := [am_i ((clp (of (T.2.1 46 t0.length)))), am_i (((ts.length : Int) - 1)), am_r 46]) rfl ?_
                    refine am_iast (q := 124) (a := 46) (n := 64) (Ls_46 hL8) (by omega) (by omega) (am_tab tk_X5_valueOf 71 rfl) rfl ?_
                    refine am_goto (t := 165) (am_tab tk_X5_valueOf 72 rfl) (by decide) ?_
                    refine am_iinc (q := 168) rfl (by omega) (by decide) (ls2 := [(4, am_i (((j : Int) + 1))), (5, am_i ((kap v))), (3, am_i ((ts.length : Int))), (0, am_r rr), (1, am_r 45), (2, am_r 46)]) rfl (am_tab tk_X5_valueOf 97 rfl) rfl ?_
                    refine am_goto (t := 5) (am_tab tk_X5_valueOf 98 rfl) (by decide) ?_
                    have hpl : pl (fun k => (am_setN T 46 (Int.toNat ((ts.length : Int) - 1)) (clp (of (T.2.1 46 t0.length)))).2.1 46 k) (false :: t0).length = ev1q env of (pl (fun k => T.2.1 46 k) ts.length) v := by
                      rw [List.length_cons, pl_set (by omega), hl]
                      show _ = ev1q env of (T.2.1 46 t0.length :: pl (fun k => T.2.1 46 k) t0.length) v
                      unfold ev1q
                      rw [if_pos (by omega)]
                    exact am_less (by intro q hq; simp only [List.mem_cons, List.not_mem_nil, or_false] at hq; rcases hq with rfl | rfl | rfl | rfl | rfl <;> simp [hl2] <;> omega) (ih5 t (j + 1) (false :: t0) (am_setN T 46 (Int.toNat ((ts.length : Int) - 1)) (clp (of (T.2.1 46 t0.length)))) (by have h9 := hn5; simp only [List.length_cons] at h9; omega) (hF.setN (by unfold W_46; omega)) hjl (fun i hi => by rw [show j + 1 + i = j + (i + 1) by omega]; exact hc (i + 1) (by simp; omega)) (fun v2 hv2 => hin v2 (List.mem_cons_of_mem _ hv2)) ht60 (by rw [hpl]; exact h1) hok2 (by rw [hpl]; exact hev))
              · exact absurd h74 (by omega)
            · exact absurd h28 (by omega)
          · by_cases c3 : 40 ≤ v ∧ v ≤ 50
            · have hk : kap v = 10000 + rwP (v - 40) := by unfold kap; rw [if_neg (by omega), if_neg (by omega), if_neg (by omega), if_pos (by omega)]
              have hrw := rwP_rng (v - 40)
              have ht3 := sh3 ht2 c3
              subst ht3
              have hl2 := hk
              refine am_iload (q := 25) rfl (am_tab tk_X5_valueOf 13 rfl) rfl ?_
              refine am_sipush (q := 28) (n := 20000) (by decide) rfl (am_tab tk_X5_valueOf 14 rfl) rfl ?_
              refine am_icmp_ge (q := 31) (t := 69) (am_tab tk_X5_valueOf 15 rfl) (by decide) rfl (fun h28 => ?_) (fun h28 => ?_)
              · exact absurd h28 (by omega)
              · refine am_iload_n (q := 32) rfl (am_tab tk_X5_valueOf 16 rfl) rfl ?_
                refine am_aload_n (q := 33) rfl (am_tab tk_X5_valueOf 17 rfl) rfl ?_
                refine am_alen (q := 34) (a := 46) (k := 11) (n := 64) (Ls_46 hL8) (by decide) (by decide) (am_tab tk_X5_valueOf 18 rfl) rfl ?_
                refine am_icmp_ge (q := 37) (t := 69) (am_tab tk_X5_valueOf 19 rfl) (by decide) rfl (fun h34 => ?_) (fun h34 => ?_)
                · exact absurd h34 (by omega)
                · refine am_aload_n (q := 38) rfl (am_tab tk_X5_valueOf 20 rfl) rfl ?_
                  refine am_iload_n (q := 39) rfl (am_tab tk_X5_valueOf 21 rfl) rfl ?_
                  refine am_iload (q := 41) rfl (am_tab tk_X5_valueOf 22 rfl) rfl ?_
                  refine am_sipush (q := 44) (n := 10000) (by decide) rfl (am_tab tk_X5_valueOf 23 rfl) rfl ?_
                  refine am_icmp_ge (q := 47) (t := 52) (am_tab tk_X5_valueOf 24 rfl) (by decide) rfl (fun h44 => ?_) (fun h44 => ?_)
                  · refine am_aload_n (q := 53) rfl (am_tab tk_X5_valueOf 27 rfl) rfl ?_
                    refine am_iload (q := 55) rfl (am_tab tk_X5_valueOf 28 rfl) rfl ?_
                    refine am_sipush (q := 58) (n := 10000) (by decide) rfl (am_tab tk_X5_valueOf 29 rfl) rfl ?_
                    refine am_isub (q := 59) (by omega) (am_tab tk_X5_valueOf 30 rfl) rfl ?_
                    refine am_callSr (q := 62) (me2 := M_X5_partAt) (As := [am_r 45, am_i (((kap v) - 10000))]) (rest := [am_i ((ts.length : Int)), am_r 46]) (c_X5_partAt T hL8 ((kap v) - 10000) (by omega)) ⟨rfl, rfl⟩ ⟨Or.inl km_X5_31, kc_X5_partAt, kn_X5, kd_X5_partAt, ⟨(Nat.le_of_ble_eq_true rfl), (Nat.le_of_ble_eq_true rfl)⟩, ⟨(Nat.le_of_ble_eq_true rfl), (Nat.le_of_ble_eq_true rfl)⟩, (Nat.le_of_ble_eq_true rfl)⟩ ki_X5_partAt rfl (am_tab tk_X5_valueOf 31 rfl) rfl ?_
                    rintro r τ ⟨hr9, hτ⟩
                    rw [show kap v - 10000 = rwP (v - 40) by omega, hF.2.2 45 _ (by unfold W_46; omega)] at hr9
                    rw [hr9, hτ]
                    refine am_st (st2 := [am_i ((σ.2.1 45 (rwP (v - 40)).toNat)), am_i ((ts.length : Int)), am_r 46]) rfl ?_
                    refine am_iast (q := 63) (a := 46) (n := 64) (Ls_46 hL8) (by omega) (by omega) (am_tab tk_X5_valueOf 32 rfl) rfl ?_
                    refine am_iinc (q := 66) rfl (by omega) (by decide) (ls2 := [(3, am_i (((ts.length : Int) + 1))), (5, am_i ((kap v))), (4, am_i ((j : Int))), (0, am_r rr), (1, am_r 45), (2, am_r 46)]) rfl (am_tab tk_X5_valueOf 33 rfl) rfl ?_
                    refine am_goto (t := 165) (am_tab tk_X5_valueOf 34 rfl) (by decide) ?_
                    refine am_iinc (q := 168) rfl (by omega) (by decide) (ls2 := [(4, am_i (((j : Int) + 1))), (3, am_i (((ts.length : Int) + 1))), (5, am_i ((kap v))), (0, am_r rr), (1, am_r 45), (2, am_r 46)]) rfl (am_tab tk_X5_valueOf 97 rfl) rfl ?_
                    refine am_goto (t := 5) (am_tab tk_X5_valueOf 98 rfl) (by decide) ?_
                    have hpl : pl (fun k => (am_setN T 46 (Int.toNat (ts.length : Int)) (σ.2.1 45 (rwP (v - 40)).toNat)).2.1 46 k) (false :: ts).length = ev1q env of (pl (fun k => T.2.1 46 k) ts.length) v := by
                      rw [List.length_cons, pl_set (by omega)]
                      unfold ev1q
                      rw [if_neg (by omega), if_pos (by omega), henv v (hin v (List.mem_cons_self ..)) c3.1 c3.2]
                    exact am_less (by intro q hq; simp only [List.mem_cons, List.not_mem_nil, or_false] at hq; rcases hq with rfl | rfl | rfl | rfl | rfl <;> simp [hl2] <;> omega) (ih5 t (j + 1) (false :: ts) (am_setN T 46 (Int.toNat (ts.length : Int)) (σ.2.1 45 (rwP (v - 40)).toNat)) (by have h9 := hn5; simp only [List.length_cons] at h9; omega) (hF.setN (by unfold W_46; omega)) hjl (fun i hi => by rw [show j + 1 + i = j + (i + 1) by omega]; exact hc (i + 1) (by simp; omega)) (fun v2 hv2 => hin v2 (List.mem_cons_of_mem _ hv2)) ht60 (by rw [hpl]; exact h1) hok2 (by rw [hpl]; exact hev))
                  · exact absurd h44 (by omega)
            · by_cases c4 : v = 13
              · have hk : kap v = 1 := by rw [c4]; rfl
                have ht3 := sh4 ht2 c4
                subst ht3
                have hl2 := hk
                refine am_iload (q := 25) rfl (am_tab tk_X5_valueOf 13 rfl) rfl ?_
                refine am_sipush (q := 28) (n := 20000) (by decide) rfl (am_tab tk_X5_valueOf 14 rfl) rfl ?_
                refine am_icmp_ge (q := 31) (t := 69) (am_tab tk_X5_valueOf 15 rfl) (by decide) rfl (fun h28 => ?_) (fun h28 => ?_)
                · exact absurd h28 (by omega)
                · refine am_iload_n (q := 32) rfl (am_tab tk_X5_valueOf 16 rfl) rfl ?_
                  refine am_aload_n (q := 33) rfl (am_tab tk_X5_valueOf 17 rfl) rfl ?_
                  refine am_alen (q := 34) (a := 46) (k := 11) (n := 64) (Ls_46 hL8) (by decide) (by decide) (am_tab tk_X5_valueOf 18 rfl) rfl ?_
                  refine am_icmp_ge (q := 37) (t := 69) (am_tab tk_X5_valueOf 19 rfl) (by decide) rfl (fun h34 => ?_) (fun h34 => ?_)
                  · exact absurd h34 (by omega)
                  · refine am_aload_n (q := 38) rfl (am_tab tk_X5_valueOf 20 rfl) rfl ?_
                    refine am_iload_n (q := 39) rfl (am_tab tk_X5_valueOf 21 rfl) rfl ?_
                    refine am_iload (q := 41) rfl (am_tab tk_X5_valueOf 22 rfl) rfl ?_
                    refine am_sipush (q := 44) (n := 10000) (by decide) rfl (am_tab tk_X5_valueOf 23 rfl) rfl ?_
                    refine am_icmp_ge (q := 47) (t := 52) (am_tab tk_X5_valueOf 24 rfl) (by decide) rfl (fun h44 => ?_) (fun h44 => ?_)
                    · exact absurd h44 (by omega)
                    · refine am_iload (q := 49) rfl (am_tab tk_X5_valueOf 25 rfl) rfl ?_
                      refine am_goto (t := 62) (am_tab tk_X5_valueOf 26 rfl) (by decide) ?_
                      refine am_iast (q := 63) (a := 46) (n := 64) (Ls_46 hL8) (by omega) (by omega) (am_tab tk_X5_valueOf 32 rfl) rfl ?_
                      refine am_iinc (q := 66) rfl (by omega) (by decide) (ls2 := [(3, am_i (((ts.length : Int) + 1))), (5, am_i ((kap v))), (4, am_i ((j : Int))), (0, am_r rr), (1, am_r 45), (2, am_r 46)]) rfl (am_tab tk_X5_valueOf 33 rfl) rfl ?_
                      refine am_goto (t := 165) (am_tab tk_X5_valueOf 34 rfl) (by decide) ?_
                      refine am_iinc (q := 168) rfl (by omega) (by decide) (ls2 := [(4, am_i (((j : Int) + 1))), (3, am_i (((ts.length : Int) + 1))), (5, am_i ((kap v))), (0, am_r rr), (1, am_r 45), (2, am_r 46)]) rfl (am_tab tk_X5_valueOf 97 rfl) rfl ?_
                      refine am_goto (t := 5) (am_tab tk_X5_valueOf 98 rfl) (by decide) ?_
                      have hpl : pl (fun k => (am_setN T 46 (Int.toNat (ts.length : Int)) (kap v)).2.1 46 k) (true :: ts).length = ev1q env of (pl (fun k => T.2.1 46 k) ts.length) v := by
                        rw [List.length_cons, pl_set (by omega)]
                        unfold ev1q
                        rw [if_neg (by omega), if_neg (by omega)]
                        unfold ev1
                        rw [if_neg (by omega), if_neg (by omega), if_pos c4, hk]
                      exact am_less (by intro q hq; simp only [List.mem_cons, List.not_mem_nil, or_false] at hq; rcases hq with rfl | rfl | rfl | rfl | rfl <;> simp [hl2] <;> omega) (ih5 t (j + 1) (true :: ts) (am_setN T 46 (Int.toNat (ts.length : Int)) (kap v)) (by have h9 := hn5; simp only [List.length_cons] at h9; omega) (hF.setN (by unfold W_46; omega)) hjl (fun i hi => by rw [show j + 1 + i = j + (i + 1) by omega]; exact hc (i + 1) (by simp; omega)) (fun v2 hv2 => hin v2 (List.mem_cons_of_mem _ hv2)) ht60 (by rw [hpl]; exact h1) hok2 (by rw [hpl]; exact hev))
              · by_cases c5 : v = 12
                · have hk : kap v = 20151 := by rw [c5]; rfl
                  obtain ⟨t0, hts, rfl⟩ := sh5 ht2 c5
                  have hl : ts.length = t0.length + 1 := by rw [hts]; rfl
                  have hty2 := hty
                  rw [hl, hts] at hty2
                  have hb5 := vOK_r (show vOK true (T.2.1 46 t0.length) from hty2.1)
                  have hl2 : (ts.length : Int) = (t0.length : Int) + 1 := by omega
                  refine am_iload (q := 25) rfl (am_tab tk_X5_valueOf 13 rfl) rfl ?_
                  refine am_sipush (q := 28) (n := 20000) (by decide) rfl (am_tab tk_X5_valueOf 14 rfl) rfl ?_
                  refine am_icmp_ge (q := 31) (t := 69) (am_tab tk_X5_valueOf 15 rfl) (by decide) rfl (fun h28 => ?_) (fun h28 => ?_)
                  · refine am_iload (q := 71) rfl (am_tab tk_X5_valueOf 35 rfl) rfl ?_
                    refine am_sipush (q := 74) (n := 20151) (by decide) rfl (am_tab tk_X5_valueOf 36 rfl) rfl ?_
                    refine am_icmp_ne (q := 77) (t := 97) (am_tab tk_X5_valueOf 37 rfl) (by decide) rfl (fun h74 => ?_) (fun h74 => ?_)
                    · exact absurd h74 (by omega)
                    · refine am_iload_n (q := 78) rfl (am_tab tk_X5_valueOf 38 rfl) rfl ?_
                      refine am_iconst (q := 79) (n := 1) (by decide) (am_tab tk_X5_valueOf 39 rfl) rfl ?_
                      refine am_icmp_lt (q := 82) (t := 97) (am_tab tk_X5_valueOf 40 rfl) (by decide) rfl (fun h79 => ?_) (fun h79 => ?_)
                      · exact absurd h79 (by omega)
                      · refine am_aload_n (q := 83) rfl (am_tab tk_X5_valueOf 41 rfl) rfl ?_
                        refine am_iload_n (q := 84) rfl (am_tab tk_X5_valueOf 42 rfl) rfl ?_
                        refine am_iconst (q := 85) (n := 1) (by decide) (am_tab tk_X5_valueOf 43 rfl) rfl ?_
                        refine am_isub (q := 86) (by omega) (am_tab tk_X5_valueOf 44 rfl) rfl ?_
                        refine am_iconst (q := 87) (n := 1) (by decide) (am_tab tk_X5_valueOf 45 rfl) rfl ?_
                        refine am_aload_n (q := 88) rfl (am_tab tk_X5_valueOf 46 rfl) rfl ?_
                        refine am_iload_n (q := 89) rfl (am_tab tk_X5_valueOf 47 rfl) rfl ?_
                        refine am_iconst (q := 90) (n := 1) (by decide) (am_tab tk_X5_valueOf 48 rfl) rfl ?_
                        refine am_isub (q := 91) (by omega) (am_tab tk_X5_valueOf 49 rfl) rfl ?_
                        refine am_iald (q := 92) (a := 46) (n := 64) (x := (T.2.1 46 t0.length)) (Ls_46 hL8) (by omega) (by omega) (by rw [show Int.toNat ((ts.length : Int) - 1) = t0.length by omega]) (am_tab tk_X5_valueOf 50 rfl) rfl ?_
                        refine am_isub (q := 93) (by omega) (am_tab tk_X5_valueOf 51 rfl) rfl ?_
                        refine am_iast (q := 94) (a := 46) (n := 64) (Ls_46 hL8) (by omega) (by omega) (am_tab tk_X5_valueOf 52 rfl) rfl ?_
                        refine am_goto (t := 165) (am_tab tk_X5_valueOf 53 rfl) (by decide) ?_
                        refine am_iinc (q := 168) rfl (by omega) (by decide) (ls2 := [(4, am_i (((j : Int) + 1))), (5, am_i ((kap v))), (3, am_i ((ts.length : Int))), (0, am_r rr), (1, am_r 45), (2, am_r 46)]) rfl (am_tab tk_X5_valueOf 97 rfl) rfl ?_
                        refine am_goto (t := 5) (am_tab tk_X5_valueOf 98 rfl) (by decide) ?_
                        have hpl : pl (fun k => (am_setN T 46 (Int.toNat ((ts.length : Int) - 1)) (1 - (T.2.1 46 t0.length))).2.1 46 k) (true :: t0).length = ev1q env of (pl (fun k => T.2.1 46 k) ts.length) v := by
                          rw [List.length_cons, pl_set (by omega), hl]
                          show _ = ev1q env of (T.2.1 46 t0.length :: pl (fun k => T.2.1 46 k) t0.length) v
                          unfold ev1q
                          rw [if_neg (by omega), if_neg (by omega)]
                          unfold ev1
                          rw [if_neg (by omega), if_neg (by omega), if_neg (by omega)]
                          simp only [c5, if_true]
                        exact am_less (by intro q hq; simp only [List.mem_cons, List.not_mem_nil, or_false] at hq; rcases hq with rfl | rfl | rfl | rfl | rfl <;> simp [hl2] <;> omega) (ih5 t (j + 1) (true :: t0) (am_setN T 46 (Int.toNat ((ts.length : Int) - 1)) (1 - (T.2.1 46 t0.length))) (by have h9 := hn5; simp only [List.length_cons] at h9; omega) (hF.setN (by unfold W_46; omega)) hjl (fun i hi => by rw [show j + 1 + i = j + (i + 1) by omega]; exact hc (i + 1) (by simp; omega)) (fun v2 hv2 => hin v2 (List.mem_cons_of_mem _ hv2)) ht60 (by rw [hpl]; exact h1) hok2 (by rw [hpl]; exact hev))
                  · exact absurd h28 (by omega)
                · obtain ⟨hvr, x, y, z, t0, hts, rfl⟩ := sh6 ht2 c1 c2 c3 c4 c5
                  have hk : kap v = 20000 + dd v := by unfold kap; rw [if_neg c1, if_neg c4, if_neg c2, if_neg (by omega)]
                  have hdm := dd_mem hvr
                  have hdr := dd_rng v
                  have hl : ts.length = t0.length + 2 := by rw [hts]; rfl
                  have hty2 := hty
                  rw [hl, hts] at hty2
                  have hb9 := vOK_r (show vOK x (T.2.1 46 (t0.length + 1)) from hty2.1)
                  have ha9 := vOK_r (show vOK y (T.2.1 46 t0.length) from hty2.2.1)
                  have hl2 : (ts.length : Int) = (t0.length : Int) + 2 := by omega
                  refine am_iload (q := 25) rfl (am_tab tk_X5_valueOf 13 rfl) rfl ?_
                  refine am_sipush (q := 28) (n := 20000) (by decide) rfl (am_tab tk_X5_valueOf 14 rfl) rfl ?_
                  refine am_icmp_ge (q := 31) (t := 69) (am_tab tk_X5_valueOf 15 rfl) (by decide) rfl (fun h28 => ?_) (fun h28 => ?_)
                  · refine am_iload (q := 71) rfl (am_tab tk_X5_valueOf 35 rfl) rfl ?_
                    refine am_sipush (q := 74) (n := 20151) (by decide) rfl (am_tab tk_X5_valueOf 36 rfl) rfl ?_
                    refine am_icmp_ne (q := 77) (t := 97) (am_tab tk_X5_valueOf 37 rfl) (by decide) rfl (fun h74 => ?_) (fun h74 => ?_)
                    · refine am_iload (q := 99) rfl (am_tab tk_X5_valueOf 54 rfl) rfl ?_
                      refine am_sipush (q := 102) (n := 20148) (by decide) rfl (am_tab tk_X5_valueOf 55 rfl) rfl ?_
                      refine am_icmp_ne (q := 105) (t := 127) (am_tab tk_X5_valueOf 56 rfl) (by decide) rfl (fun h102 => ?_) (fun h102 => ?_)
                      · refine am_iload (q := 129) rfl (am_tab tk_X5_valueOf 73 rfl) rfl ?_
                        refine am_sipush (q := 132) (n := 20000) (by decide) rfl (am_tab tk_X5_valueOf 74 rfl) rfl ?_
                        refine am_icmp_lt (q := 135) (t := 165) (am_tab tk_X5_valueOf 75 rfl) (by decide) rfl (fun h132 => ?_) (fun h132 => ?_)
                        · exact absurd h132 (by omega)
                        · refine am_iload_n (q := 136) rfl (am_tab tk_X5_valueOf 76 rfl) rfl ?_
                          refine am_iconst (q := 137) (n := 2) (by decide) (am_tab tk_X5_valueOf 77 rfl) rfl ?_
                          refine am_icmp_lt (q := 140) (t := 165) (am_tab tk_X5_valueOf 78 rfl) (by decide) rfl (fun h137 => ?_) (fun h137 => ?_)
                          · exact absurd h137 (by omega)
                          · have hbb : kap v - 20000 = 149 ∨ kap v - 20000 = 150 → (T.2.1 46 t0.length = 0 ∨ T.2.1 46 t0.length = 1) ∧ (T.2.1 46 (t0.length + 1) = 0 ∨ T.2.1 46 (t0.length + 1) = 1) := by
                              intro h
                              obtain ⟨t1, ht1, _⟩ := ty1q_ao ht2 (dd_ao hvr (by omega))
                              rw [hts] at ht1
                              have e1 := (List.cons.inj ht1).1
                              have e2 := (List.cons.inj (List.cons.inj ht1).2).1
                              have q1 : vOK x (T.2.1 46 (t0.length + 1)) := hty2.1
                              have q2 : vOK y (T.2.1 46 t0.length) := hty2.2.1
                              rw [e1] at q1
                              rw [e2] at q2
                              exact ⟨q2, q1⟩
                            refine am_iinc (q := 143) rfl (by omega) (by decide) (ls2 := [(3, am_i (((ts.length : Int) + (-1)))), (5, am_i ((kap v))), (4, am_i ((j : Int))), (0, am_r rr), (1, am_r 45), (2, am_r 46)]) rfl (am_tab tk_X5_valueOf 79 rfl) rfl ?_
                            refine am_aload_n (q := 144) rfl (am_tab tk_X5_valueOf 80 rfl) rfl ?_
                            refine am_iload_n (q := 145) rfl (am_tab tk_X5_valueOf 81 rfl) rfl ?_
                            refine am_iconst (q := 146) (n := 1) (by decide) (am_tab tk_X5_valueOf 82 rfl) rfl ?_
                            refine am_isub (q := 147) (by omega) (am_tab tk_X5_valueOf 83 rfl) rfl ?_
                            refine am_iload (q := 149) rfl (am_tab tk_X5_valueOf 84 rfl) rfl ?_
                            refine am_sipush (q := 152) (n := 20000) (by decide) rfl (am_tab tk_X5_valueOf 85 rfl) rfl ?_
                            refine am_isub (q := 153) (by omega) (am_tab tk_X5_valueOf 86 rfl) rfl ?_
                            refine am_aload_n (q := 154) rfl (am_tab tk_X5_valueOf 87 rfl) rfl ?_
                            refine am_iload_n (q := 155) rfl (am_tab tk_X5_valueOf 88 rfl) rfl ?_
                            refine am_iconst (q := 156) (n := 1) (by decide) (am_tab tk_X5_valueOf 89 rfl) rfl ?_
                            refine am_isub (q := 157) (by omega) (am_tab tk_X5_valueOf 90 rfl) rfl ?_
                            refine am_iald (q := 158) (a := 46) (n := 64) (x := (T.2.1 46 t0.length)) (Ls_46 hL8) (by omega) (by omega) (by rw [show Int.toNat (((ts.length : Int) + (-1)) - 1) = t0.length by omega]) (am_tab tk_X5_valueOf 91 rfl) rfl ?_
                            refine am_aload_n (q := 159) rfl (am_tab tk_X5_valueOf 92 rfl) rfl ?_
                            refine am_iload_n (q := 160) rfl (am_tab tk_X5_valueOf 93 rfl) rfl ?_
                            refine am_iald (q := 161) (a := 46) (n := 64) (x := (T.2.1 46 (t0.length + 1))) (Ls_46 hL8) (by omega) (by omega) (by rw [show Int.toNat ((ts.length : Int) + (-1)) = t0.length + 1 by omega]) (am_tab tk_X5_valueOf 94 rfl) rfl ?_
                            refine am_callS0 (q := 164) (me2 := M_X5_pairUp) (As := [am_i (((kap v) - 20000)), am_i ((T.2.1 46 t0.length)), am_i ((T.2.1 46 (t0.length + 1)))]) (rest := [am_i ((((ts.length : Int) + (-1)) - 1)), am_r 46]) (out := [am_i (jnC ((kap v) - 20000) (T.2.1 46 t0.length) (T.2.1 46 (t0.length + 1))), am_i ((((ts.length : Int) + (-1)) - 1)), am_r 46]) (c_X5_pairUp T ((kap v) - 20000) (T.2.1 46 t0.length) (T.2.1 46 (t0.length + 1)) ha9 hb9 (by omega) hbb) ⟨rfl, rfl⟩ ⟨Or.inl km_X5_39, kc_X5_pairUp, kn_X5, kd_X5_pairUp, ⟨(Nat.le_of_ble_eq_true rfl), (Nat.le_of_ble_eq_true rfl)⟩, ⟨(Nat.le_of_ble_eq_true rfl), (Nat.le_of_ble_eq_true rfl)⟩, (Nat.le_of_ble_eq_true rfl)⟩ ki_X5_pairUp rfl rfl (am_tab tk_X5_valueOf 95 rfl) rfl ?_
                            refine am_iast (q := 165) (a := 46) (n := 64) (Ls_46 hL8) (by omega) (by omega) (am_tab tk_X5_valueOf 96 rfl) rfl ?_
                            refine am_iinc (q := 168) rfl (by omega) (by decide) (ls2 := [(4, am_i (((j : Int) + 1))), (3, am_i (((ts.length : Int) + (-1)))), (5, am_i ((kap v))), (0, am_r rr), (1, am_r 45), (2, am_r 46)]) rfl (am_tab tk_X5_valueOf 97 rfl) rfl ?_
                            refine am_goto (t := 5) (am_tab tk_X5_valueOf 98 rfl) (by decide) ?_
                            have hpl : pl (fun k => (am_setN T 46 (Int.toNat (((ts.length : Int) + (-1)) - 1)) (jnC ((kap v) - 20000) (T.2.1 46 t0.length) (T.2.1 46 (t0.length + 1)))).2.1 46 k) (z :: t0).length = ev1q env of (pl (fun k => T.2.1 46 k) ts.length) v := by
                              rw [List.length_cons, pl_set (by omega), hl]
                              show _ = ev1q env of (T.2.1 46 (t0.length + 1) :: T.2.1 46 t0.length :: pl (fun k => T.2.1 46 k) t0.length) v
                              unfold ev1q
                              rw [if_neg (by omega), if_neg (by omega)]
                              unfold ev1
                              rw [if_neg (by omega), if_neg (by omega), if_neg (by omega)]
                              simp only [c5, if_false]
                              rw [← jnC_dd hvr, show kap v - 20000 = dd v by omega]
                            exact am_less (by intro q hq; simp only [List.mem_cons, List.not_mem_nil, or_false] at hq; rcases hq with rfl | rfl | rfl | rfl | rfl <;> simp [hl2] <;> omega) (ih5 t (j + 1) (z :: t0) (am_setN T 46 (Int.toNat (((ts.length : Int) + (-1)) - 1)) (jnC ((kap v) - 20000) (T.2.1 46 t0.length) (T.2.1 46 (t0.length + 1)))) (by have h9 := hn5; simp only [List.length_cons] at h9; omega) (hF.setN (by unfold W_46; omega)) hjl (fun i hi => by rw [show j + 1 + i = j + (i + 1) by omega]; exact hc (i + 1) (by simp; omega)) (fun v2 hv2 => hin v2 (List.mem_cons_of_mem _ hv2)) ht60 (by rw [hpl]; exact h1) hok2 (by rw [hpl]; exact hev))
                      · exact absurd h102 (by omega)
                    · exact absurd h74 (by omega)
                  · exact absurd h28 (by omega)
  refine am_less (by intro q hq; simp only [List.mem_cons, List.not_mem_nil, or_false] at hq; rcases hq with rfl | rfl | rfl | rfl | rfl <;> simp [pl]) (L5 (_ + 1) cs0 0 ([]) σ (by exact Nat.lt_succ_self _) (frw.refl _ σ) (Nat.zero_add _) (fun i hi => by rw [Nat.zero_add]; exact hcod i hi) (fun v hv => hv) (by simp) trivial hok0 rfl)
