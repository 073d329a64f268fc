def hsq : List Int → Bool
  | [] => false
  | w :: t => decide (w = 25) || hsq t
theorem hsq_pl (f : Nat → Int) : ∀ n, hsq (pl f n) = anyB (fun k => decide (f k = 25)) n
  | 0 => rfl
  | n + 1 => by
    show (decide (f n = 25) || hsq (pl f n)) = (anyB (fun k => decide (f k = 25)) n || decide (f n = 25))
    rw [hsq_pl f n, Bool.or_comm]
def dnF : List Int → List Int → Int → List Int × List Int × Int
  | rc, [], o => (rc, [], o)
  | rc, w :: t, o => if w = 12 then dnF (w :: rc) t (o - 1) else (rc, w :: t, o)
def okX : Bool → List Int → Bool
  | _, [] => true
  | fl, w :: t => if w = 10 ∨ w = 11 then okX false t else if w = 25 then okX true t else if w = 12 then fl && okX true t else false
theorem c_dropW (rc ws : List Int) (o bs : Int) (S : am_H) (hL : lay S) (hQv : QV rc ws o bs S) (hg : 0 < ws.length) (hl : rc.length < 1700) (hl2 : ws.length ≤ 1700) : am_met M_X10_qDrops [am_r 55] S (fun r σ' => r = none ∧ QV (ws.headD 0 :: rc) ws.tail o bs σ' ∧ frw W_q S σ') := by
  cases ws with
  | nil => exact absurd hg (by simp)
  | cons x t => exact c_X10_qDrops rc t x o bs S hL hQv hl (by simp only [List.length_cons] at hl2; omega)
theorem onT_hd {ws : List Int} (h : 0 < ws.length) (c : Int) : onT ws c = decide (ws.headD 0 = c) := by
  cases ws with
  | nil => exact absurd h (by simp)
  | cons w t => rfl
theorem onT_nil {ws : List Int} (h : ¬ 0 < ws.length) (c : Int) : onT ws c = false := by
  cases ws with
  | nil => rfl
  | cons w t => exact absurd (by simp) h
theorem c_X10_qHasSquare (rc ws : List Int) (o bs : Int) (S : am_H) (hL : lay S) (hQv : QV rc ws o bs S)  (hl : ws.length ≤ 1700) : am_met M_X10_qHasSquare [am_r 55] S (fun r σ' => r = some (am_i (b2i (hsq ws))) ∧ σ' = S) := by
  refine am_qq (fun Q hQ => ?_)
  refine am_enter (show plainFor yX10_qHasSquare = true by decide +kernel) rfl (Nat.le_of_ble_eq_true rfl) (fun _ _ _ => trivial) ?_
  have hh : hsq ws = anyB (fun k => decide (S.2.1 128 k = 25)) ws.length := by
    conv => lhs; rw [← hQv.2.2.2.1]
    exact hsq_pl _ _
  refine am_iconst (q := 1) (n := 0) (by decide) (am_tab tk_X10_qHasSquare 0 rfl) rfl ?_
  refine am_istore_n (q := 2) (by decide) (ls2 := [(1, am_i 0), (0, am_r 55)]) rfl (am_tab tk_X10_qHasSquare 1 rfl) rfl ?_
  have L2 : ∀ (n2 : Nat) (k : Nat), ws.length - k < n2 → k ≤ ws.length → anyB (fun k => decide (S.2.1 128 k = 25)) k = false → am_wp M_X10_qHasSquare Q 0 0 2 [(1, am_i ((k : Int))), (0, am_r 55)] [] S := by
    intro n2
    induction n2 with
    | zero => intro k hn2; exact absurd hn2 (Nat.not_lt_zero _)
    | succ n2 ih2 =>
      intro k hn2 hk hq
      refine am_iload_n (q := 3) rfl (am_tab tk_X10_qHasSquare 2 rfl) rfl ?_
      refine am_aload_n (q := 4) rfl (am_tab tk_X10_qHasSquare 3 rfl) rfl ?_
      refine am_getI (q := 7) (a := 55) (k := 10) (n := 108) (j := 99) (x := (ws.length : Int)) (Ls_55 hL) (by decide) rfl hQv.2.2.1 (by decide) (Or.inl kf_X10_339) (am_tab tk_X10_qHasSquare 4 rfl) rfl ?_
      refine am_icmp_ge (q := 10) (t := 29) (am_tab tk_X10_qHasSquare 5 rfl) (by decide) rfl (fun h7 => ?_) (fun h7 => ?_)
      · refine am_iconst (q := 30) (n := 0) (by decide) (am_tab tk_X10_qHasSquare 16 rfl) rfl ?_
        refine am_iret (Or.inr ⟨rfl, by first | exact Or.inl rfl | exact Or.inr rfl | omega⟩) (Nat.le_of_ble_eq_true rfl) (Nat.le_of_ble_eq_true rfl) (am_tab tk_X10_qHasSquare 17 rfl) ?_
        refine hQ _ _ ?_
        refine ⟨congrArg (fun z => some (am_i z)) ?_, rfl⟩
        rw [hh]
        rw [← show k = ws.length by omega, hq]; rfl
      · refine am_aload_n (q := 11) rfl (am_tab tk_X10_qHasSquare 6 rfl) rfl ?_
        refine am_getR (q := 14) (a := 55) (k := 10) (n := 108) (j := 98) (r := some (128)) (Ls_55 hL) (by decide) rfl (Lr_55_98 hL) (by decide) (Or.inl kf_X10_236) (am_tab tk_X10_qHasSquare 7 rfl) rfl ?_
        refine am_iload_n (q := 15) rfl (am_tab tk_X10_qHasSquare 8 rfl) rfl ?_
        refine am_iald (q := 16) (a := 128) (n := 1700) (x := (S.2.1 128 k)) (Ls_128 hL) (by omega) (by omega) (by rw [show Int.toNat (k : Int) = k by omega]) (am_tab tk_X10_qHasSquare 9 rfl) rfl ?_
        refine am_bipush (q := 18) (n := 25) (by decide) rfl (am_tab tk_X10_qHasSquare 10 rfl) rfl ?_
        refine am_icmp_ne (q := 21) (t := 23) (am_tab tk_X10_qHasSquare 11 rfl) (by decide) rfl (fun h18 => ?_) (fun h18 => ?_)
        · refine am_iinc (q := 26) rfl (by omega) (by decide) (ls2 := [(1, am_i (((k : Int) + 1))), (0, am_r 55)]) rfl (am_tab tk_X10_qHasSquare 14 rfl) rfl ?_
          refine am_goto (t := 2) (am_tab tk_X10_qHasSquare 15 rfl) (by decide) ?_
          exact am_less (by intro q hq; simp only [List.mem_cons, List.not_mem_nil, or_false] at hq; rcases hq with rfl | rfl <;> simp) (ih2 (k + 1) (by omega) (by omega) (anyB_f hq (by simp [h18])))
        · refine am_iconst (q := 22) (n := 1) (by decide) (am_tab tk_X10_qHasSquare 12 rfl) rfl ?_
          refine am_iret (Or.inr ⟨rfl, by first | exact Or.inl rfl | exact Or.inr rfl | omega⟩) (Nat.le_of_ble_eq_true rfl) (Nat.le_of_ble_eq_true rfl) (am_tab tk_X10_qHasSquare 13 rfl) ?_
          refine hQ _ _ ?_
          refine ⟨congrArg (fun z => some (am_i z)) ?_, rfl⟩
          rw [hh]
          rw [anyB_t (g := fun k => decide (S.2.1 128 k = 25)) (i := k) (by simp [h18]) (by omega)]; rfl
  refine am_less (by intro q hq; simp only [List.mem_cons, List.not_mem_nil, or_false] at hq; rcases hq with rfl | rfl <;> simp) (L2 (_ + 1) 0 (by exact Nat.lt_succ_self _) (by omega) rfl)
theorem c_X10_qDropsNots (rc ws : List Int) (o bs : Int) (S : am_H) (hL : lay S) (hQv : QV rc ws o bs S)  (hl : rc.length + ws.length ≤ 1690) (ho : 0 ≤ o ∧ o ≤ 10) (h50 : S.2.1 55 5 = 0) : am_met M_X10_qDropsNots [am_r 55] S (fun r σ' => r = none ∧ QV (dnF rc ws o).1 (dnF rc ws o).2.1 (dnF rc ws o).2.2 bs σ' ∧ frw W_q S σ') := by
  refine am_qq (fun Q hQ => ?_)
  refine am_enter (show plainFor yX10_qDropsNots = true by decide +kernel) rfl (Nat.le_of_ble_eq_true rfl) (fun _ _ _ => trivial) ?_
  have L0 : ∀ (n0 : Nat) (t : List Int) (c : List Int) (p : Int) (T : am_H), t.length < n0 → QV c t p bs T → frw W_q S T → c.length + t.length = rc.length + ws.length → p + (ws.length : Int) = o + (t.length : Int) → dnF rc ws o = dnF c t p → am_wp M_X10_qDropsNots Q 0 0 0 [(0, am_r 55)] [] T := by
    intro n0
    induction n0 with
    | zero => intro t c p T hn0; exact absurd hn0 (Nat.not_lt_zero _)
    | succ n0 ih0 =>
      intro t c p T hn0 hT hF hlc hp hd
      have hLT : lay T := hF.L hL
      have h5 : T.2.1 55 5 = 0 := (hF.2.2 55 5 (by unfold W_q; omega)).trans h50
      refine am_aload_n (q := 1) rfl (am_tab tk_X10_qDropsNots 0 rfl) rfl ?_
      refine am_getI (q := 4) (a := 55) (k := 10) (n := 108) (j := 5) (x := 0) (Ls_55 hLT) (by decide) rfl h5 (by decide) (Or.inl kf_X10_248) (am_tab tk_X10_qDropsNots 1 rfl) rfl ?_
      refine am_if_ne (q := 7) (t := 33) (am_tab tk_X10_qDropsNots 2 rfl) (by decide) rfl (fun h4 => ?_) (fun h4 => ?_)
      · exact absurd rfl h4
      · refine am_aload_n (q := 8) rfl (am_tab tk_X10_qDropsNots 3 rfl) rfl ?_
        refine am_bipush (q := 10) (n := 12) (by decide) rfl (am_tab tk_X10_qDropsNots 4 rfl) rfl ?_
        refine am_callV0 (q := 13) (me2 := M_X10_qIsOn) (b := 55) (kb := 10) (nb := 108) (As := [am_i 12]) (rest := []) (out := [am_i (b2i (onT t 12))]) (c_X10_qIsOn c t p bs T hLT hT 12 (by omega)) ⟨rfl, rfl⟩ (Ls_55 hLT) (by decide) ⟨Or.inl km_X10_618, kc_X10_qIsOn, kn_X10, kd_X10_qIsOn, ⟨(Nat.le_of_ble_eq_true rfl), (Nat.le_of_ble_eq_true rfl)⟩, ⟨(Nat.le_of_ble_eq_true rfl), (Nat.le_of_ble_eq_true rfl)⟩, (Nat.le_of_ble_eq_true rfl)⟩ ki_X10_qIsOn ks_X10_qIsOn rfl rfl (am_tab tk_X10_qDropsNots 5 rfl) rfl ?_
        refine am_if_eq (q := 16) (t := 33) (am_tab tk_X10_qDropsNots 6 rfl) (by decide) rfl (fun h13 => ?_) (fun h13 => ?_)
        · refine am_vret rfl (Nat.le_of_ble_eq_true rfl) (Nat.le_of_ble_eq_true rfl) (am_tab tk_X10_qDropsNots 16 rfl) ?_
          refine hQ _ _ ?_
          rw [hd]
          have hdd : dnF c t p = (c, t, p) := by
            cases t with
            | nil => rfl
            | cons x t =>
              show (if x = 12 then _ else _) = _
              rw [if_neg ?_]
              intro h9
              have h8 := b2f h13
              exact absurd h9 (of_decide_eq_false h8)
          rw [hdd]
          exact ⟨rfl, hT, hF⟩
        · have hge : 0 < t.length := by
            rcases Nat.lt_or_ge 0 t.length with h9 | h9
            · exact h9
            · exfalso
              have h8 := b2t h13
              rw [onT_nil (by omega)] at h8
              exact absurd h8 (by simp)
          have htop : t.headD 0 = 12 := by
            have h8 := b2t h13
            rw [onT_hd hge] at h8
            exact of_decide_eq_true h8
          refine am_aload_n (q := 17) rfl (am_tab tk_X10_qDropsNots 7 rfl) rfl ?_
          refine am_dup (q := 18) rfl (am_tab tk_X10_qDropsNots 8 rfl) rfl ?_
          refine am_getI (q := 21) (a := 55) (k := 10) (n := 108) (j := 100) (x := p) (Ls_55 hLT) (by decide) rfl hT.2.2.2.2.1 (by decide) (Or.inl kf_X10_342) (am_tab tk_X10_qDropsNots 9 rfl) rfl ?_
          refine am_iconst (q := 22) (n := 1) (by decide) (am_tab tk_X10_qDropsNots 10 rfl) rfl ?_
          refine am_isub (q := 23) (by omega) (am_tab tk_X10_qDropsNots 11 rfl) rfl ?_
          refine am_putI (q := 26) (k := 10) (n := 108) (j := 100) (Ls_55 hLT) (by decide) rfl (by decide) (Or.inl ⟨kf_X10_342, rfl⟩) (am_tab tk_X10_qDropsNots 12 rfl) rfl ?_
          refine am_aload_n (q := 27) rfl (am_tab tk_X10_qDropsNots 13 rfl) rfl ?_
          refine am_callVr (q := 30) (me2 := M_X10_qDrops) (b := 55) (kb := 10) (nb := 108) (As := []) (rest := []) (c_dropW c t (p - 1) bs (am_setN T 55 100 (p - 1)) hLT ⟨hT.1, hT.2.1, hT.2.2.1, hT.2.2.2.1, rfl, hT.2.2.2.2.2⟩ hge (by omega) (by omega)) ⟨rfl, rfl⟩ (Ls_55 hLT) (by decide) ⟨Or.inl km_X10_591, kc_X10_qDrops, kn_X10, kd_X10_qDrops, ⟨(Nat.le_of_ble_eq_true rfl), (Nat.le_of_ble_eq_true rfl)⟩, ⟨(Nat.le_of_ble_eq_true rfl), (Nat.le_of_ble_eq_true rfl)⟩, (Nat.le_of_ble_eq_true rfl)⟩ ki_X10_qDrops ks_X10_qDrops rfl (am_tab tk_X10_qDropsNots 14 rfl) rfl ?_
          rintro r T2 ⟨rfl, hT2, hF2⟩
          refine am_st (st2 := []) rfl ?_
          refine am_goto (t := 0) (am_tab tk_X10_qDropsNots 15 rfl) (by decide) ?_
          exact am_less (by intro q hq; simp only [List.mem_cons, List.not_mem_nil, or_false] at hq; rcases hq with rfl <;> simp) (ih0 (t.tail) (t.headD 0 :: c) (p - 1) T2 (by rw [List.length_tail]; omega) hT2 (hF.trans (((frw.refl W_q T).setN (by unfold W_q; omega)).trans hF2)) (by rw [List.length_cons, List.length_tail]; omega) (by rw [List.length_tail]; omega) (by rw [hd]; cases t with | nil => exact absurd hge (by simp) | cons x t => (show (if x = 12 then _ else _) = _; rw [if_pos (show x = 12 from htop)]; rfl)))
  refine am_less (by intro q hq; simp only [List.mem_cons, List.not_mem_nil, or_false] at hq; rcases hq with rfl <;> simp [am_args, am_cat]) (L0 (_ + 1) ws rc o S (by exact Nat.lt_succ_self _) hQv (frw.refl _ S) rfl rfl rfl)
theorem c_qDropsNots0 (S : am_H) (hL : lay S)  (h5 : ¬ S.2.1 55 5 = 0) : am_met M_X10_qDropsNots [am_r 55] S (fun r σ' => r = none ∧ σ' = S) := by
  refine am_qq (fun Q hQ => ?_)
  refine am_enter (show plainFor yX10_qDropsNots = true by decide +kernel) rfl (Nat.le_of_ble_eq_true rfl) (fun _ _ _ => trivial) ?_
  refine am_aload_n (q := 1) rfl (am_tab tk_X10_qDropsNots 0 rfl) rfl ?_
  refine am_getI (q := 4) (a := 55) (k := 10) (n := 108) (j := 5) (x := (S.2.1 55 5)) (Ls_55 hL) (by decide) rfl rfl (by decide) (Or.inl kf_X10_248) (am_tab tk_X10_qDropsNots 1 rfl) rfl ?_
  refine am_if_ne (q := 7) (t := 33) (am_tab tk_X10_qDropsNots 2 rfl) (by decide) rfl (fun h4 => ?_) (fun h4 => ?_)
  · refine am_vret rfl (Nat.le_of_ble_eq_true rfl) (Nat.le_of_ble_eq_true rfl) (am_tab tk_X10_qDropsNots 16 rfl) ?_
    refine hQ _ _ ?_
    exact ⟨rfl, rfl⟩
  · exact absurd h4 h5
def pA (w : Int) : Bool := decide (w = 10)
def pO (w : Int) : Bool := decide (w = 10 ∨ w = 11)
def pS (w : Int) : Bool := decide (¬ w = 25)
def gcE (rc ws : List Int) (o : Int) : List Int × List Int × Int := dnF (drF pS rc ws).1 (drF pS rc ws).2.tail (o - 1)
/-- what closes behind a fact -/
def gcF (b : Nat → Int) (E : Nat) : Nat → Nat → List Int → List Int → Int → QZ
  | 0, i, rc, ws, o => (i, rc, ws, o)
  | f + 1, i, rc, ws, o => if zK b E i = 93 ∧ hsq ws = true then gcF b E f (i + 1) (gcE rc ws o).1 (gcE rc ws o).2.1 (gcE rc ws o).2.2 else (i, rc, ws, o)
def gxF (b : Nat → Int) (E : Nat) (i : Nat) (rc ws : List Int) (o : Int) : (Int × QZ) ⊕ (Int × Int) :=
  if zK b E i = 150 then .inl (1, i + 1, (drF pA rc ws).1, 10 :: (drF pA rc ws).2, o)
  else if zK b E i = 149 then .inl (1, i + 1, (drF pO rc ws).1, 11 :: (drF pO rc ws).2, o)
  else if hsq ws = true then .inr (1, (zP b E i : Int)) else .inl (0, i, rc, ws, o)
def ggF (b : Nat → Int) (E f i : Nat) (rc ws : List Int) (o : Int) : (Int × QZ) ⊕ (Int × Int) := gxF b E (gcF b E f i rc ws o).1 (gcF b E f i rc ws o).2.1 (gcF b E f i rc ws o).2.2.1 (gcF b E f i rc ws o).2.2.2
theorem hsq_at : ∀ (ws rc : List Int), hsq ws = true → (drF pS rc ws).2 = 25 :: (drF pS rc ws).2.tail
  | [], _, h => absurd h (by simp [hsq])
  | w :: t, rc, h => by
    unfold drF
    by_cases hw : w = 25
    · rw [if_neg (by unfold pS; simp [hw]), hw]; rfl
    · rw [if_pos (by unfold pS; simp [hw])]
      unfold hsq at h
      rw [decide_eq_false hw, Bool.false_or] at h
      exact hsq_at t (w :: rc) h
theorem dnF_len : ∀ (ws rc : List Int) (o : Int), (dnF rc ws o).1.length + (dnF rc ws o).2.1.length = rc.length + ws.length ∧ (dnF rc ws o).2.2 - opn (dnF rc ws o).2.1 = o - opn ws ∧ (dnF rc ws o).2.2 ≤ o
  | [], _, _ => ⟨rfl, rfl, Int.le_refl _⟩
  | w :: t, rc, o => by
    unfold dnF
    split
    · rename_i hw
      have ih := dnF_len t (w :: rc) (o - 1)
      have e : opn (w :: t) = (if w = 12 ∨ 20 ≤ w then 1 else 0) + opn t := rfl
      rw [if_pos (by omega)] at e
      simp only [List.length_cons] at ih ⊢
      omega
    · exact ⟨rfl, rfl, Int.le_refl _⟩
theorem dnF_ok : ∀ (ws rc : List Int) (o : Int), okX true ws = true → okX false (dnF rc ws o).2.1 = true
  | [], _, _, _ => rfl
  | w :: t, rc, o, h => by
    unfold dnF
    unfold okX at h
    by_cases h1 : w = 10 ∨ w = 11
    · rw [if_pos h1] at h
      rw [if_neg (by omega)]
      show okX false (w :: t) = true
      unfold okX
      rw [if_pos h1]; exact h
    · rw [if_neg h1] at h
      by_cases h2 : w = 25
      · rw [if_pos h2] at h
        rw [if_neg (by omega)]
        show okX false (w :: t) = true
        unfold okX
        rw [if_neg h1, if_pos h2]; exact h
      · rw [if_neg h2] at h
        by_cases h3 : w = 12
        · rw [if_pos h3] at h
          simp only [Bool.true_and] at h
          rw [if_pos h3]
          exact dnF_ok t (w :: rc) (o - 1) h
        · rw [if_neg h3] at h; exact absurd h (by simp)
theorem okX_dr {p : Int → Bool} (hp : ∀ w, p w = true → ¬ w = 25) : ∀ (ws rc : List Int), okX false ws = true → opn (drF p rc ws).2 = opn ws ∧ okX false (drF p rc ws).2 = true
  | [], _, h => ⟨rfl, h⟩
  | w :: t, rc, h => by
    unfold drF
    by_cases hb : p w = true
    · have h1 := hp w hb
      rw [if_pos hb]
      unfold okX at h
      by_cases h2 : w = 10 ∨ w = 11
      · rw [if_pos h2] at h
        have ih := okX_dr hp t (w :: rc) h
        refine ⟨?_, ih.2⟩
        rw [ih.1]
        show _ = (if w = 12 ∨ 20 ≤ w then 1 else 0) + opn t
        rw [if_neg (by omega)]
        omega
      · rw [if_neg h2, if_neg h1] at h
        simp at h
    · rw [if_neg hb]; exact ⟨rfl, h⟩
theorem gcE_ok {rc ws : List Int} {o : Int} (h : okX false ws = true) (hs : hsq ws = true) : okX false (gcE rc ws o).2.1 = true ∧ (gcE rc ws o).2.2 - opn (gcE rc ws o).2.1 = o - opn ws ∧ (gcE rc ws o).1.length + (gcE rc ws o).2.1.length ≤ rc.length + ws.length ∧ (gcE rc ws o).2.2 ≤ o - 1 ∧ 1 ≤ opn ws := by
  have h1 := hsq_at ws rc hs
  have h2 := okX_dr (p := pS) (by unfold pS; intro w h9; exact of_decide_eq_true h9) ws rc h
  have h3 := drF_len pS ws rc
  rw [h1] at h2 h3
  have h4 := dnF_len (drF pS rc ws).2.tail (drF pS rc ws).1 (o - 1)
  have e : opn (25 :: (drF pS rc ws).2.tail) = (if (25 : Int) = 12 ∨ 20 ≤ (25 : Int) then 1 else 0) + opn (drF pS rc ws).2.tail := rfl
  rw [if_pos (by omega)] at e
  have h6 := opn_nn (drF pS rc ws).2.tail
  rw [List.length_cons] at h3
  have h5 : okX true (drF pS rc ws).2.tail = true := by
    have h9 := h2.2
    unfold okX at h9
    rw [if_neg (by omega), if_pos rfl] at h9
    exact h9
  unfold gcE
  exact ⟨dnF_ok _ _ _ h5, by omega, by omega, by omega, by omega⟩
theorem okX_out : ∀ {fl : Bool} {ws : List Int}, okX fl ws = true → ∀ x, 1 ≤ x → x ≤ 4 → onT ws x = false
  | _, [], _, _, _, _ => rfl
  | fl, w :: t, h, x, h1, h2 => by
    show decide (w = x) = false
    rw [decide_eq_false_iff_not]
    intro h3
    unfold okX at h
    rw [if_neg (by omega), if_neg (by omega), if_neg (by omega)] at h
    exact absurd h (by simp)
