def cVp (b : Nat → Int) (E p : Nat) : Int := if p < E then (if isL (b p) = true then ltV b p (min (rn isL b E p - p) 6) else if isDg (b p) = true then nv b p (min (rn isDg b E p - p) 4) else 0) else 0
/-- the value of token i -/
def cV (b : Nat → Int) (E i : Nat) : Int := cVp b E (zP b E i)
theorem sk_nb {b : Nat → Int} {E x : Nat} (h : ¬ (b x = 10 ∨ b x = 32)) : sk b E x = x := rn_stop (fun h2 => h (of_decide_eq_true h2.2))
theorem sk_bl {b : Nat → Int} {E x : Nat} (hx : x < E) (h : b x = 10 ∨ b x = 32) : sk b E x = sk b E (x + 1) ∧ ¬ sk b E x = x := by
  have e := rn_step (p := isBl) hx (decide_eq_true h)
  refine ⟨e, ?_⟩
  have h2 := (rn_rng isBl b (show x + 1 ≤ E by omega)).1
  have h3 : sk b E x = rn isBl b E (x + 1) := e
  omega
/-- the class stands at x, t: it touches; token i is next -/
def CK (b : Nat → Int) (E i x : Nat) (t : Int) : Prop := zP b E i = sk b E x ∧ zT b E i = decide (t = 1 ∧ sk b E x = x)
theorem CK.bl {b : Nat → Int} {E i x : Nat} {t : Int} (h : CK b E i x t) (hx : x < E) (hb : b x = 10 ∨ b x = 32) : CK b E i (x + 1) 0 := by
  obtain ⟨h1, h2⟩ := sk_bl hx hb
  refine ⟨h.1.trans h1, ?_⟩
  rw [h.2, decide_eq_false (fun h3 => h2 h3.2), decide_eq_false (fun h3 => absurd h3.1 (by decide))]
theorem zz_S (b : Nat → Int) (E i : Nat) : zP b E (i + 1) = (nxz b E (zP b E i)).1 ∧ zT b E (i + 1) = (nxz b E (zP b E i)).2 := ⟨rfl, rfl⟩
theorem CK.tL {b : Nat → Int} {E i x : Nat} {t : Int} (h : CK b E i x t) (hx : x < E) (fl : 97 ≤ b x ∧ b x ≤ 122) : zP b E i = x ∧ zK b E i = (if t = 1 then 5 else if wkI b x (rF b E x) = -1 then (if 6 < rF b E x - x then 4 else 3) else 128 + wkI b x (rF b E x)) ∧ cV b E i = ltV b x (min (rF b E x - x) 6) ∧ CK b E (i + 1) (rF b E x) 1 := by
  have hl := isL_iff.mpr fl
  have hr : rF b E x = rn isL b E x := if_pos hl
  have hs : sk b E x = x := sk_nb (by omega)
  have hp : zP b E i = x := h.1.trans hs
  have ht : zT b E i = decide (t = 1) := by rw [h.2]; congr 1; exact propext ⟨fun h => h.1, fun h => ⟨h, hs⟩⟩
  refine ⟨hp, ?_, ?_, ?_, ?_⟩
  · unfold zK zk
    rw [hp, ht, if_neg (fun h => h hx), if_pos hl, hr]
    by_cases h1 : t = 1
    · rw [if_pos h1, if_pos (decide_eq_true h1)]
    · rw [if_neg h1, if_neg (by rw [decide_eq_false h1]; decide)]
  · unfold cV cVp
    rw [hp, if_pos hx, if_pos hl, hr]
  · rw [(zz_S b E i).1, hp]; unfold nxz; rw [if_neg (fun h => h hx), if_pos hl, hr]
  · rw [(zz_S b E i).2, hp]; unfold nxz; rw [if_neg (fun h => h hx), if_pos hl, hr]
    show decide (sk b E (rn isL b E x) = rn isL b E x) = decide ((1 : Int) = 1 ∧ _)
    congr 1; exact propext ⟨fun h => ⟨rfl, h⟩, fun h => h.2⟩
theorem CK.tD {b : Nat → Int} {E i x : Nat} {t : Int} (h : CK b E i x t) (hx : x < E) (fd : 48 ≤ b x ∧ b x ≤ 57) : zP b E i = x ∧ zK b E i = (if t = 1 then 5 else if 4 < rF b E x - x then 2 else 1) ∧ cV b E i = nv b x (min (rF b E x - x) 4) ∧ CK b E (i + 1) (rF b E x) 1 := by
  have hd := isDg_iff.mpr fd
  have hl : ¬ isL (b x) = true := fun h => by have := isL_iff.mp h; omega
  have hr : rF b E x = rn isDg b E x := if_neg hl
  have hs : sk b E x = x := sk_nb (by omega)
  have hp : zP b E i = x := h.1.trans hs
  have ht : zT b E i = decide (t = 1) := by rw [h.2]; congr 1; exact propext ⟨fun h => h.1, fun h => ⟨h, hs⟩⟩
  refine ⟨hp, ?_, ?_, ?_, ?_⟩
  · unfold zK zk
    rw [hp, ht, if_neg (fun h => h hx), if_neg hl, if_pos hd, hr]
    by_cases h1 : t = 1
    · rw [if_pos h1, if_pos (decide_eq_true h1)]
    · rw [if_neg h1, if_neg (by rw [decide_eq_false h1]; decide)]
  · unfold cV cVp
    rw [hp, if_pos hx, if_neg hl, if_pos hd, hr]
  · rw [(zz_S b E i).1, hp]; unfold nxz; rw [if_neg (fun h => h hx), if_neg hl, if_pos hd, hr]
  · rw [(zz_S b E i).2, hp]; unfold nxz; rw [if_neg (fun h => h hx), if_neg hl, if_pos hd, hr]
    show decide (sk b E (rn isDg b E x) = rn isDg b E x) = decide ((1 : Int) = 1 ∧ _)
    congr 1; exact propext ⟨fun h => ⟨rfl, h⟩, fun h => h.2⟩
theorem CK.tS {b : Nat → Int} {E i x : Nat} {t : Int} (h : CK b E i x t) (hx : x < E) (fl : ¬ (97 ≤ b x ∧ b x ≤ 122)) (fd : ¬ (48 ≤ b x ∧ b x ≤ 57)) (fb : ¬ (b x = 10 ∨ b x = 32)) : zP b E i = x ∧ zK b E i = (if sgn (b x) = true then b x else 5) ∧ cV b E i = 0 ∧ CK b E (i + 1) (x + 1) 0 := by
  have hl : ¬ isL (b x) = true := fun h => fl (isL_iff.mp h)
  have hd : ¬ isDg (b x) = true := fun h => fd (isDg_iff.mp h)
  have hs : sk b E x = x := sk_nb fb
  have hp : zP b E i = x := h.1.trans hs
  refine ⟨hp, ?_, ?_, ?_, ?_⟩
  · unfold zK zk
    rw [hp, if_neg (fun h => h hx), if_neg hl, if_neg hd]
  · unfold cV cVp
    rw [hp, if_pos hx, if_neg hl, if_neg hd]
  · rw [(zz_S b E i).1, hp]; unfold nxz; rw [if_neg (fun h => h hx), if_neg hl, if_neg hd]
  · rw [(zz_S b E i).2, hp]; unfold nxz; rw [if_neg (fun h => h hx), if_neg hl, if_neg hd]
    rw [decide_eq_false (fun h3 => absurd h3.1 (by decide))]
theorem rF_L {b : Nat → Int} {E x : Nat} (hx : x < E) (fl : 97 ≤ b x ∧ b x ≤ 122) : (x < rF b E x ∧ rF b E x ≤ E) ∧ ∀ j, x ≤ j → j < rF b E x → 97 ≤ b j ∧ b j ≤ 122 := by
  have hr : rF b E x = rn isL b E x := if_pos (isL_iff.mpr fl)
  rw [hr]
  have h8 := rn_step (p := isL) (b := b) hx (isL_iff.mpr fl)
  have h9 := rn_rng isL b (show x + 1 ≤ E by omega)
  exact ⟨by omega, fun j h1 h2 => isL_iff.mp (rn_in (by omega) j h1 h2)⟩
theorem rF_D {b : Nat → Int} {E x : Nat} (hx : x < E) (fd : 48 ≤ b x ∧ b x ≤ 57) : (x < rF b E x ∧ rF b E x ≤ E) ∧ ∀ j, x ≤ j → j < rF b E x → 48 ≤ b j ∧ b j ≤ 57 := by
  have hr : rF b E x = rn isDg b E x := if_neg (fun h => by have := isL_iff.mp h; omega)
  rw [hr]
  have h8 := rn_step (p := isDg) (b := b) hx (isDg_iff.mpr fd)
  have h9 := rn_rng isDg b (show x + 1 ≤ E by omega)
  exact ⟨by omega, fun j h1 h2 => isDg_iff.mp (rn_in (by omega) j h1 h2)⟩
theorem rF_N {b : Nat → Int} {E x : Nat} (fl : ¬ (97 ≤ b x ∧ b x ≤ 122)) (fd : ¬ (48 ≤ b x ∧ b x ≤ 57)) : rF b E x = x := by
  unfold rF
  rw [if_neg (fun h => fl (isL_iff.mp h)), rn_stop (fun h => fd (isDg_iff.mp h.2))]
theorem wkI_r (b : Nat → Int) (x y : Nat) : -1 ≤ wkI b x y ∧ wkI b x y < 33 := by
  rcases firstQ_rng (g := fun w => mW b x y (WL.getD w [])) 33 with h | h
  · unfold wkI; omega
  · unfold wkI; omega
theorem nv_r {b : Nat → Int} {x : Nat} : ∀ k, k ≤ 4 → (∀ j, x ≤ j → j < x + k → 48 ≤ b j ∧ b j ≤ 57) → 0 ≤ nv b x k ∧ nv b x k < (10 : Int) ^ k
  | 0, _, _ => ⟨Int.le_refl 0, (by decide : (0 : Int) < 10 ^ 0)⟩
  | k + 1, hk, h => by
    have ih := nv_r k (by omega) (fun j h1 h2 => h j h1 (by omega))
    have hb := h (x + k) (by omega) (by omega)
    have e : nv b x (k + 1) = 10 * nv b x k + b (x + k) - 48 := rfl
    rw [Int.pow_succ]
    omega
theorem nv_4 {b : Nat → Int} {x n : Nat} (h : ∀ j, x ≤ j → j < x + n → 48 ≤ b j ∧ b j ≤ 57) : 0 ≤ nv b x (min n 4) ∧ nv b x (min n 4) < 10000 := by
  have h1 := nv_r (b := b) (x := x) (min n 4) (by omega) (fun j h1 h2 => h j h1 (by omega))
  have h2 : (10 : Int) ^ (min n 4) ≤ 10000 := by
    rcases (show min n 4 = 0 ∨ min n 4 = 1 ∨ min n 4 = 2 ∨ min n 4 = 3 ∨ min n 4 = 4 by omega) with e | e | e | e | e <;> rw [e] <;> decide
  omega
theorem ltV_6 {b : Nat → Int} {x n : Nat} (h : ∀ j, x ≤ j → j < x + n → 97 ≤ b j ∧ b j ≤ 122) : 0 ≤ ltV b x (min n 6) ∧ ltV b x (min n 6) < 2147483648 := by
  have h1 := ltV_r (b := b) (x := x) (min n 6) (fun j hj => h (x + j) (by omega) (by omega))
  have h2 : ((2 ^ (5 * min n 6) : Nat) : Int) ≤ 1073741824 := by
    rcases (show min n 6 = 0 ∨ min n 6 = 1 ∨ min n 6 = 2 ∨ min n 6 = 3 ∨ min n 6 = 4 ∨ min n 6 = 5 ∨ min n 6 = 6 by omega) with e | e | e | e | e | e | e <;> rw [e] <;> decide
  omega
/-- tokens told so far -/
def TKs (b : Nat → Int) (E : Nat) (σ T : am_H) (i : Nat) : Prop := T.2.1 30 2 = (i : Int) ∧ (∀ j, j < i → T.2.1 31 j = MK b E (cV b E) j ∧ ¬ zK b E j = 6 ∧ (0 ≤ zK b E j ∧ zK b E j < 256) ∧ (0 ≤ cV b E j ∧ cV b E j < 2147483648)) ∧ frw W_tk σ T
theorem TKs.on {b : Nat → Int} {E : Nat} {σ T T2 : am_H} {i : Nat} {k p v : Int} (h : TKs b E σ T i) (hc : T2.2.1 30 2 = (i : Int) + 1) (hm : T2.2.1 31 i = v * 4294967296 + p * 256 + k) (ho : ∀ j, j < i → T2.2.1 31 j = T.2.1 31 j) (hG : frw W_tk T T2) (e1 : (zP b E i : Int) = p) (e2 : zK b E i = k) (e3 : cV b E i = v) (h6 : ¬ k = 6) (hk : 0 ≤ k ∧ k < 256) (hv : 0 ≤ v ∧ v < 2147483648) : TKs b E σ T2 (i + 1) := by
  refine ⟨by rw [hc]; omega, fun j hj => ?_, h.2.2.trans hG⟩
  by_cases hji : j = i
  · subst hji
    refine ⟨?_, by rw [e2]; exact h6, by rw [e2]; exact hk, by rw [e3]; exact hv⟩
    unfold MK
    rw [hm, e1, e2, e3]
  · obtain ⟨h1, h2⟩ := h.2.1 j (by omega)
    exact ⟨(ho j (by omega)).trans h1, h2⟩
theorem TP.tk {b : Nat → Int} {E : Nat} {σ T : am_H} (h : TP b E σ) (hF : frw W_tk σ T) : TP b E T := ⟨fun j hj => (hF.2.2 2 j (by unfold W_tk; omega)).trans (h.1 j hj), (hF.2.2 1 1 (by unfold W_tk; omega)).trans h.2.1, h.2.2⟩
theorem sgn_iff {c : Int} : sgn c = true ↔ isSg c := by
  unfold sgn isSg
  rw [decide_eq_true_iff]
  omega
theorem c_cut (b : Nat → Int) (E : Nat) (σ : am_H) (hL : lay σ) (hT : TP b E σ)   : am_met M_X7_cut [am_r 30] σ (fun r σ' => r = none ∧ ∃ M, M ≤ E ∧ σ'.2.1 30 2 = (M : Int) + 1 ∧ (∀ j, j ≤ M → σ'.2.1 31 j = MK b E (cV b E) j ∧ (0 ≤ zK b E j ∧ zK b E j < 256) ∧ (0 ≤ cV b E j ∧ cV b E j < 2147483648)) ∧ zK b E M = 6 ∧ (∀ j, j < M → ¬ zK b E j = 6) ∧ frw W_tk σ σ') := by
  refine am_qq (fun Q hQ => ?_)
  refine am_enter (show plainFor yX7_cut = true by decide +kernel) rfl (Nat.le_of_ble_eq_true rfl) (fun _ _ _ => trivial) ?_
  have hE := hT.2.2.1
  refine am_aload_n (q := 1) rfl (am_tab tk_X7_cut 0 rfl) rfl ?_
  refine am_iconst (q := 2) (n := 0) (by decide) (am_tab tk_X7_cut 1 rfl) rfl ?_
  refine am_putI (q := 5) (k := 7) (n := 3) (j := 2) (Ls_30 hL) (by decide) rfl (by decide) (Or.inl ⟨kf_X7_19, rfl⟩) (am_tab tk_X7_cut 2 rfl) rfl ?_
  refine am_iconst (q := 6) (n := 0) (by decide) (am_tab tk_X7_cut 3 rfl) rfl ?_
  refine am_istore_n (q := 7) (by decide) (ls2 := [(1, am_i 0), (0, am_r 30)]) rfl (am_tab tk_X7_cut 4 rfl) rfl ?_
  refine am_iconst (q := 8) (n := 0) (by decide) (am_tab tk_X7_cut 5 rfl) rfl ?_
  refine am_istore_n (q := 9) (by decide) (ls2 := [(2, am_i 0), (1, am_i 0), (0, am_r 30)]) rfl (am_tab tk_X7_cut 6 rfl) rfl ?_
  have L9 : ∀ (n9 : Nat) (x : Nat) (i : Nat) (t : Int) (T : am_H), E - x < n9 → x ≤ E → (t = 0 ∨ t = 1) → i ≤ x → CK b E i x t → TKs b E σ T i → am_wp M_X7_cut Q 0 0 9 [(2, am_i ((x : Int))), (1, am_i t), (0, am_r 30)] [] T := by
    intro n9
    induction n9 with
    | zero => intro x i t T hn9; exact absurd hn9 (Nat.not_lt_zero _)
    | succ n9 ih9 =>
      intro x i t T hn9 hx ht hix hC hK
      have hLT : lay T := hK.2.2.L hL
      have hTT : TP b E T := hT.tk hK.2.2
      refine am_iload_n (q := 10) rfl (am_tab tk_X7_cut 7 rfl) rfl ?_
      refine am_aload_n (q := 11) rfl (am_tab tk_X7_cut 8 rfl) rfl ?_
      refine am_getR (q := 14) (a := 30) (k := 7) (n := 3) (j := 0) (r := some (1)) (Ls_30 hLT) (by decide) rfl (Lr_30_0 hLT) (by decide) (Or.inl kf_X7_15) (am_tab tk_X7_cut 9 rfl) rfl ?_
      refine am_getI (q := 17) (a := 1) (k := 6) (n := 2) (j := 1) (x := (E : Int)) (Ls_1 hLT) (by decide) rfl hTT.2.1 (by decide) (Or.inr kf_X7_23) (am_tab tk_X7_cut 10 rfl) rfl ?_
      refine am_icmp_ge (q := 20) (t := 174) (am_tab tk_X7_cut 11 rfl) (by decide) rfl (fun h17 => ?_) (fun h17 => ?_)
      · refine am_aload_n (q := 175) rfl (am_tab tk_X7_cut 95 rfl) rfl ?_
        refine am_bipush (q := 177) (n := 6) (by decide) rfl (am_tab tk_X7_cut 96 rfl) rfl ?_
        refine am_aload_n (q := 178) rfl (am_tab tk_X7_cut 97 rfl) rfl ?_
        refine am_getR (q := 181) (a := 30) (k := 7) (n := 3) (j := 0) (r := some (1)) (Ls_30 hLT) (by decide) rfl (Lr_30_0 hLT) (by decide) (Or.inl kf_X7_15) (am_tab tk_X7_cut 98 rfl) rfl ?_
        refine am_getI (q := 184) (a := 1) (k := 6) (n := 2) (j := 1) (x := (E : Int)) (Ls_1 hLT) (by decide) rfl hTT.2.1 (by decide) (Or.inr kf_X7_23) (am_tab tk_X7_cut 99 rfl) rfl ?_
        refine am_iconst (q := 185) (n := 0) (by decide) (am_tab tk_X7_cut 100 rfl) rfl ?_
        refine am_callVr (q := 188) (me2 := M_X7_add) (b := 30) (kb := 7) (nb := 3) (As := [am_i 6, am_i ((E : Int)), am_i 0]) (rest := []) (c_tokAdd T hLT 6 (E : Int) 0 i ⟨hK.1, by omega⟩ (by omega) (by omega) (by omega)) ⟨rfl, rfl⟩ (Ls_30 hLT) (by decide) ⟨Or.inl km_X7_50, kc_X7_add, kn_X7, kd_X7_add, ⟨(Nat.le_of_ble_eq_true rfl), (Nat.le_of_ble_eq_true rfl)⟩, ⟨(Nat.le_of_ble_eq_true rfl), (Nat.le_of_ble_eq_true rfl)⟩, (Nat.le_of_ble_eq_true rfl)⟩ ki_X7_add ks_X7_add rfl (am_tab tk_X7_cut 101 rfl) rfl ?_
        rintro r U1 ⟨rfl, hc1, hm1, ho1, hG1⟩
        refine am_vret rfl (Nat.le_of_ble_eq_true rfl) (Nat.le_of_ble_eq_true rfl) (am_tab tk_X7_cut 102 rfl) ?_
        refine hQ _ _ ?_
        refine ⟨rfl, i, by omega, ?_⟩
        have hsE : sk b E x = E := by rw [show x = E by omega]; exact rn_stop (fun h => absurd h.1 (by omega))
        have hz9 : zP b E i = E := hC.1.trans hsE
        have hk9 : zK b E i = 6 := by unfold zK zk; rw [hz9, if_pos (by omega)]
        have hv8 : cV b E i = 0 := by unfold cV cVp; rw [hz9, if_neg (by omega)]
        refine ⟨hc1, fun j hj => ?_, hk9, fun j hj => (hK.2.1 j hj).2.1, hK.2.2.trans hG1⟩
        by_cases hji : j = i
        · subst hji
          refine ⟨?_, by rw [hk9]; decide, by rw [hv8]; decide⟩
          unfold MK; rw [hm1, hz9, hk9, hv8]
        · obtain ⟨h1, h2, h3⟩ := hK.2.1 j (by omega)
          exact ⟨(ho1 j (by omega)).trans h1, h3⟩
      · by_cases fl : 97 ≤ b x ∧ b x ≤ 122
        · have hxE : x < E := by omega
          refine am_aload_n (q := 21) rfl (am_tab tk_X7_cut 12 rfl) rfl ?_
          refine am_getR (q := 24) (a := 30) (k := 7) (n := 3) (j := 0) (r := some (1)) (Ls_30 hLT) (by decide) rfl (Lr_30_0 hLT) (by decide) (Or.inl kf_X7_15) (am_tab tk_X7_cut 13 rfl) rfl ?_
          refine am_getR (q := 27) (a := 1) (k := 6) (n := 2) (j := 0) (r := some (2)) (Ls_1 hLT) (by decide) rfl (Lr_1_0 hLT) (by decide) (Or.inr kf_X7_28) (am_tab tk_X7_cut 14 rfl) rfl ?_
          refine am_iload_n (q := 28) rfl (am_tab tk_X7_cut 15 rfl) rfl ?_
          refine am_iald (q := 29) (a := 2) (n := 1600) (x := (b x)) (Ls_2 hLT) (by omega) (by omega) (hTT.1 x (by omega)) (am_tab tk_X7_cut 16 rfl) rfl ?_
          refine am_istore_n (q := 30) (by decide) (ls2 := [(3, am_i ((b x))), (2, am_i ((x : Int))), (1, am_i t), (0, am_r 30)]) rfl (am_tab tk_X7_cut 17 rfl) rfl ?_
          refine am_aload_n (q := 31) rfl (am_tab tk_X7_cut 18 rfl) rfl ?_
          refine am_iload_n (q := 32) rfl (am_tab tk_X7_cut 19 rfl) rfl ?_
          refine am_callV0 (q := 35) (me2 := M_X7_runFrom) (b := 30) (kb := 7) (nb := 3) (As := [am_i ((x : Int))]) (rest := []) (out := [am_i ((rF b E x : Int))]) (c_runFrom b E T hLT hTT x hxE) ⟨rfl, rfl⟩ (Ls_30 hLT) (by decide) ⟨Or.inl km_X7_32, kc_X7_runFrom, kn_X7, kd_X7_runFrom, ⟨(Nat.le_of_ble_eq_true rfl), (Nat.le_of_ble_eq_true rfl)⟩, ⟨(Nat.le_of_ble_eq_true rfl), (Nat.le_of_ble_eq_true rfl)⟩, (Nat.le_of_ble_eq_true rfl)⟩ ki_X7_runFrom ks_X7_runFrom rfl rfl (am_tab tk_X7_cut 20 rfl) rfl ?_
          refine am_istore (q := 37) (by decide) (ls2 := [(4, am_i ((rF b E x : Int))), (3, am_i ((b x))), (2, am_i ((x : Int))), (1, am_i t), (0, am_r 30)]) rfl (am_tab tk_X7_cut 21 rfl) rfl ?_
          have hrr := rF_L hxE fl
          have htk := hC.tL hxE fl
          have hvr := ltV_6 (b := b) (x := x) (n := rF b E x - x) (fun j h1 h2 => hrr.2 j h1 (by omega))
          have hwr := wkI_r b x (rF b E x)
          refine am_iload (q := 39) rfl (am_tab tk_X7_cut 22 rfl) rfl ?_
          refine am_iload_n (q := 40) rfl (am_tab tk_X7_cut 23 rfl) rfl ?_
          refine am_icmp_le (q := 43) (t := 117) (am_tab tk_X7_cut 24 rfl) (by decide) rfl (fun h40 => ?_) (fun h40 => ?_)
          · exact absurd h40 (by omega)
          · refine am_iload_n (q := 44) rfl (am_tab tk_X7_cut 25 rfl) rfl ?_
            refine am_callS0 (q := 47) (me2 := M_X7_isLetter) (As := [am_i ((b x))]) (rest := []) (out := [am_i ((if 97 ≤ (b x) ∧ (b x) ≤ 122 then 1 else 0))]) (c_X7_isLetter T (b x)) ⟨rfl, rfl⟩ ⟨Or.inl km_X7_36, kc_X7_isLetter, kn_X7, kd_X7_isLetter, ⟨(Nat.le_of_ble_eq_true rfl), (Nat.le_of_ble_eq_true rfl)⟩, ⟨(Nat.le_of_ble_eq_true rfl), (Nat.le_of_ble_eq_true rfl)⟩, (Nat.le_of_ble_eq_true rfl)⟩ ki_X7_isLetter rfl rfl (am_tab tk_X7_cut 26 rfl) rfl ?_
            refine am_if_eq (q := 50) (t := 60) (am_tab tk_X7_cut 27 rfl) (by decide) rfl (fun h47 => ?_) (fun h47 => ?_)
            · exact absurd fl (b01z h47)
            · replace h47 := b01n h47
              refine am_aload_n (q := 51) rfl (am_tab tk_X7_cut 28 rfl) rfl ?_
              refine am_iload_n (q := 52) rfl (am_tab tk_X7_cut 29 rfl) rfl ?_
              refine am_iload (q := 54) rfl (am_tab tk_X7_cut 30 rfl) rfl ?_
              refine am_callV0 (q := 57) (me2 := M_X7_wordKind) (b := 30) (kb := 7) (nb := 3) (As := [am_i ((x : Int)), am_i ((rF b E x : Int))]) (rest := []) (out := [am_i ((if wkI b x (rF b E x) = -1 then (if 6 < rF b E x - x then 4 else 3) else 128 + wkI b x (rF b E x)))]) (c_wordKind b E T hLT hTT x (rF b E x) hrr.1 hrr.2) ⟨rfl, rfl⟩ (Ls_30 hLT) (by decide) ⟨Or.inl km_X7_40, kc_X7_wordKind, kn_X7, kd_X7_wordKind, ⟨(Nat.le_of_ble_eq_true rfl), (Nat.le_of_ble_eq_true rfl)⟩, ⟨(Nat.le_of_ble_eq_true rfl), (Nat.le_of_ble_eq_true rfl)⟩, (Nat.le_of_ble_eq_true rfl)⟩ ki_X7_wordKind ks_X7_wordKind rfl rfl (am_tab tk_X7_cut 31 rfl) rfl ?_
              refine am_goto (t := 73) (am_tab tk_X7_cut 32 rfl) (by decide) ?_
              refine am_istore (q := 75) (by decide) (ls2 := [(5, am_i ((if wkI b x (rF b E x) = -1 then (if 6 < rF b E x - x then 4 else 3) else 128 + wkI b x (rF b E x)))), (4, am_i ((rF b E x : Int))), (3, am_i ((b x))), (2, am_i ((x : Int))), (1, am_i t), (0, am_r 30)]) rfl (am_tab tk_X7_cut 41 rfl) rfl ?_
              refine am_aload_n (q := 76) rfl (am_tab tk_X7_cut 42 rfl) rfl ?_
              refine am_iload_n (q := 77) rfl (am_tab tk_X7_cut 43 rfl) rfl ?_
              refine am_if_eq (q := 80) (t := 84) (am_tab tk_X7_cut 44 rfl) (by decide) rfl (fun h77 => ?_) (fun h77 => ?_)
              · refine am_iload (q := 86) rfl (am_tab tk_X7_cut 47 rfl) rfl ?_
                refine am_iload_n (q := 87) rfl (am_tab tk_X7_cut 48 rfl) rfl ?_
                refine am_iload_n (q := 88) rfl (am_tab tk_X7_cut 49 rfl) rfl ?_
                refine am_callS0 (q := 91) (me2 := M_X7_isLetter) (As := [am_i ((b x))]) (rest := [am_i ((x : Int)), am_i ((if wkI b x (rF b E x) = -1 then (if 6 < rF b E x - x then 4 else 3) else 128 + wkI b x (rF b E x))), am_r 30]) (out := [am_i ((if 97 ≤ (b x) ∧ (b x) ≤ 122 then 1 else 0)), am_i ((x : Int)), am_i ((if wkI b x (rF b E x) = -1 then (if 6 < rF b E x - x then 4 else 3) else 128 + wkI b x (rF b E x))), am_r 30]) (c_X7_isLetter T (b x)) ⟨rfl, rfl⟩ ⟨Or.inl km_X7_36, kc_X7_isLetter, kn_X7, kd_X7_isLetter, ⟨(Nat.le_of_ble_eq_true rfl), (Nat.le_of_ble_eq_true rfl)⟩, ⟨(Nat.le_of_ble_eq_true rfl), (Nat.le_of_ble_eq_true rfl)⟩, (Nat.le_of_ble_eq_true rfl)⟩ ki_X7_isLetter rfl rfl (am_tab tk_X7_cut 50 rfl) rfl ?_
                refine am_if_eq (q := 94) (t := 104) (am_tab tk_X7_cut 51 rfl) (by decide) rfl (fun h91 => ?_) (fun h91 => ?_)
                · exact absurd fl (b01z h91)
                · replace h91 := b01n h91
                  refine am_aload_n (q := 95) rfl (am_tab tk_X7_cut 52 rfl) rfl ?_
                  refine am_iload_n (q := 96) rfl (am_tab tk_X7_cut 53 rfl) rfl ?_
                  refine am_iload (q := 98) rfl (am_tab tk_X7_cut 54 rfl) rfl ?_
                  refine am_callV0 (q := 101) (me2 := M_X7_lettersOf) (b := 30) (kb := 7) (nb := 3) (As := [am_i ((x : Int)), am_i ((rF b E x : Int))]) (rest := [am_i ((x : Int)), am_i ((if wkI b x (rF b E x) = -1 then (if 6 < rF b E x - x then 4 else 3) else 128 + wkI b x (rF b E x))), am_r 30]) (out := [am_i ((ltV b x (min (rF b E x - x) 6))), am_i ((x : Int)), am_i ((if wkI b x (rF b E x) = -1 then (if 6 < rF b E x - x then 4 else 3) else 128 + wkI b x (rF b E x))), am_r 30]) (c_lettersOf b E T hLT hTT x (rF b E x) hrr.1 hrr.2) ⟨rfl, rfl⟩ (Ls_30 hLT) (by decide) ⟨Or.inl km_X7_44, kc_X7_lettersOf, kn_X7, kd_X7_lettersOf, ⟨(Nat.le_of_ble_eq_true rfl), (Nat.le_of_ble_eq_true rfl)⟩, ⟨(Nat.le_of_ble_eq_true rfl), (Nat.le_of_ble_eq_true rfl)⟩, (Nat.le_of_ble_eq_true rfl)⟩ ki_X7_lettersOf ks_X7_lettersOf rfl rfl (am_tab tk_X7_cut 55 rfl) rfl ?_
                  refine am_goto (t := 111) (am_tab tk_X7_cut 56 rfl) (by decide) ?_
                  refine am_callVr (q := 114) (me2 := M_X7_add) (b := 30) (kb := 7) (nb := 3) (As := [am_i ((if wkI b x (rF b E x) = -1 then (if 6 < rF b E x - x then 4 else 3) else 128 + wkI b x (rF b E x))), am_i ((x : Int)), am_i ((ltV b x (min (rF b E x - x) 6)))]) (rest := []) (c_tokAdd T hLT (if wkI b x (rF b E x) = -1 then (if 6 < rF b E x - x then 4 else 3) else 128 + wkI b x (rF b E x)) (x : Int) (ltV b x (min (rF b E x - x) 6)) i ⟨hK.1, by omega⟩ (by omega) (by omega) (by omega)) ⟨rfl, rfl⟩ (Ls_30 hLT) (by decide) ⟨Or.inl km_X7_50, kc_X7_add, kn_X7, kd_X7_add, ⟨(Nat.le_of_ble_eq_true rfl), (Nat.le_of_ble_eq_true rfl)⟩, ⟨(Nat.le_of_ble_eq_true rfl), (Nat.le_of_ble_eq_true rfl)⟩, (Nat.le_of_ble_eq_true rfl)⟩ ki_X7_add ks_X7_add rfl (am_tab tk_X7_cut 61 rfl) rfl ?_
                  rintro r U2 ⟨rfl, hc2, hm2, ho2, hG2⟩
                  refine am_goto (t := 150) (am_tab tk_X7_cut 62 rfl) (by decide) ?_
                  refine am_iload (q := 152) rfl (am_tab tk_X7_cut 81 rfl) rfl ?_
                  refine am_iload_n (q := 153) rfl (am_tab tk_X7_cut 82 rfl) rfl ?_
                  refine am_icmp_le (q := 156) (t := 160) (am_tab tk_X7_cut 83 rfl) (by decide) rfl (fun h153 => ?_) (fun h153 => ?_)
                  · exact absurd h153 (by omega)
                  · refine am_iconst (q := 157) (n := 1) (by decide) (am_tab tk_X7_cut 84 rfl) rfl ?_
                    refine am_goto (t := 161) (am_tab tk_X7_cut 85 rfl) (by decide) ?_
                    refine am_istore_n (q := 162) (by decide) (ls2 := [(1, am_i 1), (5, am_i ((if wkI b x (rF b E x) = -1 then (if 6 < rF b E x - x then 4 else 3) else 128 + wkI b x (rF b E x)))), (4, am_i ((rF b E x : Int))), (3, am_i ((b x))), (2, am_i ((x : Int))), (0, am_r 30)]) rfl (am_tab tk_X7_cut 87 rfl) rfl ?_
                    refine am_iload (q := 164) rfl (am_tab tk_X7_cut 88 rfl) rfl ?_
                    refine am_iload_n (q := 165) rfl (am_tab tk_X7_cut 89 rfl) rfl ?_
                    refine am_iconst (q := 166) (n := 1) (by decide) (am_tab tk_X7_cut 90 rfl) rfl ?_
                    refine am_iadd (q := 167) (by omega) (am_tab tk_X7_cut 91 rfl) rfl ?_
                    refine am_callS0 (q := 170) (me2 := M_J9_max_7cf53) (As := [am_i ((rF b E x : Int)), am_i (((x : Int) + 1))]) (rest := []) (out := [am_i ((max (rF b E x : Int) ((x : Int) + 1)))]) (c_max U2 (rF b E x : Int) ((x : Int) + 1)) ⟨rfl, rfl⟩ ⟨Or.inl km_X7_61, kc_J9_max_7cf53, kn_J9, kd_J9_max_7cf53, ⟨(Nat.le_of_ble_eq_true rfl), (Nat.le_of_ble_eq_true rfl)⟩, ⟨(Nat.le_of_ble_eq_true rfl), (Nat.le_of_ble_eq_true rfl)⟩, (Nat.le_of_ble_eq_true rfl)⟩ ki_J9_max_7cf53 rfl rfl (am_tab tk_X7_cut 92 rfl) rfl ?_
                    refine am_istore_n (q := 171) (by decide) (ls2 := [(2, am_i ((max (rF b E x : Int) ((x : Int) + 1)))), (1, am_i 1), (5, am_i ((if wkI b x (rF b E x) = -1 then (if 6 < rF b E x - x then 4 else 3) else 128 + wkI b x (rF b E x)))), (4, am_i ((rF b E x : Int))), (3, am_i ((b x))), (0, am_r 30)]) rfl (am_tab tk_X7_cut 93 rfl) rfl ?_
                    refine am_goto (t := 9) (am_tab tk_X7_cut 94 rfl) (by decide) ?_
                    have emx : max (rF b E x : Int) ((x : Int) + 1) = ((rF b E x : Nat) : Int) := by omega
                    rw [emx]
                    have hK2 := hK.on hc2 hm2 ho2 hG2 (by rw [htk.1]) (htk.2.1.trans (if_neg (by omega))) htk.2.2.1 (by omega) (by omega) (by omega)
                    exact am_less (by intro q hq; simp only [List.mem_cons, List.not_mem_nil, or_false] at hq; rcases hq with rfl | rfl | rfl <;> simp) (ih9 (rF b E x) (i + 1) 1 U2 (by omega) (by omega) (Or.inr rfl) (by omega) htk.2.2.2 hK2)
              · refine am_iconst (q := 81) (n := 5) (by decide) (am_tab tk_X7_cut 45 rfl) rfl ?_
                refine am_goto (t := 86) (am_tab tk_X7_cut 46 rfl) (by decide) ?_
                refine am_iload_n (q := 87) rfl (am_tab tk_X7_cut 48 rfl) rfl ?_
                refine am_iload_n (q := 88) rfl (am_tab tk_X7_cut 49 rfl) rfl ?_
                refine am_callS0 (q := 91) (me2 := M_X7_isLetter) (As := [am_i ((b x))]) (rest := [am_i ((x : Int)), am_i 5, am_r 30]) (out := [am_i ((if 97 ≤ (b x) ∧ (b x) ≤ 122 then 1 else 0)), am_i ((x : Int)), am_i 5, am_r 30]) (c_X7_isLetter T (b x)) ⟨rfl, rfl⟩ ⟨Or.inl km_X7_36, kc_X7_isLetter, kn_X7, kd_X7_isLetter, ⟨(Nat.le_of_ble_eq_true rfl), (Nat.le_of_ble_eq_true rfl)⟩, ⟨(Nat.le_of_ble_eq_true rfl), (Nat.le_of_ble_eq_true rfl)⟩, (Nat.le_of_ble_eq_true rfl)⟩ ki_X7_isLetter rfl rfl (am_tab tk_X7_cut 50 rfl) rfl ?_
                refine am_if_eq (q := 94) (t := 104) (am_tab tk_X7_cut 51 rfl) (by decide) rfl (fun h91 => ?_) (fun h91 => ?_)
                · exact absurd fl (b01z h91)
                · replace h91 := b01n h91
                  refine am_aload_n (q := 95) rfl (am_tab tk_X7_cut 52 rfl) rfl ?_
                  refine am_iload_n (q := 96) rfl (am_tab tk_X7_cut 53 rfl) rfl ?_
                  refine am_iload (q := 98) rfl (am_tab tk_X7_cut 54 rfl) rfl ?_
                  refine am_callV0 (q := 101) (me2 := M_X7_lettersOf) (b := 30) (kb := 7) (nb := 3) (As := [am_i ((x : Int)), am_i ((rF b E x : Int))]) (rest := [am_i ((x : Int)), am_i 5, am_r 30]) (out := [am_i ((ltV b x (min (rF b E x - x) 6))), am_i ((x : Int)), am_i 5, am_r 30]) (c_lettersOf b E T hLT hTT x (rF b E x) hrr.1 hrr.2) ⟨rfl, rfl⟩ (Ls_30 hLT) (by decide) ⟨Or.inl km_X7_44, kc_X7_lettersOf, kn_X7, kd_X7_lettersOf, ⟨(Nat.le_of_ble_eq_true rfl), (Nat.le_of_ble_eq_true rfl)⟩, ⟨(Nat.le_of_ble_eq_true rfl), (Nat.le_of_ble_eq_true rfl)⟩, (Nat.le_of_ble_eq_true rfl)⟩ ki_X7_lettersOf ks_X7_lettersOf rfl rfl (am_tab tk_X7_cut 55 rfl) rfl ?_
                  refine am_goto (t := 111) (am_tab tk_X7_cut 56 rfl) (by decide) ?_
                  refine am_callVr (q := 114) (me2 := M_X7_add) (b := 30) (kb := 7) (nb := 3) (As := [am_i 5, am_i ((x : Int)), am_i ((ltV b x (min (rF b E x - x) 6)))]) (rest := []) (c_tokAdd T hLT 5 (x : Int) (ltV b x (min (rF b E x - x) 6)) i ⟨hK.1, by omega⟩ (by omega) (by omega) (by omega)) ⟨rfl, rfl⟩ (Ls_30 hLT) (by decide) ⟨Or.inl km_X7_50, kc_X7_add, kn_X7, kd_X7_add, ⟨(Nat.le_of_ble_eq_true rfl), (Nat.le_of_ble_eq_true rfl)⟩, ⟨(Nat.le_of_ble_eq_true rfl), (Nat.le_of_ble_eq_true rfl)⟩, (Nat.le_of_ble_eq_true rfl)⟩ ki_X7_add ks_X7_add rfl (am_tab tk_X7_cut 61 rfl) rfl ?_
                  rintro r U3 ⟨rfl, hc3, hm3, ho3, hG3⟩
                  refine am_goto (t := 150) (am_tab tk_X7_cut 62 rfl) (by decide) ?_
                  refine am_iload (q := 152) rfl (am_tab tk_X7_cut 81 rfl) rfl ?_
                  refine am_iload_n (q := 153) rfl (am_tab tk_X7_cut 82 rfl) rfl ?_
                  refine am_icmp_le (q := 156) (t := 160) (am_tab tk_X7_cut 83 rfl) (by decide) rfl (fun h153 => ?_) (fun h153 => ?_)
                  · exact absurd h153 (by omega)
                  · refine am_iconst (q := 157) (n := 1) (by decide) (am_tab tk_X7_cut 84 rfl) rfl ?_
                    refine am_goto (t := 161) (am_tab tk_X7_cut 85 rfl) (by decide) ?_
                    refine am_istore_n (q := 162) (by decide) (ls2 := [(1, am_i 1), (5, am_i ((if wkI b x (rF b E x) = -1 then (if 6 < rF b E x - x then 4 else 3) else 128 + wkI b x (rF b E x)))), (4, am_i ((rF b E x : Int))), (3, am_i ((b x))), (2, am_i ((x : Int))), (0, am_r 30)]) rfl (am_tab tk_X7_cut 87 rfl) rfl ?_
                    refine am_iload (q := 164) rfl (am_tab tk_X7_cut 88 rfl) rfl ?_
                    refine am_iload_n (q := 165) rfl (am_tab tk_X7_cut 89 rfl) rfl ?_
                    refine am_iconst (q := 166) (n := 1) (by decide) (am_tab tk_X7_cut 90 rfl) rfl ?_
                    refine am_iadd (q := 167) (by omega) (am_tab tk_X7_cut 91 rfl) rfl ?_
                    refine am_callS0 (q := 170) (me2 := M_J9_max_7cf53) (As := [am_i ((rF b E x : Int)), am_i (((x : Int) + 1))]) (rest := []) (out := [am_i ((max (rF b E x : Int) ((x : Int) + 1)))]) (c_max U3 (rF b E x : Int) ((x : Int) + 1)) ⟨rfl, rfl⟩ ⟨Or.inl km_X7_61, kc_J9_max_7cf53, kn_J9, kd_J9_max_7cf53, ⟨(Nat.le_of_ble_eq_true rfl), (Nat.le_of_ble_eq_true rfl)⟩, ⟨(Nat.le_of_ble_eq_true rfl), (Nat.le_of_ble_eq_true rfl)⟩, (Nat.le_of_ble_eq_true rfl)⟩ ki_J9_max_7cf53 rfl rfl (am_tab tk_X7_cut 92 rfl) rfl ?_
                    refine am_istore_n (q := 171) (by decide) (ls2 := [(2, am_i ((max (rF b E x : Int) ((x : Int) + 1)))), (1, am_i 1), (5, am_i ((if wkI b x (rF b E x) = -1 then (if 6 < rF b E x - x then 4 else 3) else 128 + wkI b x (rF b E x)))), (4, am_i ((rF b E x : Int))), (3, am_i ((b x))), (0, am_r 30)]) rfl (am_tab tk_X7_cut 93 rfl) rfl ?_
                    refine am_goto (t := 9) (am_tab tk_X7_cut 94 rfl) (by decide) ?_
                    have emx : max (rF b E x : Int) ((x : Int) + 1) = ((rF b E x : Nat) : Int) := by omega
                    rw [emx]
                    have hK2 := hK.on hc3 hm3 ho3 hG3 (by rw [htk.1]) (htk.2.1.trans (if_pos (by omega))) htk.2.2.1 (by omega) (by omega) (by omega)
                    exact am_less (by intro q hq; simp only [List.mem_cons, List.not_mem_nil, or_false] at hq; rcases hq with rfl | rfl | rfl <;> simp) (ih9 (rF b E x) (i + 1) 1 U3 (by omega) (by omega) (Or.inr rfl) (by omega) htk.2.2.2 hK2)
        · by_cases fd : 48 ≤ b x ∧ b x ≤ 57
          · have hxE : x < E := by omega
            refine am_aload_n (q := 21) rfl (am_tab tk_X7_cut 12 rfl) rfl ?_
            refine am_getR (q := 24) (a := 30) (k := 7) (n := 3) (j := 0) (r := some (1)) (Ls_30 hLT) (by decide) rfl (Lr_30_0 hLT) (by decide) (Or.inl kf_X7_15) (am_tab tk_X7_cut 13 rfl) rfl ?_
            refine am_getR (q := 27) (a := 1) (k := 6) (n := 2) (j := 0) (r := some (2)) (Ls_1 hLT) (by decide) rfl (Lr_1_0 hLT) (by decide) (Or.inr kf_X7_28) (am_tab tk_X7_cut 14 rfl) rfl ?_
            refine am_iload_n (q := 28) rfl (am_tab tk_X7_cut 15 rfl) rfl ?_
            refine am_iald (q := 29) (a := 2) (n := 1600) (x := (b x)) (Ls_2 hLT) (by omega) (by omega) (hTT.1 x (by omega)) (am_tab tk_X7_cut 16 rfl) rfl ?_
            refine am_istore_n (q := 30) (by decide) (ls2 := [(3, am_i ((b x))), (2, am_i ((x : Int))), (1, am_i t), (0, am_r 30)]) rfl (am_tab tk_X7_cut 17 rfl) rfl ?_
            refine am_aload_n (q := 31) rfl (am_tab tk_X7_cut 18 rfl) rfl ?_
            refine am_iload_n (q := 32) rfl (am_tab tk_X7_cut 19 rfl) rfl ?_
            refine am_callV0 (q := 35) (me2 := M_X7_runFrom) (b := 30) (kb := 7) (nb := 3) (As := [am_i ((x : Int))]) (rest := []) (out := [am_i ((rF b E x : Int))]) (c_runFrom b E T hLT hTT x hxE) ⟨rfl, rfl⟩ (Ls_30 hLT) (by decide) ⟨Or.inl km_X7_32, kc_X7_runFrom, kn_X7, kd_X7_runFrom, ⟨(Nat.le_of_ble_eq_true rfl), (Nat.le_of_ble_eq_true rfl)⟩, ⟨(Nat.le_of_ble_eq_true rfl), (Nat.le_of_ble_eq_true rfl)⟩, (Nat.le_of_ble_eq_true rfl)⟩ ki_X7_runFrom ks_X7_runFrom rfl rfl (am_tab tk_X7_cut 20 rfl) rfl ?_
            refine am_istore (q := 37) (by decide) (ls2 := [(4, am_i ((rF b E x : Int))), (3, am_i ((b x))), (2, am_i ((x : Int))), (1, am_i t), (0, am_r 30)]) rfl (am_tab tk_X7_cut 21 rfl) rfl ?_
            have hrr := rF_D hxE fd
            have htk := hC.tD hxE fd
            have hvr := nv_4 (b := b) (x := x) (n := rF b E x - x) (fun j h1 h2 => hrr.2 j h1 (by omega))
            refine am_iload (q := 39) rfl (am_tab tk_X7_cut 22 rfl) rfl ?_
            refine am_iload_n (q := 40) rfl (am_tab tk_X7_cut 23 rfl) rfl ?_
            refine am_icmp_le (q := 43) (t := 117) (am_tab tk_X7_cut 24 rfl) (by decide) rfl (fun h40 => ?_) (fun h40 => ?_)
            · exact absurd h40 (by omega)
            · refine am_iload_n (q := 44) rfl (am_tab tk_X7_cut 25 rfl) rfl ?_
              refine am_callS0 (q := 47) (me2 := M_X7_isLetter) (As := [am_i ((b x))]) (rest := []) (out := [am_i ((if 97 ≤ (b x) ∧ (b x) ≤ 122 then 1 else 0))]) (c_X7_isLetter T (b x)) ⟨rfl, rfl⟩ ⟨Or.inl km_X7_36, kc_X7_isLetter, kn_X7, kd_X7_isLetter, ⟨(Nat.le_of_ble_eq_true rfl), (Nat.le_of_ble_eq_true rfl)⟩, ⟨(Nat.le_of_ble_eq_true rfl), (Nat.le_of_ble_eq_true rfl)⟩, (Nat.le_of_ble_eq_true rfl)⟩ ki_X7_isLetter rfl rfl (am_tab tk_X7_cut 26 rfl) rfl ?_
              refine am_if_eq (q := 50) (t := 60) (am_tab tk_X7_cut 27 rfl) (by decide) rfl (fun h47 => ?_) (fun h47 => ?_)
              · replace h47 := b01z h47
                refine am_iload (q := 62) rfl (am_tab tk_X7_cut 33 rfl) rfl ?_
                refine am_iload_n (q := 63) rfl (am_tab tk_X7_cut 34 rfl) rfl ?_
                refine am_isub (q := 64) (by omega) (am_tab tk_X7_cut 35 rfl) rfl ?_
                refine am_iconst (q := 65) (n := 4) (by decide) (am_tab tk_X7_cut 36 rfl) rfl ?_
                refine am_icmp_le (q := 68) (t := 72) (am_tab tk_X7_cut 37 rfl) (by decide) rfl (fun h65 => ?_) (fun h65 => ?_)
                · refine am_iconst (q := 73) (n := 1) (by decide) (am_tab tk_X7_cut 40 rfl) rfl ?_
                  refine am_istore (q := 75) (by decide) (ls2 := [(5, am_i 1), (4, am_i ((rF b E x : Int))), (3, am_i ((b x))), (2, am_i ((x : Int))), (1, am_i t), (0, am_r 30)]) rfl (am_tab tk_X7_cut 41 rfl) rfl ?_
                  refine am_aload_n (q := 76) rfl (am_tab tk_X7_cut 42 rfl) rfl ?_
                  refine am_iload_n (q := 77) rfl (am_tab tk_X7_cut 43 rfl) rfl ?_
                  refine am_if_eq (q := 80) (t := 84) (am_tab tk_X7_cut 44 rfl) (by decide) rfl (fun h77 => ?_) (fun h77 => ?_)
                  · refine am_iload (q := 86) rfl (am_tab tk_X7_cut 47 rfl) rfl ?_
                    refine am_iload_n (q := 87) rfl (am_tab tk_X7_cut 48 rfl) rfl ?_
                    refine am_iload_n (q := 88) rfl (am_tab tk_X7_cut 49 rfl) rfl ?_
                    refine am_callS0 (q := 91) (me2 := M_X7_isLetter) (As := [am_i ((b x))]) (rest := [am_i ((x : Int)), am_i 1, am_r 30]) (out := [am_i ((if 97 ≤ (b x) ∧ (b x) ≤ 122 then 1 else 0)), am_i ((x : Int)), am_i 1, am_r 30]) (c_X7_isLetter T (b x)) ⟨rfl, rfl⟩ ⟨Or.inl km_X7_36, kc_X7_isLetter, kn_X7, kd_X7_isLetter, ⟨(Nat.le_of_ble_eq_true rfl), (Nat.le_of_ble_eq_true rfl)⟩, ⟨(Nat.le_of_ble_eq_true rfl), (Nat.le_of_ble_eq_true rfl)⟩, (Nat.le_of_ble_eq_true rfl)⟩ ki_X7_isLetter rfl rfl (am_tab tk_X7_cut 50 rfl) rfl ?_
                    refine am_if_eq (q := 94) (t := 104) (am_tab tk_X7_cut 51 rfl) (by decide) rfl (fun h91 => ?_) (fun h91 => ?_)
                    · replace h91 := b01z h91
                      refine am_aload_n (q := 105) rfl (am_tab tk_X7_cut 57 rfl) rfl ?_
                      refine am_iload_n (q := 106) rfl (am_tab tk_X7_cut 58 rfl) rfl ?_
                      refine am_iload (q := 108) rfl (am_tab tk_X7_cut 59 rfl) rfl ?_
                      refine am_callV0 (q := 111) (me2 := M_X7_numberOf) (b := 30) (kb := 7) (nb := 3) (As := [am_i ((x : Int)), am_i ((rF b E x : Int))]) (rest := [am_i ((x : Int)), am_i 1, am_r 30]) (out := [am_i ((nv b x (min (rF b E x - x) 4))), am_i ((x : Int)), am_i 1, am_r 30]) (c_numberOf b E T hLT hTT x (rF b E x) hrr.1 hrr.2) ⟨rfl, rfl⟩ (Ls_30 hLT) (by decide) ⟨Or.inl km_X7_47, kc_X7_numberOf, kn_X7, kd_X7_numberOf, ⟨(Nat.le_of_ble_eq_true rfl), (Nat.le_of_ble_eq_true rfl)⟩, ⟨(Nat.le_of_ble_eq_true rfl), (Nat.le_of_ble_eq_true rfl)⟩, (Nat.le_of_ble_eq_true rfl)⟩ ki_X7_numberOf ks_X7_numberOf rfl rfl (am_tab tk_X7_cut 60 rfl) rfl ?_
                      refine am_callVr (q := 114) (me2 := M_X7_add) (b := 30) (kb := 7) (nb := 3) (As := [am_i 1, am_i ((x : Int)), am_i ((nv b x (min (rF b E x - x) 4)))]) (rest := []) (c_tokAdd T hLT 1 (x : Int) (nv b x (min (rF b E x - x) 4)) i ⟨hK.1, by omega⟩ (by omega) (by omega) (by omega)) ⟨rfl, rfl⟩ (Ls_30 hLT) (by decide) ⟨Or.inl km_X7_50, kc_X7_add, kn_X7, kd_X7_add, ⟨(Nat.le_of_ble_eq_true rfl), (Nat.le_of_ble_eq_true rfl)⟩, ⟨(Nat.le_of_ble_eq_true rfl), (Nat.le_of_ble_eq_true rfl)⟩, (Nat.le_of_ble_eq_true rfl)⟩ ki_X7_add ks_X7_add rfl (am_tab tk_X7_cut 61 rfl) rfl ?_
                      rintro r U4 ⟨rfl, hc4, hm4, ho4, hG4⟩
                      refine am_goto (t := 150) (am_tab tk_X7_cut 62 rfl) (by decide) ?_
                      refine am_iload (q := 152) rfl (am_tab tk_X7_cut 81 rfl) rfl ?_
                      refine am_iload_n (q := 153) rfl (am_tab tk_X7_cut 82 rfl) rfl ?_
                      refine am_icmp_le (q := 156) (t := 160) (am_tab tk_X7_cut 83 rfl) (by decide) rfl (fun h153 => ?_) (fun h153 => ?_)
                      · exact absurd h153 (by omega)
                      · refine am_iconst (q := 157) (n := 1) (by decide) (am_tab tk_X7_cut 84 rfl) rfl ?_
                        refine am_goto (t := 161) (am_tab tk_X7_cut 85 rfl) (by decide) ?_
                        refine am_istore_n (q := 162) (by decide) (ls2 := [(1, am_i 1), (5, am_i 1), (4, am_i ((rF b E x : Int))), (3, am_i ((b x))), (2, am_i ((x : Int))), (0, am_r 30)]) rfl (am_tab tk_X7_cut 87 rfl) rfl ?_
                        refine am_iload (q := 164) rfl (am_tab tk_X7_cut 88 rfl) rfl ?_
                        refine am_iload_n (q := 165) rfl (am_tab tk_X7_cut 89 rfl) rfl ?_
                        refine am_iconst (q := 166) (n := 1) (by decide) (am_tab tk_X7_cut 90 rfl) rfl ?_
                        refine am_iadd (q := 167) (by omega) (am_tab tk_X7_cut 91 rfl) rfl ?_
                        refine am_callS0 (q := 170) (me2 := M_J9_max_7cf53) (As := [am_i ((rF b E x : Int)), am_i (((x : Int) + 1))]) (rest := []) (out := [am_i ((max (rF b E x : Int) ((x : Int) + 1)))]) (c_max U4 (rF b E x : Int) ((x : Int) + 1)) ⟨rfl, rfl⟩ ⟨Or.inl km_X7_61, kc_J9_max_7cf53, kn_J9, kd_J9_max_7cf53, ⟨(Nat.le_of_ble_eq_true rfl), (Nat.le_of_ble_eq_true rfl)⟩, ⟨(Nat.le_of_ble_eq_true rfl), (Nat.le_of_ble_eq_true rfl)⟩, (Nat.le_of_ble_eq_true rfl)⟩ ki_J9_max_7cf53 rfl rfl (am_tab tk_X7_cut 92 rfl) rfl ?_
                        refine am_istore_n (q := 171) (by decide) (ls2 := [(2, am_i ((max (rF b E x : Int) ((x : Int) + 1)))), (1, am_i 1), (5, am_i 1), (4, am_i ((rF b E x : Int))), (3, am_i ((b x))), (0, am_r 30)]) rfl (am_tab tk_X7_cut 93 rfl) rfl ?_
                        refine am_goto (t := 9) (am_tab tk_X7_cut 94 rfl) (by decide) ?_
                        have emx : max (rF b E x : Int) ((x : Int) + 1) = ((rF b E x : Nat) : Int) := by omega
                        rw [emx]
                        have hK2 := hK.on hc4 hm4 ho4 hG4 (by rw [htk.1]) (htk.2.1.trans ((if_neg (by omega)).trans (if_neg (by omega)))) htk.2.2.1 (by omega) (by omega) (by omega)
                        exact am_less (by intro q hq; simp only [List.mem_cons, List.not_mem_nil, or_false] at hq; rcases hq with rfl | rfl | rfl <;> simp) (ih9 (rF b E x) (i + 1) 1 U4 (by omega) (by omega) (Or.inr rfl) (by omega) htk.2.2.2 hK2)
                    · exact absurd (b01n h91) fl
                  · refine am_iconst (q := 81) (n := 5) (by decide) (am_tab tk_X7_cut 45 rfl) rfl ?_
                    refine am_goto (t := 86) (am_tab tk_X7_cut 46 rfl) (by decide) ?_
                    refine am_iload_n (q := 87) rfl (am_tab tk_X7_cut 48 rfl) rfl ?_
                    refine am_iload_n (q := 88) rfl (am_tab tk_X7_cut 49 rfl) rfl ?_
                    refine am_callS0 (q := 91) (me2 := M_X7_isLetter) (As := [am_i ((b x))]) (rest := [am_i ((x : Int)), am_i 5, am_r 30]) (out := [am_i ((if 97 ≤ (b x) ∧ (b x) ≤ 122 then 1 else 0)), am_i ((x : Int)), am_i 5, am_r 30]) (c_X7_isLetter T (b x)) ⟨rfl, rfl⟩ ⟨Or.inl km_X7_36, kc_X7_isLetter, kn_X7, kd_X7_isLetter, ⟨(Nat.le_of_ble_eq_true rfl), (Nat.le_of_ble_eq_true rfl)⟩, ⟨(Nat.le_of_ble_eq_true rfl), (Nat.le_of_ble_eq_true rfl)⟩, (Nat.le_of_ble_eq_true rfl)⟩ ki_X7_isLetter rfl rfl (am_tab tk_X7_cut 50 rfl) rfl ?_
                    refine am_if_eq (q := 94) (t := 104) (am_tab tk_X7_cut 51 rfl) (by decide) rfl (fun h91 => ?_) (fun h91 => ?_)
                    · replace h91 := b01z h91
                      refine am_aload_n (q := 105) rfl (am_tab tk_X7_cut 57 rfl) rfl ?_
                      refine am_iload_n (q := 106) rfl (am_tab tk_X7_cut 58 rfl) rfl ?_
                      refine am_iload (q := 108) rfl (am_tab tk_X7_cut 59 rfl) rfl ?_
                      refine am_callV0 (q := 111) (me2 := M_X7_numberOf) (b := 30) (kb := 7) (nb := 3) (As := [am_i ((x : Int)), am_i ((rF b E x : Int))]) (rest := [am_i ((x : Int)), am_i 5, am_r 30]) (out := [am_i ((nv b x (min (rF b E x - x) 4))), am_i ((x : Int)), am_i 5, am_r 30]) (c_numberOf b E T hLT hTT x (rF b E x) hrr.1 hrr.2) ⟨rfl, rfl⟩ (Ls_30 hLT) (by decide) ⟨Or.inl km_X7_47, kc_X7_numberOf, kn_X7, kd_X7_numberOf, ⟨(Nat.le_of_ble_eq_true rfl), (Nat.le_of_ble_eq_true rfl)⟩, ⟨(Nat.le_of_ble_eq_true rfl), (Nat.le_of_ble_eq_true rfl)⟩, (Nat.le_of_ble_eq_true rfl)⟩ ki_X7_numberOf ks_X7_numberOf rfl rfl (am_tab tk_X7_cut 60 rfl) rfl ?_
                      refine am_callVr (q := 114) (me2 := M_X7_add) (b := 30) (kb := 7) (nb := 3) (As := [am_i 5, am_i ((x : Int)), am_i ((nv b x (min (rF b E x - x) 4)))]) (rest := []) (c_tokAdd T hLT 5 (x : Int) (nv b x (min (rF b E x - x) 4)) i ⟨hK.1, by omega⟩ (by omega) (by omega) (by omega)) ⟨rfl, rfl⟩ (Ls_30 hLT) (by decide) ⟨Or.inl km_X7_50, kc_X7_add, kn_X7, kd_X7_add, ⟨(Nat.le_of_ble_eq_true rfl), (Nat.le_of_ble_eq_true rfl)⟩, ⟨(Nat.le_of_ble_eq_true rfl), (Nat.le_of_ble_eq_true rfl)⟩, (Nat.le_of_ble_eq_true rfl)⟩ ki_X7_add ks_X7_add rfl (am_tab tk_X7_cut 61 rfl) rfl ?_
                      rintro r U5 ⟨rfl, hc5, hm5, ho5, hG5⟩
                      refine am_goto (t := 150) (am_tab tk_X7_cut 62 rfl) (by decide) ?_
                      refine am_iload (q := 152) rfl (am_tab tk_X7_cut 81 rfl) rfl ?_
                      refine am_iload_n (q := 153) rfl (am_tab tk_X7_cut 82 rfl) rfl ?_
                      refine am_icmp_le (q := 156) (t := 160) (am_tab tk_X7_cut 83 rfl) (by decide) rfl (fun h153 => ?_) (fun h153 => ?_)
                      · exact absurd h153 (by omega)
                      · refine am_iconst (q := 157) (n := 1) (by decide) (am_tab tk_X7_cut 84 rfl) rfl ?_
                        refine am_goto (t := 161) (am_tab tk_X7_cut 85 rfl) (by decide) ?_
                        refine am_istore_n (q := 162) (by decide) (ls2 := [(1, am_i 1), (5, am_i 1), (4, am_i ((rF b E x : Int))), (3, am_i ((b x))), (2, am_i ((x : Int))), (0, am_r 30)]) rfl (am_tab tk_X7_cut 87 rfl) rfl ?_
                        refine am_iload (q := 164) rfl (am_tab tk_X7_cut 88 rfl) rfl ?_
                        refine am_iload_n (q := 165) rfl (am_tab tk_X7_cut 89 rfl) rfl ?_
                        refine am_iconst (q := 166) (n := 1) (by decide) (am_tab tk_X7_cut 90 rfl) rfl ?_
                        refine am_iadd (q := 167) (by omega) (am_tab tk_X7_cut 91 rfl) rfl ?_
                        refine am_callS0 (q := 170) (me2 := M_J9_max_7cf53) (As := [am_i ((rF b E x : Int)), am_i (((x : Int) + 1))]) (rest := []) (out := [am_i ((max (rF b E x : Int) ((x : Int) + 1)))]) (c_max U5 (rF b E x : Int) ((x : Int) + 1)) ⟨rfl, rfl⟩ ⟨Or.inl km_X7_61, kc_J9_max_7cf53, kn_J9, kd_J9_max_7cf53, ⟨(Nat.le_of_ble_eq_true rfl), (Nat.le_of_ble_eq_true rfl)⟩, ⟨(Nat.le_of_ble_eq_true rfl), (Nat.le_of_ble_eq_true rfl)⟩, (Nat.le_of_ble_eq_true rfl)⟩ ki_J9_max_7cf53 rfl rfl (am_tab tk_X7_cut 92 rfl) rfl ?_
                        refine am_istore_n (q := 171) (by decide) (ls2 := [(2, am_i ((max (rF b E x : Int) ((x : Int) + 1)))), (1, am_i 1), (5, am_i 1), (4, am_i ((rF b E x : Int))), (3, am_i ((b x))), (0, am_r 30)]) rfl (am_tab tk_X7_cut 93 rfl) rfl ?_
                        refine am_goto (t := 9) (am_tab tk_X7_cut 94 rfl) (by decide) ?_
                        have emx : max (rF b E x : Int) ((x : Int) + 1) = ((rF b E x : Nat) : Int) := by omega
                        rw [emx]
                        have hK2 := hK.on hc5 hm5 ho5 hG5 (by rw [htk.1]) (htk.2.1.trans (if_pos (by omega))) htk.2.2.1 (by omega) (by omega) (by omega)
                        exact am_less (by intro q hq; simp only [List.mem_cons, List.not_mem_nil, or_false] at hq; rcases hq with rfl | rfl | rfl <;> simp) (ih9 (rF b E x) (i + 1) 1 U5 (by omega) (by omega) (Or.inr rfl) (by omega) htk.2.2.2 hK2)
                    · exact absurd (b01n h91) fl
                · refine am_iconst (q := 69) (n := 2) (by decide) (am_tab tk_X7_cut 38 rfl) rfl ?_
                  refine am_goto (t := 73) (am_tab tk_X7_cut 39 rfl) (by decide) ?_
                  refine am_istore (q := 75) (by decide) (ls2 := [(5, am_i 2), (4, am_i ((rF b E x : Int))), (3, am_i ((b x))), (2, am_i ((x : Int))), (1, am_i t), (0, am_r 30)]) rfl (am_tab tk_X7_cut 41 rfl) rfl ?_
                  refine am_aload_n (q := 76) rfl (am_tab tk_X7_cut 42 rfl) rfl ?_
                  refine am_iload_n (q := 77) rfl (am_tab tk_X7_cut 43 rfl) rfl ?_
                  refine am_if_eq (q := 80) (t := 84) (am_tab tk_X7_cut 44 rfl) (by decide) rfl (fun h77 => ?_) (fun h77 => ?_)
                  · refine am_iload (q := 86) rfl (am_tab tk_X7_cut 47 rfl) rfl ?_
                    refine am_iload_n (q := 87) rfl (am_tab tk_X7_cut 48 rfl) rfl ?_
                    refine am_iload_n (q := 88) rfl (am_tab tk_X7_cut 49 rfl) rfl ?_
                    refine am_callS0 (q := 91) (me2 := M_X7_isLetter) (As := [am_i ((b x))]) (rest := [am_i ((x : Int)), am_i 2, am_r 30]) (out := [am_i ((if 97 ≤ (b x) ∧ (b x) ≤ 122 then 1 else 0)), am_i ((x : Int)), am_i 2, am_r 30]) (c_X7_isLetter T (b x)) ⟨rfl, rfl⟩ ⟨Or.inl km_X7_36, kc_X7_isLetter, kn_X7, kd_X7_isLetter, ⟨(Nat.le_of_ble_eq_true rfl), (Nat.le_of_ble_eq_true rfl)⟩, ⟨(Nat.le_of_ble_eq_true rfl), (Nat.le_of_ble_eq_true rfl)⟩, (Nat.le_of_ble_eq_true rfl)⟩ ki_X7_isLetter rfl rfl (am_tab tk_X7_cut 50 rfl) rfl ?_
                    refine am_if_eq (q := 94) (t := 104) (am_tab tk_X7_cut 51 rfl) (by decide) rfl (fun h91 => ?_) (fun h91 => ?_)
                    · replace h91 := b01z h91
                      refine am_aload_n (q := 105) rfl (am_tab tk_X7_cut 57 rfl) rfl ?_
                      refine am_iload_n (q := 106) rfl (am_tab tk_X7_cut 58 rfl) rfl ?_
                      refine am_iload (q := 108) rfl (am_tab tk_X7_cut 59 rfl) rfl ?_
                      refine am_callV0 (q := 111) (me2 := M_X7_numberOf) (b := 30) (kb := 7) (nb := 3) (As := [am_i ((x : Int)), am_i ((rF b E x : Int))]) (rest := [am_i ((x : Int)), am_i 2, am_r 30]) (out := [am_i ((nv b x (min (rF b E x - x) 4))), am_i ((x : Int)), am_i 2, am_r 30]) (c_numberOf b E T hLT hTT x (rF b E x) hrr.1 hrr.2) ⟨rfl, rfl⟩ (Ls_30 hLT) (by decide) ⟨Or.inl km_X7_47, kc_X7_numberOf, kn_X7, kd_X7_numberOf, ⟨(Nat.le_of_ble_eq_true rfl), (Nat.le_of_ble_eq_true rfl)⟩, ⟨(Nat.le_of_ble_eq_true rfl), (Nat.le_of_ble_eq_true rfl)⟩, (Nat.le_of_ble_eq_true rfl)⟩ ki_X7_numberOf ks_X7_numberOf rfl rfl (am_tab tk_X7_cut 60 rfl) rfl ?_
                      refine am_callVr (q := 114) (me2 := M_X7_add) (b := 30) (kb := 7) (nb := 3) (As := [am_i 2, am_i ((x : Int)), am_i ((nv b x (min (rF b E x - x) 4)))]) (rest := []) (c_tokAdd T hLT 2 (x : Int) (nv b x (min (rF b E x - x) 4)) i ⟨hK.1, by omega⟩ (by omega) (by omega) (by omega)) ⟨rfl, rfl⟩ (Ls_30 hLT) (by decide) ⟨Or.inl km_X7_50, kc_X7_add, kn_X7, kd_X7_add, ⟨(Nat.le_of_ble_eq_true rfl), (Nat.le_of_ble_eq_true rfl)⟩, ⟨(Nat.le_of_ble_eq_true rfl), (Nat.le_of_ble_eq_true rfl)⟩, (Nat.le_of_ble_eq_true rfl)⟩ ki_X7_add ks_X7_add rfl (am_tab tk_X7_cut 61 rfl) rfl ?_
                      rintro r U6 ⟨rfl, hc6, hm6, ho6, hG6⟩
                      refine am_goto (t := 150) (am_tab tk_X7_cut 62 rfl) (by decide) ?_
                      refine am_iload (q := 152) rfl (am_tab tk_X7_cut 81 rfl) rfl ?_
                      refine am_iload_n (q := 153) rfl (am_tab tk_X7_cut 82 rfl) rfl ?_
                      refine am_icmp_le (q := 156) (t := 160) (am_tab tk_X7_cut 83 rfl) (by decide) rfl (fun h153 => ?_) (fun h153 => ?_)
                      · exact absurd h153 (by omega)
                      · refine am_iconst (q := 157) (n := 1) (by decide) (am_tab tk_X7_cut 84 rfl) rfl ?_
                        refine am_goto (t := 161) (am_tab tk_X7_cut 85 rfl) (by decide) ?_
                        refine am_istore_n (q := 162) (by decide) (ls2 := [(1, am_i 1), (5, am_i 2), (4, am_i ((rF b E x : Int))), (3, am_i ((b x))), (2, am_i ((x : Int))), (0, am_r 30)]) rfl (am_tab tk_X7_cut 87 rfl) rfl ?_
                        refine am_iload (q := 164) rfl (am_tab tk_X7_cut 88 rfl) rfl ?_
                        refine am_iload_n (q := 165) rfl (am_tab tk_X7_cut 89 rfl) rfl ?_
                        refine am_iconst (q := 166) (n := 1) (by decide) (am_tab tk_X7_cut 90 rfl) rfl ?_
                        refine am_iadd (q := 167) (by omega) (am_tab tk_X7_cut 91 rfl) rfl ?_
                        refine am_callS0 (q := 170) (me2 := M_J9_max_7cf53) (As := [am_i ((rF b E x : Int)), am_i (((x : Int) + 1))]) (rest := []) (out := [am_i ((max (rF b E x : Int) ((x : Int) + 1)))]) (c_max U6 (rF b E x : Int) ((x : Int) + 1)) ⟨rfl, rfl⟩ ⟨Or.inl km_X7_61, kc_J9_max_7cf53, kn_J9, kd_J9_max_7cf53, ⟨(Nat.le_of_ble_eq_true rfl), (Nat.le_of_ble_eq_true rfl)⟩, ⟨(Nat.le_of_ble_eq_true rfl), (Nat.le_of_ble_eq_true rfl)⟩, (Nat.le_of_ble_eq_true rfl)⟩ ki_J9_max_7cf53 rfl rfl (am_tab tk_X7_cut 92 rfl) rfl ?_
                        refine am_istore_n (q := 171) (by decide) (ls2 := [(2, am_i ((max (rF b E x : Int) ((x : Int) + 1)))), (1, am_i 1), (5, am_i 2), (4, am_i ((rF b E x : Int))), (3, am_i ((b x))), (0, am_r 30)]) rfl (am_tab tk_X7_cut 93 rfl) rfl ?_
                        refine am_goto (t := 9) (am_tab tk_X7_cut 94 rfl) (by decide) ?_
                        have emx : max (rF b E x : Int) ((x : Int) + 1) = ((rF b E x : Nat) : Int) := by omega
                        rw [emx]
                        have hK2 := hK.on hc6 hm6 ho6 hG6 (by rw [htk.1]) (htk.2.1.trans ((if_neg (by omega)).trans (if_pos (by omega)))) htk.2.2.1 (by omega) (by omega) (by omega)
                        exact am_less (by intro q hq; simp only [List.mem_cons, List.not_mem_nil, or_false] at hq; rcases hq with rfl | rfl | rfl <;> simp) (ih9 (rF b E x) (i + 1) 1 U6 (by omega) (by omega) (Or.inr rfl) (by omega) htk.2.2.2 hK2)
                    · exact absurd (b01n h91) fl
                  · refine am_iconst (q := 81) (n := 5) (by decide) (am_tab tk_X7_cut 45 rfl) rfl ?_
                    refine am_goto (t := 86) (am_tab tk_X7_cut 46 rfl) (by decide) ?_
                    refine am_iload_n (q := 87) rfl (am_tab tk_X7_cut 48 rfl) rfl ?_
                    refine am_iload_n (q := 88) rfl (am_tab tk_X7_cut 49 rfl) rfl ?_
                    refine am_callS0 (q := 91) (me2 := M_X7_isLetter) (As := [am_i ((b x))]) (rest := [am_i ((x : Int)), am_i 5, am_r 30]) (out := [am_i ((if 97 ≤ (b x) ∧ (b x) ≤ 122 then 1 else 0)), am_i ((x : Int)), am_i 5, am_r 30]) (c_X7_isLetter T (b x)) ⟨rfl, rfl⟩ ⟨Or.inl km_X7_36, kc_X7_isLetter, kn_X7, kd_X7_isLetter, ⟨(Nat.le_of_ble_eq_true rfl), (Nat.le_of_ble_eq_true rfl)⟩, ⟨(Nat.le_of_ble_eq_true rfl), (Nat.le_of_ble_eq_true rfl)⟩, (Nat.le_of_ble_eq_true rfl)⟩ ki_X7_isLetter rfl rfl (am_tab tk_X7_cut 50 rfl) rfl ?_
                    refine am_if_eq (q := 94) (t := 104) (am_tab tk_X7_cut 51 rfl) (by decide) rfl (fun h91 => ?_) (fun h91 => ?_)
                    · replace h91 := b01z h91
                      refine am_aload_n (q := 105) rfl (am_tab tk_X7_cut 57 rfl) rfl ?_
                      refine am_iload_n (q := 106) rfl (am_tab tk_X7_cut 58 rfl) rfl ?_
                      refine am_iload (q := 108) rfl (am_tab tk_X7_cut 59 rfl) rfl ?_
                      refine am_callV0 (q := 111) (me2 := M_X7_numberOf) (b := 30) (kb := 7) (nb := 3) (As := [am_i ((x : Int)), am_i ((rF b E x : Int))]) (rest := [am_i ((x : Int)), am_i 5, am_r 30]) (out := [am_i ((nv b x (min (rF b E x - x) 4))), am_i ((x : Int)), am_i 5, am_r 30]) (c_numberOf b E T hLT hTT x (rF b E x) hrr.1 hrr.2) ⟨rfl, rfl⟩ (Ls_30 hLT) (by decide) ⟨Or.inl km_X7_47, kc_X7_numberOf, kn_X7, kd_X7_numberOf, ⟨(Nat.le_of_ble_eq_true rfl), (Nat.le_of_ble_eq_true rfl)⟩, ⟨(Nat.le_of_ble_eq_true rfl), (Nat.le_of_ble_eq_true rfl)⟩, (Nat.le_of_ble_eq_true rfl)⟩ ki_X7_numberOf ks_X7_numberOf rfl rfl (am_tab tk_X7_cut 60 rfl) rfl ?_
                      refine am_callVr (q := 114) (me2 := M_X7_add) (b := 30) (kb := 7) (nb := 3) (As := [am_i 5, am_i ((x : Int)), am_i ((nv b x (min (rF b E x - x) 4)))]) (rest := []) (c_tokAdd T hLT 5 (x : Int) (nv b x (min (rF b E x - x) 4)) i ⟨hK.1, by omega⟩ (by omega) (by omega) (by omega)) ⟨rfl, rfl⟩ (Ls_30 hLT) (by decide) ⟨Or.inl km_X7_50, kc_X7_add, kn_X7, kd_X7_add, ⟨(Nat.le_of_ble_eq_true rfl), (Nat.le_of_ble_eq_true rfl)⟩, ⟨(Nat.le_of_ble_eq_true rfl), (Nat.le_of_ble_eq_true rfl)⟩, (Nat.le_of_ble_eq_true rfl)⟩ ki_X7_add ks_X7_add rfl (am_tab tk_X7_cut 61 rfl) rfl ?_
                      rintro r U7 ⟨rfl, hc7, hm7, ho7, hG7⟩
                      refine am_goto (t := 150) (am_tab tk_X7_cut 62 rfl) (by decide) ?_
                      refine am_iload (q := 152) rfl (am_tab tk_X7_cut 81 rfl) rfl ?_
                      refine am_iload_n (q := 153) rfl (am_tab tk_X7_cut 82 rfl) rfl ?_
                      refine am_icmp_le (q := 156) (t := 160) (am_tab tk_X7_cut 83 rfl) (by decide) rfl (fun h153 => ?_) (fun h153 => ?_)
                      · exact absurd h153 (by omega)
                      · refine am_iconst (q := 157) (n := 1) (by decide) (am_tab tk_X7_cut 84 rfl) rfl ?_
                        refine am_goto (t := 161) (am_tab tk_X7_cut 85 rfl) (by decide) ?_
                        refine am_istore_n (q := 162) (by decide) (ls2 := [(1, am_i 1), (5, am_i 2), (4, am_i ((rF b E x : Int))), (3, am_i ((b x))), (2, am_i ((x : Int))), (0, am_r 30)]) rfl (am_tab tk_X7_cut 87 rfl) rfl ?_
                        refine am_iload (q := 164) rfl (am_tab tk_X7_cut 88 rfl) rfl ?_
                        refine am_iload_n (q := 165) rfl (am_tab tk_X7_cut 89 rfl) rfl ?_
                        refine am_iconst (q := 166) (n := 1) (by decide) (am_tab tk_X7_cut 90 rfl) rfl ?_
                        refine am_iadd (q := 167) (by omega) (am_tab tk_X7_cut 91 rfl) rfl ?_
                        refine am_callS0 (q := 170) (me2 := M_J9_max_7cf53) (As := [am_i ((rF b E x : Int)), am_i (((x : Int) + 1))]) (rest := []) (out := [am_i ((max (rF b E x : Int) ((x : Int) + 1)))]) (c_max U7 (rF b E x : Int) ((x : Int) + 1)) ⟨rfl, rfl⟩ ⟨Or.inl km_X7_61, kc_J9_max_7cf53, kn_J9, kd_J9_max_7cf53, ⟨(Nat.le_of_ble_eq_true rfl), (Nat.le_of_ble_eq_true rfl)⟩, ⟨(Nat.le_of_ble_eq_true rfl), (Nat.le_of_ble_eq_true rfl)⟩, (Nat.le_of_ble_eq_true rfl)⟩ ki_J9_max_7cf53 rfl rfl (am_tab tk_X7_cut 92 rfl) rfl ?_
                        refine am_istore_n (q := 171) (by decide) (ls2 := [(2, am_i ((max (rF b E x : Int) ((x : Int) + 1)))), (1, am_i 1), (5, am_i 2), (4, am_i ((rF b E x : Int))), (3, am_i ((b x))), (0, am_r 30)]) rfl (am_tab tk_X7_cut 93 rfl) rfl ?_
                        refine am_goto (t := 9) (am_tab tk_X7_cut 94 rfl) (by decide) ?_
                        have emx : max (rF b E x : Int) ((x : Int) + 1) = ((rF b E x : Nat) : Int) := by omega
                        rw [emx]
                        have hK2 := hK.on hc7 hm7 ho7 hG7 (by rw [htk.1]) (htk.2.1.trans (if_pos (by omega))) htk.2.2.1 (by omega) (by omega) (by omega)
                        exact am_less (by intro q hq; simp only [List.mem_cons, List.not_mem_nil, or_false] at hq; rcases hq with rfl | rfl | rfl <;> simp) (ih9 (rF b E x) (i + 1) 1 U7 (by omega) (by omega) (Or.inr rfl) (by omega) htk.2.2.2 hK2)
                    · exact absurd (b01n h91) fl
              · exact absurd (b01n h47) fl
          · have hxE : x < E := by omega
            refine am_aload_n (q := 21) rfl (am_tab tk_X7_cut 12 rfl) rfl ?_
            refine am_getR (q := 24) (a := 30) (k := 7) (n := 3) (j := 0) (r := some (1)) (Ls_30 hLT) (by decide) rfl (Lr_30_0 hLT) (by decide) (Or.inl kf_X7_15) (am_tab tk_X7_cut 13 rfl) rfl ?_
            refine am_getR (q := 27) (a := 1) (k := 6) (n := 2) (j := 0) (r := some (2)) (Ls_1 hLT) (by decide) rfl (Lr_1_0 hLT) (by decide) (Or.inr kf_X7_28) (am_tab tk_X7_cut 14 rfl) rfl ?_
            refine am_iload_n (q := 28) rfl (am_tab tk_X7_cut 15 rfl) rfl ?_
            refine am_iald (q := 29) (a := 2) (n := 1600) (x := (b x)) (Ls_2 hLT) (by omega) (by omega) (hTT.1 x (by omega)) (am_tab tk_X7_cut 16 rfl) rfl ?_
            refine am_istore_n (q := 30) (by decide) (ls2 := [(3, am_i ((b x))), (2, am_i ((x : Int))), (1, am_i t), (0, am_r 30)]) rfl (am_tab tk_X7_cut 17 rfl) rfl ?_
            refine am_aload_n (q := 31) rfl (am_tab tk_X7_cut 18 rfl) rfl ?_
            refine am_iload_n (q := 32) rfl (am_tab tk_X7_cut 19 rfl) rfl ?_
            refine am_callV0 (q := 35) (me2 := M_X7_runFrom) (b := 30) (kb := 7) (nb := 3) (As := [am_i ((x : Int))]) (rest := []) (out := [am_i ((rF b E x : Int))]) (c_runFrom b E T hLT hTT x hxE) ⟨rfl, rfl⟩ (Ls_30 hLT) (by decide) ⟨Or.inl km_X7_32, kc_X7_runFrom, kn_X7, kd_X7_runFrom, ⟨(Nat.le_of_ble_eq_true rfl), (Nat.le_of_ble_eq_true rfl)⟩, ⟨(Nat.le_of_ble_eq_true rfl), (Nat.le_of_ble_eq_true rfl)⟩, (Nat.le_of_ble_eq_true rfl)⟩ ki_X7_runFrom ks_X7_runFrom rfl rfl (am_tab tk_X7_cut 20 rfl) rfl ?_
            refine am_istore (q := 37) (by decide) (ls2 := [(4, am_i ((rF b E x : Int))), (3, am_i ((b x))), (2, am_i ((x : Int))), (1, am_i t), (0, am_r 30)]) rfl (am_tab tk_X7_cut 21 rfl) rfl ?_
            have hrn := rF_N (E := E) fl fd
            refine am_iload (q := 39) rfl (am_tab tk_X7_cut 22 rfl) rfl ?_
            refine am_iload_n (q := 40) rfl (am_tab tk_X7_cut 23 rfl) rfl ?_
            refine am_icmp_le (q := 43) (t := 117) (am_tab tk_X7_cut 24 rfl) (by decide) rfl (fun h40 => ?_) (fun h40 => ?_)
            · refine am_iload_n (q := 118) rfl (am_tab tk_X7_cut 63 rfl) rfl ?_
              refine am_bipush (q := 120) (n := 10) (by decide) rfl (am_tab tk_X7_cut 64 rfl) rfl ?_
              refine am_icmp_eq (q := 123) (t := 150) (am_tab tk_X7_cut 65 rfl) (by decide) rfl (fun h120 => ?_) (fun h120 => ?_)
              · refine am_iload (q := 152) rfl (am_tab tk_X7_cut 81 rfl) rfl ?_
                refine am_iload_n (q := 153) rfl (am_tab tk_X7_cut 82 rfl) rfl ?_
                refine am_icmp_le (q := 156) (t := 160) (am_tab tk_X7_cut 83 rfl) (by decide) rfl (fun h153 => ?_) (fun h153 => ?_)
                · refine am_iconst (q := 161) (n := 0) (by decide) (am_tab tk_X7_cut 86 rfl) rfl ?_
                  refine am_istore_n (q := 162) (by decide) (ls2 := [(1, am_i 0), (4, am_i ((rF b E x : Int))), (3, am_i ((b x))), (2, am_i ((x : Int))), (0, am_r 30)]) rfl (am_tab tk_X7_cut 87 rfl) rfl ?_
                  refine am_iload (q := 164) rfl (am_tab tk_X7_cut 88 rfl) rfl ?_
                  refine am_iload_n (q := 165) rfl (am_tab tk_X7_cut 89 rfl) rfl ?_
                  refine am_iconst (q := 166) (n := 1) (by decide) (am_tab tk_X7_cut 90 rfl) rfl ?_
                  refine am_iadd (q := 167) (by omega) (am_tab tk_X7_cut 91 rfl) rfl ?_
                  refine am_callS0 (q := 170) (me2 := M_J9_max_7cf53) (As := [am_i ((rF b E x : Int)), am_i (((x : Int) + 1))]) (rest := []) (out := [am_i ((max (rF b E x : Int) ((x : Int) + 1)))]) (c_max T (rF b E x : Int) ((x : Int) + 1)) ⟨rfl, rfl⟩ ⟨Or.inl km_X7_61, kc_J9_max_7cf53, kn_J9, kd_J9_max_7cf53, ⟨(Nat.le_of_ble_eq_true rfl), (Nat.le_of_ble_eq_true rfl)⟩, ⟨(Nat.le_of_ble_eq_true rfl), (Nat.le_of_ble_eq_true rfl)⟩, (Nat.le_of_ble_eq_true rfl)⟩ ki_J9_max_7cf53 rfl rfl (am_tab tk_X7_cut 92 rfl) rfl ?_
                  refine am_istore_n (q := 171) (by decide) (ls2 := [(2, am_i ((max (rF b E x : Int) ((x : Int) + 1)))), (1, am_i 0), (4, am_i ((rF b E x : Int))), (3, am_i ((b x))), (0, am_r 30)]) rfl (am_tab tk_X7_cut 93 rfl) rfl ?_
                  refine am_goto (t := 9) (am_tab tk_X7_cut 94 rfl) (by decide) ?_
                  have emx : max (rF b E x : Int) ((x : Int) + 1) = ((x + 1 : Nat) : Int) := by omega
                  rw [emx]
                  exact am_less (by intro q hq; simp only [List.mem_cons, List.not_mem_nil, or_false] at hq; rcases hq with rfl | rfl | rfl <;> simp) (ih9 (x + 1) i 0 T (by omega) (by omega) (Or.inl rfl) (by omega) (hC.bl hxE (by omega)) hK)
                · exact absurd h153 (by omega)
              · refine am_iload_n (q := 124) rfl (am_tab tk_X7_cut 66 rfl) rfl ?_
                refine am_bipush (q := 126) (n := 32) (by decide) rfl (am_tab tk_X7_cut 67 rfl) rfl ?_
                refine am_icmp_eq (q := 129) (t := 150) (am_tab tk_X7_cut 68 rfl) (by decide) rfl (fun h126 => ?_) (fun h126 => ?_)
                · refine am_iload (q := 152) rfl (am_tab tk_X7_cut 81 rfl) rfl ?_
                  refine am_iload_n (q := 153) rfl (am_tab tk_X7_cut 82 rfl) rfl ?_
                  refine am_icmp_le (q := 156) (t := 160) (am_tab tk_X7_cut 83 rfl) (by decide) rfl (fun h153 => ?_) (fun h153 => ?_)
                  · refine am_iconst (q := 161) (n := 0) (by decide) (am_tab tk_X7_cut 86 rfl) rfl ?_
                    refine am_istore_n (q := 162) (by decide) (ls2 := [(1, am_i 0), (4, am_i ((rF b E x : Int))), (3, am_i ((b x))), (2, am_i ((x : Int))), (0, am_r 30)]) rfl (am_tab tk_X7_cut 87 rfl) rfl ?_
                    refine am_iload (q := 164) rfl (am_tab tk_X7_cut 88 rfl) rfl ?_
                    refine am_iload_n (q := 165) rfl (am_tab tk_X7_cut 89 rfl) rfl ?_
                    refine am_iconst (q := 166) (n := 1) (by decide) (am_tab tk_X7_cut 90 rfl) rfl ?_
                    refine am_iadd (q := 167) (by omega) (am_tab tk_X7_cut 91 rfl) rfl ?_
                    refine am_callS0 (q := 170) (me2 := M_J9_max_7cf53) (As := [am_i ((rF b E x : Int)), am_i (((x : Int) + 1))]) (rest := []) (out := [am_i ((max (rF b E x : Int) ((x : Int) + 1)))]) (c_max T (rF b E x : Int) ((x : Int) + 1)) ⟨rfl, rfl⟩ ⟨Or.inl km_X7_61, kc_J9_max_7cf53, kn_J9, kd_J9_max_7cf53, ⟨(Nat.le_of_ble_eq_true rfl), (Nat.le_of_ble_eq_true rfl)⟩, ⟨(Nat.le_of_ble_eq_true rfl), (Nat.le_of_ble_eq_true rfl)⟩, (Nat.le_of_ble_eq_true rfl)⟩ ki_J9_max_7cf53 rfl rfl (am_tab tk_X7_cut 92 rfl) rfl ?_
                    refine am_istore_n (q := 171) (by decide) (ls2 := [(2, am_i ((max (rF b E x : Int) ((x : Int) + 1)))), (1, am_i 0), (4, am_i ((rF b E x : Int))), (3, am_i ((b x))), (0, am_r 30)]) rfl (am_tab tk_X7_cut 93 rfl) rfl ?_
                    refine am_goto (t := 9) (am_tab tk_X7_cut 94 rfl) (by decide) ?_
                    have emx : max (rF b E x : Int) ((x : Int) + 1) = ((x + 1 : Nat) : Int) := by omega
                    rw [emx]
                    exact am_less (by intro q hq; simp only [List.mem_cons, List.not_mem_nil, or_false] at hq; rcases hq with rfl | rfl | rfl <;> simp) (ih9 (x + 1) i 0 T (by omega) (by omega) (Or.inl rfl) (by omega) (hC.bl hxE (by omega)) hK)
                  · exact absurd h153 (by omega)
                · refine am_aload_n (q := 130) rfl (am_tab tk_X7_cut 69 rfl) rfl ?_
                  refine am_ldcS (q := 132) (i := 1) (by decide) rfl (am_tab tk_X7_cut 70 rfl) rfl ?_
                  have hbx : 0 ≤ b x ∧ b x < 256 := by have := hTT.2.2.2 x (by omega); omega
                  refine am_iload_n (q := 133) rfl (am_tab tk_X7_cut 71 rfl) rfl ?_
                  refine am_i2c (q := 134) (y := (b x)) (i2c_id hbx) (am_tab tk_X7_cut 72 rfl) rfl ?_
                  refine am_callVs (q := 137) (me2 := M_J0_indexOf_0f7a4) (b := 1) (As := [am_i ((b x))]) (rest := [am_r 30]) (c_ix3 T 1 (b x) (by decide) hbx) ⟨rfl, rfl⟩ (by omega) ⟨Or.inl km_X7_56, kc_J0_indexOf_0f7a4, kn_J0, kd_J0_indexOf_0f7a4, ⟨(Nat.le_of_ble_eq_true rfl), (Nat.le_of_ble_eq_true rfl)⟩, ⟨(Nat.le_of_ble_eq_true rfl), (Nat.le_of_ble_eq_true rfl)⟩, (Nat.le_of_ble_eq_true rfl)⟩ ki_J0_indexOf_0f7a4 ks_J0_indexOf_0f7a4 rfl (am_tab tk_X7_cut 73 rfl) rfl ?_
                  rintro r τ ⟨hτ9, v9, rfl, hv9⟩
                  replace hv9 : 0 ≤ v9 ↔ isSg (b x) := hv9.trans (sg_ix hbx)
                  rw [hτ9]
                  refine am_if_lt (q := 140) (t := 144) (am_tab tk_X7_cut 74 rfl) (by decide) rfl (fun h137 => ?_) (fun h137 => ?_)
                  · refine am_iconst (q := 145) (n := 5) (by decide) (am_tab tk_X7_cut 77 rfl) rfl ?_
                    refine am_iload_n (q := 146) rfl (am_tab tk_X7_cut 78 rfl) rfl ?_
                    refine am_iconst (q := 147) (n := 0) (by decide) (am_tab tk_X7_cut 79 rfl) rfl ?_
                    refine am_callVr (q := 150) (me2 := M_X7_add) (b := 30) (kb := 7) (nb := 3) (As := [am_i 5, am_i ((x : Int)), am_i 0]) (rest := []) (c_tokAdd T hLT 5 (x : Int) 0 i ⟨hK.1, by omega⟩ (by omega) (by omega) (by omega)) ⟨rfl, rfl⟩ (Ls_30 hLT) (by decide) ⟨Or.inl km_X7_50, kc_X7_add, kn_X7, kd_X7_add, ⟨(Nat.le_of_ble_eq_true rfl), (Nat.le_of_ble_eq_true rfl)⟩, ⟨(Nat.le_of_ble_eq_true rfl), (Nat.le_of_ble_eq_true rfl)⟩, (Nat.le_of_ble_eq_true rfl)⟩ ki_X7_add ks_X7_add rfl (am_tab tk_X7_cut 80 rfl) rfl ?_
                    rintro r U8 ⟨rfl, hc8, hm8, ho8, hG8⟩
                    refine am_iload (q := 152) rfl (am_tab tk_X7_cut 81 rfl) rfl ?_
                    refine am_iload_n (q := 153) rfl (am_tab tk_X7_cut 82 rfl) rfl ?_
                    refine am_icmp_le (q := 156) (t := 160) (am_tab tk_X7_cut 83 rfl) (by decide) rfl (fun h153 => ?_) (fun h153 => ?_)
                    · refine am_iconst (q := 161) (n := 0) (by decide) (am_tab tk_X7_cut 86 rfl) rfl ?_
                      refine am_istore_n (q := 162) (by decide) (ls2 := [(1, am_i 0), (4, am_i ((rF b E x : Int))), (3, am_i ((b x))), (2, am_i ((x : Int))), (0, am_r 30)]) rfl (am_tab tk_X7_cut 87 rfl) rfl ?_
                      refine am_iload (q := 164) rfl (am_tab tk_X7_cut 88 rfl) rfl ?_
                      refine am_iload_n (q := 165) rfl (am_tab tk_X7_cut 89 rfl) rfl ?_
                      refine am_iconst (q := 166) (n := 1) (by decide) (am_tab tk_X7_cut 90 rfl) rfl ?_
                      refine am_iadd (q := 167) (by omega) (am_tab tk_X7_cut 91 rfl) rfl ?_
                      refine am_callS0 (q := 170) (me2 := M_J9_max_7cf53) (As := [am_i ((rF b E x : Int)), am_i (((x : Int) + 1))]) (rest := []) (out := [am_i ((max (rF b E x : Int) ((x : Int) + 1)))]) (c_max U8 (rF b E x : Int) ((x : Int) + 1)) ⟨rfl, rfl⟩ ⟨Or.inl km_X7_61, kc_J9_max_7cf53, kn_J9, kd_J9_max_7cf53, ⟨(Nat.le_of_ble_eq_true rfl), (Nat.le_of_ble_eq_true rfl)⟩, ⟨(Nat.le_of_ble_eq_true rfl), (Nat.le_of_ble_eq_true rfl)⟩, (Nat.le_of_ble_eq_true rfl)⟩ ki_J9_max_7cf53 rfl rfl (am_tab tk_X7_cut 92 rfl) rfl ?_
                      refine am_istore_n (q := 171) (by decide) (ls2 := [(2, am_i ((max (rF b E x : Int) ((x : Int) + 1)))), (1, am_i 0), (4, am_i ((rF b E x : Int))), (3, am_i ((b x))), (0, am_r 30)]) rfl (am_tab tk_X7_cut 93 rfl) rfl ?_
                      refine am_goto (t := 9) (am_tab tk_X7_cut 94 rfl) (by decide) ?_
                      have emx : max (rF b E x : Int) ((x : Int) + 1) = ((x + 1 : Nat) : Int) := by omega
                      rw [emx]
                      have htk := hC.tS hxE fl fd (by omega)
                      have hsg : ¬ sgn (b x) = true := fun h => absurd (hv9.mpr (sgn_iff.mp h)) (by omega)
                      have hK2 := hK.on hc8 hm8 ho8 hG8 (by rw [htk.1]) (htk.2.1.trans (if_neg hsg)) htk.2.2.1 (by decide) (by omega) (by decide)
                      exact am_less (by intro q hq; simp only [List.mem_cons, List.not_mem_nil, or_false] at hq; rcases hq with rfl | rfl | rfl <;> simp) (ih9 (x + 1) (i + 1) 0 U8 (by omega) (by omega) (Or.inl rfl) (by omega) htk.2.2.2 hK2)
                    · exact absurd h153 (by omega)
                  · refine am_iload_n (q := 141) rfl (am_tab tk_X7_cut 75 rfl) rfl ?_
                    refine am_goto (t := 145) (am_tab tk_X7_cut 76 rfl) (by decide) ?_
                    refine am_iload_n (q := 146) rfl (am_tab tk_X7_cut 78 rfl) rfl ?_
                    refine am_iconst (q := 147) (n := 0) (by decide) (am_tab tk_X7_cut 79 rfl) rfl ?_
                    refine am_callVr (q := 150) (me2 := M_X7_add) (b := 30) (kb := 7) (nb := 3) (As := [am_i ((b x)), am_i ((x : Int)), am_i 0]) (rest := []) (c_tokAdd T hLT (b x) (x : Int) 0 i ⟨hK.1, by omega⟩ (by omega) (by omega) (by omega)) ⟨rfl, rfl⟩ (Ls_30 hLT) (by decide) ⟨Or.inl km_X7_50, kc_X7_add, kn_X7, kd_X7_add, ⟨(Nat.le_of_ble_eq_true rfl), (Nat.le_of_ble_eq_true rfl)⟩, ⟨(Nat.le_of_ble_eq_true rfl), (Nat.le_of_ble_eq_true rfl)⟩, (Nat.le_of_ble_eq_true rfl)⟩ ki_X7_add ks_X7_add rfl (am_tab tk_X7_cut 80 rfl) rfl ?_
                    rintro r U9 ⟨rfl, hc9, hm9, ho9, hG9⟩
                    refine am_iload (q := 152) rfl (am_tab tk_X7_cut 81 rfl) rfl ?_
                    refine am_iload_n (q := 153) rfl (am_tab tk_X7_cut 82 rfl) rfl ?_
                    refine am_icmp_le (q := 156) (t := 160) (am_tab tk_X7_cut 83 rfl) (by decide) rfl (fun h153 => ?_) (fun h153 => ?_)
                    · refine am_iconst (q := 161) (n := 0) (by decide) (am_tab tk_X7_cut 86 rfl) rfl ?_
                      refine am_istore_n (q := 162) (by decide) (ls2 := [(1, am_i 0), (4, am_i ((rF b E x : Int))), (3, am_i ((b x))), (2, am_i ((x : Int))), (0, am_r 30)]) rfl (am_tab tk_X7_cut 87 rfl) rfl ?_
                      refine am_iload (q := 164) rfl (am_tab tk_X7_cut 88 rfl) rfl ?_
                      refine am_iload_n (q := 165) rfl (am_tab tk_X7_cut 89 rfl) rfl ?_
                      refine am_iconst (q := 166) (n := 1) (by decide) (am_tab tk_X7_cut 90 rfl) rfl ?_
                      refine am_iadd (q := 167) (by omega) (am_tab tk_X7_cut 91 rfl) rfl ?_
                      refine am_callS0 (q := 170) (me2 := M_J9_max_7cf53) (As := [am_i ((rF b E x : Int)), am_i (((x : Int) + 1))]) (rest := []) (out := [am_i ((max (rF b E x : Int) ((x : Int) + 1)))]) (c_max U9 (rF b E x : Int) ((x : Int) + 1)) ⟨rfl, rfl⟩ ⟨Or.inl km_X7_61, kc_J9_max_7cf53, kn_J9, kd_J9_max_7cf53, ⟨(Nat.le_of_ble_eq_true rfl), (Nat.le_of_ble_eq_true rfl)⟩, ⟨(Nat.le_of_ble_eq_true rfl), (Nat.le_of_ble_eq_true rfl)⟩, (Nat.le_of_ble_eq_true rfl)⟩ ki_J9_max_7cf53 rfl rfl (am_tab tk_X7_cut 92 rfl) rfl ?_
                      refine am_istore_n (q := 171) (by decide) (ls2 := [(2, am_i ((max (rF b E x : Int) ((x : Int) + 1)))), (1, am_i 0), (4, am_i ((rF b E x : Int))), (3, am_i ((b x))), (0, am_r 30)]) rfl (am_tab tk_X7_cut 93 rfl) rfl ?_
                      refine am_goto (t := 9) (am_tab tk_X7_cut 94 rfl) (by decide) ?_
                      have emx : max (rF b E x : Int) ((x : Int) + 1) = ((x + 1 : Nat) : Int) := by omega
                      rw [emx]
                      have htk := hC.tS hxE fl fd (by omega)
                      have hsg : sgn (b x) = true := sgn_iff.mpr (hv9.mp (by omega))
                      have hK2 := hK.on hc9 hm9 ho9 hG9 (by rw [htk.1]) (htk.2.1.trans (if_pos hsg)) htk.2.2.1 (by have := sgn_iff.mp hsg; unfold isSg at this; omega) (by omega) (by decide)
                      exact am_less (by intro q hq; simp only [List.mem_cons, List.not_mem_nil, or_false] at hq; rcases hq with rfl | rfl | rfl <;> simp) (ih9 (x + 1) (i + 1) 0 U9 (by omega) (by omega) (Or.inl rfl) (by omega) htk.2.2.2 hK2)
                    · exact absurd h153 (by omega)
            · exact absurd h40 (by omega)
  refine am_less (by intro q hq; simp only [List.mem_cons, List.not_mem_nil, or_false] at hq; rcases hq with rfl | rfl | rfl <;> simp) (L9 (_ + 1) 0 0 0 (am_setN σ 30 2 0) (by exact Nat.lt_succ_self _) (by omega) (Or.inl rfl) (by omega) ⟨rfl, (show (false : Bool) = _ by rw [decide_eq_false (fun h3 => absurd h3.1 (by decide))])⟩ ⟨rfl, fun j hj => absurd hj (Nat.not_lt_zero j), (frw.refl W_tk σ).setN (Or.inl ⟨rfl, rfl⟩)⟩)
