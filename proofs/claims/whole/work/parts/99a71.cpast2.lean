/-- what remember leaves -/
def RMB (f c : Nat) (σ τ : am_H) : Prop := ∃ L, (τ.2.2 43 ((f + c) % 20) = some L ∧ BLK τ L ∧ CPY L 32 σ τ ∧ 131 ≤ L) ∧ (τ.2.1 42 1 = (if c < 20 then (f : Int) else (((f + 1) % 20 : Nat) : Int)) ∧ τ.2.1 42 2 = (if c < 20 then (c : Int) + 1 else (c : Int))) ∧ ((σ.2.2 43 ((f + c) % 20) = some L ∧ τ.1 = σ.1) ∨ (σ.2.2 43 ((f + c) % 20) = none ∧ L = σ.1.length ∧ τ.1 = σ.1 ++ [(1, 11), (11, 8), (11, 91), (11, 91), (11, 60)])) ∧ (∀ a j, a < σ.1.length → ¬ (L ≤ a ∧ a ≤ L + 4) → ¬ (a = 42 ∧ (j = 1 ∨ j = 2)) → τ.2.1 a j = σ.2.1 a j) ∧ ∀ a j, a < σ.1.length → ¬ (a = 43 ∧ j = (f + c) % 20) → τ.2.2 a j = σ.2.2 a j
theorem BLK.fr {W : Nat → Nat → Prop} {σ τ : am_H} {L : Nat} (h : BLK σ L) (hF : frw W σ τ) : BLK τ L := by
  unfold BLK at *
  rw [hF.1, hF.2.1]
  exact h
theorem rem_tail {Q : Option am_V → am_H → Prop} {cells slots f c L : Nat} {τ : am_H} (hce : cells ≤ 5) (hsl : slots ≤ 261) (hL : lay τ) (hf : τ.2.1 42 1 = (f : Int)) (hc : τ.2.1 42 2 = (c : Int)) (hf20 : f < 20) (hc20 : c ≤ 20) (hB : BLK τ L) (h131 : 131 ≤ L) (hr : τ.2.2 43 ((f + c) % 20) = some L)
    (hQ : ∀ T, CPY L 32 τ T → frw (W_li L) τ T → Q none (if c < 20 then am_setN T 42 2 ((c : Int) + 1) else am_setN T 42 1 (((f + 1) % 20 : Nat) : Int))) : am_wp M_X2_remember Q cells slots 35 [(2, am_i (((f + c) % 20 : Nat) : Int)), (0, am_r 42), (1, am_r 32)] [] τ := by
  have hat : (f + c) % 20 < 20 := Nat.mod_lt _ (by decide)
  refine am_aload_n (q := 36) rfl (am_tab tk_X2_remember 20 rfl) rfl ?_
  refine am_getR (q := 39) (a := 42) (k := 2) (n := 3) (j := 0) (r := some 43) (Ls_42 hL) (by decide) rfl (Lr_42_0 hL) (by decide) (Or.inl kf_X2_11) (am_tab tk_X2_remember 21 rfl) rfl ?_
  refine am_iload_n (q := 40) rfl (am_tab tk_X2_remember 22 rfl) rfl ?_
  refine am_aald (q := 41) (a := 43) (n := 20) (r := some L) (Ls_43 hL) (by omega) (by omega) hr (am_tab tk_X2_remember 23 rfl) rfl ?_
  refine am_aload_n (q := 42) rfl (am_tab tk_X2_remember 24 rfl) rfl ?_
  refine am_callVr (q := 45) (me2 := M_X1_copyFrom) (b := L) (kb := 1) (nb := 11) (As := [am_r 32]) (rest := []) (c_copyG τ hB (blk_32 hL) (by omega)) ⟨rfl, rfl⟩ hB.1.1 (by decide) ⟨Or.inr km_X2_25, kc_X1_copyFrom, kn_X1, kd_X1_copyFrom, ⟨(Nat.le_of_ble_eq_true rfl), (Nat.le_of_ble_eq_true rfl)⟩, ⟨(show cells + 0 ≤ 5 by omega), (show slots + 0 ≤ 261 by omega)⟩, (Nat.le_of_ble_eq_true rfl)⟩ ki_X1_copyFrom ks_X1_copyFrom rfl (am_tab tk_X2_remember 25 rfl) rfl ?_
  rintro r T ⟨rfl, hCP, hF⟩
  have hLT := hF.L hL
  have hcT : T.2.1 42 2 = (c : Int) := (hF.2.2 42 2 (by unfold W_li; omega)).trans hc
  have hfT : T.2.1 42 1 = (f : Int) := (hF.2.2 42 1 (by unfold W_li; omega)).trans hf
  have hQT := hQ T hCP hF
  refine am_aload_n (q := 46) rfl (am_tab tk_X2_remember 26 rfl) rfl ?_
  refine am_getI (q := 49) (a := 42) (k := 2) (n := 3) (j := 2) (x := (c : Int)) (Ls_42 hLT) (by decide) rfl hcT (by decide) (Or.inl kf_X2_17) (am_tab tk_X2_remember 27 rfl) rfl ?_
  refine am_bipush (q := 51) (n := 20) (by decide) rfl (am_tab tk_X2_remember 28 rfl) rfl ?_
  refine am_icmp_ge (q := 54) (t := 67) (am_tab tk_X2_remember 29 rfl) (by decide) rfl (fun h51 => ?_) (fun h51 => ?_)
  · rw [if_neg (by omega)] at hQT
    refine am_aload_n (q := 68) rfl (am_tab tk_X2_remember 37 rfl) rfl ?_
    refine am_aload_n (q := 69) rfl (am_tab tk_X2_remember 38 rfl) rfl ?_
    refine am_getI (q := 72) (a := 42) (k := 2) (n := 3) (j := 1) (x := (f : Int)) (Ls_42 hLT) (by decide) rfl hfT (by decide) (Or.inl kf_X2_21) (am_tab tk_X2_remember 39 rfl) rfl ?_
    refine am_iconst (q := 73) (n := 1) (by decide) (am_tab tk_X2_remember 40 rfl) rfl ?_
    refine am_iadd (q := 74) (by omega) (am_tab tk_X2_remember 41 rfl) rfl ?_
    refine am_bipush (q := 76) (n := 20) (by decide) rfl (am_tab tk_X2_remember 42 rfl) rfl ?_
    refine am_irem (q := 77) (by decide) (by omega) (am_tab tk_X2_remember 43 rfl) rfl ?_
    refine am_putI (q := 80) (k := 2) (n := 3) (j := 1) (Ls_42 hLT) (by decide) rfl (by decide) (Or.inl ⟨kf_X2_21, rfl⟩) (am_tab tk_X2_remember 44 rfl) rfl ?_
    exact am_vret rfl hce hsl (am_tab tk_X2_remember 45 rfl) hQT
  · rw [if_pos (by omega)] at hQT
    refine am_aload_n (q := 55) rfl (am_tab tk_X2_remember 30 rfl) rfl ?_
    refine am_dup (q := 56) rfl (am_tab tk_X2_remember 31 rfl) rfl ?_
    refine am_getI (q := 59) (a := 42) (k := 2) (n := 3) (j := 2) (x := (c : Int)) (Ls_42 hLT) (by decide) rfl hcT (by decide) (Or.inl kf_X2_17) (am_tab tk_X2_remember 32 rfl) rfl ?_
    refine am_iconst (q := 60) (n := 1) (by decide) (am_tab tk_X2_remember 33 rfl) rfl ?_
    refine am_iadd (q := 61) (by omega) (am_tab tk_X2_remember 34 rfl) rfl ?_
    refine am_putI (q := 64) (k := 2) (n := 3) (j := 2) (Ls_42 hLT) (by decide) rfl (by decide) (Or.inl ⟨kf_X2_17, rfl⟩) (am_tab tk_X2_remember 35 rfl) rfl ?_
    refine am_goto (t := 80) (am_tab tk_X2_remember 36 rfl) (by decide) ?_
    exact am_vret rfl hce hsl (am_tab tk_X2_remember 45 rfl) hQT
theorem nw_app {l : List (Nat × Nat)} {x : List (Nat × Nat)} (k : Nat) : (l ++ x)[l.length + k]? = x[k]? := by
  rw [List.getElem?_append_right (by omega), show l.length + k - l.length = k by omega]
theorem RT_no43 : RT.all (fun q => decide (¬ q.1 = 43)) = true := by decide +kernel
theorem c_remember {f c : Nat} (σ : am_H) (hL : lay σ) (hf : σ.2.1 42 1 = (f : Int)) (hc : σ.2.1 42 2 = (c : Int)) (hf20 : f < 20) (hc20 : c ≤ 20) (hP : ∀ L, σ.2.2 43 ((f + c) % 20) = some L → 131 ≤ L ∧ BLK σ L) : am_met M_X2_remember [am_r 42, am_r 32] σ (fun r τ => r = none ∧ RMB f c σ τ) := by
  refine am_qq (fun Q hQ => ?_)
  refine am_enter (show plainFor yX2_remember = true by decide +kernel) rfl (Nat.le_of_ble_eq_true rfl) (fun _ _ _ => trivial) ?_
  have hat : (f + c) % 20 < 20 := Nat.mod_lt _ (by decide)
  refine am_aload_n (q := 1) rfl (am_tab tk_X2_remember 0 rfl) rfl ?_
  refine am_getI (q := 4) (a := 42) (k := 2) (n := 3) (j := 1) (x := (f : Int)) (Ls_42 hL) (by decide) rfl hf (by decide) (Or.inl kf_X2_21) (am_tab tk_X2_remember 1 rfl) rfl ?_
  refine am_aload_n (q := 5) rfl (am_tab tk_X2_remember 2 rfl) rfl ?_
  refine am_getI (q := 8) (a := 42) (k := 2) (n := 3) (j := 2) (x := (c : Int)) (Ls_42 hL) (by decide) rfl hc (by decide) (Or.inl kf_X2_17) (am_tab tk_X2_remember 3 rfl) rfl ?_
  refine am_iadd (q := 9) (by omega) (am_tab tk_X2_remember 4 rfl) rfl ?_
  refine am_bipush (q := 11) (n := 20) (by decide) rfl (am_tab tk_X2_remember 5 rfl) rfl ?_
  refine am_irem (q := 12) (by decide) (by omega) (am_tab tk_X2_remember 6 rfl) rfl ?_
  refine am_st (st2 := [am_i (((f + c) % 20 : Nat) : Int)]) rfl ?_
  refine am_istore_n (q := 13) (by decide) (ls2 := [(2, am_i (((f + c) % 20 : Nat) : Int)), (0, am_r 42), (1, am_r 32)]) rfl (am_tab tk_X2_remember 7 rfl) rfl ?_
  refine am_aload_n (q := 14) rfl (am_tab tk_X2_remember 8 rfl) rfl ?_
  refine am_getR (q := 17) (a := 42) (k := 2) (n := 3) (j := 0) (r := some 43) (Ls_42 hL) (by decide) rfl (Lr_42_0 hL) (by decide) (Or.inl kf_X2_11) (am_tab tk_X2_remember 9 rfl) rfl ?_
  refine am_iload_n (q := 18) rfl (am_tab tk_X2_remember 10 rfl) rfl ?_
  refine am_aald (q := 19) (a := 43) (n := 20) (r := σ.2.2 43 ((f + c) % 20)) (Ls_43 hL) (by omega) (by omega) rfl (am_tab tk_X2_remember 11 rfl) rfl ?_
  refine am_ifnonnull (q := 22) (t := 35) (am_tab tk_X2_remember 12 rfl) (by decide) rfl (fun h19 => ?_) (fun h19 => ?_)
  · cases hr : σ.2.2 43 ((f + c) % 20) with
    | none => exact absurd hr h19
    | some L =>
      obtain ⟨h131, hB⟩ := hP L hr
      refine rem_tail (by decide) (by decide) hL hf hc hf20 hc20 hB h131 hr (fun T hCP hF => hQ _ _ ⟨rfl, L, ?_⟩)
      have hlen := len131 hL
      by_cases g : c < 20
      · rw [if_pos g]
        refine ⟨⟨by rw [setN_r, hF.2.1]; exact hr, (hB.fr hF).fr ((frw.refl (fun _ _ => True) T).setN trivial), ?_, h131⟩, ⟨?_, ?_⟩, Or.inl ⟨hr, hF.1⟩, fun a j h1 h2 h3 => ?_, fun a j _ _ => by rw [setN_r, hF.2.1]⟩
        · obtain ⟨p1, p2, p3, p4, p5⟩ := hCP
          exact ⟨fun j hj => (set_nn (by omega)).trans (p1 j hj), fun j hj => (set_nn (by omega)).trans (p2 j hj), fun j hj => (set_nn (by omega)).trans (p3 j hj), fun j hj => (set_nn (by omega)).trans (p4 j hj), fun j hj => (set_nn (by omega)).trans (p5 j hj)⟩
        · rw [if_pos g, set_nn (by omega), hF.2.2 42 1 (by unfold W_li; omega)]; exact hf
        · rw [if_pos g, set_eq]
        · rw [set_nn (by omega)]; exact hF.2.2 a j h2
      · rw [if_neg g]
        refine ⟨⟨by rw [setN_r, hF.2.1]; exact hr, (hB.fr hF).fr ((frw.refl (fun _ _ => True) T).setN trivial), ?_, h131⟩, ⟨?_, ?_⟩, Or.inl ⟨hr, hF.1⟩, fun a j h1 h2 h3 => ?_, fun a j _ _ => by rw [setN_r, hF.2.1]⟩
        · obtain ⟨p1, p2, p3, p4, p5⟩ := hCP
          exact ⟨fun j hj => (set_nn (by omega)).trans (p1 j hj), fun j hj => (set_nn (by omega)).trans (p2 j hj), fun j hj => (set_nn (by omega)).trans (p3 j hj), fun j hj => (set_nn (by omega)).trans (p4 j hj), fun j hj => (set_nn (by omega)).trans (p5 j hj)⟩
        · rw [if_neg g, set_eq]
        · rw [if_neg g, set_nn (by omega), hF.2.2 42 2 (by unfold W_li; omega)]; exact hc
        · rw [set_nn (by omega)]; exact hF.2.2 a j h2
  · have hr : σ.2.2 43 ((f + c) % 20) = none := Decidable.of_not_not h19
    have hlen := len131 hL
    obtain ⟨L, hLn⟩ : ∃ L, σ.1.length = L := ⟨_, rfl⟩
    refine am_aload_n (q := 23) rfl (am_tab tk_X2_remember 13 rfl) rfl ?_
    refine am_getR (q := 26) (a := 42) (k := 2) (n := 3) (j := 0) (r := some 43) (Ls_42 hL) (by decide) rfl (Lr_42_0 hL) (by decide) (Or.inl kf_X2_11) (am_tab tk_X2_remember 14 rfl) rfl ?_
    refine am_iload_n (q := 27) rfl (am_tab tk_X2_remember 15 rfl) rfl ?_
    refine am_newOa (q := 30) (k := 1) (a := L) hLn (by decide) kl_X2_9 kt_X1 kn_X1 (Nat.le_of_ble_eq_true rfl) (Nat.le_of_ble_eq_true rfl) (am_tab tk_X2_remember 16 rfl) rfl ?_
    refine am_dup (q := 31) rfl (am_tab tk_X2_remember 17 rfl) rfl ?_
    refine am_callI0 (q := 34) (me2 := M_X1_init) (b := L) (As := []) (rest := [am_r L, am_i (((f + c) % 20 : Nat) : Int), am_r 43]) (c_X1_init (am_newAt σ L 1 11) L (L + 1) (am_newAt_len hLn) (am_newAt_at hLn)) rfl rfl ⟨Or.inr km_X2_24, kc_X1_init, kn_X1, kd_X1_init, ⟨(Nat.le_of_ble_eq_true rfl), (Nat.le_of_ble_eq_true rfl)⟩, ⟨(Nat.le_of_ble_eq_true rfl), (Nat.le_of_ble_eq_true rfl)⟩, (Nat.le_of_ble_eq_true rfl)⟩ ki_X1_init rfl (am_tab tk_X2_remember 18 rfl) rfl ?_
    have hsh : (iX1 (am_newAt σ L 1 11) L (L + 1)).1 = σ.1 ++ [(1, 11), (11, 8), (11, 91), (11, 91), (11, 60)] := by
      show ((((σ.1 ++ [(1, 11)]) ++ [(11, 8)]) ++ [(11, 91)]) ++ [(11, 91)]) ++ [(11, 60)] = _
      simp only [List.append_assoc, List.cons_append, List.nil_append]
    have sh : ∀ k, (iX1 (am_newAt σ L 1 11) L (L + 1)).1[L + k]? = [(1, 11), (11, 8), (11, 91), (11, 91), (11, 60)][k]? := fun k => by
      rw [hsh, ← hLn]
      exact nw_app k
    have hold : ∀ {a : Nat} {q : Nat × Nat}, σ.1[a]? = some q → (iX1 (am_newAt σ L 1 11) L (L + 1)).1[a]? = some q := fun {a q} h => by
      rw [hsh, List.getElem?_append_left (lt_of_at h)]
      exact h
    refine am_aast (q := 35) (a := 43) (n := 20) (b := L) (nb := 11) (hold (Ls_43 hL)) (sh 0) (by omega) (by omega) (am_tab tk_X2_remember 19 rfl) rfl ?_
    obtain ⟨T0, hT0⟩ : ∃ T0, am_setR (iX1 (am_newAt σ L 1 11) L (L + 1)) 43 (((((f + c) % 20 : Nat) : Int)).toNat) (some L) = T0 := ⟨_, rfl⟩
    have hat2 : ((((f + c) % 20 : Nat) : Int)).toNat = (f + c) % 20 := by omega
    rw [hat2] at hT0
    refine am_hp2 (σ1 := T0) (by rw [hat2]; exact hT0) ?_
    have c1 : ∀ a j, a < L → T0.2.1 a j = σ.2.1 a j := fun a j h => by
      rw [← hT0]
      simp (disch := omega) only [iX1, setR_n, new_n, set_nn]
    have c2 : ∀ a j, a < L → ¬ (a = 43 ∧ j = (f + c) % 20) → T0.2.2 a j = σ.2.2 a j := fun a j h h2 => by
      rw [← hT0]
      simp (disch := omega) only [iX1, setR_nn, setN_r, new_r]
    have hs0 : T0.1 = σ.1 ++ [(1, 11), (11, 8), (11, 91), (11, 91), (11, 60)] := by rw [← hT0]; exact hsh
    have hB0 : BLK T0 L := by
      rw [← hT0]
      refine ⟨⟨sh 0, sh 1, sh 2, sh 3, sh 4⟩, ?_, ?_, ?_, ?_⟩ <;> simp (disch := omega) only [iX1, setR_nn, setR_eq, setN_r, new_r] <;> rfl
    have hL0 : lay T0 := by
      refine ⟨fun k hk => ?_, fun i q hq => ?_⟩
      · rw [hs0, List.getElem?_append_left (by omega)]
        exact hL.1 k hk
      · have hm : q ∈ RT := List.mem_of_getElem? hq
        have h5 := of_decide_eq_true (List.all_eq_true.mp RT_no5 q hm)
        have h6 := of_decide_eq_true (List.all_eq_true.mp RT_no43 q hm)
        rw [c2 q.1 q.2.1 (by omega) (fun z => h6 z.1)]
        exact hL.2 i q hq
    have hr0 : T0.2.2 43 ((f + c) % 20) = some L := by rw [← hT0]; exact setR_eq
    refine rem_tail (by decide) (by decide) hL0 ((c1 42 1 (by omega)).trans hf) ((c1 42 2 (by omega)).trans hc) hf20 hc20 hB0 (by omega) hr0 (fun T hCP hF => hQ _ _ ⟨rfl, L, ?_⟩)
    have cpt : CPY L 32 σ T := by
      obtain ⟨p1, p2, p3, p4, p5⟩ := hCP
      exact ⟨fun j hj => (p1 j hj).trans (c1 _ _ (by omega)), fun j hj => (p2 j hj).trans (c1 _ _ (by omega)), fun j hj => (p3 j hj).trans (c1 _ _ (by omega)), fun j hj => (p4 j hj).trans (c1 _ _ (by omega)), fun j hj => (p5 j hj).trans (c1 _ _ (by omega))⟩
    have cps : ∀ j x, j = 1 ∨ j = 2 → CPY L 32 σ (am_setN T 42 j x) := fun j x _ => by
      obtain ⟨p1, p2, p3, p4, p5⟩ := cpt
      exact ⟨fun j hj => (set_nn (by omega)).trans (p1 j hj), fun j hj => (set_nn (by omega)).trans (p2 j hj), fun j hj => (set_nn (by omega)).trans (p3 j hj), fun j hj => (set_nn (by omega)).trans (p4 j hj), fun j hj => (set_nn (by omega)).trans (p5 j hj)⟩
    have hTr : T.2.2 = T0.2.2 := hF.2.1
    by_cases g : c < 20
    · rw [if_pos g]
      refine ⟨⟨by rw [setN_r, hTr]; exact hr0, (hB0.fr hF).fr ((frw.refl (fun _ _ => True) T).setN trivial), cps 2 _ (Or.inr rfl), by omega⟩, ⟨?_, ?_⟩, Or.inr ⟨hr, hLn.symm, hF.1.trans hs0⟩, fun a j h1 h2 h3 => ?_, fun a j h1 h2 => by rw [setN_r, hTr]; exact c2 a j (by omega) h2⟩
      · rw [if_pos g, set_nn (by omega), hF.2.2 42 1 (by unfold W_li; omega), c1 42 1 (by omega)]; exact hf
      · rw [if_pos g, set_eq]
      · rw [set_nn (by omega), hF.2.2 a j h2]; exact c1 a j (by omega)
    · rw [if_neg g]
      refine ⟨⟨by rw [setN_r, hTr]; exact hr0, (hB0.fr hF).fr ((frw.refl (fun _ _ => True) T).setN trivial), cps 1 _ (Or.inl rfl), by omega⟩, ⟨?_, ?_⟩, Or.inr ⟨hr, hLn.symm, hF.1.trans hs0⟩, fun a j h1 h2 h3 => ?_, fun a j h1 h2 => by rw [setN_r, hTr]; exact c2 a j (by omega) h2⟩
      · rw [if_neg g, set_eq]
      · rw [if_neg g, set_nn (by omega), hF.2.2 42 2 (by unfold W_li; omega), c1 42 2 (by omega)]; exact hc
      · rw [set_nn (by omega), hF.2.2 a j h2]; exact c1 a j (by omega)
