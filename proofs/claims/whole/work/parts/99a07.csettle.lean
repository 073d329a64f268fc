def W_se (l a j : Nat) : Prop := (a = 44 ∧ j = 7) ∨ (a = l ∧ j ≤ 2) ∨ a = l + 1 ∨ a = l + 3
theorem nwD_lt {H : am_H} {k : Nat} (hk : k < 202) : nwD H k = noD H k := by
  unfold nwD kpA
  split
  · rw [if_neg (by omega), if_neg (by omega), if_neg (by omega), if_neg (by omega), if_neg (by omega)]
  · rw [if_neg (by omega), if_neg (by omega), if_neg (by omega), if_neg (by omega), if_neg (by omega)]
theorem noD_far {H : am_H} {k : Nat} (h1 : ¬ k = 111 + (bgN H 1).toNat) (h2 : ¬ (4 ≤ k ∧ k < 4 + pN H)) (h3 : ¬ k = 2) : noD H k = bgN H k := by
  unfold noD bsN
  rw [if_neg h1, if_neg h2, if_neg h3]
/-- the life behind the day -/
theorem LF0_day {l : Nat} {σ T H : am_H} (hG : GD H) (hc : cc H) (hF : LF0 l σ (fun k => H.2.1 96 k)) (hW : frw (W_se l) σ T) (h44 : ¬ l = 44 ∧ ¬ l + 1 = 44 ∧ ¬ l + 2 = 44 ∧ ¬ l + 3 = 44) (h0 : T.2.1 l 0 = bgN H 0) (h1 : T.2.1 l 1 = bgN H 1) (h2 : T.2.1 l 2 = bsN H 2) (hag : ∀ q : Nat, q < 8 → T.2.1 (l + 1) q = if q < pN H then agD H q else H.2.1 96 (4 + q)) (hbr : ∀ d : Nat, d < 91 → T.2.1 (l + 3) d = if d = (bgN H 1).toNat then 0 else H.2.1 96 (111 + d)) : LF0 l T (fun k => (dyS H).2.1 96 k) := by
  have h8 : pN H ≤ 8 := by have := hG.R.P; unfold pN; omega
  have hb := bg1_rng hG hc
  have hY := hG.R.Y
  have e : ∀ k, k < 202 → (dyS H).2.1 96 k = noD H k := fun k hk => nwD_lt hk
  refine ⟨⟨?_, ?_, ?_, ?_⟩, ?_, fun p hp => ?_, fun p hp => ?_, fun d hd => ?_, fun d hd => ?_⟩
  · show _ = (dyS H).2.1 96 0
    rw [e 0 (by omega), noD_far (by omega) (by omega) (by omega)]; exact h0
  · show _ = (dyS H).2.1 96 1
    rw [e 1 (by omega), noD_far (by omega) (by omega) (by omega)]; exact h1
  · show _ = (dyS H).2.1 96 2
    rw [e 2 (by omega), h2]
    unfold noD
    rw [if_neg (by omega), if_neg (by omega)]
  · show _ = (dyS H).2.1 96 3
    rw [e 3 (by omega), noD_far (by omega) (by omega) (by omega), bgN_far (by omega), hW.2.2 l 3 (by unfold W_se; omega)]; exact hF.1.2.2.2
  · rw [hW.2.2 l 4 (by unfold W_se; omega)]; exact hF.2.1
  · show _ = (dyS H).2.1 96 (12 + p)
    rw [e _ (by omega), noD_far (by omega) (by omega) (by omega), bgN_far (by omega), hW.2.2 l 4 (by unfold W_se; omega)]; exact hF.2.2.1 p hp
  · show _ = (dyS H).2.1 96 (4 + p)
    rw [e _ (by omega), hag p hp]
    by_cases hpp : p < pN H
    · rw [if_pos hpp]
      unfold noD
      rw [if_neg (by omega), if_pos (by omega), show 4 + p - 4 = p by omega]
    · rw [if_neg hpp, noD_far (by omega) (by omega) (by omega), bgN_far (by omega)]
  · show _ = (dyS H).2.1 96 (20 + d)
    rw [e _ (by omega), noD_far (by omega) (by omega) (by omega), bgN_far (by omega), hW.2.2 (l + 2) d (by unfold W_se; omega)]; exact hF.2.2.2.2.1 d hd
  · show _ = (dyS H).2.1 96 (111 + d)
    rw [e _ (by omega), hbr d hd]
    by_cases hdd : d = (bgN H 1).toNat
    · rw [if_pos hdd]
      unfold noD
      rw [if_pos (by omega)]
    · rw [if_neg hdd, noD_far (by omega) (by omega) (by omega), bgN_far (by omega)]
theorem fsD01 (H : am_H) : fsD H = 0 ∨ fsD H = 1 := by unfold fsD; split <;> simp
theorem cpS {n j : Nat} {f g : Nat → Int} (hj : j < n) : (if Int.toNat 0 ≤ j ∧ j < Int.toNat 0 + Int.toNat (n : Int) then f (Int.toNat 0 + (j - Int.toNat 0)) else g j) = f j := by
  rw [if_pos (by constructor <;> omega)]
  congr 1
  omega
/-- one life is a copy of another -/
def CPY (d s : Nat) (σ τ : am_H) : Prop := (∀ j, j ≤ 4 ∨ j = 9 ∨ j = 10 → τ.2.1 d j = σ.2.1 s j) ∧ (∀ j, j < 8 → τ.2.1 (d + 1) j = σ.2.1 (s + 1) j) ∧ (∀ j, j < 91 → τ.2.1 (d + 2) j = σ.2.1 (s + 2) j) ∧ (∀ j, j < 91 → τ.2.1 (d + 3) j = σ.2.1 (s + 3) j) ∧ (∀ j, j < 60 → τ.2.1 (d + 4) j = σ.2.1 (s + 4) j)
def W_li (d a j : Nat) : Prop := d ≤ a ∧ a ≤ d + 4
theorem CPY.lf {d s : Nat} {σ τ : am_H} {g : Nat → Int} (h : CPY d s σ τ) (hF : LF0 s σ g) : LF0 d τ g := by
  obtain ⟨c0, c1, c2, c3, c4⟩ := h
  obtain ⟨h1, h2, h3, h4, h5, h6⟩ := hF
  refine ⟨by rw [c0 0 (by omega), c0 1 (by omega), c0 2 (by omega), c0 3 (by omega)]; exact h1, by rw [c0 4 (by omega)]; exact h2, fun p hp => by rw [c0 4 (by omega)]; exact h3 p hp, fun p hp => by rw [c1 p hp]; exact h4 p hp, fun p hp => by rw [c2 p hp]; exact h5 p hp, fun p hp => by rw [c3 p hp]; exact h6 p hp⟩
theorem CPY.rw {d s : Nat} {σ τ : am_H} {g : Nat → Int} (h : CPY d s σ τ) (hF : RWr s σ g) : RWr d τ g := by
  obtain ⟨c0, c1, c2, c3, c4⟩ := h
  obtain ⟨h1, h2, h3⟩ := hF
  refine ⟨by rw [c0 9 (by omega)]; exact h1, by rw [c0 10 (by omega)]; exact h2, fun k hk => ?_⟩
  rw [c0 9 (by omega), c4 _ (Nat.mod_lt _ (by decide))]
  exact h3 k hk
set_option maxRecDepth 100000 in
theorem c_settle_3_32 (σ H : am_H) (hL : lay σ) (hG : GD H) (hc : cc H) (hF : LF0 32 σ (fun k => H.2.1 96 k))  (aw : Int) (hA : DAW 3 32 aw H σ) : am_met M_X0_settle [am_r 44] σ (fun r σ' => r = none ∧ LF0 32 σ' (fun k => (dyS H).2.1 96 k) ∧ frw (W_se 32) σ σ') := by
  refine am_qq (fun Q hQ => ?_)
  refine am_enter (show plainFor yX0_settle = true by decide +kernel) rfl (Nat.le_of_ble_eq_true rfl) (fun _ _ _ => trivial) ?_
  have h8 : pN H ≤ 8 := by have := hG.R.P; unfold pN; omega
  have hb1 := bg1_rng hG hc
  have hYY := hG.R.Y
  have hpn : (pN H : Int) = H.2.1 85 5 := by have := hG.R.P; unfold pN; omega
  refine am_aload_n (q := 1) rfl (am_tab tk_X0_settle 0 rfl) rfl ?_
  refine am_getI (q := 4) (a := 44) (k := 0) (n := 14) (j := 7) (x := 1) (Ls_44 hL) (by decide) rfl hA.2.2.2.2.2.2 (by decide) (Or.inl kf_X0_38) (am_tab tk_X0_settle 1 rfl) rfl ?_
  refine am_if_ne (q := 7) (t := 8) (am_tab tk_X0_settle 2 rfl) (by decide) rfl (fun h4 => ?_) (fun h4 => ?_)
  · have L75 : ∀ (n75 : Nat) (p : Nat) (T : am_H), 8 - p < n75 → frw (W_se 32) σ T → T.2.1 32 0 = bgN H 0 → T.2.1 32 1 = bgN H 1 → T.2.1 32 2 = bsN H 2 → (∀ q : Nat, q < 8 → T.2.1 33 q = if q < p then agD H q else H.2.1 96 (4 + q)) → (∀ d : Nat, d < 91 → T.2.1 35 d = if d = (bgN H 1).toNat then 0 else H.2.1 96 (111 + d)) → p ≤ pN H → am_wp M_X0_settle Q 0 0 75 [(1, am_i ((p : Int))), (0, am_r 44)] [] T := by
      intro n75
      induction n75 with
      | zero => intro p T hn75; exact absurd hn75 (Nat.not_lt_zero _)
      | succ n75 ih75 =>
        intro p T hn75 hW h0 h1 h2 hag hbr hp
        refine am_iload_n (q := 76) rfl (am_tab tk_X0_settle 37 rfl) rfl ?_
        refine am_aload_n (q := 77) rfl (am_tab tk_X0_settle 38 rfl) rfl ?_
        refine am_getR (q := 80) (a := 44) (k := 0) (n := 14) (j := 8) (r := some (3)) (Ls_44 (hW.L hL)) (by decide) rfl ((congrFun (congrFun hW.2.1 44) 8).trans hA.1.1.1) (by decide) (Or.inl kf_X0_24) (am_tab tk_X0_settle 39 rfl) rfl ?_
        refine am_getI (q := 83) (a := 3) (k := 8) (n := 17) (j := 2) (x := (H.2.1 85 5)) (Ls_3 (hW.L hL)) (by decide) rfl ((hW.2.2 3 2 (by unfold W_se; omega)).trans hA.1.tw.people) (by decide) (Or.inr kf_X0_102) (am_tab tk_X0_settle 40 rfl) rfl ?_
        refine am_icmp_ge (q := 86) (t := 150) (am_tab tk_X0_settle 41 rfl) (by decide) rfl (fun h83 => ?_) (fun h83 => ?_)
        · refine am_vret rfl (Nat.le_of_ble_eq_true rfl) (Nat.le_of_ble_eq_true rfl) (am_tab tk_X0_settle 75 rfl) ?_
          refine hQ _ _ ?_
          rw [show p = pN H by omega] at hag
          exact ⟨rfl, LF0_day hG hc hF hW (by decide) h0 h1 h2 hag hbr, hW⟩
        · have hpp : p < pN H := by omega
          have ha9 := hG.R.ago p (by omega)
          refine am_aload_n (q := 87) rfl (am_tab tk_X0_settle 42 rfl) rfl ?_
          refine am_getI (q := 90) (a := 44) (k := 0) (n := 14) (j := 6) (x := (fsD H)) (Ls_44 (hW.L hL)) (by decide) rfl ((hW.2.2 44 6 (by unfold W_se; omega)).trans hA.2.2.2.2.2.1) (by decide) (Or.inl kf_X0_99) (am_tab tk_X0_settle 43 rfl) rfl ?_
          refine am_if_ne (q := 93) (t := 105) (am_tab tk_X0_settle 44 rfl) (by decide) rfl (fun h90 => ?_) (fun h90 => ?_)
          · refine am_iconst (q := 106) (n := 1) (by decide) (am_tab tk_X0_settle 51 rfl) rfl ?_
            refine am_goto (t := 110) (am_tab tk_X0_settle 52 rfl) (by decide) ?_
            refine am_istore_n (q := 111) (by decide) (ls2 := [(2, am_i 1), (1, am_i ((p : Int))), (0, am_r 44)]) rfl (am_tab tk_X0_settle 54 rfl) rfl ?_
            refine am_aload_n (q := 112) rfl (am_tab tk_X0_settle 55 rfl) rfl ?_
            refine am_getR (q := 115) (a := 44) (k := 0) (n := 14) (j := 9) (r := some (32)) (Ls_44 (hW.L hL)) (by decide) rfl ((congrFun (congrFun hW.2.1 44) 9).trans hA.1.1.2) (by decide) (Or.inl kf_X0_28) (am_tab tk_X0_settle 56 rfl) rfl ?_
            refine am_getR (q := 118) (a := 32) (k := 1) (n := 11) (j := 5) (r := some (33)) (Ls_32 (hW.L hL)) (by decide) rfl (Lr_32_5 (hW.L hL)) (by decide) (Or.inr kf_X0_108) (am_tab tk_X0_settle 57 rfl) rfl ?_
            refine am_iload_n (q := 119) rfl (am_tab tk_X0_settle 58 rfl) rfl ?_
            refine am_iload_n (q := 120) rfl (am_tab tk_X0_settle 59 rfl) rfl ?_
            refine am_if_eq (q := 123) (t := 127) (am_tab tk_X0_settle 60 rfl) (by decide) rfl (fun h120 => ?_) (fun h120 => ?_)
            · exact absurd h120 (by decide)
            · refine am_iconst (q := 124) (n := 0) (by decide) (am_tab tk_X0_settle 61 rfl) rfl ?_
              refine am_goto (t := 143) (am_tab tk_X0_settle 62 rfl) (by decide) ?_
              refine am_iast (q := 144) (a := 33) (n := 8) (Ls_33 (hW.L hL)) (by omega) (by omega) (am_tab tk_X0_settle 72 rfl) rfl ?_
              refine am_iinc (q := 147) rfl (by omega) (by decide) (ls2 := [(1, am_i (((p : Int) + 1))), (2, am_i 1), (0, am_r 44)]) rfl (am_tab tk_X0_settle 73 rfl) rfl ?_
              refine am_goto (t := 75) (am_tab tk_X0_settle 74 rfl) (by decide) ?_
              have hav : agD H p = 0 := by
                unfold agD
                rw [if_pos (by have := fsD01 H; omega)]
              exact am_less (by intro q hq; simp only [List.mem_cons, List.not_mem_nil, or_false] at hq; rcases hq with rfl | rfl <;> simp) (ih75 (p + 1) (am_setN T 33 (Int.toNat (p : Int)) 0) (by omega) (hW.setN (by unfold W_se; omega)) h0 h1 h2 (fun q hq => by show (if 33 = 33 ∧ q = Int.toNat (p : Int) then 0 else T.2.1 33 q) = _; by_cases g : q = p; (rw [if_pos ⟨rfl, by omega⟩, if_pos (by omega), g]; exact hav.symm); (rw [if_neg (fun z => g (by omega)), hag q hq]; by_cases g2 : q < p; (rw [if_pos g2, if_pos (by omega)]); (rw [if_neg g2, if_neg (by omega)]))) hbr (by omega))
          · refine am_aload_n (q := 94) rfl (am_tab tk_X0_settle 45 rfl) rfl ?_
            refine am_getI (q := 97) (a := 44) (k := 0) (n := 14) (j := 5) (x := (thD H)) (Ls_44 (hW.L hL)) (by decide) rfl ((hW.2.2 44 5 (by unfold W_se; omega)).trans hA.2.2.2.2.1) (by decide) (Or.inl kf_X0_96) (am_tab tk_X0_settle 46 rfl) rfl ?_
            refine am_iload_n (q := 98) rfl (am_tab tk_X0_settle 47 rfl) rfl ?_
            refine am_callS0 (q := 101) (me2 := M_X9_bit) (As := [am_i ((thD H)), am_i ((p : Int))]) (rest := []) (out := [am_i (tb (thD H) (p : Int))]) (c_bit T (thD H) (p : Int) (thD_rng hG hc) (by omega)) ⟨rfl, rfl⟩ ⟨Or.inr km_X0_105, kc_X9_bit, kn_X9, kd_X9_bit, ⟨(Nat.le_of_ble_eq_true rfl), (Nat.le_of_ble_eq_true rfl)⟩, ⟨(Nat.le_of_ble_eq_true rfl), (Nat.le_of_ble_eq_true rfl)⟩, (Nat.le_of_ble_eq_true rfl)⟩ ki_X9_bit rfl rfl (am_tab tk_X0_settle 48 rfl) rfl ?_
            refine am_iconst (q := 102) (n := 1) (by decide) (am_tab tk_X0_settle 49 rfl) rfl ?_
            refine am_icmp_ne (q := 105) (t := 109) (am_tab tk_X0_settle 50 rfl) (by decide) rfl (fun h102 => ?_) (fun h102 => ?_)
            · refine am_iconst (q := 110) (n := 0) (by decide) (am_tab tk_X0_settle 53 rfl) rfl ?_
              refine am_istore_n (q := 111) (by decide) (ls2 := [(2, am_i 0), (1, am_i ((p : Int))), (0, am_r 44)]) rfl (am_tab tk_X0_settle 54 rfl) rfl ?_
              refine am_aload_n (q := 112) rfl (am_tab tk_X0_settle 55 rfl) rfl ?_
              refine am_getR (q := 115) (a := 44) (k := 0) (n := 14) (j := 9) (r := some (32)) (Ls_44 (hW.L hL)) (by decide) rfl ((congrFun (congrFun hW.2.1 44) 9).trans hA.1.1.2) (by decide) (Or.inl kf_X0_28) (am_tab tk_X0_settle 56 rfl) rfl ?_
              refine am_getR (q := 118) (a := 32) (k := 1) (n := 11) (j := 5) (r := some (33)) (Ls_32 (hW.L hL)) (by decide) rfl (Lr_32_5 (hW.L hL)) (by decide) (Or.inr kf_X0_108) (am_tab tk_X0_settle 57 rfl) rfl ?_
              refine am_iload_n (q := 119) rfl (am_tab tk_X0_settle 58 rfl) rfl ?_
              refine am_iload_n (q := 120) rfl (am_tab tk_X0_settle 59 rfl) rfl ?_
              refine am_if_eq (q := 123) (t := 127) (am_tab tk_X0_settle 60 rfl) (by decide) rfl (fun h120 => ?_) (fun h120 => ?_)
              · refine am_bipush (q := 129) (n := 99) (by decide) rfl (am_tab tk_X0_settle 63 rfl) rfl ?_
                refine am_aload_n (q := 130) rfl (am_tab tk_X0_settle 64 rfl) rfl ?_
                refine am_getR (q := 133) (a := 44) (k := 0) (n := 14) (j := 9) (r := some (32)) (Ls_44 (hW.L hL)) (by decide) rfl ((congrFun (congrFun hW.2.1 44) 9).trans hA.1.1.2) (by decide) (Or.inl kf_X0_28) (am_tab tk_X0_settle 65 rfl) rfl ?_
                refine am_getR (q := 136) (a := 32) (k := 1) (n := 11) (j := 5) (r := some (33)) (Ls_32 (hW.L hL)) (by decide) rfl (Lr_32_5 (hW.L hL)) (by decide) (Or.inr kf_X0_108) (am_tab tk_X0_settle 66 rfl) rfl ?_
                refine am_iload_n (q := 137) rfl (am_tab tk_X0_settle 67 rfl) rfl ?_
                refine am_iald (q := 138) (a := 33) (n := 8) (x := (H.2.1 96 (4 + p))) (Ls_33 (hW.L hL)) (by omega) (by omega) (by rw [show Int.toNat (p : Int) = p by omega, hag p (by omega), if_neg (Nat.lt_irrefl p)]) (am_tab tk_X0_settle 68 rfl) rfl ?_
                refine am_iconst (q := 139) (n := 1) (by decide) (am_tab tk_X0_settle 69 rfl) rfl ?_
                refine am_iadd (q := 140) (by omega) (am_tab tk_X0_settle 70 rfl) rfl ?_
                refine am_callS0 (q := 143) (me2 := M_J9_min_7cf53) (As := [am_i 99, am_i (((H.2.1 96 (4 + p)) + 1))]) (rest := [am_i ((p : Int)), am_r 33]) (out := [am_i (min 99 ((H.2.1 96 (4 + p)) + 1)), am_i ((p : Int)), am_r 33]) (c_min T 99 ((H.2.1 96 (4 + p)) + 1)) ⟨rfl, rfl⟩ ⟨Or.inl km_X0_111, kc_J9_min_7cf53, kn_J9, kd_J9_min_7cf53, ⟨(Nat.le_of_ble_eq_true rfl), (Nat.le_of_ble_eq_true rfl)⟩, ⟨(Nat.le_of_ble_eq_true rfl), (Nat.le_of_ble_eq_true rfl)⟩, (Nat.le_of_ble_eq_true rfl)⟩ ki_J9_min_7cf53 rfl rfl (am_tab tk_X0_settle 71 rfl) rfl ?_
                refine am_iast (q := 144) (a := 33) (n := 8) (Ls_33 (hW.L hL)) (by omega) (by omega) (am_tab tk_X0_settle 72 rfl) rfl ?_
                refine am_iinc (q := 147) rfl (by omega) (by decide) (ls2 := [(1, am_i (((p : Int) + 1))), (2, am_i 0), (0, am_r 44)]) rfl (am_tab tk_X0_settle 73 rfl) rfl ?_
                refine am_goto (t := 75) (am_tab tk_X0_settle 74 rfl) (by decide) ?_
                have hav : agD H p = min 99 ((H.2.1 96 (4 + p)) + 1) := by
                  unfold agD
                  rw [if_neg (by have := fsD01 H; omega), bgN_far (by omega)]; split <;> omega
                exact am_less (by intro q hq; simp only [List.mem_cons, List.not_mem_nil, or_false] at hq; rcases hq with rfl | rfl <;> simp) (ih75 (p + 1) (am_setN T 33 (Int.toNat (p : Int)) (min 99 ((H.2.1 96 (4 + p)) + 1))) (by omega) (hW.setN (by unfold W_se; omega)) h0 h1 h2 (fun q hq => by show (if 33 = 33 ∧ q = Int.toNat (p : Int) then min 99 ((H.2.1 96 (4 + p)) + 1) else T.2.1 33 q) = _; by_cases g : q = p; (rw [if_pos ⟨rfl, by omega⟩, if_pos (by omega), g]; exact hav.symm); (rw [if_neg (fun z => g (by omega)), hag q hq]; by_cases g2 : q < p; (rw [if_pos g2, if_pos (by omega)]); (rw [if_neg g2, if_neg (by omega)]))) hbr (by omega))
              · exact absurd h120 (by decide)
            · refine am_iconst (q := 106) (n := 1) (by decide) (am_tab tk_X0_settle 51 rfl) rfl ?_
              refine am_goto (t := 110) (am_tab tk_X0_settle 52 rfl) (by decide) ?_
              refine am_istore_n (q := 111) (by decide) (ls2 := [(2, am_i 1), (1, am_i ((p : Int))), (0, am_r 44)]) rfl (am_tab tk_X0_settle 54 rfl) rfl ?_
              refine am_aload_n (q := 112) rfl (am_tab tk_X0_settle 55 rfl) rfl ?_
              refine am_getR (q := 115) (a := 44) (k := 0) (n := 14) (j := 9) (r := some (32)) (Ls_44 (hW.L hL)) (by decide) rfl ((congrFun (congrFun hW.2.1 44) 9).trans hA.1.1.2) (by decide) (Or.inl kf_X0_28) (am_tab tk_X0_settle 56 rfl) rfl ?_
              refine am_getR (q := 118) (a := 32) (k := 1) (n := 11) (j := 5) (r := some (33)) (Ls_32 (hW.L hL)) (by decide) rfl (Lr_32_5 (hW.L hL)) (by decide) (Or.inr kf_X0_108) (am_tab tk_X0_settle 57 rfl) rfl ?_
              refine am_iload_n (q := 119) rfl (am_tab tk_X0_settle 58 rfl) rfl ?_
              refine am_iload_n (q := 120) rfl (am_tab tk_X0_settle 59 rfl) rfl ?_
              refine am_if_eq (q := 123) (t := 127) (am_tab tk_X0_settle 60 rfl) (by decide) rfl (fun h120 => ?_) (fun h120 => ?_)
              · exact absurd h120 (by decide)
              · refine am_iconst (q := 124) (n := 0) (by decide) (am_tab tk_X0_settle 61 rfl) rfl ?_
                refine am_goto (t := 143) (am_tab tk_X0_settle 62 rfl) (by decide) ?_
                refine am_iast (q := 144) (a := 33) (n := 8) (Ls_33 (hW.L hL)) (by omega) (by omega) (am_tab tk_X0_settle 72 rfl) rfl ?_
                refine am_iinc (q := 147) rfl (by omega) (by decide) (ls2 := [(1, am_i (((p : Int) + 1))), (2, am_i 1), (0, am_r 44)]) rfl (am_tab tk_X0_settle 73 rfl) rfl ?_
                refine am_goto (t := 75) (am_tab tk_X0_settle 74 rfl) (by decide) ?_
                have hav : agD H p = 0 := by
                  unfold agD
                  rw [if_pos (by have := fsD01 H; omega)]
                exact am_less (by intro q hq; simp only [List.mem_cons, List.not_mem_nil, or_false] at hq; rcases hq with rfl | rfl <;> simp) (ih75 (p + 1) (am_setN T 33 (Int.toNat (p : Int)) 0) (by omega) (hW.setN (by unfold W_se; omega)) h0 h1 h2 (fun q hq => by show (if 33 = 33 ∧ q = Int.toNat (p : Int) then 0 else T.2.1 33 q) = _; by_cases g : q = p; (rw [if_pos ⟨rfl, by omega⟩, if_pos (by omega), g]; exact hav.symm); (rw [if_neg (fun z => g (by omega)), hag q hq]; by_cases g2 : q < p; (rw [if_pos g2, if_pos (by omega)]); (rw [if_neg g2, if_neg (by omega)]))) hbr (by omega))
    refine am_aload_n (q := 9) rfl (am_tab tk_X0_settle 4 rfl) rfl ?_
    refine am_iconst (q := 10) (n := 0) (by decide) (am_tab tk_X0_settle 5 rfl) rfl ?_
    refine am_putZ (q := 13) (k := 0) (n := 14) (j := 7) (Ls_44 hL) (by decide) rfl (by first | exact Or.inl rfl | exact Or.inr rfl | omega) (by decide) (Or.inl ⟨kf_X0_38, rfl⟩) (am_tab tk_X0_settle 6 rfl) rfl ?_
    refine am_aload_n (q := 14) rfl (am_tab tk_X0_settle 7 rfl) rfl ?_
    refine am_getR (q := 17) (a := 44) (k := 0) (n := 14) (j := 9) (r := some (32)) (Ls_44 hL) (by decide) rfl hA.1.1.2 (by decide) (Or.inl kf_X0_28) (am_tab tk_X0_settle 8 rfl) rfl ?_
    refine am_aload_n (q := 18) rfl (am_tab tk_X0_settle 9 rfl) rfl ?_
    refine am_getI (q := 21) (a := 44) (k := 0) (n := 14) (j := 0) (x := (bgN H 0)) (Ls_44 hL) (by decide) rfl hA.2.2.1.1 (by decide) (Or.inl kf_X0_54) (am_tab tk_X0_settle 10 rfl) rfl ?_
    refine am_putI (q := 24) (k := 1) (n := 11) (j := 0) (Ls_32 hL) (by decide) rfl (by decide) (Or.inr (Or.inl ⟨kf_X0_51, rfl⟩)) (am_tab tk_X0_settle 11 rfl) rfl ?_
    refine am_aload_n (q := 25) rfl (am_tab tk_X0_settle 12 rfl) rfl ?_
    refine am_getR (q := 28) (a := 44) (k := 0) (n := 14) (j := 9) (r := some (32)) (Ls_44 hL) (by decide) rfl hA.1.1.2 (by decide) (Or.inl kf_X0_28) (am_tab tk_X0_settle 13 rfl) rfl ?_
    refine am_aload_n (q := 29) rfl (am_tab tk_X0_settle 14 rfl) rfl ?_
    refine am_getI (q := 32) (a := 44) (k := 0) (n := 14) (j := 1) (x := (bgN H 1)) (Ls_44 hL) (by decide) rfl hA.2.2.1.2.1 (by decide) (Or.inl kf_X0_55) (am_tab tk_X0_settle 15 rfl) rfl ?_
    refine am_putI (q := 35) (k := 1) (n := 11) (j := 1) (Ls_32 hL) (by decide) rfl (by decide) (Or.inr (Or.inl ⟨kf_X0_42, rfl⟩)) (am_tab tk_X0_settle 16 rfl) rfl ?_
    refine am_aload_n (q := 36) rfl (am_tab tk_X0_settle 17 rfl) rfl ?_
    refine am_getR (q := 39) (a := 44) (k := 0) (n := 14) (j := 9) (r := some (32)) (Ls_44 hL) (by decide) rfl hA.1.1.2 (by decide) (Or.inl kf_X0_28) (am_tab tk_X0_settle 18 rfl) rfl ?_
    refine am_getR (q := 42) (a := 32) (k := 1) (n := 11) (j := 7) (r := some (35)) (Ls_32 hL) (by decide) rfl (Lr_32_7 hL) (by decide) (Or.inr kf_X0_78) (am_tab tk_X0_settle 19 rfl) rfl ?_
    refine am_aload_n (q := 43) rfl (am_tab tk_X0_settle 20 rfl) rfl ?_
    refine am_getI (q := 46) (a := 44) (k := 0) (n := 14) (j := 1) (x := (bgN H 1)) (Ls_44 hL) (by decide) rfl hA.2.2.1.2.1 (by decide) (Or.inl kf_X0_55) (am_tab tk_X0_settle 21 rfl) rfl ?_
    refine am_iconst (q := 47) (n := 0) (by decide) (am_tab tk_X0_settle 22 rfl) rfl ?_
    refine am_iast (q := 48) (a := 35) (n := 91) (Ls_35 hL) (by omega) (by omega) (am_tab tk_X0_settle 23 rfl) rfl ?_
    refine am_aload_n (q := 49) rfl (am_tab tk_X0_settle 24 rfl) rfl ?_
    refine am_getR (q := 52) (a := 44) (k := 0) (n := 14) (j := 9) (r := some (32)) (Ls_44 hL) (by decide) rfl hA.1.1.2 (by decide) (Or.inl kf_X0_28) (am_tab tk_X0_settle 25 rfl) rfl ?_
    refine am_aload_n (q := 53) rfl (am_tab tk_X0_settle 26 rfl) rfl ?_
    refine am_getI (q := 56) (a := 44) (k := 0) (n := 14) (j := 6) (x := (fsD H)) (Ls_44 hL) (by decide) rfl hA.2.2.2.2.2.1 (by decide) (Or.inl kf_X0_99) (am_tab tk_X0_settle 27 rfl) rfl ?_
    refine am_if_eq (q := 59) (t := 66) (am_tab tk_X0_settle 28 rfl) (by decide) rfl (fun h56 => ?_) (fun h56 => ?_)
    · refine am_aload_n (q := 67) rfl (am_tab tk_X0_settle 32 rfl) rfl ?_
      refine am_getI (q := 70) (a := 44) (k := 0) (n := 14) (j := 2) (x := (bgN H 2)) (Ls_44 hL) (by decide) rfl hA.2.2.1.2.2.1 (by decide) (Or.inl kf_X0_59) (am_tab tk_X0_settle 33 rfl) rfl ?_
      refine am_putI (q := 73) (k := 1) (n := 11) (j := 2) (Ls_32 hL) (by decide) rfl (by decide) (Or.inr (Or.inl ⟨kf_X0_56, rfl⟩)) (am_tab tk_X0_settle 34 rfl) rfl ?_
      refine am_iconst (q := 74) (n := 0) (by decide) (am_tab tk_X0_settle 35 rfl) rfl ?_
      refine am_istore_n (q := 75) (by decide) (ls2 := [(1, am_i 0), (0, am_r 44)]) rfl (am_tab tk_X0_settle 36 rfl) rfl ?_
      refine am_less (by intro q hq; simp only [List.mem_cons, List.not_mem_nil, or_false] at hq; rcases hq with rfl | rfl <;> simp) (L75 (_ + 1) 0 (am_setN (am_setN (am_setN (am_setN (am_setN σ 44 7 0) 32 0 (bgN H 0)) 32 1 (bgN H 1)) 35 (Int.toNat (bgN H 1)) 0) 32 2 (bgN H 2)) (by exact Nat.lt_succ_self _) ((((((frw.refl (W_se 32) σ).setN (by unfold W_se; omega)).setN (by unfold W_se; omega)).setN (by unfold W_se; omega)).setN (by unfold W_se; omega)).setN (by unfold W_se; omega)) rfl rfl (by show bgN H 2 = (if (2 : Nat) = 2 then (if fsD H = 1 then bgN H 1 else bgN H 2) else _); rw [if_pos rfl]; rw [if_neg (by omega)]) (fun q hq => by rw [if_neg (Nat.not_lt_zero q)]; exact hF.2.2.2.1 q hq) (fun d hd => by show (if 35 = 35 ∧ d = Int.toNat (bgN H 1) then 0 else σ.2.1 35 d) = _; by_cases g : d = (bgN H 1).toNat; rw [if_pos ⟨rfl, g⟩, if_pos g]; rw [if_neg (fun z => g z.2), if_neg g]; exact hF.2.2.2.2.2 d hd) (Nat.zero_le _))
    · refine am_aload_n (q := 60) rfl (am_tab tk_X0_settle 29 rfl) rfl ?_
      refine am_getI (q := 63) (a := 44) (k := 0) (n := 14) (j := 1) (x := (bgN H 1)) (Ls_44 hL) (by decide) rfl hA.2.2.1.2.1 (by decide) (Or.inl kf_X0_55) (am_tab tk_X0_settle 30 rfl) rfl ?_
      refine am_goto (t := 70) (am_tab tk_X0_settle 31 rfl) (by decide) ?_
      refine am_putI (q := 73) (k := 1) (n := 11) (j := 2) (Ls_32 hL) (by decide) rfl (by decide) (Or.inr (Or.inl ⟨kf_X0_56, rfl⟩)) (am_tab tk_X0_settle 34 rfl) rfl ?_
      refine am_iconst (q := 74) (n := 0) (by decide) (am_tab tk_X0_settle 35 rfl) rfl ?_
      refine am_istore_n (q := 75) (by decide) (ls2 := [(1, am_i 0), (0, am_r 44)]) rfl (am_tab tk_X0_settle 36 rfl) rfl ?_
      refine am_less (by intro q hq; simp only [List.mem_cons, List.not_mem_nil, or_false] at hq; rcases hq with rfl | rfl <;> simp) (L75 (_ + 1) 0 (am_setN (am_setN (am_setN (am_setN (am_setN σ 44 7 0) 32 0 (bgN H 0)) 32 1 (bgN H 1)) 35 (Int.toNat (bgN H 1)) 0) 32 2 (bgN H 1)) (by exact Nat.lt_succ_self _) ((((((frw.refl (W_se 32) σ).setN (by unfold W_se; omega)).setN (by unfold W_se; omega)).setN (by unfold W_se; omega)).setN (by unfold W_se; omega)).setN (by unfold W_se; omega)) rfl rfl (by show bgN H 1 = (if (2 : Nat) = 2 then (if fsD H = 1 then bgN H 1 else bgN H 2) else _); rw [if_pos rfl]; rw [if_pos (by have := fsD01 H; omega)]) (fun q hq => by rw [if_neg (Nat.not_lt_zero q)]; exact hF.2.2.2.1 q hq) (fun d hd => by show (if 35 = 35 ∧ d = Int.toNat (bgN H 1) then 0 else σ.2.1 35 d) = _; by_cases g : d = (bgN H 1).toNat; rw [if_pos ⟨rfl, g⟩, if_pos g]; rw [if_neg (fun z => g z.2), if_neg g]; exact hF.2.2.2.2.2 d hd) (Nat.zero_le _))
  · exact absurd h4 (by decide)
set_option maxRecDepth 100000 in
theorem c_settle_3_37 (σ H : am_H) (hL : lay σ) (hG : GD H) (hc : cc H) (hF : LF0 37 σ (fun k => H.2.1 96 k))  (aw : Int) (hA : DAW 3 37 aw H σ) : am_met M_X0_settle [am_r 44] σ (fun r σ' => r = none ∧ LF0 37 σ' (fun k => (dyS H).2.1 96 k) ∧ frw (W_se 37) σ σ') := by
  refine am_qq (fun Q hQ => ?_)
  refine am_enter (show plainFor yX0_settle = true by decide +kernel) rfl (Nat.le_of_ble_eq_true rfl) (fun _ _ _ => trivial) ?_
  have h8 : pN H ≤ 8 := by have := hG.R.P; unfold pN; omega
  have hb1 := bg1_rng hG hc
  have hYY := hG.R.Y
  have hpn : (pN H : Int) = H.2.1 85 5 := by have := hG.R.P; unfold pN; omega
  refine am_aload_n (q := 1) rfl (am_tab tk_X0_settle 0 rfl) rfl ?_
  refine am_getI (q := 4) (a := 44) (k := 0) (n := 14) (j := 7) (x := 1) (Ls_44 hL) (by decide) rfl hA.2.2.2.2.2.2 (by decide) (Or.inl kf_X0_38) (am_tab tk_X0_settle 1 rfl) rfl ?_
  refine am_if_ne (q := 7) (t := 8) (am_tab tk_X0_settle 2 rfl) (by decide) rfl (fun h4 => ?_) (fun h4 => ?_)
  · have L75 : ∀ (n75 : Nat) (p : Nat) (T : am_H), 8 - p < n75 → frw (W_se 37) σ T → T.2.1 37 0 = bgN H 0 → T.2.1 37 1 = bgN H 1 → T.2.1 37 2 = bsN H 2 → (∀ q : Nat, q < 8 → T.2.1 38 q = if q < p then agD H q else H.2.1 96 (4 + q)) → (∀ d : Nat, d < 91 → T.2.1 40 d = if d = (bgN H 1).toNat then 0 else H.2.1 96 (111 + d)) → p ≤ pN H → am_wp M_X0_settle Q 0 0 75 [(1, am_i ((p : Int))), (0, am_r 44)] [] T := by
      intro n75
      induction n75 with
      | zero => intro p T hn75; exact absurd hn75 (Nat.not_lt_zero _)
      | succ n75 ih75 =>
        intro p T hn75 hW h0 h1 h2 hag hbr hp
        refine am_iload_n (q := 76) rfl (am_tab tk_X0_settle 37 rfl) rfl ?_
        refine am_aload_n (q := 77) rfl (am_tab tk_X0_settle 38 rfl) rfl ?_
        refine am_getR (q := 80) (a := 44) (k := 0) (n := 14) (j := 8) (r := some (3)) (Ls_44 (hW.L hL)) (by decide) rfl ((congrFun (congrFun hW.2.1 44) 8).trans hA.1.1.1) (by decide) (Or.inl kf_X0_24) (am_tab tk_X0_settle 39 rfl) rfl ?_
        refine am_getI (q := 83) (a := 3) (k := 8) (n := 17) (j := 2) (x := (H.2.1 85 5)) (Ls_3 (hW.L hL)) (by decide) rfl ((hW.2.2 3 2 (by unfold W_se; omega)).trans hA.1.tw.people) (by decide) (Or.inr kf_X0_102) (am_tab tk_X0_settle 40 rfl) rfl ?_
        refine am_icmp_ge (q := 86) (t := 150) (am_tab tk_X0_settle 41 rfl) (by decide) rfl (fun h83 => ?_) (fun h83 => ?_)
        · refine am_vret rfl (Nat.le_of_ble_eq_true rfl) (Nat.le_of_ble_eq_true rfl) (am_tab tk_X0_settle 75 rfl) ?_
          refine hQ _ _ ?_
          rw [show p = pN H by omega] at hag
          exact ⟨rfl, LF0_day hG hc hF hW (by decide) h0 h1 h2 hag hbr, hW⟩
        · have hpp : p < pN H := by omega
          have ha9 := hG.R.ago p (by omega)
          refine am_aload_n (q := 87) rfl (am_tab tk_X0_settle 42 rfl) rfl ?_
          refine am_getI (q := 90) (a := 44) (k := 0) (n := 14) (j := 6) (x := (fsD H)) (Ls_44 (hW.L hL)) (by decide) rfl ((hW.2.2 44 6 (by unfold W_se; omega)).trans hA.2.2.2.2.2.1) (by decide) (Or.inl kf_X0_99) (am_tab tk_X0_settle 43 rfl) rfl ?_
          refine am_if_ne (q := 93) (t := 105) (am_tab tk_X0_settle 44 rfl) (by decide) rfl (fun h90 => ?_) (fun h90 => ?_)
          · refine am_iconst (q := 106) (n := 1) (by decide) (am_tab tk_X0_settle 51 rfl) rfl ?_
            refine am_goto (t := 110) (am_tab tk_X0_settle 52 rfl) (by decide) ?_
            refine am_istore_n (q := 111) (by decide) (ls2 := [(2, am_i 1), (1, am_i ((p : Int))), (0, am_r 44)]) rfl (am_tab tk_X0_settle 54 rfl) rfl ?_
            refine am_aload_n (q := 112) rfl (am_tab tk_X0_settle 55 rfl) rfl ?_
            refine am_getR (q := 115) (a := 44) (k := 0) (n := 14) (j := 9) (r := some (37)) (Ls_44 (hW.L hL)) (by decide) rfl ((congrFun (congrFun hW.2.1 44) 9).trans hA.1.1.2) (by decide) (Or.inl kf_X0_28) (am_tab tk_X0_settle 56 rfl) rfl ?_
            refine am_getR (q := 118) (a := 37) (k := 1) (n := 11) (j := 5) (r := some (38)) (Ls_37 (hW.L hL)) (by decide) rfl (Lr_37_5 (hW.L hL)) (by decide) (Or.inr kf_X0_108) (am_tab tk_X0_settle 57 rfl) rfl ?_
            refine am_iload_n (q := 119) rfl (am_tab tk_X0_settle 58 rfl) rfl ?_
            refine am_iload_n (q := 120) rfl (am_tab tk_X0_settle 59 rfl) rfl ?_
            refine am_if_eq (q := 123) (t := 127) (am_tab tk_X0_settle 60 rfl) (by decide) rfl (fun h120 => ?_) (fun h120 => ?_)
            · exact absurd h120 (by decide)
            · refine am_iconst (q := 124) (n := 0) (by decide) (am_tab tk_X0_settle 61 rfl) rfl ?_
              refine am_goto (t := 143) (am_tab tk_X0_settle 62 rfl) (by decide) ?_
              refine am_iast (q := 144) (a := 38) (n := 8) (Ls_38 (hW.L hL)) (by omega) (by omega) (am_tab tk_X0_settle 72 rfl) rfl ?_
              refine am_iinc (q := 147) rfl (by omega) (by decide) (ls2 := [(1, am_i (((p : Int) + 1))), (2, am_i 1), (0, am_r 44)]) rfl (am_tab tk_X0_settle 73 rfl) rfl ?_
              refine am_goto (t := 75) (am_tab tk_X0_settle 74 rfl) (by decide) ?_
              have hav : agD H p = 0 := by
                unfold agD
                rw [if_pos (by have := fsD01 H; omega)]
              exact am_less (by intro q hq; simp only [List.mem_cons, List.not_mem_nil, or_false] at hq; rcases hq with rfl | rfl <;> simp) (ih75 (p + 1) (am_setN T 38 (Int.toNat (p : Int)) 0) (by omega) (hW.setN (by unfold W_se; omega)) h0 h1 h2 (fun q hq => by show (if 38 = 38 ∧ q = Int.toNat (p : Int) then 0 else T.2.1 38 q) = _; by_cases g : q = p; (rw [if_pos ⟨rfl, by omega⟩, if_pos (by omega), g]; exact hav.symm); (rw [if_neg (fun z => g (by omega)), hag q hq]; by_cases g2 : q < p; (rw [if_pos g2, if_pos (by omega)]); (rw [if_neg g2, if_neg (by omega)]))) hbr (by omega))
          · refine am_aload_n (q := 94) rfl (am_tab tk_X0_settle 45 rfl) rfl ?_
            refine am_getI (q := 97) (a := 44) (k := 0) (n := 14) (j := 5) (x := (thD H)) (Ls_44 (hW.L hL)) (by decide) rfl ((hW.2.2 44 5 (by unfold W_se; omega)).trans hA.2.2.2.2.1) (by decide) (Or.inl kf_X0_96) (am_tab tk_X0_settle 46 rfl) rfl ?_
            refine am_iload_n (q := 98) rfl (am_tab tk_X0_settle 47 rfl) rfl ?_
            refine am_callS0 (q := 101) (me2 := M_X9_bit) (As := [am_i ((thD H)), am_i ((p : Int))]) (rest := []) (out := [am_i (tb (thD H) (p : Int))]) (c_bit T (thD H) (p : Int) (thD_rng hG hc) (by omega)) ⟨rfl, rfl⟩ ⟨Or.inr km_X0_105, kc_X9_bit, kn_X9, kd_X9_bit, ⟨(Nat.le_of_ble_eq_true rfl), (Nat.le_of_ble_eq_true rfl)⟩, ⟨(Nat.le_of_ble_eq_true rfl), (Nat.le_of_ble_eq_true rfl)⟩, (Nat.le_of_ble_eq_true rfl)⟩ ki_X9_bit rfl rfl (am_tab tk_X0_settle 48 rfl) rfl ?_
            refine am_iconst (q := 102) (n := 1) (by decide) (am_tab tk_X0_settle 49 rfl) rfl ?_
            refine am_icmp_ne (q := 105) (t := 109) (am_tab tk_X0_settle 50 rfl) (by decide) rfl (fun h102 => ?_) (fun h102 => ?_)
            · refine am_iconst (q := 110) (n := 0) (by decide) (am_tab tk_X0_settle 53 rfl) rfl ?_
              refine am_istore_n (q := 111) (by decide) (ls2 := [(2, am_i 0), (1, am_i ((p : Int))), (0, am_r 44)]) rfl (am_tab tk_X0_settle 54 rfl) rfl ?_
              refine am_aload_n (q := 112) rfl (am_tab tk_X0_settle 55 rfl) rfl ?_
              refine am_getR (q := 115) (a := 44) (k := 0) (n := 14) (j := 9) (r := some (37)) (Ls_44 (hW.L hL)) (by decide) rfl ((congrFun (congrFun hW.2.1 44) 9).trans hA.1.1.2) (by decide) (Or.inl kf_X0_28) (am_tab tk_X0_settle 56 rfl) rfl ?_
              refine am_getR (q := 118) (a := 37) (k := 1) (n := 11) (j := 5) (r := some (38)) (Ls_37 (hW.L hL)) (by decide) rfl (Lr_37_5 (hW.L hL)) (by decide) (Or.inr kf_X0_108) (am_tab tk_X0_settle 57 rfl) rfl ?_
              refine am_iload_n (q := 119) rfl (am_tab tk_X0_settle 58 rfl) rfl ?_
              refine am_iload_n (q := 120) rfl (am_tab tk_X0_settle 59 rfl) rfl ?_
              refine am_if_eq (q := 123) (t := 127) (am_tab tk_X0_settle 60 rfl) (by decide) rfl (fun h120 => ?_) (fun h120 => ?_)
              · refine am_bipush (q := 129) (n := 99) (by decide) rfl (am_tab tk_X0_settle 63 rfl) rfl ?_
                refine am_aload_n (q := 130) rfl (am_tab tk_X0_settle 64 rfl) rfl ?_
                refine am_getR (q := 133) (a := 44) (k := 0) (n := 14) (j := 9) (r := some (37)) (Ls_44 (hW.L hL)) (by decide) rfl ((congrFun (congrFun hW.2.1 44) 9).trans hA.1.1.2) (by decide) (Or.inl kf_X0_28) (am_tab tk_X0_settle 65 rfl) rfl ?_
                refine am_getR (q := 136) (a := 37) (k := 1) (n := 11) (j := 5) (r := some (38)) (Ls_37 (hW.L hL)) (by decide) rfl (Lr_37_5 (hW.L hL)) (by decide) (Or.inr kf_X0_108) (am_tab tk_X0_settle 66 rfl) rfl ?_
                refine am_iload_n (q := 137) rfl (am_tab tk_X0_settle 67 rfl) rfl ?_
                refine am_iald (q := 138) (a := 38) (n := 8) (x := (H.2.1 96 (4 + p))) (Ls_38 (hW.L hL)) (by omega) (by omega) (by rw [show Int.toNat (p : Int) = p by omega, hag p (by omega), if_neg (Nat.lt_irrefl p)]) (am_tab tk_X0_settle 68 rfl) rfl ?_
                refine am_iconst (q := 139) (n := 1) (by decide) (am_tab tk_X0_settle 69 rfl) rfl ?_
                refine am_iadd (q := 140) (by omega) (am_tab tk_X0_settle 70 rfl) rfl ?_
                refine am_callS0 (q := 143) (me2 := M_J9_min_7cf53) (As := [am_i 99, am_i (((H.2.1 96 (4 + p)) + 1))]) (rest := [am_i ((p : Int)), am_r 38]) (out := [am_i (min 99 ((H.2.1 96 (4 + p)) + 1)), am_i ((p : Int)), am_r 38]) (c_min T 99 ((H.2.1 96 (4 + p)) + 1)) ⟨rfl, rfl⟩ ⟨Or.inl km_X0_111, kc_J9_min_7cf53, kn_J9, kd_J9_min_7cf53, ⟨(Nat.le_of_ble_eq_true rfl), (Nat.le_of_ble_eq_true rfl)⟩, ⟨(Nat.le_of_ble_eq_true rfl), (Nat.le_of_ble_eq_true rfl)⟩, (Nat.le_of_ble_eq_true rfl)⟩ ki_J9_min_7cf53 rfl rfl (am_tab tk_X0_settle 71 rfl) rfl ?_
                refine am_iast (q := 144) (a := 38) (n := 8) (Ls_38 (hW.L hL)) (by omega) (by omega) (am_tab tk_X0_settle 72 rfl) rfl ?_
                refine am_iinc (q := 147) rfl (by omega) (by decide) (ls2 := [(1, am_i (((p : Int) + 1))), (2, am_i 0), (0, am_r 44)]) rfl (am_tab tk_X0_settle 73 rfl) rfl ?_
                refine am_goto (t := 75) (am_tab tk_X0_settle 74 rfl) (by decide) ?_
                have hav : agD H p = min 99 ((H.2.1 96 (4 + p)) + 1) := by
                  unfold agD
                  rw [if_neg (by have := fsD01 H; omega), bgN_far (by omega)]; split <;> omega
                exact am_less (by intro q hq; simp only [List.mem_cons, List.not_mem_nil, or_false] at hq; rcases hq with rfl | rfl <;> simp) (ih75 (p + 1) (am_setN T 38 (Int.toNat (p : Int)) (min 99 ((H.2.1 96 (4 + p)) + 1))) (by omega) (hW.setN (by unfold W_se; omega)) h0 h1 h2 (fun q hq => by show (if 38 = 38 ∧ q = Int.toNat (p : Int) then min 99 ((H.2.1 96 (4 + p)) + 1) else T.2.1 38 q) = _; by_cases g : q = p; (rw [if_pos ⟨rfl, by omega⟩, if_pos (by omega), g]; exact hav.symm); (rw [if_neg (fun z => g (by omega)), hag q hq]; by_cases g2 : q < p; (rw [if_pos g2, if_pos (by omega)]); (rw [if_neg g2, if_neg (by omega)]))) hbr (by omega))
              · exact absurd h120 (by decide)
            · refine am_iconst (q := 106) (n := 1) (by decide) (am_tab tk_X0_settle 51 rfl) rfl ?_
              refine am_goto (t := 110) (am_tab tk_X0_settle 52 rfl) (by decide) ?_
              refine am_istore_n (q := 111) (by decide) (ls2 := [(2, am_i 1), (1, am_i ((p : Int))), (0, am_r 44)]) rfl (am_tab tk_X0_settle 54 rfl) rfl ?_
              refine am_aload_n (q := 112) rfl (am_tab tk_X0_settle 55 rfl) rfl ?_
              refine am_getR (q := 115) (a := 44) (k := 0) (n := 14) (j := 9) (r := some (37)) (Ls_44 (hW.L hL)) (by decide) rfl ((congrFun (congrFun hW.2.1 44) 9).trans hA.1.1.2) (by decide) (Or.inl kf_X0_28) (am_tab tk_X0_settle 56 rfl) rfl ?_
              refine am_getR (q := 118) (a := 37) (k := 1) (n := 11) (j := 5) (r := some (38)) (Ls_37 (hW.L hL)) (by decide) rfl (Lr_37_5 (hW.L hL)) (by decide) (Or.inr kf_X0_108) (am_tab tk_X0_settle 57 rfl) rfl ?_
              refine am_iload_n (q := 119) rfl (am_tab tk_X0_settle 58 rfl) rfl ?_
              refine am_iload_n (q := 120) rfl (am_tab tk_X0_settle 59 rfl) rfl ?_
              refine am_if_eq (q := 123) (t := 127) (am_tab tk_X0_settle 60 rfl) (by decide) rfl (fun h120 => ?_) (fun h120 => ?_)
              · exact absurd h120 (by decide)
              · refine am_iconst (q := 124) (n := 0) (by decide) (am_tab tk_X0_settle 61 rfl) rfl ?_
                refine am_goto (t := 143) (am_tab tk_X0_settle 62 rfl) (by decide) ?_
                refine am_iast (q := 144) (a := 38) (n := 8) (Ls_38 (hW.L hL)) (by omega) (by omega) (am_tab tk_X0_settle 72 rfl) rfl ?_
                refine am_iinc (q := 147) rfl (by omega) (by decide) (ls2 := [(1, am_i (((p : Int) + 1))), (2, am_i 1), (0, am_r 44)]) rfl (am_tab tk_X0_settle 73 rfl) rfl ?_
                refine am_goto (t := 75) (am_tab tk_X0_settle 74 rfl) (by decide) ?_
                have hav : agD H p = 0 := by
                  unfold agD
                  rw [if_pos (by have := fsD01 H; omega)]
                exact am_less (by intro q hq; simp only [List.mem_cons, List.not_mem_nil, or_false] at hq; rcases hq with rfl | rfl <;> simp) (ih75 (p + 1) (am_setN T 38 (Int.toNat (p : Int)) 0) (by omega) (hW.setN (by unfold W_se; omega)) h0 h1 h2 (fun q hq => by show (if 38 = 38 ∧ q = Int.toNat (p : Int) then 0 else T.2.1 38 q) = _; by_cases g : q = p; (rw [if_pos ⟨rfl, by omega⟩, if_pos (by omega), g]; exact hav.symm); (rw [if_neg (fun z => g (by omega)), hag q hq]; by_cases g2 : q < p; (rw [if_pos g2, if_pos (by omega)]); (rw [if_neg g2, if_neg (by omega)]))) hbr (by omega))
    refine am_aload_n (q := 9) rfl (am_tab tk_X0_settle 4 rfl) rfl ?_
    refine am_iconst (q := 10) (n := 0) (by decide) (am_tab tk_X0_settle 5 rfl) rfl ?_
    refine am_putZ (q := 13) (k := 0) (n := 14) (j := 7) (Ls_44 hL) (by decide) rfl (by first | exact Or.inl rfl | exact Or.inr rfl | omega) (by decide) (Or.inl ⟨kf_X0_38, rfl⟩) (am_tab tk_X0_settle 6 rfl) rfl ?_
    refine am_aload_n (q := 14) rfl (am_tab tk_X0_settle 7 rfl) rfl ?_
    refine am_getR (q := 17) (a := 44) (k := 0) (n := 14) (j := 9) (r := some (37)) (Ls_44 hL) (by decide) rfl hA.1.1.2 (by decide) (Or.inl kf_X0_28) (am_tab tk_X0_settle 8 rfl) rfl ?_
    refine am_aload_n (q := 18) rfl (am_tab tk_X0_settle 9 rfl) rfl ?_
    refine am_getI (q := 21) (a := 44) (k := 0) (n := 14) (j := 0) (x := (bgN H 0)) (Ls_44 hL) (by decide) rfl hA.2.2.1.1 (by decide) (Or.inl kf_X0_54) (am_tab tk_X0_settle 10 rfl) rfl ?_
    refine am_putI (q := 24) (k := 1) (n := 11) (j := 0) (Ls_37 hL) (by decide) rfl (by decide) (Or.inr (Or.inl ⟨kf_X0_51, rfl⟩)) (am_tab tk_X0_settle 11 rfl) rfl ?_
    refine am_aload_n (q := 25) rfl (am_tab tk_X0_settle 12 rfl) rfl ?_
    refine am_getR (q := 28) (a := 44) (k := 0) (n := 14) (j := 9) (r := some (37)) (Ls_44 hL) (by decide) rfl hA.1.1.2 (by decide) (Or.inl kf_X0_28) (am_tab tk_X0_settle 13 rfl) rfl ?_
    refine am_aload_n (q := 29) rfl (am_tab tk_X0_settle 14 rfl) rfl ?_
    refine am_getI (q := 32) (a := 44) (k := 0) (n := 14) (j := 1) (x := (bgN H 1)) (Ls_44 hL) (by decide) rfl hA.2.2.1.2.1 (by decide) (Or.inl kf_X0_55) (am_tab tk_X0_settle 15 rfl) rfl ?_
    refine am_putI (q := 35) (k := 1) (n := 11) (j := 1) (Ls_37 hL) (by decide) rfl (by decide) (Or.inr (Or.inl ⟨kf_X0_42, rfl⟩)) (am_tab tk_X0_settle 16 rfl) rfl ?_
    refine am_aload_n (q := 36) rfl (am_tab tk_X0_settle 17 rfl) rfl ?_
    refine am_getR (q := 39) (a := 44) (k := 0) (n := 14) (j := 9) (r := some (37)) (Ls_44 hL) (by decide) rfl hA.1.1.2 (by decide) (Or.inl kf_X0_28) (am_tab tk_X0_settle 18 rfl) rfl ?_
    refine am_getR (q := 42) (a := 37) (k := 1) (n := 11) (j := 7) (r := some (40)) (Ls_37 hL) (by decide) rfl (Lr_37_7 hL) (by decide) (Or.inr kf_X0_78) (am_tab tk_X0_settle 19 rfl) rfl ?_
    refine am_aload_n (q := 43) rfl (am_tab tk_X0_settle 20 rfl) rfl ?_
    refine am_getI (q := 46) (a := 44) (k := 0) (n := 14) (j := 1) (x := (bgN H 1)) (Ls_44 hL) (by decide) rfl hA.2.2.1.2.1 (by decide) (Or.inl kf_X0_55) (am_tab tk_X0_settle 21 rfl) rfl ?_
    refine am_iconst (q := 47) (n := 0) (by decide) (am_tab tk_X0_settle 22 rfl) rfl ?_
    refine am_iast (q := 48) (a := 40) (n := 91) (Ls_40 hL) (by omega) (by omega) (am_tab tk_X0_settle 23 rfl) rfl ?_
    refine am_aload_n (q := 49) rfl (am_tab tk_X0_settle 24 rfl) rfl ?_
    refine am_getR (q := 52) (a := 44) (k := 0) (n := 14) (j := 9) (r := some (37)) (Ls_44 hL) (by decide) rfl hA.1.1.2 (by decide) (Or.inl kf_X0_28) (am_tab tk_X0_settle 25 rfl) rfl ?_
    refine am_aload_n (q := 53) rfl (am_tab tk_X0_settle 26 rfl) rfl ?_
    refine am_getI (q := 56) (a := 44) (k := 0) (n := 14) (j := 6) (x := (fsD H)) (Ls_44 hL) (by decide) rfl hA.2.2.2.2.2.1 (by decide) (Or.inl kf_X0_99) (am_tab tk_X0_settle 27 rfl) rfl ?_
    refine am_if_eq (q := 59) (t := 66) (am_tab tk_X0_settle 28 rfl) (by decide) rfl (fun h56 => ?_) (fun h56 => ?_)
    · refine am_aload_n (q := 67) rfl (am_tab tk_X0_settle 32 rfl) rfl ?_
      refine am_getI (q := 70) (a := 44) (k := 0) (n := 14) (j := 2) (x := (bgN H 2)) (Ls_44 hL) (by decide) rfl hA.2.2.1.2.2.1 (by decide) (Or.inl kf_X0_59) (am_tab tk_X0_settle 33 rfl) rfl ?_
      refine am_putI (q := 73) (k := 1) (n := 11) (j := 2) (Ls_37 hL) (by decide) rfl (by decide) (Or.inr (Or.inl ⟨kf_X0_56, rfl⟩)) (am_tab tk_X0_settle 34 rfl) rfl ?_
      refine am_iconst (q := 74) (n := 0) (by decide) (am_tab tk_X0_settle 35 rfl) rfl ?_
      refine am_istore_n (q := 75) (by decide) (ls2 := [(1, am_i 0), (0, am_r 44)]) rfl (am_tab tk_X0_settle 36 rfl) rfl ?_
      refine am_less (by intro q hq; simp only [List.mem_cons, List.not_mem_nil, or_false] at hq; rcases hq with rfl | rfl <;> simp) (L75 (_ + 1) 0 (am_setN (am_setN (am_setN (am_setN (am_setN σ 44 7 0) 37 0 (bgN H 0)) 37 1 (bgN H 1)) 40 (Int.toNat (bgN H 1)) 0) 37 2 (bgN H 2)) (by exact Nat.lt_succ_self _) ((((((frw.refl (W_se 37) σ).setN (by unfold W_se; omega)).setN (by unfold W_se; omega)).setN (by unfold W_se; omega)).setN (by unfold W_se; omega)).setN (by unfold W_se; omega)) rfl rfl (by show bgN H 2 = (if (2 : Nat) = 2 then (if fsD H = 1 then bgN H 1 else bgN H 2) else _); rw [if_pos rfl]; rw [if_neg (by omega)]) (fun q hq => by rw [if_neg (Nat.not_lt_zero q)]; exact hF.2.2.2.1 q hq) (fun d hd => by show (if 40 = 40 ∧ d = Int.toNat (bgN H 1) then 0 else σ.2.1 40 d) = _; by_cases g : d = (bgN H 1).toNat; rw [if_pos ⟨rfl, g⟩, if_pos g]; rw [if_neg (fun z => g z.2), if_neg g]; exact hF.2.2.2.2.2 d hd) (Nat.zero_le _))
    · refine am_aload_n (q := 60) rfl (am_tab tk_X0_settle 29 rfl) rfl ?_
      refine am_getI (q := 63) (a := 44) (k := 0) (n := 14) (j := 1) (x := (bgN H 1)) (Ls_44 hL) (by decide) rfl hA.2.2.1.2.1 (by decide) (Or.inl kf_X0_55) (am_tab tk_X0_settle 30 rfl) rfl ?_
      refine am_goto (t := 70) (am_tab tk_X0_settle 31 rfl) (by decide) ?_
      refine am_putI (q := 73) (k := 1) (n := 11) (j := 2) (Ls_37 hL) (by decide) rfl (by decide) (Or.inr (Or.inl ⟨kf_X0_56, rfl⟩)) (am_tab tk_X0_settle 34 rfl) rfl ?_
      refine am_iconst (q := 74) (n := 0) (by decide) (am_tab tk_X0_settle 35 rfl) rfl ?_
      refine am_istore_n (q := 75) (by decide) (ls2 := [(1, am_i 0), (0, am_r 44)]) rfl (am_tab tk_X0_settle 36 rfl) rfl ?_
      refine am_less (by intro q hq; simp only [List.mem_cons, List.not_mem_nil, or_false] at hq; rcases hq with rfl | rfl <;> simp) (L75 (_ + 1) 0 (am_setN (am_setN (am_setN (am_setN (am_setN σ 44 7 0) 37 0 (bgN H 0)) 37 1 (bgN H 1)) 40 (Int.toNat (bgN H 1)) 0) 37 2 (bgN H 1)) (by exact Nat.lt_succ_self _) ((((((frw.refl (W_se 37) σ).setN (by unfold W_se; omega)).setN (by unfold W_se; omega)).setN (by unfold W_se; omega)).setN (by unfold W_se; omega)).setN (by unfold W_se; omega)) rfl rfl (by show bgN H 1 = (if (2 : Nat) = 2 then (if fsD H = 1 then bgN H 1 else bgN H 2) else _); rw [if_pos rfl]; rw [if_pos (by have := fsD01 H; omega)]) (fun q hq => by rw [if_neg (Nat.not_lt_zero q)]; exact hF.2.2.2.1 q hq) (fun d hd => by show (if 40 = 40 ∧ d = Int.toNat (bgN H 1) then 0 else σ.2.1 40 d) = _; by_cases g : d = (bgN H 1).toNat; rw [if_pos ⟨rfl, g⟩, if_pos g]; rw [if_neg (fun z => g z.2), if_neg g]; exact hF.2.2.2.2.2 d hd) (Nat.zero_le _))
  · exact absurd h4 (by decide)
set_option maxRecDepth 100000 in
theorem c_settle_15_32 (σ H : am_H) (hL : lay σ) (hG : GD H) (hc : cc H) (hF : LF0 32 σ (fun k => H.2.1 96 k))  (aw : Int) (hA : DAW 15 32 aw H σ) : am_met M_X0_settle [am_r 44] σ (fun r σ' => r = none ∧ LF0 32 σ' (fun k => (dyS H).2.1 96 k) ∧ frw (W_se 32) σ σ') := by
  refine am_qq (fun Q hQ => ?_)
  refine am_enter (show plainFor yX0_settle = true by decide +kernel) rfl (Nat.le_of_ble_eq_true rfl) (fun _ _ _ => trivial) ?_
  have h8 : pN H ≤ 8 := by have := hG.R.P; unfold pN; omega
  have hb1 := bg1_rng hG hc
  have hYY := hG.R.Y
  have hpn : (pN H : Int) = H.2.1 85 5 := by have := hG.R.P; unfold pN; omega
  refine am_aload_n (q := 1) rfl (am_tab tk_X0_settle 0 rfl) rfl ?_
  refine am_getI (q := 4) (a := 44) (k := 0) (n := 14) (j := 7) (x := 1) (Ls_44 hL) (by decide) rfl hA.2.2.2.2.2.2 (by decide) (Or.inl kf_X0_38) (am_tab tk_X0_settle 1 rfl) rfl ?_
  refine am_if_ne (q := 7) (t := 8) (am_tab tk_X0_settle 2 rfl) (by decide) rfl (fun h4 => ?_) (fun h4 => ?_)
  · have L75 : ∀ (n75 : Nat) (p : Nat) (T : am_H), 8 - p < n75 → frw (W_se 32) σ T → T.2.1 32 0 = bgN H 0 → T.2.1 32 1 = bgN H 1 → T.2.1 32 2 = bsN H 2 → (∀ q : Nat, q < 8 → T.2.1 33 q = if q < p then agD H q else H.2.1 96 (4 + q)) → (∀ d : Nat, d < 91 → T.2.1 35 d = if d = (bgN H 1).toNat then 0 else H.2.1 96 (111 + d)) → p ≤ pN H → am_wp M_X0_settle Q 0 0 75 [(1, am_i ((p : Int))), (0, am_r 44)] [] T := by
      intro n75
      induction n75 with
      | zero => intro p T hn75; exact absurd hn75 (Nat.not_lt_zero _)
      | succ n75 ih75 =>
        intro p T hn75 hW h0 h1 h2 hag hbr hp
        refine am_iload_n (q := 76) rfl (am_tab tk_X0_settle 37 rfl) rfl ?_
        refine am_aload_n (q := 77) rfl (am_tab tk_X0_settle 38 rfl) rfl ?_
        refine am_getR (q := 80) (a := 44) (k := 0) (n := 14) (j := 8) (r := some (15)) (Ls_44 (hW.L hL)) (by decide) rfl ((congrFun (congrFun hW.2.1 44) 8).trans hA.1.1.1) (by decide) (Or.inl kf_X0_24) (am_tab tk_X0_settle 39 rfl) rfl ?_
        refine am_getI (q := 83) (a := 15) (k := 8) (n := 17) (j := 2) (x := (H.2.1 85 5)) (Ls_15 (hW.L hL)) (by decide) rfl ((hW.2.2 15 2 (by unfold W_se; omega)).trans hA.1.tw.people) (by decide) (Or.inr kf_X0_102) (am_tab tk_X0_settle 40 rfl) rfl ?_
        refine am_icmp_ge (q := 86) (t := 150) (am_tab tk_X0_settle 41 rfl) (by decide) rfl (fun h83 => ?_) (fun h83 => ?_)
        · refine am_vret rfl (Nat.le_of_ble_eq_true rfl) (Nat.le_of_ble_eq_true rfl) (am_tab tk_X0_settle 75 rfl) ?_
          refine hQ _ _ ?_
          rw [show p = pN H by omega] at hag
          exact ⟨rfl, LF0_day hG hc hF hW (by decide) h0 h1 h2 hag hbr, hW⟩
        · have hpp : p < pN H := by omega
          have ha9 := hG.R.ago p (by omega)
          refine am_aload_n (q := 87) rfl (am_tab tk_X0_settle 42 rfl) rfl ?_
          refine am_getI (q := 90) (a := 44) (k := 0) (n := 14) (j := 6) (x := (fsD H)) (Ls_44 (hW.L hL)) (by decide) rfl ((hW.2.2 44 6 (by unfold W_se; omega)).trans hA.2.2.2.2.2.1) (by decide) (Or.inl kf_X0_99) (am_tab tk_X0_settle 43 rfl) rfl ?_
          refine am_if_ne (q := 93) (t := 105) (am_tab tk_X0_settle 44 rfl) (by decide) rfl (fun h90 => ?_) (fun h90 => ?_)
          · refine am_iconst (q := 106) (n := 1) (by decide) (am_tab tk_X0_settle 51 rfl) rfl ?_
            refine am_goto (t := 110) (am_tab tk_X0_settle 52 rfl) (by decide) ?_
            refine am_istore_n (q := 111) (by decide) (ls2 := [(2, am_i 1), (1, am_i ((p : Int))), (0, am_r 44)]) rfl (am_tab tk_X0_settle 54 rfl) rfl ?_
            refine am_aload_n (q := 112) rfl (am_tab tk_X0_settle 55 rfl) rfl ?_
            refine am_getR (q := 115) (a := 44) (k := 0) (n := 14) (j := 9) (r := some (32)) (Ls_44 (hW.L hL)) (by decide) rfl ((congrFun (congrFun hW.2.1 44) 9).trans hA.1.1.2) (by decide) (Or.inl kf_X0_28) (am_tab tk_X0_settle 56 rfl) rfl ?_
            refine am_getR (q := 118) (a := 32) (k := 1) (n := 11) (j := 5) (r := some (33)) (Ls_32 (hW.L hL)) (by decide) rfl (Lr_32_5 (hW.L hL)) (by decide) (Or.inr kf_X0_108) (am_tab tk_X0_settle 57 rfl) rfl ?_
            refine am_iload_n (q := 119) rfl (am_tab tk_X0_settle 58 rfl) rfl ?_
            refine am_iload_n (q := 120) rfl (am_tab tk_X0_settle 59 rfl) rfl ?_
            refine am_if_eq (q := 123) (t := 127) (am_tab tk_X0_settle 60 rfl) (by decide) rfl (fun h120 => ?_) (fun h120 => ?_)
            · exact absurd h120 (by decide)
            · refine am_iconst (q := 124) (n := 0) (by decide) (am_tab tk_X0_settle 61 rfl) rfl ?_
              refine am_goto (t := 143) (am_tab tk_X0_settle 62 rfl) (by decide) ?_
              refine am_iast (q := 144) (a := 33) (n := 8) (Ls_33 (hW.L hL)) (by omega) (by omega) (am_tab tk_X0_settle 72 rfl) rfl ?_
              refine am_iinc (q := 147) rfl (by omega) (by decide) (ls2 := [(1, am_i (((p : Int) + 1))), (2, am_i 1), (0, am_r 44)]) rfl (am_tab tk_X0_settle 73 rfl) rfl ?_
              refine am_goto (t := 75) (am_tab tk_X0_settle 74 rfl) (by decide) ?_
              have hav : agD H p = 0 := by
                unfold agD
                rw [if_pos (by have := fsD01 H; omega)]
              exact am_less (by intro q hq; simp only [List.mem_cons, List.not_mem_nil, or_false] at hq; rcases hq with rfl | rfl <;> simp) (ih75 (p + 1) (am_setN T 33 (Int.toNat (p : Int)) 0) (by omega) (hW.setN (by unfold W_se; omega)) h0 h1 h2 (fun q hq => by show (if 33 = 33 ∧ q = Int.toNat (p : Int) then 0 else T.2.1 33 q) = _; by_cases g : q = p; (rw [if_pos ⟨rfl, by omega⟩, if_pos (by omega), g]; exact hav.symm); (rw [if_neg (fun z => g (by omega)), hag q hq]; by_cases g2 : q < p; (rw [if_pos g2, if_pos (by omega)]); (rw [if_neg g2, if_neg (by omega)]))) hbr (by omega))
          · refine am_aload_n (q := 94) rfl (am_tab tk_X0_settle 45 rfl) rfl ?_
            refine am_getI (q := 97) (a := 44) (k := 0) (n := 14) (j := 5) (x := (thD H)) (Ls_44 (hW.L hL)) (by decide) rfl ((hW.2.2 44 5 (by unfold W_se; omega)).trans hA.2.2.2.2.1) (by decide) (Or.inl kf_X0_96) (am_tab tk_X0_settle 46 rfl) rfl ?_
            refine am_iload_n (q := 98) rfl (am_tab tk_X0_settle 47 rfl) rfl ?_
            refine am_callS0 (q := 101) (me2 := M_X9_bit) (As := [am_i ((thD H)), am_i ((p : Int))]) (rest := []) (out := [am_i (tb (thD H) (p : Int))]) (c_bit T (thD H) (p : Int) (thD_rng hG hc) (by omega)) ⟨rfl, rfl⟩ ⟨Or.inr km_X0_105, kc_X9_bit, kn_X9, kd_X9_bit, ⟨(Nat.le_of_ble_eq_true rfl), (Nat.le_of_ble_eq_true rfl)⟩, ⟨(Nat.le_of_ble_eq_true rfl), (Nat.le_of_ble_eq_true rfl)⟩, (Nat.le_of_ble_eq_true rfl)⟩ ki_X9_bit rfl rfl (am_tab tk_X0_settle 48 rfl) rfl ?_
            refine am_iconst (q := 102) (n := 1) (by decide) (am_tab tk_X0_settle 49 rfl) rfl ?_
            refine am_icmp_ne (q := 105) (t := 109) (am_tab tk_X0_settle 50 rfl) (by decide) rfl (fun h102 => ?_) (fun h102 => ?_)
            · refine am_iconst (q := 110) (n := 0) (by decide) (am_tab tk_X0_settle 53 rfl) rfl ?_
              refine am_istore_n (q := 111) (by decide) (ls2 := [(2, am_i 0), (1, am_i ((p : Int))), (0, am_r 44)]) rfl (am_tab tk_X0_settle 54 rfl) rfl ?_
              refine am_aload_n (q := 112) rfl (am_tab tk_X0_settle 55 rfl) rfl ?_
              refine am_getR (q := 115) (a := 44) (k := 0) (n := 14) (j := 9) (r := some (32)) (Ls_44 (hW.L hL)) (by decide) rfl ((congrFun (congrFun hW.2.1 44) 9).trans hA.1.1.2) (by decide) (Or.inl kf_X0_28) (am_tab tk_X0_settle 56 rfl) rfl ?_
              refine am_getR (q := 118) (a := 32) (k := 1) (n := 11) (j := 5) (r := some (33)) (Ls_32 (hW.L hL)) (by decide) rfl (Lr_32_5 (hW.L hL)) (by decide) (Or.inr kf_X0_108) (am_tab tk_X0_settle 57 rfl) rfl ?_
              refine am_iload_n (q := 119) rfl (am_tab tk_X0_settle 58 rfl) rfl ?_
              refine am_iload_n (q := 120) rfl (am_tab tk_X0_settle 59 rfl) rfl ?_
              refine am_if_eq (q := 123) (t := 127) (am_tab tk_X0_settle 60 rfl) (by decide) rfl (fun h120 => ?_) (fun h120 => ?_)
              · refine am_bipush (q := 129) (n := 99) (by decide) rfl (am_tab tk_X0_settle 63 rfl) rfl ?_
                refine am_aload_n (q := 130) rfl (am_tab tk_X0_settle 64 rfl) rfl ?_
                refine am_getR (q := 133) (a := 44) (k := 0) (n := 14) (j := 9) (r := some (32)) (Ls_44 (hW.L hL)) (by decide) rfl ((congrFun (congrFun hW.2.1 44) 9).trans hA.1.1.2) (by decide) (Or.inl kf_X0_28) (am_tab tk_X0_settle 65 rfl) rfl ?_
                refine am_getR (q := 136) (a := 32) (k := 1) (n := 11) (j := 5) (r := some (33)) (Ls_32 (hW.L hL)) (by decide) rfl (Lr_32_5 (hW.L hL)) (by decide) (Or.inr kf_X0_108) (am_tab tk_X0_settle 66 rfl) rfl ?_
                refine am_iload_n (q := 137) rfl (am_tab tk_X0_settle 67 rfl) rfl ?_
                refine am_iald (q := 138) (a := 33) (n := 8) (x := (H.2.1 96 (4 + p))) (Ls_33 (hW.L hL)) (by omega) (by omega) (by rw [show Int.toNat (p : Int) = p by omega, hag p (by omega), if_neg (Nat.lt_irrefl p)]) (am_tab tk_X0_settle 68 rfl) rfl ?_
                refine am_iconst (q := 139) (n := 1) (by decide) (am_tab tk_X0_settle 69 rfl) rfl ?_
                refine am_iadd (q := 140) (by omega) (am_tab tk_X0_settle 70 rfl) rfl ?_
                refine am_callS0 (q := 143) (me2 := M_J9_min_7cf53) (As := [am_i 99, am_i (((H.2.1 96 (4 + p)) + 1))]) (rest := [am_i ((p : Int)), am_r 33]) (out := [am_i (min 99 ((H.2.1 96 (4 + p)) + 1)), am_i ((p : Int)), am_r 33]) (c_min T 99 ((H.2.1 96 (4 + p)) + 1)) ⟨rfl, rfl⟩ ⟨Or.inl km_X0_111, kc_J9_min_7cf53, kn_J9, kd_J9_min_7cf53, ⟨(Nat.le_of_ble_eq_true rfl), (Nat.le_of_ble_eq_true rfl)⟩, ⟨(Nat.le_of_ble_eq_true rfl), (Nat.le_of_ble_eq_true rfl)⟩, (Nat.le_of_ble_eq_true rfl)⟩ ki_J9_min_7cf53 rfl rfl (am_tab tk_X0_settle 71 rfl) rfl ?_
                refine am_iast (q := 144) (a := 33) (n := 8) (Ls_33 (hW.L hL)) (by omega) (by omega) (am_tab tk_X0_settle 72 rfl) rfl ?_
                refine am_iinc (q := 147) rfl (by omega) (by decide) (ls2 := [(1, am_i (((p : Int) + 1))), (2, am_i 0), (0, am_r 44)]) rfl (am_tab tk_X0_settle 73 rfl) rfl ?_
                refine am_goto (t := 75) (am_tab tk_X0_settle 74 rfl) (by decide) ?_
                have hav : agD H p = min 99 ((H.2.1 96 (4 + p)) + 1) := by
                  unfold agD
                  rw [if_neg (by have := fsD01 H; omega), bgN_far (by omega)]; split <;> omega
                exact am_less (by intro q hq; simp only [List.mem_cons, List.not_mem_nil, or_false] at hq; rcases hq with rfl | rfl <;> simp) (ih75 (p + 1) (am_setN T 33 (Int.toNat (p : Int)) (min 99 ((H.2.1 96 (4 + p)) + 1))) (by omega) (hW.setN (by unfold W_se; omega)) h0 h1 h2 (fun q hq => by show (if 33 = 33 ∧ q = Int.toNat (p : Int) then min 99 ((H.2.1 96 (4 + p)) + 1) else T.2.1 33 q) = _; by_cases g : q = p; (rw [if_pos ⟨rfl, by omega⟩, if_pos (by omega), g]; exact hav.symm); (rw [if_neg (fun z => g (by omega)), hag q hq]; by_cases g2 : q < p; (rw [if_pos g2, if_pos (by omega)]); (rw [if_neg g2, if_neg (by omega)]))) hbr (by omega))
              · exact absurd h120 (by decide)
            · refine am_iconst (q := 106) (n := 1) (by decide) (am_tab tk_X0_settle 51 rfl) rfl ?_
              refine am_goto (t := 110) (am_tab tk_X0_settle 52 rfl) (by decide) ?_
              refine am_istore_n (q := 111) (by decide) (ls2 := [(2, am_i 1), (1, am_i ((p : Int))), (0, am_r 44)]) rfl (am_tab tk_X0_settle 54 rfl) rfl ?_
              refine am_aload_n (q := 112) rfl (am_tab tk_X0_settle 55 rfl) rfl ?_
              refine am_getR (q := 115) (a := 44) (k := 0) (n := 14) (j := 9) (r := some (32)) (Ls_44 (hW.L hL)) (by decide) rfl ((congrFun (congrFun hW.2.1 44) 9).trans hA.1.1.2) (by decide) (Or.inl kf_X0_28) (am_tab tk_X0_settle 56 rfl) rfl ?_
              refine am_getR (q := 118) (a := 32) (k := 1) (n := 11) (j := 5) (r := some (33)) (Ls_32 (hW.L hL)) (by decide) rfl (Lr_32_5 (hW.L hL)) (by decide) (Or.inr kf_X0_108) (am_tab tk_X0_settle 57 rfl) rfl ?_
              refine am_iload_n (q := 119) rfl (am_tab tk_X0_settle 58 rfl) rfl ?_
              refine am_iload_n (q := 120) rfl (am_tab tk_X0_settle 59 rfl) rfl ?_
              refine am_if_eq (q := 123) (t := 127) (am_tab tk_X0_settle 60 rfl) (by decide) rfl (fun h120 => ?_) (fun h120 => ?_)
              · exact absurd h120 (by decide)
              · refine am_iconst (q := 124) (n := 0) (by decide) (am_tab tk_X0_settle 61 rfl) rfl ?_
                refine am_goto (t := 143) (am_tab tk_X0_settle 62 rfl) (by decide) ?_
                refine am_iast (q := 144) (a := 33) (n := 8) (Ls_33 (hW.L hL)) (by omega) (by omega) (am_tab tk_X0_settle 72 rfl) rfl ?_
                refine am_iinc (q := 147) rfl (by omega) (by decide) (ls2 := [(1, am_i (((p : Int) + 1))), (2, am_i 1), (0, am_r 44)]) rfl (am_tab tk_X0_settle 73 rfl) rfl ?_
                refine am_goto (t := 75) (am_tab tk_X0_settle 74 rfl) (by decide) ?_
                have hav : agD H p = 0 := by
                  unfold agD
                  rw [if_pos (by have := fsD01 H; omega)]
                exact am_less (by intro q hq; simp only [List.mem_cons, List.not_mem_nil, or_false] at hq; rcases hq with rfl | rfl <;> simp) (ih75 (p + 1) (am_setN T 33 (Int.toNat (p : Int)) 0) (by omega) (hW.setN (by unfold W_se; omega)) h0 h1 h2 (fun q hq => by show (if 33 = 33 ∧ q = Int.toNat (p : Int) then 0 else T.2.1 33 q) = _; by_cases g : q = p; (rw [if_pos ⟨rfl, by omega⟩, if_pos (by omega), g]; exact hav.symm); (rw [if_neg (fun z => g (by omega)), hag q hq]; by_cases g2 : q < p; (rw [if_pos g2, if_pos (by omega)]); (rw [if_neg g2, if_neg (by omega)]))) hbr (by omega))
    refine am_aload_n (q := 9) rfl (am_tab tk_X0_settle 4 rfl) rfl ?_
    refine am_iconst (q := 10) (n := 0) (by decide) (am_tab tk_X0_settle 5 rfl) rfl ?_
    refine am_putZ (q := 13) (k := 0) (n := 14) (j := 7) (Ls_44 hL) (by decide) rfl (by first | exact Or.inl rfl | exact Or.inr rfl | omega) (by decide) (Or.inl ⟨kf_X0_38, rfl⟩) (am_tab tk_X0_settle 6 rfl) rfl ?_
    refine am_aload_n (q := 14) rfl (am_tab tk_X0_settle 7 rfl) rfl ?_
    refine am_getR (q := 17) (a := 44) (k := 0) (n := 14) (j := 9) (r := some (32)) (Ls_44 hL) (by decide) rfl hA.1.1.2 (by decide) (Or.inl kf_X0_28) (am_tab tk_X0_settle 8 rfl) rfl ?_
    refine am_aload_n (q := 18) rfl (am_tab tk_X0_settle 9 rfl) rfl ?_
    refine am_getI (q := 21) (a := 44) (k := 0) (n := 14) (j := 0) (x := (bgN H 0)) (Ls_44 hL) (by decide) rfl hA.2.2.1.1 (by decide) (Or.inl kf_X0_54) (am_tab tk_X0_settle 10 rfl) rfl ?_
    refine am_putI (q := 24) (k := 1) (n := 11) (j := 0) (Ls_32 hL) (by decide) rfl (by decide) (Or.inr (Or.inl ⟨kf_X0_51, rfl⟩)) (am_tab tk_X0_settle 11 rfl) rfl ?_
    refine am_aload_n (q := 25) rfl (am_tab tk_X0_settle 12 rfl) rfl ?_
    refine am_getR (q := 28) (a := 44) (k := 0) (n := 14) (j := 9) (r := some (32)) (Ls_44 hL) (by decide) rfl hA.1.1.2 (by decide) (Or.inl kf_X0_28) (am_tab tk_X0_settle 13 rfl) rfl ?_
    refine am_aload_n (q := 29) rfl (am_tab tk_X0_settle 14 rfl) rfl ?_
    refine am_getI (q := 32) (a := 44) (k := 0) (n := 14) (j := 1) (x := (bgN H 1)) (Ls_44 hL) (by decide) rfl hA.2.2.1.2.1 (by decide) (Or.inl kf_X0_55) (am_tab tk_X0_settle 15 rfl) rfl ?_
    refine am_putI (q := 35) (k := 1) (n := 11) (j := 1) (Ls_32 hL) (by decide) rfl (by decide) (Or.inr (Or.inl ⟨kf_X0_42, rfl⟩)) (am_tab tk_X0_settle 16 rfl) rfl ?_
    refine am_aload_n (q := 36) rfl (am_tab tk_X0_settle 17 rfl) rfl ?_
    refine am_getR (q := 39) (a := 44) (k := 0) (n := 14) (j := 9) (r := some (32)) (Ls_44 hL) (by decide) rfl hA.1.1.2 (by decide) (Or.inl kf_X0_28) (am_tab tk_X0_settle 18 rfl) rfl ?_
    refine am_getR (q := 42) (a := 32) (k := 1) (n := 11) (j := 7) (r := some (35)) (Ls_32 hL) (by decide) rfl (Lr_32_7 hL) (by decide) (Or.inr kf_X0_78) (am_tab tk_X0_settle 19 rfl) rfl ?_
    refine am_aload_n (q := 43) rfl (am_tab tk_X0_settle 20 rfl) rfl ?_
    refine am_getI (q := 46) (a := 44) (k := 0) (n := 14) (j := 1) (x := (bgN H 1)) (Ls_44 hL) (by decide) rfl hA.2.2.1.2.1 (by decide) (Or.inl kf_X0_55) (am_tab tk_X0_settle 21 rfl) rfl ?_
    refine am_iconst (q := 47) (n := 0) (by decide) (am_tab tk_X0_settle 22 rfl) rfl ?_
    refine am_iast (q := 48) (a := 35) (n := 91) (Ls_35 hL) (by omega) (by omega) (am_tab tk_X0_settle 23 rfl) rfl ?_
    refine am_aload_n (q := 49) rfl (am_tab tk_X0_settle 24 rfl) rfl ?_
    refine am_getR (q := 52) (a := 44) (k := 0) (n := 14) (j := 9) (r := some (32)) (Ls_44 hL) (by decide) rfl hA.1.1.2 (by decide) (Or.inl kf_X0_28) (am_tab tk_X0_settle 25 rfl) rfl ?_
    refine am_aload_n (q := 53) rfl (am_tab tk_X0_settle 26 rfl) rfl ?_
    refine am_getI (q := 56) (a := 44) (k := 0) (n := 14) (j := 6) (x := (fsD H)) (Ls_44 hL) (by decide) rfl hA.2.2.2.2.2.1 (by decide) (Or.inl kf_X0_99) (am_tab tk_X0_settle 27 rfl) rfl ?_
    refine am_if_eq (q := 59) (t := 66) (am_tab tk_X0_settle 28 rfl) (by decide) rfl (fun h56 => ?_) (fun h56 => ?_)
    · refine am_aload_n (q := 67) rfl (am_tab tk_X0_settle 32 rfl) rfl ?_
      refine am_getI (q := 70) (a := 44) (k := 0) (n := 14) (j := 2) (x := (bgN H 2)) (Ls_44 hL) (by decide) rfl hA.2.2.1.2.2.1 (by decide) (Or.inl kf_X0_59) (am_tab tk_X0_settle 33 rfl) rfl ?_
      refine am_putI (q := 73) (k := 1) (n := 11) (j := 2) (Ls_32 hL) (by decide) rfl (by decide) (Or.inr (Or.inl ⟨kf_X0_56, rfl⟩)) (am_tab tk_X0_settle 34 rfl) rfl ?_
      refine am_iconst (q := 74) (n := 0) (by decide) (am_tab tk_X0_settle 35 rfl) rfl ?_
      refine am_istore_n (q := 75) (by decide) (ls2 := [(1, am_i 0), (0, am_r 44)]) rfl (am_tab tk_X0_settle 36 rfl) rfl ?_
      refine am_less (by intro q hq; simp only [List.mem_cons, List.not_mem_nil, or_false] at hq; rcases hq with rfl | rfl <;> simp) (L75 (_ + 1) 0 (am_setN (am_setN (am_setN (am_setN (am_setN σ 44 7 0) 32 0 (bgN H 0)) 32 1 (bgN H 1)) 35 (Int.toNat (bgN H 1)) 0) 32 2 (bgN H 2)) (by exact Nat.lt_succ_self _) ((((((frw.refl (W_se 32) σ).setN (by unfold W_se; omega)).setN (by unfold W_se; omega)).setN (by unfold W_se; omega)).setN (by unfold W_se; omega)).setN (by unfold W_se; omega)) rfl rfl (by show bgN H 2 = (if (2 : Nat) = 2 then (if fsD H = 1 then bgN H 1 else bgN H 2) else _); rw [if_pos rfl]; rw [if_neg (by omega)]) (fun q hq => by rw [if_neg (Nat.not_lt_zero q)]; exact hF.2.2.2.1 q hq) (fun d hd => by show (if 35 = 35 ∧ d = Int.toNat (bgN H 1) then 0 else σ.2.1 35 d) = _; by_cases g : d = (bgN H 1).toNat; rw [if_pos ⟨rfl, g⟩, if_pos g]; rw [if_neg (fun z => g z.2), if_neg g]; exact hF.2.2.2.2.2 d hd) (Nat.zero_le _))
    · refine am_aload_n (q := 60) rfl (am_tab tk_X0_settle 29 rfl) rfl ?_
      refine am_getI (q := 63) (a := 44) (k := 0) (n := 14) (j := 1) (x := (bgN H 1)) (Ls_44 hL) (by decide) rfl hA.2.2.1.2.1 (by decide) (Or.inl kf_X0_55) (am_tab tk_X0_settle 30 rfl) rfl ?_
      refine am_goto (t := 70) (am_tab tk_X0_settle 31 rfl) (by decide) ?_
      refine am_putI (q := 73) (k := 1) (n := 11) (j := 2) (Ls_32 hL) (by decide) rfl (by decide) (Or.inr (Or.inl ⟨kf_X0_56, rfl⟩)) (am_tab tk_X0_settle 34 rfl) rfl ?_
      refine am_iconst (q := 74) (n := 0) (by decide) (am_tab tk_X0_settle 35 rfl) rfl ?_
      refine am_istore_n (q := 75) (by decide) (ls2 := [(1, am_i 0), (0, am_r 44)]) rfl (am_tab tk_X0_settle 36 rfl) rfl ?_
      refine am_less (by intro q hq; simp only [List.mem_cons, List.not_mem_nil, or_false] at hq; rcases hq with rfl | rfl <;> simp) (L75 (_ + 1) 0 (am_setN (am_setN (am_setN (am_setN (am_setN σ 44 7 0) 32 0 (bgN H 0)) 32 1 (bgN H 1)) 35 (Int.toNat (bgN H 1)) 0) 32 2 (bgN H 1)) (by exact Nat.lt_succ_self _) ((((((frw.refl (W_se 32) σ).setN (by unfold W_se; omega)).setN (by unfold W_se; omega)).setN (by unfold W_se; omega)).setN (by unfold W_se; omega)).setN (by unfold W_se; omega)) rfl rfl (by show bgN H 1 = (if (2 : Nat) = 2 then (if fsD H = 1 then bgN H 1 else bgN H 2) else _); rw [if_pos rfl]; rw [if_pos (by have := fsD01 H; omega)]) (fun q hq => by rw [if_neg (Nat.not_lt_zero q)]; exact hF.2.2.2.1 q hq) (fun d hd => by show (if 35 = 35 ∧ d = Int.toNat (bgN H 1) then 0 else σ.2.1 35 d) = _; by_cases g : d = (bgN H 1).toNat; rw [if_pos ⟨rfl, g⟩, if_pos g]; rw [if_neg (fun z => g z.2), if_neg g]; exact hF.2.2.2.2.2 d hd) (Nat.zero_le _))
  · exact absurd h4 (by decide)
set_option maxRecDepth 100000 in
theorem c_settle_15_37 (σ H : am_H) (hL : lay σ) (hG : GD H) (hc : cc H) (hF : LF0 37 σ (fun k => H.2.1 96 k))  (aw : Int) (hA : DAW 15 37 aw H σ) : am_met M_X0_settle [am_r 44] σ (fun r σ' => r = none ∧ LF0 37 σ' (fun k => (dyS H).2.1 96 k) ∧ frw (W_se 37) σ σ') := by
  refine am_qq (fun Q hQ => ?_)
  refine am_enter (show plainFor yX0_settle = true by decide +kernel) rfl (Nat.le_of_ble_eq_true rfl) (fun _ _ _ => trivial) ?_
  have h8 : pN H ≤ 8 := by have := hG.R.P; unfold pN; omega
  have hb1 := bg1_rng hG hc
  have hYY := hG.R.Y
  have hpn : (pN H : Int) = H.2.1 85 5 := by have := hG.R.P; unfold pN; omega
  refine am_aload_n (q := 1) rfl (am_tab tk_X0_settle 0 rfl) rfl ?_
  refine am_getI (q := 4) (a := 44) (k := 0) (n := 14) (j := 7) (x := 1) (Ls_44 hL) (by decide) rfl hA.2.2.2.2.2.2 (by decide) (Or.inl kf_X0_38) (am_tab tk_X0_settle 1 rfl) rfl ?_
  refine am_if_ne (q := 7) (t := 8) (am_tab tk_X0_settle 2 rfl) (by decide) rfl (fun h4 => ?_) (fun h4 => ?_)
  · have L75 : ∀ (n75 : Nat) (p : Nat) (T : am_H), 8 - p < n75 → frw (W_se 37) σ T → T.2.1 37 0 = bgN H 0 → T.2.1 37 1 = bgN H 1 → T.2.1 37 2 = bsN H 2 → (∀ q : Nat, q < 8 → T.2.1 38 q = if q < p then agD H q else H.2.1 96 (4 + q)) → (∀ d : Nat, d < 91 → T.2.1 40 d = if d = (bgN H 1).toNat then 0 else H.2.1 96 (111 + d)) → p ≤ pN H → am_wp M_X0_settle Q 0 0 75 [(1, am_i ((p : Int))), (0, am_r 44)] [] T := by
      intro n75
      induction n75 with
      | zero => intro p T hn75; exact absurd hn75 (Nat.not_lt_zero _)
      | succ n75 ih75 =>
        intro p T hn75 hW h0 h1 h2 hag hbr hp
        refine am_iload_n (q := 76) rfl (am_tab tk_X0_settle 37 rfl) rfl ?_
        refine am_aload_n (q := 77) rfl (am_tab tk_X0_settle 38 rfl) rfl ?_
        refine am_getR (q := 80) (a := 44) (k := 0) (n := 14) (j := 8) (r := some (15)) (Ls_44 (hW.L hL)) (by decide) rfl ((congrFun (congrFun hW.2.1 44) 8).trans hA.1.1.1) (by decide) (Or.inl kf_X0_24) (am_tab tk_X0_settle 39 rfl) rfl ?_
        refine am_getI (q := 83) (a := 15) (k := 8) (n := 17) (j := 2) (x := (H.2.1 85 5)) (Ls_15 (hW.L hL)) (by decide) rfl ((hW.2.2 15 2 (by unfold W_se; omega)).trans hA.1.tw.people) (by decide) (Or.inr kf_X0_102) (am_tab tk_X0_settle 40 rfl) rfl ?_
        refine am_icmp_ge (q := 86) (t := 150) (am_tab tk_X0_settle 41 rfl) (by decide) rfl (fun h83 => ?_) (fun h83 => ?_)
        · refine am_vret rfl (Nat.le_of_ble_eq_true rfl) (Nat.le_of_ble_eq_true rfl) (am_tab tk_X0_settle 75 rfl) ?_
          refine hQ _ _ ?_
          rw [show p = pN H by omega] at hag
          exact ⟨rfl, LF0_day hG hc hF hW (by decide) h0 h1 h2 hag hbr, hW⟩
        · have hpp : p < pN H := by omega
          have ha9 := hG.R.ago p (by omega)
          refine am_aload_n (q := 87) rfl (am_tab tk_X0_settle 42 rfl) rfl ?_
          refine am_getI (q := 90) (a := 44) (k := 0) (n := 14) (j := 6) (x := (fsD H)) (Ls_44 (hW.L hL)) (by decide) rfl ((hW.2.2 44 6 (by unfold W_se; omega)).trans hA.2.2.2.2.2.1) (by decide) (Or.inl kf_X0_99) (am_tab tk_X0_settle 43 rfl) rfl ?_
          refine am_if_ne (q := 93) (t := 105) (am_tab tk_X0_settle 44 rfl) (by decide) rfl (fun h90 => ?_) (fun h90 => ?_)
          · refine am_iconst (q := 106) (n := 1) (by decide) (am_tab tk_X0_settle 51 rfl) rfl ?_
            refine am_goto (t := 110) (am_tab tk_X0_settle 52 rfl) (by decide) ?_
            refine am_istore_n (q := 111) (by decide) (ls2 := [(2, am_i 1), (1, am_i ((p : Int))), (0, am_r 44)]) rfl (am_tab tk_X0_settle 54 rfl) rfl ?_
            refine am_aload_n (q := 112) rfl (am_tab tk_X0_settle 55 rfl) rfl ?_
            refine am_getR (q := 115) (a := 44) (k := 0) (n := 14) (j := 9) (r := some (37)) (Ls_44 (hW.L hL)) (by decide) rfl ((congrFun (congrFun hW.2.1 44) 9).trans hA.1.1.2) (by decide) (Or.inl kf_X0_28) (am_tab tk_X0_settle 56 rfl) rfl ?_
            refine am_getR (q := 118) (a := 37) (k := 1) (n := 11) (j := 5) (r := some (38)) (Ls_37 (hW.L hL)) (by decide) rfl (Lr_37_5 (hW.L hL)) (by decide) (Or.inr kf_X0_108) (am_tab tk_X0_settle 57 rfl) rfl ?_
            refine am_iload_n (q := 119) rfl (am_tab tk_X0_settle 58 rfl) rfl ?_
            refine am_iload_n (q := 120) rfl (am_tab tk_X0_settle 59 rfl) rfl ?_
            refine am_if_eq (q := 123) (t := 127) (am_tab tk_X0_settle 60 rfl) (by decide) rfl (fun h120 => ?_) (fun h120 => ?_)
            · exact absurd h120 (by decide)
            · refine am_iconst (q := 124) (n := 0) (by decide) (am_tab tk_X0_settle 61 rfl) rfl ?_
              refine am_goto (t := 143) (am_tab tk_X0_settle 62 rfl) (by decide) ?_
              refine am_iast (q := 144) (a := 38) (n := 8) (Ls_38 (hW.L hL)) (by omega) (by omega) (am_tab tk_X0_settle 72 rfl) rfl ?_
              refine am_iinc (q := 147) rfl (by omega) (by decide) (ls2 := [(1, am_i (((p : Int) + 1))), (2, am_i 1), (0, am_r 44)]) rfl (am_tab tk_X0_settle 73 rfl) rfl ?_
              refine am_goto (t := 75) (am_tab tk_X0_settle 74 rfl) (by decide) ?_
              have hav : agD H p = 0 := by
                unfold agD
                rw [if_pos (by have := fsD01 H; omega)]
              exact am_less (by intro q hq; simp only [List.mem_cons, List.not_mem_nil, or_false] at hq; rcases hq with rfl | rfl <;> simp) (ih75 (p + 1) (am_setN T 38 (Int.toNat (p : Int)) 0) (by omega) (hW.setN (by unfold W_se; omega)) h0 h1 h2 (fun q hq => by show (if 38 = 38 ∧ q = Int.toNat (p : Int) then 0 else T.2.1 38 q) = _; by_cases g : q = p; (rw [if_pos ⟨rfl, by omega⟩, if_pos (by omega), g]; exact hav.symm); (rw [if_neg (fun z => g (by omega)), hag q hq]; by_cases g2 : q < p; (rw [if_pos g2, if_pos (by omega)]); (rw [if_neg g2, if_neg (by omega)]))) hbr (by omega))
          · refine am_aload_n (q := 94) rfl (am_tab tk_X0_settle 45 rfl) rfl ?_
            refine am_getI (q := 97) (a := 44) (k := 0) (n := 14) (j := 5) (x := (thD H)) (Ls_44 (hW.L hL)) (by decide) rfl ((hW.2.2 44 5 (by unfold W_se; omega)).trans hA.2.2.2.2.1) (by decide) (Or.inl kf_X0_96) (am_tab tk_X0_settle 46 rfl) rfl ?_
            refine am_iload_n (q := 98) rfl (am_tab tk_X0_settle 47 rfl) rfl ?_
            refine am_callS0 (q := 101) (me2 := M_X9_bit) (As := [am_i ((thD H)), am_i ((p : Int))]) (rest := []) (out := [am_i (tb (thD H) (p : Int))]) (c_bit T (thD H) (p : Int) (thD_rng hG hc) (by omega)) ⟨rfl, rfl⟩ ⟨Or.inr km_X0_105, kc_X9_bit, kn_X9, kd_X9_bit, ⟨(Nat.le_of_ble_eq_true rfl), (Nat.le_of_ble_eq_true rfl)⟩, ⟨(Nat.le_of_ble_eq_true rfl), (Nat.le_of_ble_eq_true rfl)⟩, (Nat.le_of_ble_eq_true rfl)⟩ ki_X9_bit rfl rfl (am_tab tk_X0_settle 48 rfl) rfl ?_
            refine am_iconst (q := 102) (n := 1) (by decide) (am_tab tk_X0_settle 49 rfl) rfl ?_
            refine am_icmp_ne (q := 105) (t := 109) (am_tab tk_X0_settle 50 rfl) (by decide) rfl (fun h102 => ?_) (fun h102 => ?_)
            · refine am_iconst (q := 110) (n := 0) (by decide) (am_tab tk_X0_settle 53 rfl) rfl ?_
              refine am_istore_n (q := 111) (by decide) (ls2 := [(2, am_i 0), (1, am_i ((p : Int))), (0, am_r 44)]) rfl (am_tab tk_X0_settle 54 rfl) rfl ?_
              refine am_aload_n (q := 112) rfl (am_tab tk_X0_settle 55 rfl) rfl ?_
              refine am_getR (q := 115) (a := 44) (k := 0) (n := 14) (j := 9) (r := some (37)) (Ls_44 (hW.L hL)) (by decide) rfl ((congrFun (congrFun hW.2.1 44) 9).trans hA.1.1.2) (by decide) (Or.inl kf_X0_28) (am_tab tk_X0_settle 56 rfl) rfl ?_
              refine am_getR (q := 118) (a := 37) (k := 1) (n := 11) (j := 5) (r := some (38)) (Ls_37 (hW.L hL)) (by decide) rfl (Lr_37_5 (hW.L hL)) (by decide) (Or.inr kf_X0_108) (am_tab tk_X0_settle 57 rfl) rfl ?_
              refine am_iload_n (q := 119) rfl (am_tab tk_X0_settle 58 rfl) rfl ?_
              refine am_iload_n (q := 120) rfl (am_tab tk_X0_settle 59 rfl) rfl ?_
              refine am_if_eq (q := 123) (t := 127) (am_tab tk_X0_settle 60 rfl) (by decide) rfl (fun h120 => ?_) (fun h120 => ?_)
              · refine am_bipush (q := 129) (n := 99) (by decide) rfl (am_tab tk_X0_settle 63 rfl) rfl ?_
                refine am_aload_n (q := 130) rfl (am_tab tk_X0_settle 64 rfl) rfl ?_
                refine am_getR (q := 133) (a := 44) (k := 0) (n := 14) (j := 9) (r := some (37)) (Ls_44 (hW.L hL)) (by decide) rfl ((congrFun (congrFun hW.2.1 44) 9).trans hA.1.1.2) (by decide) (Or.inl kf_X0_28) (am_tab tk_X0_settle 65 rfl) rfl ?_
                refine am_getR (q := 136) (a := 37) (k := 1) (n := 11) (j := 5) (r := some (38)) (Ls_37 (hW.L hL)) (by decide) rfl (Lr_37_5 (hW.L hL)) (by decide) (Or.inr kf_X0_108) (am_tab tk_X0_settle 66 rfl) rfl ?_
                refine am_iload_n (q := 137) rfl (am_tab tk_X0_settle 67 rfl) rfl ?_
                refine am_iald (q := 138) (a := 38) (n := 8) (x := (H.2.1 96 (4 + p))) (Ls_38 (hW.L hL)) (by omega) (by omega) (by rw [show Int.toNat (p : Int) = p by omega, hag p (by omega), if_neg (Nat.lt_irrefl p)]) (am_tab tk_X0_settle 68 rfl) rfl ?_
                refine am_iconst (q := 139) (n := 1) (by decide) (am_tab tk_X0_settle 69 rfl) rfl ?_
                refine am_iadd (q := 140) (by omega) (am_tab tk_X0_settle 70 rfl) rfl ?_
                refine am_callS0 (q := 143) (me2 := M_J9_min_7cf53) (As := [am_i 99, am_i (((H.2.1 96 (4 + p)) + 1))]) (rest := [am_i ((p : Int)), am_r 38]) (out := [am_i (min 99 ((H.2.1 96 (4 + p)) + 1)), am_i ((p : Int)), am_r 38]) (c_min T 99 ((H.2.1 96 (4 + p)) + 1)) ⟨rfl, rfl⟩ ⟨Or.inl km_X0_111, kc_J9_min_7cf53, kn_J9, kd_J9_min_7cf53, ⟨(Nat.le_of_ble_eq_true rfl), (Nat.le_of_ble_eq_true rfl)⟩, ⟨(Nat.le_of_ble_eq_true rfl), (Nat.le_of_ble_eq_true rfl)⟩, (Nat.le_of_ble_eq_true rfl)⟩ ki_J9_min_7cf53 rfl rfl (am_tab tk_X0_settle 71 rfl) rfl ?_
                refine am_iast (q := 144) (a := 38) (n := 8) (Ls_38 (hW.L hL)) (by omega) (by omega) (am_tab tk_X0_settle 72 rfl) rfl ?_
                refine am_iinc (q := 147) rfl (by omega) (by decide) (ls2 := [(1, am_i (((p : Int) + 1))), (2, am_i 0), (0, am_r 44)]) rfl (am_tab tk_X0_settle 73 rfl) rfl ?_
                refine am_goto (t := 75) (am_tab tk_X0_settle 74 rfl) (by decide) ?_
                have hav : agD H p = min 99 ((H.2.1 96 (4 + p)) + 1) := by
                  unfold agD
                  rw [if_neg (by have := fsD01 H; omega), bgN_far (by omega)]; split <;> omega
                exact am_less (by intro q hq; simp only [List.mem_cons, List.not_mem_nil, or_false] at hq; rcases hq with rfl | rfl <;> simp) (ih75 (p + 1) (am_setN T 38 (Int.toNat (p : Int)) (min 99 ((H.2.1 96 (4 + p)) + 1))) (by omega) (hW.setN (by unfold W_se; omega)) h0 h1 h2 (fun q hq => by show (if 38 = 38 ∧ q = Int.toNat (p : Int) then min 99 ((H.2.1 96 (4 + p)) + 1) else T.2.1 38 q) = _; by_cases g : q = p; (rw [if_pos ⟨rfl, by omega⟩, if_pos (by omega), g]; exact hav.symm); (rw [if_neg (fun z => g (by omega)), hag q hq]; by_cases g2 : q < p; (rw [if_pos g2, if_pos (by omega)]); (rw [if_neg g2, if_neg (by omega)]))) hbr (by omega))
              · exact absurd h120 (by decide)
            · refine am_iconst (q := 106) (n := 1) (by decide) (am_tab tk_X0_settle 51 rfl) rfl ?_
              refine am_goto (t := 110) (am_tab tk_X0_settle 52 rfl) (by decide) ?_
              refine am_istore_n (q := 111) (by decide) (ls2 := [(2, am_i 1), (1, am_i ((p : Int))), (0, am_r 44)]) rfl (am_tab tk_X0_settle 54 rfl) rfl ?_
              refine am_aload_n (q := 112) rfl (am_tab tk_X0_settle 55 rfl) rfl ?_
              refine am_getR (q := 115) (a := 44) (k := 0) (n := 14) (j := 9) (r := some (37)) (Ls_44 (hW.L hL)) (by decide) rfl ((congrFun (congrFun hW.2.1 44) 9).trans hA.1.1.2) (by decide) (Or.inl kf_X0_28) (am_tab tk_X0_settle 56 rfl) rfl ?_
              refine am_getR (q := 118) (a := 37) (k := 1) (n := 11) (j := 5) (r := some (38)) (Ls_37 (hW.L hL)) (by decide) rfl (Lr_37_5 (hW.L hL)) (by decide) (Or.inr kf_X0_108) (am_tab tk_X0_settle 57 rfl) rfl ?_
              refine am_iload_n (q := 119) rfl (am_tab tk_X0_settle 58 rfl) rfl ?_
              refine am_iload_n (q := 120) rfl (am_tab tk_X0_settle 59 rfl) rfl ?_
              refine am_if_eq (q := 123) (t := 127) (am_tab tk_X0_settle 60 rfl) (by decide) rfl (fun h120 => ?_) (fun h120 => ?_)
              · exact absurd h120 (by decide)
              · refine am_iconst (q := 124) (n := 0) (by decide) (am_tab tk_X0_settle 61 rfl) rfl ?_
                refine am_goto (t := 143) (am_tab tk_X0_settle 62 rfl) (by decide) ?_
                refine am_iast (q := 144) (a := 38) (n := 8) (Ls_38 (hW.L hL)) (by omega) (by omega) (am_tab tk_X0_settle 72 rfl) rfl ?_
                refine am_iinc (q := 147) rfl (by omega) (by decide) (ls2 := [(1, am_i (((p : Int) + 1))), (2, am_i 1), (0, am_r 44)]) rfl (am_tab tk_X0_settle 73 rfl) rfl ?_
                refine am_goto (t := 75) (am_tab tk_X0_settle 74 rfl) (by decide) ?_
                have hav : agD H p = 0 := by
                  unfold agD
                  rw [if_pos (by have := fsD01 H; omega)]
                exact am_less (by intro q hq; simp only [List.mem_cons, List.not_mem_nil, or_false] at hq; rcases hq with rfl | rfl <;> simp) (ih75 (p + 1) (am_setN T 38 (Int.toNat (p : Int)) 0) (by omega) (hW.setN (by unfold W_se; omega)) h0 h1 h2 (fun q hq => by show (if 38 = 38 ∧ q = Int.toNat (p : Int) then 0 else T.2.1 38 q) = _; by_cases g : q = p; (rw [if_pos ⟨rfl, by omega⟩, if_pos (by omega), g]; exact hav.symm); (rw [if_neg (fun z => g (by omega)), hag q hq]; by_cases g2 : q < p; (rw [if_pos g2, if_pos (by omega)]); (rw [if_neg g2, if_neg (by omega)]))) hbr (by omega))
    refine am_aload_n (q := 9) rfl (am_tab tk_X0_settle 4 rfl) rfl ?_
    refine am_iconst (q := 10) (n := 0) (by decide) (am_tab tk_X0_settle 5 rfl) rfl ?_
    refine am_putZ (q := 13) (k := 0) (n := 14) (j := 7) (Ls_44 hL) (by decide) rfl (by first | exact Or.inl rfl | exact Or.inr rfl | omega) (by decide) (Or.inl ⟨kf_X0_38, rfl⟩) (am_tab tk_X0_settle 6 rfl) rfl ?_
    refine am_aload_n (q := 14) rfl (am_tab tk_X0_settle 7 rfl) rfl ?_
    refine am_getR (q := 17) (a := 44) (k := 0) (n := 14) (j := 9) (r := some (37)) (Ls_44 hL) (by decide) rfl hA.1.1.2 (by decide) (Or.inl kf_X0_28) (am_tab tk_X0_settle 8 rfl) rfl ?_
    refine am_aload_n (q := 18) rfl (am_tab tk_X0_settle 9 rfl) rfl ?_
    refine am_getI (q := 21) (a := 44) (k := 0) (n := 14) (j := 0) (x := (bgN H 0)) (Ls_44 hL) (by decide) rfl hA.2.2.1.1 (by decide) (Or.inl kf_X0_54) (am_tab tk_X0_settle 10 rfl) rfl ?_
    refine am_putI (q := 24) (k := 1) (n := 11) (j := 0) (Ls_37 hL) (by decide) rfl (by decide) (Or.inr (Or.inl ⟨kf_X0_51, rfl⟩)) (am_tab tk_X0_settle 11 rfl) rfl ?_
    refine am_aload_n (q := 25) rfl (am_tab tk_X0_settle 12 rfl) rfl ?_
    refine am_getR (q := 28) (a := 44) (k := 0) (n := 14) (j := 9) (r := some (37)) (Ls_44 hL) (by decide) rfl hA.1.1.2 (by decide) (Or.inl kf_X0_28) (am_tab tk_X0_settle 13 rfl) rfl ?_
    refine am_aload_n (q := 29) rfl (am_tab tk_X0_settle 14 rfl) rfl ?_
    refine am_getI (q := 32) (a := 44) (k := 0) (n := 14) (j := 1) (x := (bgN H 1)) (Ls_44 hL) (by decide) rfl hA.2.2.1.2.1 (by decide) (Or.inl kf_X0_55) (am_tab tk_X0_settle 15 rfl) rfl ?_
    refine am_putI (q := 35) (k := 1) (n := 11) (j := 1) (Ls_37 hL) (by decide) rfl (by decide) (Or.inr (Or.inl ⟨kf_X0_42, rfl⟩)) (am_tab tk_X0_settle 16 rfl) rfl ?_
    refine am_aload_n (q := 36) rfl (am_tab tk_X0_settle 17 rfl) rfl ?_
    refine am_getR (q := 39) (a := 44) (k := 0) (n := 14) (j := 9) (r := some (37)) (Ls_44 hL) (by decide) rfl hA.1.1.2 (by decide) (Or.inl kf_X0_28) (am_tab tk_X0_settle 18 rfl) rfl ?_
    refine am_getR (q := 42) (a := 37) (k := 1) (n := 11) (j := 7) (r := some (40)) (Ls_37 hL) (by decide) rfl (Lr_37_7 hL) (by decide) (Or.inr kf_X0_78) (am_tab tk_X0_settle 19 rfl) rfl ?_
    refine am_aload_n (q := 43) rfl (am_tab tk_X0_settle 20 rfl) rfl ?_
    refine am_getI (q := 46) (a := 44) (k := 0) (n := 14) (j := 1) (x := (bgN H 1)) (Ls_44 hL) (by decide) rfl hA.2.2.1.2.1 (by decide) (Or.inl kf_X0_55) (am_tab tk_X0_settle 21 rfl) rfl ?_
    refine am_iconst (q := 47) (n := 0) (by decide) (am_tab tk_X0_settle 22 rfl) rfl ?_
    refine am_iast (q := 48) (a := 40) (n := 91) (Ls_40 hL) (by omega) (by omega) (am_tab tk_X0_settle 23 rfl) rfl ?_
    refine am_aload_n (q := 49) rfl (am_tab tk_X0_settle 24 rfl) rfl ?_
    refine am_getR (q := 52) (a := 44) (k := 0) (n := 14) (j := 9) (r := some (37)) (Ls_44 hL) (by decide) rfl hA.1.1.2 (by decide) (Or.inl kf_X0_28) (am_tab tk_X0_settle 25 rfl) rfl ?_
    refine am_aload_n (q := 53) rfl (am_tab tk_X0_settle 26 rfl) rfl ?_
    refine am_getI (q := 56) (a := 44) (k := 0) (n := 14) (j := 6) (x := (fsD H)) (Ls_44 hL) (by decide) rfl hA.2.2.2.2.2.1 (by decide) (Or.inl kf_X0_99) (am_tab tk_X0_settle 27 rfl) rfl ?_
    refine am_if_eq (q := 59) (t := 66) (am_tab tk_X0_settle 28 rfl) (by decide) rfl (fun h56 => ?_) (fun h56 => ?_)
    · refine am_aload_n (q := 67) rfl (am_tab tk_X0_settle 32 rfl) rfl ?_
      refine am_getI (q := 70) (a := 44) (k := 0) (n := 14) (j := 2) (x := (bgN H 2)) (Ls_44 hL) (by decide) rfl hA.2.2.1.2.2.1 (by decide) (Or.inl kf_X0_59) (am_tab tk_X0_settle 33 rfl) rfl ?_
      refine am_putI (q := 73) (k := 1) (n := 11) (j := 2) (Ls_37 hL) (by decide) rfl (by decide) (Or.inr (Or.inl ⟨kf_X0_56, rfl⟩)) (am_tab tk_X0_settle 34 rfl) rfl ?_
      refine am_iconst (q := 74) (n := 0) (by decide) (am_tab tk_X0_settle 35 rfl) rfl ?_
      refine am_istore_n (q := 75) (by decide) (ls2 := [(1, am_i 0), (0, am_r 44)]) rfl (am_tab tk_X0_settle 36 rfl) rfl ?_
      refine am_less (by intro q hq; simp only [List.mem_cons, List.not_mem_nil, or_false] at hq; rcases hq with rfl | rfl <;> simp) (L75 (_ + 1) 0 (am_setN (am_setN (am_setN (am_setN (am_setN σ 44 7 0) 37 0 (bgN H 0)) 37 1 (bgN H 1)) 40 (Int.toNat (bgN H 1)) 0) 37 2 (bgN H 2)) (by exact Nat.lt_succ_self _) ((((((frw.refl (W_se 37) σ).setN (by unfold W_se; omega)).setN (by unfold W_se; omega)).setN (by unfold W_se; omega)).setN (by unfold W_se; omega)).setN (by unfold W_se; omega)) rfl rfl (by show bgN H 2 = (if (2 : Nat) = 2 then (if fsD H = 1 then bgN H 1 else bgN H 2) else _); rw [if_pos rfl]; rw [if_neg (by omega)]) (fun q hq => by rw [if_neg (Nat.not_lt_zero q)]; exact hF.2.2.2.1 q hq) (fun d hd => by show (if 40 = 40 ∧ d = Int.toNat (bgN H 1) then 0 else σ.2.1 40 d) = _; by_cases g : d = (bgN H 1).toNat; rw [if_pos ⟨rfl, g⟩, if_pos g]; rw [if_neg (fun z => g z.2), if_neg g]; exact hF.2.2.2.2.2 d hd) (Nat.zero_le _))
    · refine am_aload_n (q := 60) rfl (am_tab tk_X0_settle 29 rfl) rfl ?_
      refine am_getI (q := 63) (a := 44) (k := 0) (n := 14) (j := 1) (x := (bgN H 1)) (Ls_44 hL) (by decide) rfl hA.2.2.1.2.1 (by decide) (Or.inl kf_X0_55) (am_tab tk_X0_settle 30 rfl) rfl ?_
      refine am_goto (t := 70) (am_tab tk_X0_settle 31 rfl) (by decide) ?_
      refine am_putI (q := 73) (k := 1) (n := 11) (j := 2) (Ls_37 hL) (by decide) rfl (by decide) (Or.inr (Or.inl ⟨kf_X0_56, rfl⟩)) (am_tab tk_X0_settle 34 rfl) rfl ?_
      refine am_iconst (q := 74) (n := 0) (by decide) (am_tab tk_X0_settle 35 rfl) rfl ?_
      refine am_istore_n (q := 75) (by decide) (ls2 := [(1, am_i 0), (0, am_r 44)]) rfl (am_tab tk_X0_settle 36 rfl) rfl ?_
      refine am_less (by intro q hq; simp only [List.mem_cons, List.not_mem_nil, or_false] at hq; rcases hq with rfl | rfl <;> simp) (L75 (_ + 1) 0 (am_setN (am_setN (am_setN (am_setN (am_setN σ 44 7 0) 37 0 (bgN H 0)) 37 1 (bgN H 1)) 40 (Int.toNat (bgN H 1)) 0) 37 2 (bgN H 1)) (by exact Nat.lt_succ_self _) ((((((frw.refl (W_se 37) σ).setN (by unfold W_se; omega)).setN (by unfold W_se; omega)).setN (by unfold W_se; omega)).setN (by unfold W_se; omega)).setN (by unfold W_se; omega)) rfl rfl (by show bgN H 1 = (if (2 : Nat) = 2 then (if fsD H = 1 then bgN H 1 else bgN H 2) else _); rw [if_pos rfl]; rw [if_pos (by have := fsD01 H; omega)]) (fun q hq => by rw [if_neg (Nat.not_lt_zero q)]; exact hF.2.2.2.1 q hq) (fun d hd => by show (if 40 = 40 ∧ d = Int.toNat (bgN H 1) then 0 else σ.2.1 40 d) = _; by_cases g : d = (bgN H 1).toNat; rw [if_pos ⟨rfl, g⟩, if_pos g]; rw [if_neg (fun z => g z.2), if_neg g]; exact hF.2.2.2.2.2 d hd) (Nat.zero_le _))
  · exact absurd h4 (by decide)
set_option maxRecDepth 100000 in
theorem c_copy_37_32 (σ : am_H) (hL : lay σ)   : am_met M_X1_copyFrom [am_r 37, am_r 32] σ (fun r σ' => r = none ∧ CPY 37 32 σ σ' ∧ frw (W_li 37) σ σ') := by
  refine am_qq (fun Q hQ => ?_)
  refine am_enter (show plainFor yX1_copyFrom = true by decide +kernel) rfl (Nat.le_of_ble_eq_true rfl) (fun _ _ _ => trivial) ?_
  refine am_aload_n (q := 1) rfl (am_tab tk_X1_copyFrom 0 rfl) rfl ?_
  refine am_aload_n (q := 2) rfl (am_tab tk_X1_copyFrom 1 rfl) rfl ?_
  refine am_getI (q := 5) (a := 32) (k := 1) (n := 11) (j := 0) (x := (σ.2.1 32 0)) (Ls_32 hL) (by decide) rfl rfl (by decide) (Or.inl kf_X1_9) (am_tab tk_X1_copyFrom 2 rfl) rfl ?_
  refine am_putI (q := 8) (k := 1) (n := 11) (j := 0) (Ls_37 hL) (by decide) rfl (by decide) (Or.inl ⟨kf_X1_9, rfl⟩) (am_tab tk_X1_copyFrom 3 rfl) rfl ?_
  refine am_aload_n (q := 9) rfl (am_tab tk_X1_copyFrom 4 rfl) rfl ?_
  refine am_aload_n (q := 10) rfl (am_tab tk_X1_copyFrom 5 rfl) rfl ?_
  refine am_getI (q := 13) (a := 32) (k := 1) (n := 11) (j := 1) (x := (σ.2.1 32 1)) (Ls_32 hL) (by decide) rfl rfl (by decide) (Or.inl kf_X1_28) (am_tab tk_X1_copyFrom 6 rfl) rfl ?_
  refine am_putI (q := 16) (k := 1) (n := 11) (j := 1) (Ls_37 hL) (by decide) rfl (by decide) (Or.inl ⟨kf_X1_28, rfl⟩) (am_tab tk_X1_copyFrom 7 rfl) rfl ?_
  refine am_aload_n (q := 17) rfl (am_tab tk_X1_copyFrom 8 rfl) rfl ?_
  refine am_aload_n (q := 18) rfl (am_tab tk_X1_copyFrom 9 rfl) rfl ?_
  refine am_getI (q := 21) (a := 32) (k := 1) (n := 11) (j := 2) (x := (σ.2.1 32 2)) (Ls_32 hL) (by decide) rfl rfl (by decide) (Or.inl kf_X1_31) (am_tab tk_X1_copyFrom 10 rfl) rfl ?_
  refine am_putI (q := 24) (k := 1) (n := 11) (j := 2) (Ls_37 hL) (by decide) rfl (by decide) (Or.inl ⟨kf_X1_31, rfl⟩) (am_tab tk_X1_copyFrom 11 rfl) rfl ?_
  refine am_aload_n (q := 25) rfl (am_tab tk_X1_copyFrom 12 rfl) rfl ?_
  refine am_aload_n (q := 26) rfl (am_tab tk_X1_copyFrom 13 rfl) rfl ?_
  refine am_getI (q := 29) (a := 32) (k := 1) (n := 11) (j := 3) (x := (σ.2.1 32 3)) (Ls_32 hL) (by decide) rfl rfl (by decide) (Or.inl kf_X1_34) (am_tab tk_X1_copyFrom 14 rfl) rfl ?_
  refine am_putI (q := 32) (k := 1) (n := 11) (j := 3) (Ls_37 hL) (by decide) rfl (by decide) (Or.inl ⟨kf_X1_34, rfl⟩) (am_tab tk_X1_copyFrom 15 rfl) rfl ?_
  refine am_aload_n (q := 33) rfl (am_tab tk_X1_copyFrom 16 rfl) rfl ?_
  refine am_aload_n (q := 34) rfl (am_tab tk_X1_copyFrom 17 rfl) rfl ?_
  refine am_getI (q := 37) (a := 32) (k := 1) (n := 11) (j := 4) (x := (σ.2.1 32 4)) (Ls_32 hL) (by decide) rfl rfl (by decide) (Or.inl kf_X1_37) (am_tab tk_X1_copyFrom 18 rfl) rfl ?_
  refine am_putI (q := 40) (k := 1) (n := 11) (j := 4) (Ls_37 hL) (by decide) rfl (by decide) (Or.inl ⟨kf_X1_37, rfl⟩) (am_tab tk_X1_copyFrom 19 rfl) rfl ?_
  refine am_aload_n (q := 41) rfl (am_tab tk_X1_copyFrom 20 rfl) rfl ?_
  refine am_getR (q := 44) (a := 32) (k := 1) (n := 11) (j := 5) (r := some (33)) (Ls_32 hL) (by decide) rfl (Lr_32_5 hL) (by decide) (Or.inl kf_X1_15) (am_tab tk_X1_copyFrom 21 rfl) rfl ?_
  refine am_iconst (q := 45) (n := 0) (by decide) (am_tab tk_X1_copyFrom 22 rfl) rfl ?_
  refine am_aload_n (q := 46) rfl (am_tab tk_X1_copyFrom 23 rfl) rfl ?_
  refine am_getR (q := 49) (a := 37) (k := 1) (n := 11) (j := 5) (r := some (38)) (Ls_37 hL) (by decide) rfl (Lr_37_5 hL) (by decide) (Or.inl kf_X1_15) (am_tab tk_X1_copyFrom 24 rfl) rfl ?_
  refine am_iconst (q := 50) (n := 0) (by decide) (am_tab tk_X1_copyFrom 25 rfl) rfl ?_
  refine am_aload_n (q := 51) rfl (am_tab tk_X1_copyFrom 26 rfl) rfl ?_
  refine am_getR (q := 54) (a := 37) (k := 1) (n := 11) (j := 5) (r := some (38)) (Ls_37 hL) (by decide) rfl (Lr_37_5 hL) (by decide) (Or.inl kf_X1_15) (am_tab tk_X1_copyFrom 27 rfl) rfl ?_
  refine am_alen (q := 55) (a := 38) (k := 11) (n := 8) (Ls_38 hL) (by decide) (by decide) (am_tab tk_X1_copyFrom 28 rfl) rfl ?_
  refine am_copy (q := 58) (a0 := 33) (a1 := 38) (n0 := 8) (n1 := 8) (Ls_33 hL) (Ls_38 hL) (by omega) (by omega) (by omega) (by omega) (by omega) (by omega) km_X1_49 kna_copy kst_copy kn_J10 (Nat.le_of_ble_eq_true rfl) (Nat.le_of_ble_eq_true rfl) (am_tab tk_X1_copyFrom 29 rfl) rfl ?_
  refine am_aload_n (q := 59) rfl (am_tab tk_X1_copyFrom 30 rfl) rfl ?_
  refine am_getR (q := 62) (a := 32) (k := 1) (n := 11) (j := 6) (r := some (34)) (Ls_32 hL) (by decide) rfl (Lr_32_6 hL) (by decide) (Or.inl kf_X1_19) (am_tab tk_X1_copyFrom 31 rfl) rfl ?_
  refine am_iconst (q := 63) (n := 0) (by decide) (am_tab tk_X1_copyFrom 32 rfl) rfl ?_
  refine am_aload_n (q := 64) rfl (am_tab tk_X1_copyFrom 33 rfl) rfl ?_
  refine am_getR (q := 67) (a := 37) (k := 1) (n := 11) (j := 6) (r := some (39)) (Ls_37 hL) (by decide) rfl (Lr_37_6 hL) (by decide) (Or.inl kf_X1_19) (am_tab tk_X1_copyFrom 34 rfl) rfl ?_
  refine am_iconst (q := 68) (n := 0) (by decide) (am_tab tk_X1_copyFrom 35 rfl) rfl ?_
  refine am_aload_n (q := 69) rfl (am_tab tk_X1_copyFrom 36 rfl) rfl ?_
  refine am_getR (q := 72) (a := 37) (k := 1) (n := 11) (j := 6) (r := some (39)) (Ls_37 hL) (by decide) rfl (Lr_37_6 hL) (by decide) (Or.inl kf_X1_19) (am_tab tk_X1_copyFrom 37 rfl) rfl ?_
  refine am_alen (q := 73) (a := 39) (k := 11) (n := 91) (Ls_39 hL) (by decide) (by decide) (am_tab tk_X1_copyFrom 38 rfl) rfl ?_
  refine am_copy (q := 76) (a0 := 34) (a1 := 39) (n0 := 91) (n1 := 91) (Ls_34 hL) (Ls_39 hL) (by omega) (by omega) (by omega) (by omega) (by omega) (by omega) km_X1_49 kna_copy kst_copy kn_J10 (Nat.le_of_ble_eq_true rfl) (Nat.le_of_ble_eq_true rfl) (am_tab tk_X1_copyFrom 39 rfl) rfl ?_
  refine am_aload_n (q := 77) rfl (am_tab tk_X1_copyFrom 40 rfl) rfl ?_
  refine am_getR (q := 80) (a := 32) (k := 1) (n := 11) (j := 7) (r := some (35)) (Ls_32 hL) (by decide) rfl (Lr_32_7 hL) (by decide) (Or.inl kf_X1_22) (am_tab tk_X1_copyFrom 41 rfl) rfl ?_
  refine am_iconst (q := 81) (n := 0) (by decide) (am_tab tk_X1_copyFrom 42 rfl) rfl ?_
  refine am_aload_n (q := 82) rfl (am_tab tk_X1_copyFrom 43 rfl) rfl ?_
  refine am_getR (q := 85) (a := 37) (k := 1) (n := 11) (j := 7) (r := some (40)) (Ls_37 hL) (by decide) rfl (Lr_37_7 hL) (by decide) (Or.inl kf_X1_22) (am_tab tk_X1_copyFrom 44 rfl) rfl ?_
  refine am_iconst (q := 86) (n := 0) (by decide) (am_tab tk_X1_copyFrom 45 rfl) rfl ?_
  refine am_aload_n (q := 87) rfl (am_tab tk_X1_copyFrom 46 rfl) rfl ?_
  refine am_getR (q := 90) (a := 37) (k := 1) (n := 11) (j := 7) (r := some (40)) (Ls_37 hL) (by decide) rfl (Lr_37_7 hL) (by decide) (Or.inl kf_X1_22) (am_tab tk_X1_copyFrom 47 rfl) rfl ?_
  refine am_alen (q := 91) (a := 40) (k := 11) (n := 91) (Ls_40 hL) (by decide) (by decide) (am_tab tk_X1_copyFrom 48 rfl) rfl ?_
  refine am_copy (q := 94) (a0 := 35) (a1 := 40) (n0 := 91) (n1 := 91) (Ls_35 hL) (Ls_40 hL) (by omega) (by omega) (by omega) (by omega) (by omega) (by omega) km_X1_49 kna_copy kst_copy kn_J10 (Nat.le_of_ble_eq_true rfl) (Nat.le_of_ble_eq_true rfl) (am_tab tk_X1_copyFrom 49 rfl) rfl ?_
  refine am_aload_n (q := 95) rfl (am_tab tk_X1_copyFrom 50 rfl) rfl ?_
  refine am_getR (q := 98) (a := 32) (k := 1) (n := 11) (j := 8) (r := some (36)) (Ls_32 hL) (by decide) rfl (Lr_32_8 hL) (by decide) (Or.inl kf_X1_25) (am_tab tk_X1_copyFrom 51 rfl) rfl ?_
  refine am_iconst (q := 99) (n := 0) (by decide) (am_tab tk_X1_copyFrom 52 rfl) rfl ?_
  refine am_aload_n (q := 100) rfl (am_tab tk_X1_copyFrom 53 rfl) rfl ?_
  refine am_getR (q := 103) (a := 37) (k := 1) (n := 11) (j := 8) (r := some (41)) (Ls_37 hL) (by decide) rfl (Lr_37_8 hL) (by decide) (Or.inl kf_X1_25) (am_tab tk_X1_copyFrom 54 rfl) rfl ?_
  refine am_iconst (q := 104) (n := 0) (by decide) (am_tab tk_X1_copyFrom 55 rfl) rfl ?_
  refine am_aload_n (q := 105) rfl (am_tab tk_X1_copyFrom 56 rfl) rfl ?_
  refine am_getR (q := 108) (a := 37) (k := 1) (n := 11) (j := 8) (r := some (41)) (Ls_37 hL) (by decide) rfl (Lr_37_8 hL) (by decide) (Or.inl kf_X1_25) (am_tab tk_X1_copyFrom 57 rfl) rfl ?_
  refine am_alen (q := 109) (a := 41) (k := 11) (n := 60) (Ls_41 hL) (by decide) (by decide) (am_tab tk_X1_copyFrom 58 rfl) rfl ?_
  refine am_copy (q := 112) (a0 := 36) (a1 := 41) (n0 := 60) (n1 := 60) (Ls_36 hL) (Ls_41 hL) (by omega) (by omega) (by omega) (by omega) (by omega) (by omega) km_X1_49 kna_copy kst_copy kn_J10 (Nat.le_of_ble_eq_true rfl) (Nat.le_of_ble_eq_true rfl) (am_tab tk_X1_copyFrom 59 rfl) rfl ?_
  refine am_aload_n (q := 113) rfl (am_tab tk_X1_copyFrom 60 rfl) rfl ?_
  refine am_aload_n (q := 114) rfl (am_tab tk_X1_copyFrom 61 rfl) rfl ?_
  refine am_getI (q := 117) (a := 32) (k := 1) (n := 11) (j := 9) (x := (σ.2.1 32 9)) (Ls_32 hL) (by decide) rfl rfl (by decide) (Or.inl kf_X1_55) (am_tab tk_X1_copyFrom 62 rfl) rfl ?_
  refine am_putI (q := 120) (k := 1) (n := 11) (j := 9) (Ls_37 hL) (by decide) rfl (by decide) (Or.inl ⟨kf_X1_55, rfl⟩) (am_tab tk_X1_copyFrom 63 rfl) rfl ?_
  refine am_aload_n (q := 121) rfl (am_tab tk_X1_copyFrom 64 rfl) rfl ?_
  refine am_aload_n (q := 122) rfl (am_tab tk_X1_copyFrom 65 rfl) rfl ?_
  refine am_getI (q := 125) (a := 32) (k := 1) (n := 11) (j := 10) (x := (σ.2.1 32 10)) (Ls_32 hL) (by decide) rfl rfl (by decide) (Or.inl kf_X1_58) (am_tab tk_X1_copyFrom 66 rfl) rfl ?_
  refine am_putI (q := 128) (k := 1) (n := 11) (j := 10) (Ls_37 hL) (by decide) rfl (by decide) (Or.inl ⟨kf_X1_58, rfl⟩) (am_tab tk_X1_copyFrom 67 rfl) rfl ?_
  refine am_vret rfl (Nat.le_of_ble_eq_true rfl) (Nat.le_of_ble_eq_true rfl) (am_tab tk_X1_copyFrom 68 rfl) ?_
  refine hQ _ _ ?_
  refine ⟨rfl, ⟨fun j hj => ?_, fun j hj => cpS hj, fun j hj => cpS hj, fun j hj => cpS hj, fun j hj => cpS hj⟩, ?_⟩
  · rcases (show j = 0 ∨ j = 1 ∨ j = 2 ∨ j = 3 ∨ j = 4 ∨ j = 9 ∨ j = 10 by omega) with rfl | rfl | rfl | rfl | rfl | rfl | rfl <;> rfl
  · exact (((((((((((frw.refl (W_li 37) σ).setN (by unfold W_li; omega)).setN (by unfold W_li; omega)).setN (by unfold W_li; omega)).setN (by unfold W_li; omega)).setN (by unfold W_li; omega)).setA (by unfold W_li; omega)).setA (by unfold W_li; omega)).setA (by unfold W_li; omega)).setA (by unfold W_li; omega)).setN (by unfold W_li; omega)).setN (by unfold W_li; omega)
set_option maxRecDepth 100000 in
theorem c_copy_32_37 (σ : am_H) (hL : lay σ)   : am_met M_X1_copyFrom [am_r 32, am_r 37] σ (fun r σ' => r = none ∧ CPY 32 37 σ σ' ∧ frw (W_li 32) σ σ') := by
  refine am_qq (fun Q hQ => ?_)
  refine am_enter (show plainFor yX1_copyFrom = true by decide +kernel) rfl (Nat.le_of_ble_eq_true rfl) (fun _ _ _ => trivial) ?_
  refine am_aload_n (q := 1) rfl (am_tab tk_X1_copyFrom 0 rfl) rfl ?_
  refine am_aload_n (q := 2) rfl (am_tab tk_X1_copyFrom 1 rfl) rfl ?_
  refine am_getI (q := 5) (a := 37) (k := 1) (n := 11) (j := 0) (x := (σ.2.1 37 0)) (Ls_37 hL) (by decide) rfl rfl (by decide) (Or.inl kf_X1_9) (am_tab tk_X1_copyFrom 2 rfl) rfl ?_
  refine am_putI (q := 8) (k := 1) (n := 11) (j := 0) (Ls_32 hL) (by decide) rfl (by decide) (Or.inl ⟨kf_X1_9, rfl⟩) (am_tab tk_X1_copyFrom 3 rfl) rfl ?_
  refine am_aload_n (q := 9) rfl (am_tab tk_X1_copyFrom 4 rfl) rfl ?_
  refine am_aload_n (q := 10) rfl (am_tab tk_X1_copyFrom 5 rfl) rfl ?_
  refine am_getI (q := 13) (a := 37) (k := 1) (n := 11) (j := 1) (x := (σ.2.1 37 1)) (Ls_37 hL) (by decide) rfl rfl (by decide) (Or.inl kf_X1_28) (am_tab tk_X1_copyFrom 6 rfl) rfl ?_
  refine am_putI (q := 16) (k := 1) (n := 11) (j := 1) (Ls_32 hL) (by decide) rfl (by decide) (Or.inl ⟨kf_X1_28, rfl⟩) (am_tab tk_X1_copyFrom 7 rfl) rfl ?_
  refine am_aload_n (q := 17) rfl (am_tab tk_X1_copyFrom 8 rfl) rfl ?_
  refine am_aload_n (q := 18) rfl (am_tab tk_X1_copyFrom 9 rfl) rfl ?_
  refine am_getI (q := 21) (a := 37) (k := 1) (n := 11) (j := 2) (x := (σ.2.1 37 2)) (Ls_37 hL) (by decide) rfl rfl (by decide) (Or.inl kf_X1_31) (am_tab tk_X1_copyFrom 10 rfl) rfl ?_
  refine am_putI (q := 24) (k := 1) (n := 11) (j := 2) (Ls_32 hL) (by decide) rfl (by decide) (Or.inl ⟨kf_X1_31, rfl⟩) (am_tab tk_X1_copyFrom 11 rfl) rfl ?_
  refine am_aload_n (q := 25) rfl (am_tab tk_X1_copyFrom 12 rfl) rfl ?_
  refine am_aload_n (q := 26) rfl (am_tab tk_X1_copyFrom 13 rfl) rfl ?_
  refine am_getI (q := 29) (a := 37) (k := 1) (n := 11) (j := 3) (x := (σ.2.1 37 3)) (Ls_37 hL) (by decide) rfl rfl (by decide) (Or.inl kf_X1_34) (am_tab tk_X1_copyFrom 14 rfl) rfl ?_
  refine am_putI (q := 32) (k := 1) (n := 11) (j := 3) (Ls_32 hL) (by decide) rfl (by decide) (Or.inl ⟨kf_X1_34, rfl⟩) (am_tab tk_X1_copyFrom 15 rfl) rfl ?_
  refine am_aload_n (q := 33) rfl (am_tab tk_X1_copyFrom 16 rfl) rfl ?_
  refine am_aload_n (q := 34) rfl (am_tab tk_X1_copyFrom 17 rfl) rfl ?_
  refine am_getI (q := 37) (a := 37) (k := 1) (n := 11) (j := 4) (x := (σ.2.1 37 4)) (Ls_37 hL) (by decide) rfl rfl (by decide) (Or.inl kf_X1_37) (am_tab tk_X1_copyFrom 18 rfl) rfl ?_
  refine am_putI (q := 40) (k := 1) (n := 11) (j := 4) (Ls_32 hL) (by decide) rfl (by decide) (Or.inl ⟨kf_X1_37, rfl⟩) (am_tab tk_X1_copyFrom 19 rfl) rfl ?_
  refine am_aload_n (q := 41) rfl (am_tab tk_X1_copyFrom 20 rfl) rfl ?_
  refine am_getR (q := 44) (a := 37) (k := 1) (n := 11) (j := 5) (r := some (38)) (Ls_37 hL) (by decide) rfl (Lr_37_5 hL) (by decide) (Or.inl kf_X1_15) (am_tab tk_X1_copyFrom 21 rfl) rfl ?_
  refine am_iconst (q := 45) (n := 0) (by decide) (am_tab tk_X1_copyFrom 22 rfl) rfl ?_
  refine am_aload_n (q := 46) rfl (am_tab tk_X1_copyFrom 23 rfl) rfl ?_
  refine am_getR (q := 49) (a := 32) (k := 1) (n := 11) (j := 5) (r := some (33)) (Ls_32 hL) (by decide) rfl (Lr_32_5 hL) (by decide) (Or.inl kf_X1_15) (am_tab tk_X1_copyFrom 24 rfl) rfl ?_
  refine am_iconst (q := 50) (n := 0) (by decide) (am_tab tk_X1_copyFrom 25 rfl) rfl ?_
  refine am_aload_n (q := 51) rfl (am_tab tk_X1_copyFrom 26 rfl) rfl ?_
  refine am_getR (q := 54) (a := 32) (k := 1) (n := 11) (j := 5) (r := some (33)) (Ls_32 hL) (by decide) rfl (Lr_32_5 hL) (by decide) (Or.inl kf_X1_15) (am_tab tk_X1_copyFrom 27 rfl) rfl ?_
  refine am_alen (q := 55) (a := 33) (k := 11) (n := 8) (Ls_33 hL) (by decide) (by decide) (am_tab tk_X1_copyFrom 28 rfl) rfl ?_
  refine am_copy (q := 58) (a0 := 38) (a1 := 33) (n0 := 8) (n1 := 8) (Ls_38 hL) (Ls_33 hL) (by omega) (by omega) (by omega) (by omega) (by omega) (by omega) km_X1_49 kna_copy kst_copy kn_J10 (Nat.le_of_ble_eq_true rfl) (Nat.le_of_ble_eq_true rfl) (am_tab tk_X1_copyFrom 29 rfl) rfl ?_
  refine am_aload_n (q := 59) rfl (am_tab tk_X1_copyFrom 30 rfl) rfl ?_
  refine am_getR (q := 62) (a := 37) (k := 1) (n := 11) (j := 6) (r := some (39)) (Ls_37 hL) (by decide) rfl (Lr_37_6 hL) (by decide) (Or.inl kf_X1_19) (am_tab tk_X1_copyFrom 31 rfl) rfl ?_
  refine am_iconst (q := 63) (n := 0) (by decide) (am_tab tk_X1_copyFrom 32 rfl) rfl ?_
  refine am_aload_n (q := 64) rfl (am_tab tk_X1_copyFrom 33 rfl) rfl ?_
  refine am_getR (q := 67) (a := 32) (k := 1) (n := 11) (j := 6) (r := some (34)) (Ls_32 hL) (by decide) rfl (Lr_32_6 hL) (by decide) (Or.inl kf_X1_19) (am_tab tk_X1_copyFrom 34 rfl) rfl ?_
  refine am_iconst (q := 68) (n := 0) (by decide) (am_tab tk_X1_copyFrom 35 rfl) rfl ?_
  refine am_aload_n (q := 69) rfl (am_tab tk_X1_copyFrom 36 rfl) rfl ?_
  refine am_getR (q := 72) (a := 32) (k := 1) (n := 11) (j := 6) (r := some (34)) (Ls_32 hL) (by decide) rfl (Lr_32_6 hL) (by decide) (Or.inl kf_X1_19) (am_tab tk_X1_copyFrom 37 rfl) rfl ?_
  refine am_alen (q := 73) (a := 34) (k := 11) (n := 91) (Ls_34 hL) (by decide) (by decide) (am_tab tk_X1_copyFrom 38 rfl) rfl ?_
  refine am_copy (q := 76) (a0 := 39) (a1 := 34) (n0 := 91) (n1 := 91) (Ls_39 hL) (Ls_34 hL) (by omega) (by omega) (by omega) (by omega) (by omega) (by omega) km_X1_49 kna_copy kst_copy kn_J10 (Nat.le_of_ble_eq_true rfl) (Nat.le_of_ble_eq_true rfl) (am_tab tk_X1_copyFrom 39 rfl) rfl ?_
  refine am_aload_n (q := 77) rfl (am_tab tk_X1_copyFrom 40 rfl) rfl ?_
  refine am_getR (q := 80) (a := 37) (k := 1) (n := 11) (j := 7) (r := some (40)) (Ls_37 hL) (by decide) rfl (Lr_37_7 hL) (by decide) (Or.inl kf_X1_22) (am_tab tk_X1_copyFrom 41 rfl) rfl ?_
  refine am_iconst (q := 81) (n := 0) (by decide) (am_tab tk_X1_copyFrom 42 rfl) rfl ?_
  refine am_aload_n (q := 82) rfl (am_tab tk_X1_copyFrom 43 rfl) rfl ?_
  refine am_getR (q := 85) (a := 32) (k := 1) (n := 11) (j := 7) (r := some (35)) (Ls_32 hL) (by decide) rfl (Lr_32_7 hL) (by decide) (Or.inl kf_X1_22) (am_tab tk_X1_copyFrom 44 rfl) rfl ?_
  refine am_iconst (q := 86) (n := 0) (by decide) (am_tab tk_X1_copyFrom 45 rfl) rfl ?_
  refine am_aload_n (q := 87) rfl (am_tab tk_X1_copyFrom 46 rfl) rfl ?_
  refine am_getR (q := 90) (a := 32) (k := 1) (n := 11) (j := 7) (r := some (35)) (Ls_32 hL) (by decide) rfl (Lr_32_7 hL) (by decide) (Or.inl kf_X1_22) (am_tab tk_X1_copyFrom 47 rfl) rfl ?_
  refine am_alen (q := 91) (a := 35) (k := 11) (n := 91) (Ls_35 hL) (by decide) (by decide) (am_tab tk_X1_copyFrom 48 rfl) rfl ?_
  refine am_copy (q := 94) (a0 := 40) (a1 := 35) (n0 := 91) (n1 := 91) (Ls_40 hL) (Ls_35 hL) (by omega) (by omega) (by omega) (by omega) (by omega) (by omega) km_X1_49 kna_copy kst_copy kn_J10 (Nat.le_of_ble_eq_true rfl) (Nat.le_of_ble_eq_true rfl) (am_tab tk_X1_copyFrom 49 rfl) rfl ?_
  refine am_aload_n (q := 95) rfl (am_tab tk_X1_copyFrom 50 rfl) rfl ?_
  refine am_getR (q := 98) (a := 37) (k := 1) (n := 11) (j := 8) (r := some (41)) (Ls_37 hL) (by decide) rfl (Lr_37_8 hL) (by decide) (Or.inl kf_X1_25) (am_tab tk_X1_copyFrom 51 rfl) rfl ?_
  refine am_iconst (q := 99) (n := 0) (by decide) (am_tab tk_X1_copyFrom 52 rfl) rfl ?_
  refine am_aload_n (q := 100) rfl (am_tab tk_X1_copyFrom 53 rfl) rfl ?_
  refine am_getR (q := 103) (a := 32) (k := 1) (n := 11) (j := 8) (r := some (36)) (Ls_32 hL) (by decide) rfl (Lr_32_8 hL) (by decide) (Or.inl kf_X1_25) (am_tab tk_X1_copyFrom 54 rfl) rfl ?_
  refine am_iconst (q := 104) (n := 0) (by decide) (am_tab tk_X1_copyFrom 55 rfl) rfl ?_
  refine am_aload_n (q := 105) rfl (am_tab tk_X1_copyFrom 56 rfl) rfl ?_
  refine am_getR (q := 108) (a := 32) (k := 1) (n := 11) (j := 8) (r := some (36)) (Ls_32 hL) (by decide) rfl (Lr_32_8 hL) (by decide) (Or.inl kf_X1_25) (am_tab tk_X1_copyFrom 57 rfl) rfl ?_
  refine am_alen (q := 109) (a := 36) (k := 11) (n := 60) (Ls_36 hL) (by decide) (by decide) (am_tab tk_X1_copyFrom 58 rfl) rfl ?_
  refine am_copy (q := 112) (a0 := 41) (a1 := 36) (n0 := 60) (n1 := 60) (Ls_41 hL) (Ls_36 hL) (by omega) (by omega) (by omega) (by omega) (by omega) (by omega) km_X1_49 kna_copy kst_copy kn_J10 (Nat.le_of_ble_eq_true rfl) (Nat.le_of_ble_eq_true rfl) (am_tab tk_X1_copyFrom 59 rfl) rfl ?_
  refine am_aload_n (q := 113) rfl (am_tab tk_X1_copyFrom 60 rfl) rfl ?_
  refine am_aload_n (q := 114) rfl (am_tab tk_X1_copyFrom 61 rfl) rfl ?_
  refine am_getI (q := 117) (a := 37) (k := 1) (n := 11) (j := 9) (x := (σ.2.1 37 9)) (Ls_37 hL) (by decide) rfl rfl (by decide) (Or.inl kf_X1_55) (am_tab tk_X1_copyFrom 62 rfl) rfl ?_
  refine am_putI (q := 120) (k := 1) (n := 11) (j := 9) (Ls_32 hL) (by decide) rfl (by decide) (Or.inl ⟨kf_X1_55, rfl⟩) (am_tab tk_X1_copyFrom 63 rfl) rfl ?_
  refine am_aload_n (q := 121) rfl (am_tab tk_X1_copyFrom 64 rfl) rfl ?_
  refine am_aload_n (q := 122) rfl (am_tab tk_X1_copyFrom 65 rfl) rfl ?_
  refine am_getI (q := 125) (a := 37) (k := 1) (n := 11) (j := 10) (x := (σ.2.1 37 10)) (Ls_37 hL) (by decide) rfl rfl (by decide) (Or.inl kf_X1_58) (am_tab tk_X1_copyFrom 66 rfl) rfl ?_
  refine am_putI (q := 128) (k := 1) (n := 11) (j := 10) (Ls_32 hL) (by decide) rfl (by decide) (Or.inl ⟨kf_X1_58, rfl⟩) (am_tab tk_X1_copyFrom 67 rfl) rfl ?_
  refine am_vret rfl (Nat.le_of_ble_eq_true rfl) (Nat.le_of_ble_eq_true rfl) (am_tab tk_X1_copyFrom 68 rfl) ?_
  refine hQ _ _ ?_
  refine ⟨rfl, ⟨fun j hj => ?_, fun j hj => cpS hj, fun j hj => cpS hj, fun j hj => cpS hj, fun j hj => cpS hj⟩, ?_⟩
  · rcases (show j = 0 ∨ j = 1 ∨ j = 2 ∨ j = 3 ∨ j = 4 ∨ j = 9 ∨ j = 10 by omega) with rfl | rfl | rfl | rfl | rfl | rfl | rfl <;> rfl
  · exact (((((((((((frw.refl (W_li 32) σ).setN (by unfold W_li; omega)).setN (by unfold W_li; omega)).setN (by unfold W_li; omega)).setN (by unfold W_li; omega)).setN (by unfold W_li; omega)).setA (by unfold W_li; omega)).setA (by unfold W_li; omega)).setA (by unfold W_li; omega)).setA (by unfold W_li; omega)).setN (by unfold W_li; omega)).setN (by unfold W_li; omega)
