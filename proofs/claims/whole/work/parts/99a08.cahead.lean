/-- what a question changes of the class -/
def W_cq (a j : Nat) : Prop := (37 ≤ a ∧ a ≤ 41) ∨ (44 ≤ a ∧ a ≤ 48) ∨ a = 53
def CQ (σ τ : am_H) : Prop := τ.1 = σ.1 ∧ (∀ a j, ¬ (a = 44 ∧ (j = 8 ∨ j = 9)) → τ.2.2 a j = σ.2.2 a j) ∧ ∀ a j, ¬ W_cq a j → τ.2.1 a j = σ.2.1 a j
theorem CQ.refl (σ : am_H) : CQ σ σ := ⟨rfl, fun _ _ _ => rfl, fun _ _ _ => rfl⟩
theorem CQ.trans {σ τ υ : am_H} (h1 : CQ σ τ) (h2 : CQ τ υ) : CQ σ υ := ⟨h2.1.trans h1.1, fun a j h => (h2.2.1 a j h).trans (h1.2.1 a j h), fun a j h => (h2.2.2 a j h).trans (h1.2.2 a j h)⟩
theorem frw.cq {W : Nat → Nat → Prop} {σ τ : am_H} (h : frw W σ τ) (hW : ∀ a j, W a j → W_cq a j) : CQ σ τ := ⟨h.1, fun a j _ => by rw [h.2.1], fun a j hh => h.2.2 a j (fun hw => hh (hW a j hw))⟩
theorem CQ.base {t l : Nat} {σ τ : am_H} (h : frw W_da (am_setR (am_setR σ 44 8 (some t)) 44 9 (some l)) τ) : CQ σ τ := by
  refine ⟨h.1, fun a j hh => ?_, fun a j hh => h.2.2 a j (fun hw => hh (by unfold W_da at hw; unfold W_cq; omega))⟩
  rw [h.2.1]
  show (if a = 44 ∧ j = 9 then some l else if a = 44 ∧ j = 8 then some t else σ.2.2 a j) = _
  rw [if_neg (by omega), if_neg (by omega)]
theorem CQ.L {σ τ : am_H} (h : CQ σ τ) (hL : lay σ) : lay τ := by
  refine ⟨fun k hk => by rw [h.1]; exact hL.1 k hk, fun i q hi => ?_⟩
  have hq : ∀ q ∈ RT, ¬ (q.1 = 44 ∧ (q.2.1 = 8 ∨ q.2.1 = 9))   := by decide +kernel
  rw [h.2.1 _ _ (hq q (List.mem_of_getElem? hi))]
  exact hL.2 i q hi
theorem RLr.cq {r : Nat} {σ τ : am_H} {cs : List Int} (h : RLr r σ cs) (hQ : CQ σ τ) (hr : r ≤ 36) : RLr r τ cs := by
  obtain ⟨h1, c, m, h2, h3, h4, h5, h6, h7⟩ := h
  refine ⟨by rw [hQ.1]; exact h1, c, m, by rw [hQ.2.1 r 0 (by omega)]; exact h2, by rw [hQ.1]; exact h3, h4, h5, by rw [hQ.2.2 r 1 (by unfold W_cq; omega)]; exact h6, fun i hi => ?_⟩
  rw [hQ.2.2 c i (by unfold W_cq; omega)]
  exact h7 i hi
theorem TWr.cq {t : Nat} {σ τ H : am_H} (h : TWr t σ H) (hQ : CQ σ τ) (ht : t ≤ 15) : TWr t τ H := by
  have e : ∀ i j, i ≤ 11 → τ.2.1 (t + i) j = σ.2.1 (t + i) j := fun i j hi => hQ.2.2 (t + i) j (by unfold W_cq; omega)
  have e0 : ∀ j, τ.2.1 t j = σ.2.1 t j := fun j => e 0 j (by omega)
  obtain ⟨h1, h2, h3, h4, h5, h6, h7, h8, h9⟩ := h
  exact ⟨by rw [e0, e0, e0, e0]; exact h1, fun p hp => by rw [e 1 p (by omega)]; exact h2 p hp, fun p hp => by rw [e 2 p (by omega)]; exact h3 p hp, fun p hp => by rw [e 3 p (by omega)]; exact h4 p hp, fun p hp => by rw [e 4 p (by omega)]; exact h5 p hp, fun p hp => by rw [e 5 p (by omega)]; exact h6 p hp, fun d h1 h2 h3 => by rw [e 7 d (by omega)]; exact h7 d h1 h2 h3, h8.cq hQ (by omega), h9.cq hQ (by omega)⟩
theorem LF0.cq {σ τ : am_H} {g : Nat → Int} (h : LF0 32 σ g) (hQ : CQ σ τ) : LF0 32 τ g := by
  have e : ∀ i j, i ≤ 3 → τ.2.1 (32 + i) j = σ.2.1 (32 + i) j := fun i j hi => hQ.2.2 (32 + i) j (by unfold W_cq; omega)
  have e0 : ∀ j, τ.2.1 32 j = σ.2.1 32 j := fun j => e 0 j (by omega)
  obtain ⟨h1, h2, h3, h4, h5, h6⟩ := h
  exact ⟨by rw [e0, e0, e0, e0]; exact h1, by rw [e0]; exact h2, fun p hp => by rw [e0]; exact h3 p hp, fun p hp => by rw [e 1 p (by omega)]; exact h4 p hp, fun d hd => by rw [e 2 d (by omega)]; exact h5 d hd, fun d hd => by rw [e 3 d (by omega)]; exact h6 d hd⟩
theorem TWr.it {t : Nat} {σ τ : am_H} (h : TWr t σ τ) (n : Nat) : TWr t σ (itS n τ) := h.H (fun a j _ h2 => itS_9 a j (by omega) n)
/-- the class and the model stand alike -/
def CI (t : Nat) (σ : am_H) : Prop := GD σ ∧ (σ.2.2 0 2 = some t) ∧ TWr t σ σ ∧ LF0 32 σ (fun k => σ.2.1 96 k)
theorem CI.G {t : Nat} {σ : am_H} (h : CI t σ) : GD σ := h.1
theorem CI.t {t : Nat} {σ : am_H} (h : CI t σ) : σ.2.2 0 2 = some t := h.2.1
theorem CI.W {t : Nat} {σ : am_H} (h : CI t σ) : TWr t σ σ := h.2.2.1
theorem CI.F {t : Nat} {σ : am_H} (h : CI t σ) : LF0 32 σ (fun k => σ.2.1 96 k) := h.2.2.2
/-- what the class's dawn holds behind the day that followed m days -/
def FS (t : Nat) (σ : am_H) (m : Nat) (S : am_H) : Prop := S.2.1 44 0 = bgN (itS m σ) 0 ∧ S.2.1 44 1 = bgN (itS m σ) 1 ∧ S.2.1 44 4 = sfD (itS m σ) ∧ S.2.1 44 5 = thD (itS m σ) ∧ S.2.1 44 6 = fsD (itS m σ) ∧ S.2.2 44 8 = some t
theorem DAW.FS {t l : Nat} {aw : Int} {σ S T : am_H} {m : Nat} (h : DAW t l aw (itS m σ) S) (hF : frw (W_se l) S T) (hl : l ≤ 37) : FS t σ m T := by
  have e : ∀ j, ¬ j = 7 → T.2.1 44 j = S.2.1 44 j := fun j hj => hF.2.2 44 j (by unfold W_se; omega)
  exact ⟨by rw [e 0 (by omega)]; exact h.2.2.1.1, by rw [e 1 (by omega)]; exact h.2.2.1.2.1, by rw [e 4 (by omega)]; exact h.2.2.2.1, by rw [e 5 (by omega)]; exact h.2.2.2.2.1, by rw [e 6 (by omega)]; exact h.2.2.2.2.2.1, by rw [hF.2.1]; exact h.1.1.1⟩
theorem it_0 {σ : am_H} (hG : GD σ) {m : Nat} (hc : cc (itS m σ)) (h : (m : Int) ≤ dlM σ) : (itS (m + 1) σ).2.1 96 0 = bgN (itS m σ) 0 ∧ (itS (m + 1) σ).2.1 96 1 = bgN (itS m σ) 1 := by
  have hb := bg1_rng (itS_GD hG m h).1 hc
  have e : ∀ k, k < 202 → (itS (m + 1) σ).2.1 96 k = noD (itS m σ) k := fun k hk => nwD_lt hk
  exact ⟨by rw [e 0 (by omega), noD_far (by omega) (by omega) (by omega)], by rw [e 1 (by omega), noD_far (by omega) (by omega) (by omega)]⟩
theorem c_isPerson_3 (σ : am_H) (hC : CI 3 σ) (p : Int)  : am_met M_X9_isPerson [am_r 0, am_i p] σ (fun r σ' => r = some (am_i (if 0 ≤ p ∧ p < σ.2.1 85 5 then 1 else 0)) ∧ σ' = σ) := by
  refine am_qq (fun Q hQ => ?_)
  refine am_enter (show plainFor yX9_isPerson = true by decide +kernel) rfl (Nat.le_of_ble_eq_true rfl) (fun _ _ _ => trivial) ?_
  have hL := hC.G.L
  refine am_iload_n (q := 1) rfl (am_tab tk_X9_isPerson 0 rfl) rfl ?_
  refine am_if_lt (q := 4) (t := 19) (am_tab tk_X9_isPerson 1 rfl) (by decide) rfl (fun h1 => ?_) (fun h1 => ?_)
  · refine am_iconst (q := 20) (n := 0) (by decide) (am_tab tk_X9_isPerson 9 rfl) rfl ?_
    refine am_iret (Or.inr ⟨rfl, by first | exact Or.inl rfl | exact Or.inr rfl | omega⟩) (Nat.le_of_ble_eq_true rfl) (Nat.le_of_ble_eq_true rfl) (am_tab tk_X9_isPerson 10 rfl) ?_
    refine hQ _ _ ?_
    refine ⟨congrArg (fun z => some (am_i z)) ?_, rfl⟩
    first | rw [if_pos (by omega)] | rw [if_neg (by omega)]
  · refine am_iload_n (q := 5) rfl (am_tab tk_X9_isPerson 2 rfl) rfl ?_
    refine am_aload_n (q := 6) rfl (am_tab tk_X9_isPerson 3 rfl) rfl ?_
    refine am_getR (q := 9) (a := 0) (k := 9) (n := 17) (j := 2) (r := some (3)) (Ls_0 hL) (by decide) rfl hC.t (by decide) (Or.inl kf_X9_19) (am_tab tk_X9_isPerson 4 rfl) rfl ?_
    refine am_getI (q := 12) (a := 3) (k := 8) (n := 17) (j := 2) (x := (σ.2.1 85 5)) (Ls_3 hL) (by decide) rfl hC.W.people (by decide) (Or.inr kf_X9_126) (am_tab tk_X9_isPerson 5 rfl) rfl ?_
    refine am_icmp_ge (q := 15) (t := 19) (am_tab tk_X9_isPerson 6 rfl) (by decide) rfl (fun h12 => ?_) (fun h12 => ?_)
    · refine am_iconst (q := 20) (n := 0) (by decide) (am_tab tk_X9_isPerson 9 rfl) rfl ?_
      refine am_iret (Or.inr ⟨rfl, by first | exact Or.inl rfl | exact Or.inr rfl | omega⟩) (Nat.le_of_ble_eq_true rfl) (Nat.le_of_ble_eq_true rfl) (am_tab tk_X9_isPerson 10 rfl) ?_
      refine hQ _ _ ?_
      refine ⟨congrArg (fun z => some (am_i z)) ?_, rfl⟩
      first | rw [if_pos (by omega)] | rw [if_neg (by omega)]
    · refine am_iconst (q := 16) (n := 1) (by decide) (am_tab tk_X9_isPerson 7 rfl) rfl ?_
      refine am_goto (t := 20) (am_tab tk_X9_isPerson 8 rfl) (by decide) ?_
      refine am_iret (Or.inr ⟨rfl, by first | exact Or.inl rfl | exact Or.inr rfl | omega⟩) (Nat.le_of_ble_eq_true rfl) (Nat.le_of_ble_eq_true rfl) (am_tab tk_X9_isPerson 10 rfl) ?_
      refine hQ _ _ ?_
      refine ⟨congrArg (fun z => some (am_i z)) ?_, rfl⟩
      first | rw [if_pos (by omega)] | rw [if_neg (by omega)]
theorem c_isDay_3 (σ : am_H) (hC : CI 3 σ) (d : Int)  : am_met M_X9_isDay [am_r 0, am_i d] σ (fun r σ' => r = some (am_i (if 1 ≤ d ∧ d ≤ σ.2.1 85 9 then 1 else 0)) ∧ σ' = σ) := by
  refine am_qq (fun Q hQ => ?_)
  refine am_enter (show plainFor yX9_isDay = true by decide +kernel) rfl (Nat.le_of_ble_eq_true rfl) (fun _ _ _ => trivial) ?_
  have hL := hC.G.L
  refine am_iload_n (q := 1) rfl (am_tab tk_X9_isDay 0 rfl) rfl ?_
  refine am_iconst (q := 2) (n := 1) (by decide) (am_tab tk_X9_isDay 1 rfl) rfl ?_
  refine am_icmp_lt (q := 5) (t := 20) (am_tab tk_X9_isDay 2 rfl) (by decide) rfl (fun h2 => ?_) (fun h2 => ?_)
  · refine am_iconst (q := 21) (n := 0) (by decide) (am_tab tk_X9_isDay 10 rfl) rfl ?_
    refine am_iret (Or.inr ⟨rfl, by first | exact Or.inl rfl | exact Or.inr rfl | omega⟩) (Nat.le_of_ble_eq_true rfl) (Nat.le_of_ble_eq_true rfl) (am_tab tk_X9_isDay 11 rfl) ?_
    refine hQ _ _ ?_
    refine ⟨congrArg (fun z => some (am_i z)) ?_, rfl⟩
    first | rw [if_pos (by omega)] | rw [if_neg (by omega)]
  · refine am_iload_n (q := 6) rfl (am_tab tk_X9_isDay 3 rfl) rfl ?_
    refine am_aload_n (q := 7) rfl (am_tab tk_X9_isDay 4 rfl) rfl ?_
    refine am_getR (q := 10) (a := 0) (k := 9) (n := 17) (j := 2) (r := some (3)) (Ls_0 hL) (by decide) rfl hC.t (by decide) (Or.inl kf_X9_19) (am_tab tk_X9_isDay 5 rfl) rfl ?_
    refine am_getI (q := 13) (a := 3) (k := 8) (n := 17) (j := 0) (x := (σ.2.1 85 9)) (Ls_3 hL) (by decide) rfl hC.W.days (by decide) (Or.inr kf_X9_123) (am_tab tk_X9_isDay 6 rfl) rfl ?_
    refine am_icmp_gt (q := 16) (t := 20) (am_tab tk_X9_isDay 7 rfl) (by decide) rfl (fun h13 => ?_) (fun h13 => ?_)
    · refine am_iconst (q := 21) (n := 0) (by decide) (am_tab tk_X9_isDay 10 rfl) rfl ?_
      refine am_iret (Or.inr ⟨rfl, by first | exact Or.inl rfl | exact Or.inr rfl | omega⟩) (Nat.le_of_ble_eq_true rfl) (Nat.le_of_ble_eq_true rfl) (am_tab tk_X9_isDay 11 rfl) ?_
      refine hQ _ _ ?_
      refine ⟨congrArg (fun z => some (am_i z)) ?_, rfl⟩
      first | rw [if_pos (by omega)] | rw [if_neg (by omega)]
    · refine am_iconst (q := 17) (n := 1) (by decide) (am_tab tk_X9_isDay 8 rfl) rfl ?_
      refine am_goto (t := 21) (am_tab tk_X9_isDay 9 rfl) (by decide) ?_
      refine am_iret (Or.inr ⟨rfl, by first | exact Or.inl rfl | exact Or.inr rfl | omega⟩) (Nat.le_of_ble_eq_true rfl) (Nat.le_of_ble_eq_true rfl) (am_tab tk_X9_isDay 11 rfl) ?_
      refine hQ _ _ ?_
      refine ⟨congrArg (fun z => some (am_i z)) ?_, rfl⟩
      first | rw [if_pos (by omega)] | rw [if_neg (by omega)]
theorem c_isAhead_3 (σ : am_H) (hC : CI 3 σ) (n : Int)  : am_met M_X9_isAhead [am_r 0, am_i n] σ (fun r σ' => r = some (am_i (if (1 ≤ n ∧ n ≤ 120) ∧ n ≤ dlM σ then 1 else 0)) ∧ σ' = σ) := by
  refine am_qq (fun Q hQ => ?_)
  refine am_enter (show plainFor yX9_isAhead = true by decide +kernel) rfl (Nat.le_of_ble_eq_true rfl) (fun _ _ _ => trivial) ?_
  have hL := hC.G.L
  refine am_iload_n (q := 1) rfl (am_tab tk_X9_isAhead 0 rfl) rfl ?_
  refine am_iconst (q := 2) (n := 1) (by decide) (am_tab tk_X9_isAhead 1 rfl) rfl ?_
  refine am_icmp_lt (q := 5) (t := 30) (am_tab tk_X9_isAhead 2 rfl) (by decide) rfl (fun h2 => ?_) (fun h2 => ?_)
  · refine am_iconst (q := 31) (n := 0) (by decide) (am_tab tk_X9_isAhead 15 rfl) rfl ?_
    refine am_iret (Or.inr ⟨rfl, by first | exact Or.inl rfl | exact Or.inr rfl | omega⟩) (Nat.le_of_ble_eq_true rfl) (Nat.le_of_ble_eq_true rfl) (am_tab tk_X9_isAhead 16 rfl) ?_
    refine hQ _ _ ?_
    refine ⟨congrArg (fun z => some (am_i z)) ?_, rfl⟩
    first | rw [if_pos (by omega)] | rw [if_neg (by omega)]
  · refine am_iload_n (q := 6) rfl (am_tab tk_X9_isAhead 3 rfl) rfl ?_
    refine am_bipush (q := 8) (n := 120) (by decide) rfl (am_tab tk_X9_isAhead 4 rfl) rfl ?_
    refine am_icmp_gt (q := 11) (t := 30) (am_tab tk_X9_isAhead 5 rfl) (by decide) rfl (fun h8 => ?_) (fun h8 => ?_)
    · refine am_iconst (q := 31) (n := 0) (by decide) (am_tab tk_X9_isAhead 15 rfl) rfl ?_
      refine am_iret (Or.inr ⟨rfl, by first | exact Or.inl rfl | exact Or.inr rfl | omega⟩) (Nat.le_of_ble_eq_true rfl) (Nat.le_of_ble_eq_true rfl) (am_tab tk_X9_isAhead 16 rfl) ?_
      refine hQ _ _ ?_
      refine ⟨congrArg (fun z => some (am_i z)) ?_, rfl⟩
      first | rw [if_pos (by omega)] | rw [if_neg (by omega)]
    · refine am_iload_n (q := 12) rfl (am_tab tk_X9_isAhead 6 rfl) rfl ?_
      refine am_aload_n (q := 13) rfl (am_tab tk_X9_isAhead 7 rfl) rfl ?_
      refine am_getR (q := 16) (a := 0) (k := 9) (n := 17) (j := 4) (r := some (32)) (Ls_0 hL) (by decide) rfl (Lr_0_4 hL) (by decide) (Or.inl kf_X9_38) (am_tab tk_X9_isAhead 8 rfl) rfl ?_
      refine am_aload_n (q := 17) rfl (am_tab tk_X9_isAhead 9 rfl) rfl ?_
      refine am_getR (q := 20) (a := 0) (k := 9) (n := 17) (j := 2) (r := some (3)) (Ls_0 hL) (by decide) rfl hC.t (by decide) (Or.inl kf_X9_19) (am_tab tk_X9_isAhead 10 rfl) rfl ?_
      refine am_callV0 (q := 23) (me2 := M_X1_daysLeft) (b := 32) (kb := 1) (nb := 11) (As := [am_r 3]) (rest := [am_i n]) (out := [am_i (dlM σ), am_i n]) (c_daysLeft_3_32 σ σ hL hC.G hC.W hC.F) ⟨rfl, rfl⟩ (Ls_32 hL) (by decide) ⟨Or.inr km_X9_234, kc_X1_daysLeft, kn_X1, kd_X1_daysLeft, ⟨(Nat.le_of_ble_eq_true rfl), (Nat.le_of_ble_eq_true rfl)⟩, ⟨(Nat.le_of_ble_eq_true rfl), (Nat.le_of_ble_eq_true rfl)⟩, (Nat.le_of_ble_eq_true rfl)⟩ ki_X1_daysLeft ks_X1_daysLeft rfl rfl (am_tab tk_X9_isAhead 11 rfl) rfl ?_
      refine am_icmp_gt (q := 26) (t := 30) (am_tab tk_X9_isAhead 12 rfl) (by decide) rfl (fun h23 => ?_) (fun h23 => ?_)
      · refine am_iconst (q := 31) (n := 0) (by decide) (am_tab tk_X9_isAhead 15 rfl) rfl ?_
        refine am_iret (Or.inr ⟨rfl, by first | exact Or.inl rfl | exact Or.inr rfl | omega⟩) (Nat.le_of_ble_eq_true rfl) (Nat.le_of_ble_eq_true rfl) (am_tab tk_X9_isAhead 16 rfl) ?_
        refine hQ _ _ ?_
        refine ⟨congrArg (fun z => some (am_i z)) ?_, rfl⟩
        first | rw [if_pos (by omega)] | rw [if_neg (by omega)]
      · refine am_iconst (q := 27) (n := 1) (by decide) (am_tab tk_X9_isAhead 13 rfl) rfl ?_
        refine am_goto (t := 31) (am_tab tk_X9_isAhead 14 rfl) (by decide) ?_
        refine am_iret (Or.inr ⟨rfl, by first | exact Or.inl rfl | exact Or.inr rfl | omega⟩) (Nat.le_of_ble_eq_true rfl) (Nat.le_of_ble_eq_true rfl) (am_tab tk_X9_isAhead 16 rfl) ?_
        refine hQ _ _ ?_
        refine ⟨congrArg (fun z => some (am_i z)) ?_, rfl⟩
        first | rw [if_pos (by omega)] | rw [if_neg (by omega)]
theorem c_living_3 (σ : am_H) (hC : CI 3 σ)   : am_met M_X9_living [am_r 0] σ (fun r σ' => r = some (am_i (ao_and (mkS (fun _ => true) (pN σ)) (ao_xor (σ.2.1 32 4) (-1)))) ∧ σ' = σ) := by
  refine am_qq (fun Q hQ => ?_)
  refine am_enter (show plainFor yX9_living = true by decide +kernel) rfl (Nat.le_of_ble_eq_true rfl) (fun _ _ _ => trivial) ?_
  have hL := hC.G.L
  refine am_aload_n (q := 1) rfl (am_tab tk_X9_living 0 rfl) rfl ?_
  refine am_getR (q := 4) (a := 0) (k := 9) (n := 17) (j := 2) (r := some (3)) (Ls_0 hL) (by decide) rfl hC.t (by decide) (Or.inl kf_X9_19) (am_tab tk_X9_living 1 rfl) rfl ?_
  refine am_callV0 (q := 7) (me2 := M_X8_everybody) (b := 3) (kb := 8) (nb := 17) (As := []) (rest := []) (out := [am_i (mkS (fun _ => true) (pN σ))]) (c_everybody_3 σ σ hL hC.G hC.W) ⟨rfl, rfl⟩ (Ls_3 hL) (by decide) ⟨Or.inr km_X9_339, kc_X8_everybody, kn_X8, kd_X8_everybody, ⟨(Nat.le_of_ble_eq_true rfl), (Nat.le_of_ble_eq_true rfl)⟩, ⟨(Nat.le_of_ble_eq_true rfl), (Nat.le_of_ble_eq_true rfl)⟩, (Nat.le_of_ble_eq_true rfl)⟩ ki_X8_everybody ks_X8_everybody rfl rfl (am_tab tk_X9_living 2 rfl) rfl ?_
  refine am_aload_n (q := 8) rfl (am_tab tk_X9_living 3 rfl) rfl ?_
  refine am_getR (q := 11) (a := 0) (k := 9) (n := 17) (j := 4) (r := some (32)) (Ls_0 hL) (by decide) rfl (Lr_0_4 hL) (by decide) (Or.inl kf_X9_38) (am_tab tk_X9_living 4 rfl) rfl ?_
  refine am_getI (q := 14) (a := 32) (k := 1) (n := 11) (j := 4) (x := (σ.2.1 32 4)) (Ls_32 hL) (by decide) rfl rfl (by decide) (Or.inr kf_X9_182) (am_tab tk_X9_living 5 rfl) rfl ?_
  refine am_iconst (q := 15) (n := (-1)) (by decide) (am_tab tk_X9_living 6 rfl) rfl ?_
  refine am_ixor (q := 16) (am_tab tk_X9_living 7 rfl) rfl ?_
  refine am_iand (q := 17) (am_tab tk_X9_living 8 rfl) rfl ?_
  refine am_iret (Or.inl rfl) (Nat.le_of_ble_eq_true rfl) (Nat.le_of_ble_eq_true rfl) (am_tab tk_X9_living 9 rfl) ?_
  refine hQ _ _ ?_
  exact ⟨rfl, rfl⟩
theorem c_foresee_3 (σ : am_H) (hC : CI 3 σ) (n : Int)  : am_met M_X9_foresee [am_r 0, am_i n] σ (fun r σ' => if (1 ≤ n ∧ n ≤ 120) ∧ n ≤ dlM σ then r = some (am_i 1) ∧ CQ σ σ' ∧ LF0 37 σ' (fun j9 => (itS n.toNat σ).2.1 96 j9) ∧ FS 3 σ (n.toNat - 1) σ' else r = some (am_i 0) ∧ σ' = σ) := by
  refine am_qq (fun Q hQ => ?_)
  refine am_enter (show plainFor yX9_foresee = true by decide +kernel) rfl (Nat.le_of_ble_eq_true rfl) (fun _ _ _ => trivial) ?_
  have hL := hC.G.L
  refine am_aload_n (q := 1) rfl (am_tab tk_X9_foresee 0 rfl) rfl ?_
  refine am_iload_n (q := 2) rfl (am_tab tk_X9_foresee 1 rfl) rfl ?_
  refine am_callV0 (q := 5) (me2 := M_X9_isAhead) (b := 0) (kb := 9) (nb := 17) (As := [am_i n]) (rest := []) (out := [am_i (if (1 ≤ n ∧ n ≤ 120) ∧ n ≤ dlM σ then 1 else 0)]) (c_isAhead_3 σ hC n) ⟨rfl, rfl⟩ (Ls_0 hL) (by decide) ⟨Or.inl km_X9_257, kc_X9_isAhead, kn_X9, kd_X9_isAhead, ⟨(Nat.le_of_ble_eq_true rfl), (Nat.le_of_ble_eq_true rfl)⟩, ⟨(Nat.le_of_ble_eq_true rfl), (Nat.le_of_ble_eq_true rfl)⟩, (Nat.le_of_ble_eq_true rfl)⟩ ki_X9_isAhead ks_X9_isAhead rfl rfl (am_tab tk_X9_foresee 2 rfl) rfl ?_
  by_cases ah : (1 ≤ n ∧ n ≤ 120) ∧ n ≤ dlM σ
  · refine am_if_ne (q := 8) (t := 10) (am_tab tk_X9_foresee 3 rfl) (by decide) rfl (fun h5 => ?_) (fun h5 => ?_)
    · replace h5 := b01n h5
      refine am_aload_n (q := 11) rfl (am_tab tk_X9_foresee 6 rfl) rfl ?_
      refine am_getR (q := 14) (a := 0) (k := 9) (n := 17) (j := 5) (r := some (37)) (Ls_0 hL) (by decide) rfl (Lr_0_5 hL) (by decide) (Or.inl kf_X9_42) (am_tab tk_X9_foresee 7 rfl) rfl ?_
      refine am_aload_n (q := 15) rfl (am_tab tk_X9_foresee 8 rfl) rfl ?_
      refine am_getR (q := 18) (a := 0) (k := 9) (n := 17) (j := 4) (r := some (32)) (Ls_0 hL) (by decide) rfl (Lr_0_4 hL) (by decide) (Or.inl kf_X9_38) (am_tab tk_X9_foresee 9 rfl) rfl ?_
      refine am_callVr (q := 21) (me2 := M_X1_copyFrom) (b := 37) (kb := 1) (nb := 11) (As := [am_r 32]) (rest := []) (c_copy_37_32 σ hC.G.L) ⟨rfl, rfl⟩ (Ls_37 hL) (by decide) ⟨Or.inr km_X9_243, kc_X1_copyFrom, kn_X1, kd_X1_copyFrom, ⟨(Nat.le_of_ble_eq_true rfl), (Nat.le_of_ble_eq_true rfl)⟩, ⟨(Nat.le_of_ble_eq_true rfl), (Nat.le_of_ble_eq_true rfl)⟩, (Nat.le_of_ble_eq_true rfl)⟩ ki_X1_copyFrom ks_X1_copyFrom rfl (am_tab tk_X9_foresee 10 rfl) rfl ?_
      rintro r S0 ⟨rfl, hCP, hFc⟩
      have hq0 : CQ σ S0 := hFc.cq (by unfold W_li W_cq; omega)
      have hA0 : LF0 37 S0 (fun j9 => (itS 0 σ).2.1 96 j9) := hCP.lf hC.F
      refine am_st (st2 := []) rfl ?_
      refine am_iconst (q := 22) (n := 0) (by decide) (am_tab tk_X9_foresee 11 rfl) rfl ?_
      refine am_istore_n (q := 23) (by decide) (ls2 := [(2, am_i 0), (0, am_r 0), (1, am_i n)]) rfl (am_tab tk_X9_foresee 12 rfl) rfl ?_
      have L23 : ∀ (n23 : Nat) (k : Nat) (S : am_H), n.toNat - k < n23 → (k : Int) ≤ n → CQ σ S → LF0 37 S (fun j => (itS k σ).2.1 96 j) → (∀ m, k = m + 1 → FS 3 σ m S) → am_wp M_X9_foresee Q 0 0 23 [(2, am_i ((k : Int))), (0, am_r 0), (1, am_i n)] [] S := by
        intro n23
        induction n23 with
        | zero => intro k S hn23; exact absurd hn23 (Nat.not_lt_zero _)
        | succ n23 ih23 =>
          intro k S hn23 hk hq hA hfs
          refine am_iload_n (q := 24) rfl (am_tab tk_X9_foresee 13 rfl) rfl ?_
          refine am_iload_n (q := 25) rfl (am_tab tk_X9_foresee 14 rfl) rfl ?_
          refine am_icmp_ge (q := 28) (t := 57) (am_tab tk_X9_foresee 15 rfl) (by decide) rfl (fun h25 => ?_) (fun h25 => ?_)
          · refine am_iconst (q := 58) (n := 1) (by decide) (am_tab tk_X9_foresee 29 rfl) rfl ?_
            refine am_iret (Or.inr ⟨rfl, by first | exact Or.inl rfl | exact Or.inr rfl | omega⟩) (Nat.le_of_ble_eq_true rfl) (Nat.le_of_ble_eq_true rfl) (am_tab tk_X9_foresee 30 rfl) ?_
            refine hQ _ _ ?_
            rw [if_pos ah]
            have ek : k = n.toNat := by omega
            refine ⟨rfl, hq, by rw [← ek]; exact hA, ?_⟩
            exact hfs (n.toNat - 1) (by omega)
          · have hGk := itS_GD hC.G k (by omega)
            have hck := itS_cc hC.G (n := k) (by omega)
            refine am_aload_n (q := 29) rfl (am_tab tk_X9_foresee 16 rfl) rfl ?_
            refine am_getR (q := 32) (a := 0) (k := 9) (n := 17) (j := 7) (r := some (44)) (Ls_0 (hq.L hC.G.L)) (by decide) rfl (Lr_0_7 (hq.L hC.G.L)) (by decide) (Or.inl kf_X9_57) (am_tab tk_X9_foresee 17 rfl) rfl ?_
            refine am_aload_n (q := 33) rfl (am_tab tk_X9_foresee 18 rfl) rfl ?_
            refine am_getR (q := 36) (a := 0) (k := 9) (n := 17) (j := 2) (r := some (3)) (Ls_0 (hq.L hC.G.L)) (by decide) rfl ((hq.2.1 0 2 (by omega)).trans hC.t) (by decide) (Or.inl kf_X9_19) (am_tab tk_X9_foresee 19 rfl) rfl ?_
            refine am_aload_n (q := 37) rfl (am_tab tk_X9_foresee 20 rfl) rfl ?_
            refine am_getR (q := 40) (a := 0) (k := 9) (n := 17) (j := 5) (r := some (37)) (Ls_0 (hq.L hC.G.L)) (by decide) rfl (Lr_0_5 (hq.L hC.G.L)) (by decide) (Or.inl kf_X9_42) (am_tab tk_X9_foresee 21 rfl) rfl ?_
            refine am_callVr (q := 43) (me2 := M_X0_lookAt) (b := 44) (kb := 0) (nb := 14) (As := [am_r 3, am_r 37]) (rest := []) (c_lookAt_3_37 S (itS k σ) (hq.L hC.G.L) hGk.1 ((hC.W.cq hq (by decide)).it k) hA) ⟨rfl, rfl⟩ (Ls_44 (hq.L hC.G.L)) (by decide) ⟨Or.inr km_X9_247, kc_X0_lookAt, kn_X0, kd_X0_lookAt, ⟨(Nat.le_of_ble_eq_true rfl), (Nat.le_of_ble_eq_true rfl)⟩, ⟨(Nat.le_of_ble_eq_true rfl), (Nat.le_of_ble_eq_true rfl)⟩, (Nat.le_of_ble_eq_true rfl)⟩ ki_X0_lookAt ks_X0_lookAt rfl (am_tab tk_X9_foresee 22 rfl) rfl ?_
            rintro r T1 hlk
            rw [if_pos (by rw [hGk.2]; omega)] at hlk
            obtain ⟨rfl, hDA, hF1⟩ := hlk
            have hq1 : CQ σ T1 := hq.trans (CQ.base hF1)
            have hA1 : LF0 37 T1 (fun j9 => (itS k σ).2.1 96 j9) := LF0.fr (σ := am_setR (am_setR S 44 8 (some 3)) 44 9 (some 37)) hA hF1 (by unfold W_da; omega)
            refine am_st (st2 := [am_i 1]) rfl ?_
            refine am_pop (q := 44) rfl (am_tab tk_X9_foresee 23 rfl) rfl ?_
            refine am_aload_n (q := 45) rfl (am_tab tk_X9_foresee 24 rfl) rfl ?_
            refine am_getR (q := 48) (a := 0) (k := 9) (n := 17) (j := 7) (r := some (44)) (Ls_0 (hq1.L hC.G.L)) (by decide) rfl (Lr_0_7 (hq1.L hC.G.L)) (by decide) (Or.inl kf_X9_57) (am_tab tk_X9_foresee 25 rfl) rfl ?_
            refine am_callVr (q := 51) (me2 := M_X0_settle) (b := 44) (kb := 0) (nb := 14) (As := []) (rest := []) (c_settle_3_37 T1 (itS k σ) (hq1.L hC.G.L) hGk.1 hck hA1 _ hDA) ⟨rfl, rfl⟩ (Ls_44 (hq1.L hC.G.L)) (by decide) ⟨Or.inr km_X9_251, kc_X0_settle, kn_X0, kd_X0_settle, ⟨(Nat.le_of_ble_eq_true rfl), (Nat.le_of_ble_eq_true rfl)⟩, ⟨(Nat.le_of_ble_eq_true rfl), (Nat.le_of_ble_eq_true rfl)⟩, (Nat.le_of_ble_eq_true rfl)⟩ ki_X0_settle ks_X0_settle rfl (am_tab tk_X9_foresee 26 rfl) rfl ?_
            rintro r T2 ⟨rfl, hA2, hF2⟩
            have hq2 : CQ σ T2 := hq1.trans (hF2.cq (by unfold W_se W_cq; omega))
            have hFS : FS 3 σ k T2 := hDA.FS hF2 (by decide)
            refine am_st (st2 := []) rfl ?_
            refine am_iinc (q := 54) rfl (by omega) (by decide) (ls2 := [(2, am_i (((k : Int) + 1))), (0, am_r 0), (1, am_i n)]) rfl (am_tab tk_X9_foresee 27 rfl) rfl ?_
            refine am_goto (t := 23) (am_tab tk_X9_foresee 28 rfl) (by decide) ?_
            exact am_less (by intro q hq; simp only [List.mem_cons, List.not_mem_nil, or_false] at hq; rcases hq with rfl | rfl | rfl <;> simp) (ih23 (k + 1) T2 (by omega) (by omega) hq2 hA2 (fun m hm => (show k = m by omega) ▸ hFS))
      refine am_less (by intro q hq; simp only [List.mem_cons, List.not_mem_nil, or_false] at hq; rcases hq with rfl | rfl | rfl <;> simp) (L23 (_ + 1) 0 S0 (by exact Nat.lt_succ_self _) (by omega) hq0 hA0 (by omega))
    · exact absurd ah (b01z h5)
  · refine am_if_ne (q := 8) (t := 10) (am_tab tk_X9_foresee 3 rfl) (by decide) rfl (fun h5 => ?_) (fun h5 => ?_)
    · exact absurd (b01n h5) ah
    · replace h5 := b01z h5
      refine am_iconst (q := 9) (n := 0) (by decide) (am_tab tk_X9_foresee 4 rfl) rfl ?_
      refine am_iret (Or.inr ⟨rfl, by first | exact Or.inl rfl | exact Or.inr rfl | omega⟩) (Nat.le_of_ble_eq_true rfl) (Nat.le_of_ble_eq_true rfl) (am_tab tk_X9_foresee 5 rfl) ?_
      refine hQ _ _ ?_
      rw [if_neg ah]
      exact ⟨rfl, rfl⟩
theorem c_later_3 (σ : am_H) (hC : CI 3 σ) (n : Int) (w : Int)  : am_met M_X9_later [am_r 0, am_i n, am_i w] σ (fun r σ' => r = some (am_i (latM σ n w)) ∧ CQ σ σ') := by
  refine am_qq (fun Q hQ => ?_)
  refine am_enter (show plainFor yX9_later = true by decide +kernel) rfl (Nat.le_of_ble_eq_true rfl) (fun _ _ _ => trivial) ?_
  have hL := hC.G.L
  by_cases ah : (1 ≤ n ∧ n ≤ 120) ∧ n ≤ dlM σ
  · refine am_aload_n (q := 1) rfl (am_tab tk_X9_later 0 rfl) rfl ?_
    refine am_iload_n (q := 2) rfl (am_tab tk_X9_later 1 rfl) rfl ?_
    refine am_callVr (q := 5) (me2 := M_X9_foresee) (b := 0) (kb := 9) (nb := 17) (As := [am_i n]) (rest := []) (c_foresee_3 σ hC n) ⟨rfl, rfl⟩ (Ls_0 hL) (by decide) ⟨Or.inl km_X9_219, kc_X9_foresee, kn_X9, kd_X9_foresee, ⟨(Nat.le_of_ble_eq_true rfl), (Nat.le_of_ble_eq_true rfl)⟩, ⟨(Nat.le_of_ble_eq_true rfl), (Nat.le_of_ble_eq_true rfl)⟩, (Nat.le_of_ble_eq_true rfl)⟩ ki_X9_foresee ks_X9_foresee rfl (am_tab tk_X9_later 2 rfl) rfl ?_
    rintro r S hfo
    rw [if_pos ah] at hfo
    obtain ⟨rfl, hq, hA, hFS⟩ := hfo
    refine am_st (st2 := [am_i 1]) rfl ?_
    refine am_if_ne (q := 8) (t := 10) (am_tab tk_X9_later 3 rfl) (by decide) rfl (fun h5 => ?_) (fun h5 => ?_)
    · refine am_iload_n (q := 11) rfl (am_tab tk_X9_later 6 rfl) rfl ?_
      rcases (show w = 0 ∨ w = 1 ∨ w = 2 ∨ w = 3 ∨ w = 4 ∨ (w < 0 ∨ 4 < w) by omega) with e11 | e11 | e11 | e11 | e11 | e11
      · refine am_tableIn (t := 44) (off := 33) (by omega) (by omega) (by rw [e11]; rfl) dsw_X9_later_11 (by decide) ?_
        refine am_aload_n (q := 45) rfl (am_tab tk_X9_later 8 rfl) rfl ?_
        refine am_getR (q := 48) (a := 0) (k := 9) (n := 17) (j := 7) (r := some (44)) (Ls_0 (hq.L hC.G.L)) (by decide) rfl (Lr_0_7 (hq.L hC.G.L)) (by decide) (Or.inl kf_X9_57) (am_tab tk_X9_later 9 rfl) rfl ?_
        refine am_getI (q := 51) (a := 44) (k := 0) (n := 14) (j := 4) (x := (sfD (itS (n.toNat - 1) σ))) (Ls_44 (hq.L hC.G.L)) (by decide) rfl hFS.2.2.1 (by decide) (Or.inr kf_X9_222) (am_tab tk_X9_later 10 rfl) rfl ?_
        refine am_iret (Or.inl rfl) (Nat.le_of_ble_eq_true rfl) (Nat.le_of_ble_eq_true rfl) (am_tab tk_X9_later 11 rfl) ?_
        refine hQ _ _ ?_
        refine ⟨congrArg (fun z => some (am_i z)) ?_, hq⟩
        unfold latM
        rw [if_pos (by omega)]
        have hc9 := itS_cc hC.G (n := n.toNat - 1) (by omega)
        have hi0 := it_0 hC.G hc9 (by omega)
        rw [show n.toNat - 1 + 1 = n.toNat by omega] at hi0
        have hf01 := fsD01 (itS (n.toNat - 1) σ)
        subst e11
        first | (rw [if_pos rfl]; done) | (rw [if_neg (by decide), if_pos rfl]; done) | (rw [if_neg (by decide), if_neg (by decide), if_neg (by decide)]; first | exact hi0.1.symm | exact hi0.2.symm) | (rw [if_neg (by decide), if_neg (by decide), if_pos rfl]; omega)
      · refine am_tableIn (t := 52) (off := 41) (by omega) (by omega) (by rw [e11]; rfl) dsw_X9_later_11 (by decide) ?_
        refine am_aload_n (q := 53) rfl (am_tab tk_X9_later 12 rfl) rfl ?_
        refine am_getR (q := 56) (a := 0) (k := 9) (n := 17) (j := 7) (r := some (44)) (Ls_0 (hq.L hC.G.L)) (by decide) rfl (Lr_0_7 (hq.L hC.G.L)) (by decide) (Or.inl kf_X9_57) (am_tab tk_X9_later 13 rfl) rfl ?_
        refine am_getI (q := 59) (a := 44) (k := 0) (n := 14) (j := 5) (x := (thD (itS (n.toNat - 1) σ))) (Ls_44 (hq.L hC.G.L)) (by decide) rfl hFS.2.2.2.1 (by decide) (Or.inr kf_X9_225) (am_tab tk_X9_later 14 rfl) rfl ?_
        refine am_iret (Or.inl rfl) (Nat.le_of_ble_eq_true rfl) (Nat.le_of_ble_eq_true rfl) (am_tab tk_X9_later 15 rfl) ?_
        refine hQ _ _ ?_
        refine ⟨congrArg (fun z => some (am_i z)) ?_, hq⟩
        unfold latM
        rw [if_pos (by omega)]
        have hc9 := itS_cc hC.G (n := n.toNat - 1) (by omega)
        have hi0 := it_0 hC.G hc9 (by omega)
        rw [show n.toNat - 1 + 1 = n.toNat by omega] at hi0
        have hf01 := fsD01 (itS (n.toNat - 1) σ)
        subst e11
        first | (rw [if_pos rfl]; done) | (rw [if_neg (by decide), if_pos rfl]; done) | (rw [if_neg (by decide), if_neg (by decide), if_neg (by decide)]; first | exact hi0.1.symm | exact hi0.2.symm) | (rw [if_neg (by decide), if_neg (by decide), if_pos rfl]; omega)
      · refine am_tableIn (t := 60) (off := 49) (by omega) (by omega) (by rw [e11]; rfl) dsw_X9_later_11 (by decide) ?_
        refine am_aload_n (q := 61) rfl (am_tab tk_X9_later 16 rfl) rfl ?_
        refine am_getR (q := 64) (a := 0) (k := 9) (n := 17) (j := 7) (r := some (44)) (Ls_0 (hq.L hC.G.L)) (by decide) rfl (Lr_0_7 (hq.L hC.G.L)) (by decide) (Or.inl kf_X9_57) (am_tab tk_X9_later 17 rfl) rfl ?_
        refine am_getI (q := 67) (a := 44) (k := 0) (n := 14) (j := 0) (x := (bgN (itS (n.toNat - 1) σ) 0)) (Ls_44 (hq.L hC.G.L)) (by decide) rfl hFS.1 (by decide) (Or.inr kf_X9_228) (am_tab tk_X9_later 18 rfl) rfl ?_
        refine am_iret (Or.inl rfl) (Nat.le_of_ble_eq_true rfl) (Nat.le_of_ble_eq_true rfl) (am_tab tk_X9_later 19 rfl) ?_
        refine hQ _ _ ?_
        refine ⟨congrArg (fun z => some (am_i z)) ?_, hq⟩
        unfold latM
        rw [if_pos (by omega)]
        have hc9 := itS_cc hC.G (n := n.toNat - 1) (by omega)
        have hi0 := it_0 hC.G hc9 (by omega)
        rw [show n.toNat - 1 + 1 = n.toNat by omega] at hi0
        have hf01 := fsD01 (itS (n.toNat - 1) σ)
        subst e11
        first | (rw [if_pos rfl]; done) | (rw [if_neg (by decide), if_pos rfl]; done) | (rw [if_neg (by decide), if_neg (by decide), if_neg (by decide)]; first | exact hi0.1.symm | exact hi0.2.symm) | (rw [if_neg (by decide), if_neg (by decide), if_pos rfl]; omega)
      · refine am_tableIn (t := 68) (off := 57) (by omega) (by omega) (by rw [e11]; rfl) dsw_X9_later_11 (by decide) ?_
        refine am_aload_n (q := 69) rfl (am_tab tk_X9_later 20 rfl) rfl ?_
        refine am_getR (q := 72) (a := 0) (k := 9) (n := 17) (j := 7) (r := some (44)) (Ls_0 (hq.L hC.G.L)) (by decide) rfl (Lr_0_7 (hq.L hC.G.L)) (by decide) (Or.inl kf_X9_57) (am_tab tk_X9_later 21 rfl) rfl ?_
        refine am_getI (q := 75) (a := 44) (k := 0) (n := 14) (j := 1) (x := (bgN (itS (n.toNat - 1) σ) 1)) (Ls_44 (hq.L hC.G.L)) (by decide) rfl hFS.2.1 (by decide) (Or.inr kf_X9_229) (am_tab tk_X9_later 22 rfl) rfl ?_
        refine am_iret (Or.inl rfl) (Nat.le_of_ble_eq_true rfl) (Nat.le_of_ble_eq_true rfl) (am_tab tk_X9_later 23 rfl) ?_
        refine hQ _ _ ?_
        refine ⟨congrArg (fun z => some (am_i z)) ?_, hq⟩
        unfold latM
        rw [if_pos (by omega)]
        have hc9 := itS_cc hC.G (n := n.toNat - 1) (by omega)
        have hi0 := it_0 hC.G hc9 (by omega)
        rw [show n.toNat - 1 + 1 = n.toNat by omega] at hi0
        have hf01 := fsD01 (itS (n.toNat - 1) σ)
        subst e11
        first | (rw [if_pos rfl]; done) | (rw [if_neg (by decide), if_pos rfl]; done) | (rw [if_neg (by decide), if_neg (by decide), if_neg (by decide)]; first | exact hi0.1.symm | exact hi0.2.symm) | (rw [if_neg (by decide), if_neg (by decide), if_pos rfl]; omega)
      · refine am_tableIn (t := 76) (off := 65) (by omega) (by omega) (by rw [e11]; rfl) dsw_X9_later_11 (by decide) ?_
        refine am_aload_n (q := 77) rfl (am_tab tk_X9_later 24 rfl) rfl ?_
        refine am_getR (q := 80) (a := 0) (k := 9) (n := 17) (j := 7) (r := some (44)) (Ls_0 (hq.L hC.G.L)) (by decide) rfl (Lr_0_7 (hq.L hC.G.L)) (by decide) (Or.inl kf_X9_57) (am_tab tk_X9_later 25 rfl) rfl ?_
        refine am_getI (q := 83) (a := 44) (k := 0) (n := 14) (j := 6) (x := (fsD (itS (n.toNat - 1) σ))) (Ls_44 (hq.L hC.G.L)) (by decide) rfl hFS.2.2.2.2.1 (by decide) (Or.inr kf_X9_230) (am_tab tk_X9_later 26 rfl) rfl ?_
        refine am_if_eq (q := 86) (t := 90) (am_tab tk_X9_later 27 rfl) (by decide) rfl (fun h83 => ?_) (fun h83 => ?_)
        · refine am_iconst (q := 91) (n := 0) (by decide) (am_tab tk_X9_later 30 rfl) rfl ?_
          refine am_iret (Or.inl rfl) (Nat.le_of_ble_eq_true rfl) (Nat.le_of_ble_eq_true rfl) (am_tab tk_X9_later 31 rfl) ?_
          refine hQ _ _ ?_
          refine ⟨congrArg (fun z => some (am_i z)) ?_, hq⟩
          unfold latM
          rw [if_pos (by omega)]
          have hc9 := itS_cc hC.G (n := n.toNat - 1) (by omega)
          have hi0 := it_0 hC.G hc9 (by omega)
          rw [show n.toNat - 1 + 1 = n.toNat by omega] at hi0
          have hf01 := fsD01 (itS (n.toNat - 1) σ)
          subst e11
          first | (rw [if_pos rfl]; done) | (rw [if_neg (by decide), if_pos rfl]; done) | (rw [if_neg (by decide), if_neg (by decide), if_neg (by decide)]; first | exact hi0.1.symm | exact hi0.2.symm) | (rw [if_neg (by decide), if_neg (by decide), if_pos rfl]; omega)
        · refine am_iconst (q := 87) (n := 1) (by decide) (am_tab tk_X9_later 28 rfl) rfl ?_
          refine am_goto (t := 91) (am_tab tk_X9_later 29 rfl) (by decide) ?_
          refine am_iret (Or.inl rfl) (Nat.le_of_ble_eq_true rfl) (Nat.le_of_ble_eq_true rfl) (am_tab tk_X9_later 31 rfl) ?_
          refine hQ _ _ ?_
          refine ⟨congrArg (fun z => some (am_i z)) ?_, hq⟩
          unfold latM
          rw [if_pos (by omega)]
          have hc9 := itS_cc hC.G (n := n.toNat - 1) (by omega)
          have hi0 := it_0 hC.G hc9 (by omega)
          rw [show n.toNat - 1 + 1 = n.toNat by omega] at hi0
          have hf01 := fsD01 (itS (n.toNat - 1) σ)
          subst e11
          first | (rw [if_pos rfl]; done) | (rw [if_neg (by decide), if_pos rfl]; done) | (rw [if_neg (by decide), if_neg (by decide), if_neg (by decide)]; first | exact hi0.1.symm | exact hi0.2.symm) | (rw [if_neg (by decide), if_neg (by decide), if_pos rfl]; omega)
      · refine am_tableOut (t := 92) e11 dsw_X9_later_11 (by decide) ?_
        refine am_iconst (q := 93) (n := (-1)) (by decide) (am_tab tk_X9_later 32 rfl) rfl ?_
        refine am_iret (Or.inl rfl) (Nat.le_of_ble_eq_true rfl) (Nat.le_of_ble_eq_true rfl) (am_tab tk_X9_later 33 rfl) ?_
        refine hQ _ _ ?_
        refine ⟨congrArg (fun z => some (am_i z)) ?_, hq⟩
        unfold latM
        rw [if_neg (by omega)]
    · exact absurd h5 (by decide)
  · refine am_aload_n (q := 1) rfl (am_tab tk_X9_later 0 rfl) rfl ?_
    refine am_iload_n (q := 2) rfl (am_tab tk_X9_later 1 rfl) rfl ?_
    refine am_callVr (q := 5) (me2 := M_X9_foresee) (b := 0) (kb := 9) (nb := 17) (As := [am_i n]) (rest := []) (c_foresee_3 σ hC n) ⟨rfl, rfl⟩ (Ls_0 hL) (by decide) ⟨Or.inl km_X9_219, kc_X9_foresee, kn_X9, kd_X9_foresee, ⟨(Nat.le_of_ble_eq_true rfl), (Nat.le_of_ble_eq_true rfl)⟩, ⟨(Nat.le_of_ble_eq_true rfl), (Nat.le_of_ble_eq_true rfl)⟩, (Nat.le_of_ble_eq_true rfl)⟩ ki_X9_foresee ks_X9_foresee rfl (am_tab tk_X9_later 2 rfl) rfl ?_
    rintro r S hfo
    rw [if_neg ah] at hfo
    obtain ⟨rfl, hSS⟩ := hfo
    rw [hSS]
    refine am_st (st2 := [am_i 0]) rfl ?_
    refine am_if_ne (q := 8) (t := 10) (am_tab tk_X9_later 3 rfl) (by decide) rfl (fun h5 => ?_) (fun h5 => ?_)
    · exact absurd h5 (by decide)
    · refine am_iconst (q := 9) (n := (-1)) (by decide) (am_tab tk_X9_later 4 rfl) rfl ?_
      refine am_iret (Or.inl rfl) (Nat.le_of_ble_eq_true rfl) (Nat.le_of_ble_eq_true rfl) (am_tab tk_X9_later 5 rfl) ?_
      refine hQ _ _ ?_
      refine ⟨congrArg (fun z => some (am_i z)) ?_, CQ.refl σ⟩
      unfold latM
      rw [if_neg (fun h => ah h.1)]
theorem c_isPerson_15 (σ : am_H) (hC : CI 15 σ) (p : Int)  : am_met M_X9_isPerson [am_r 0, am_i p] σ (fun r σ' => r = some (am_i (if 0 ≤ p ∧ p < σ.2.1 85 5 then 1 else 0)) ∧ σ' = σ) := by
  refine am_qq (fun Q hQ => ?_)
  refine am_enter (show plainFor yX9_isPerson = true by decide +kernel) rfl (Nat.le_of_ble_eq_true rfl) (fun _ _ _ => trivial) ?_
  have hL := hC.G.L
  refine am_iload_n (q := 1) rfl (am_tab tk_X9_isPerson 0 rfl) rfl ?_
  refine am_if_lt (q := 4) (t := 19) (am_tab tk_X9_isPerson 1 rfl) (by decide) rfl (fun h1 => ?_) (fun h1 => ?_)
  · refine am_iconst (q := 20) (n := 0) (by decide) (am_tab tk_X9_isPerson 9 rfl) rfl ?_
    refine am_iret (Or.inr ⟨rfl, by first | exact Or.inl rfl | exact Or.inr rfl | omega⟩) (Nat.le_of_ble_eq_true rfl) (Nat.le_of_ble_eq_true rfl) (am_tab tk_X9_isPerson 10 rfl) ?_
    refine hQ _ _ ?_
    refine ⟨congrArg (fun z => some (am_i z)) ?_, rfl⟩
    first | rw [if_pos (by omega)] | rw [if_neg (by omega)]
  · refine am_iload_n (q := 5) rfl (am_tab tk_X9_isPerson 2 rfl) rfl ?_
    refine am_aload_n (q := 6) rfl (am_tab tk_X9_isPerson 3 rfl) rfl ?_
    refine am_getR (q := 9) (a := 0) (k := 9) (n := 17) (j := 2) (r := some (15)) (Ls_0 hL) (by decide) rfl hC.t (by decide) (Or.inl kf_X9_19) (am_tab tk_X9_isPerson 4 rfl) rfl ?_
    refine am_getI (q := 12) (a := 15) (k := 8) (n := 17) (j := 2) (x := (σ.2.1 85 5)) (Ls_15 hL) (by decide) rfl hC.W.people (by decide) (Or.inr kf_X9_126) (am_tab tk_X9_isPerson 5 rfl) rfl ?_
    refine am_icmp_ge (q := 15) (t := 19) (am_tab tk_X9_isPerson 6 rfl) (by decide) rfl (fun h12 => ?_) (fun h12 => ?_)
    · refine am_iconst (q := 20) (n := 0) (by decide) (am_tab tk_X9_isPerson 9 rfl) rfl ?_
      refine am_iret (Or.inr ⟨rfl, by first | exact Or.inl rfl | exact Or.inr rfl | omega⟩) (Nat.le_of_ble_eq_true rfl) (Nat.le_of_ble_eq_true rfl) (am_tab tk_X9_isPerson 10 rfl) ?_
      refine hQ _ _ ?_
      refine ⟨congrArg (fun z => some (am_i z)) ?_, rfl⟩
      first | rw [if_pos (by omega)] | rw [if_neg (by omega)]
    · refine am_iconst (q := 16) (n := 1) (by decide) (am_tab tk_X9_isPerson 7 rfl) rfl ?_
      refine am_goto (t := 20) (am_tab tk_X9_isPerson 8 rfl) (by decide) ?_
      refine am_iret (Or.inr ⟨rfl, by first | exact Or.inl rfl | exact Or.inr rfl | omega⟩) (Nat.le_of_ble_eq_true rfl) (Nat.le_of_ble_eq_true rfl) (am_tab tk_X9_isPerson 10 rfl) ?_
      refine hQ _ _ ?_
      refine ⟨congrArg (fun z => some (am_i z)) ?_, rfl⟩
      first | rw [if_pos (by omega)] | rw [if_neg (by omega)]
theorem c_isDay_15 (σ : am_H) (hC : CI 15 σ) (d : Int)  : am_met M_X9_isDay [am_r 0, am_i d] σ (fun r σ' => r = some (am_i (if 1 ≤ d ∧ d ≤ σ.2.1 85 9 then 1 else 0)) ∧ σ' = σ) := by
  refine am_qq (fun Q hQ => ?_)
  refine am_enter (show plainFor yX9_isDay = true by decide +kernel) rfl (Nat.le_of_ble_eq_true rfl) (fun _ _ _ => trivial) ?_
  have hL := hC.G.L
  refine am_iload_n (q := 1) rfl (am_tab tk_X9_isDay 0 rfl) rfl ?_
  refine am_iconst (q := 2) (n := 1) (by decide) (am_tab tk_X9_isDay 1 rfl) rfl ?_
  refine am_icmp_lt (q := 5) (t := 20) (am_tab tk_X9_isDay 2 rfl) (by decide) rfl (fun h2 => ?_) (fun h2 => ?_)
  · refine am_iconst (q := 21) (n := 0) (by decide) (am_tab tk_X9_isDay 10 rfl) rfl ?_
    refine am_iret (Or.inr ⟨rfl, by first | exact Or.inl rfl | exact Or.inr rfl | omega⟩) (Nat.le_of_ble_eq_true rfl) (Nat.le_of_ble_eq_true rfl) (am_tab tk_X9_isDay 11 rfl) ?_
    refine hQ _ _ ?_
    refine ⟨congrArg (fun z => some (am_i z)) ?_, rfl⟩
    first | rw [if_pos (by omega)] | rw [if_neg (by omega)]
  · refine am_iload_n (q := 6) rfl (am_tab tk_X9_isDay 3 rfl) rfl ?_
    refine am_aload_n (q := 7) rfl (am_tab tk_X9_isDay 4 rfl) rfl ?_
    refine am_getR (q := 10) (a := 0) (k := 9) (n := 17) (j := 2) (r := some (15)) (Ls_0 hL) (by decide) rfl hC.t (by decide) (Or.inl kf_X9_19) (am_tab tk_X9_isDay 5 rfl) rfl ?_
    refine am_getI (q := 13) (a := 15) (k := 8) (n := 17) (j := 0) (x := (σ.2.1 85 9)) (Ls_15 hL) (by decide) rfl hC.W.days (by decide) (Or.inr kf_X9_123) (am_tab tk_X9_isDay 6 rfl) rfl ?_
    refine am_icmp_gt (q := 16) (t := 20) (am_tab tk_X9_isDay 7 rfl) (by decide) rfl (fun h13 => ?_) (fun h13 => ?_)
    · refine am_iconst (q := 21) (n := 0) (by decide) (am_tab tk_X9_isDay 10 rfl) rfl ?_
      refine am_iret (Or.inr ⟨rfl, by first | exact Or.inl rfl | exact Or.inr rfl | omega⟩) (Nat.le_of_ble_eq_true rfl) (Nat.le_of_ble_eq_true rfl) (am_tab tk_X9_isDay 11 rfl) ?_
      refine hQ _ _ ?_
      refine ⟨congrArg (fun z => some (am_i z)) ?_, rfl⟩
      first | rw [if_pos (by omega)] | rw [if_neg (by omega)]
    · refine am_iconst (q := 17) (n := 1) (by decide) (am_tab tk_X9_isDay 8 rfl) rfl ?_
      refine am_goto (t := 21) (am_tab tk_X9_isDay 9 rfl) (by decide) ?_
      refine am_iret (Or.inr ⟨rfl, by first | exact Or.inl rfl | exact Or.inr rfl | omega⟩) (Nat.le_of_ble_eq_true rfl) (Nat.le_of_ble_eq_true rfl) (am_tab tk_X9_isDay 11 rfl) ?_
      refine hQ _ _ ?_
      refine ⟨congrArg (fun z => some (am_i z)) ?_, rfl⟩
      first | rw [if_pos (by omega)] | rw [if_neg (by omega)]
theorem c_isAhead_15 (σ : am_H) (hC : CI 15 σ) (n : Int)  : am_met M_X9_isAhead [am_r 0, am_i n] σ (fun r σ' => r = some (am_i (if (1 ≤ n ∧ n ≤ 120) ∧ n ≤ dlM σ then 1 else 0)) ∧ σ' = σ) := by
  refine am_qq (fun Q hQ => ?_)
  refine am_enter (show plainFor yX9_isAhead = true by decide +kernel) rfl (Nat.le_of_ble_eq_true rfl) (fun _ _ _ => trivial) ?_
  have hL := hC.G.L
  refine am_iload_n (q := 1) rfl (am_tab tk_X9_isAhead 0 rfl) rfl ?_
  refine am_iconst (q := 2) (n := 1) (by decide) (am_tab tk_X9_isAhead 1 rfl) rfl ?_
  refine am_icmp_lt (q := 5) (t := 30) (am_tab tk_X9_isAhead 2 rfl) (by decide) rfl (fun h2 => ?_) (fun h2 => ?_)
  · refine am_iconst (q := 31) (n := 0) (by decide) (am_tab tk_X9_isAhead 15 rfl) rfl ?_
    refine am_iret (Or.inr ⟨rfl, by first | exact Or.inl rfl | exact Or.inr rfl | omega⟩) (Nat.le_of_ble_eq_true rfl) (Nat.le_of_ble_eq_true rfl) (am_tab tk_X9_isAhead 16 rfl) ?_
    refine hQ _ _ ?_
    refine ⟨congrArg (fun z => some (am_i z)) ?_, rfl⟩
    first | rw [if_pos (by omega)] | rw [if_neg (by omega)]
  · refine am_iload_n (q := 6) rfl (am_tab tk_X9_isAhead 3 rfl) rfl ?_
    refine am_bipush (q := 8) (n := 120) (by decide) rfl (am_tab tk_X9_isAhead 4 rfl) rfl ?_
    refine am_icmp_gt (q := 11) (t := 30) (am_tab tk_X9_isAhead 5 rfl) (by decide) rfl (fun h8 => ?_) (fun h8 => ?_)
    · refine am_iconst (q := 31) (n := 0) (by decide) (am_tab tk_X9_isAhead 15 rfl) rfl ?_
      refine am_iret (Or.inr ⟨rfl, by first | exact Or.inl rfl | exact Or.inr rfl | omega⟩) (Nat.le_of_ble_eq_true rfl) (Nat.le_of_ble_eq_true rfl) (am_tab tk_X9_isAhead 16 rfl) ?_
      refine hQ _ _ ?_
      refine ⟨congrArg (fun z => some (am_i z)) ?_, rfl⟩
      first | rw [if_pos (by omega)] | rw [if_neg (by omega)]
    · refine am_iload_n (q := 12) rfl (am_tab tk_X9_isAhead 6 rfl) rfl ?_
      refine am_aload_n (q := 13) rfl (am_tab tk_X9_isAhead 7 rfl) rfl ?_
      refine am_getR (q := 16) (a := 0) (k := 9) (n := 17) (j := 4) (r := some (32)) (Ls_0 hL) (by decide) rfl (Lr_0_4 hL) (by decide) (Or.inl kf_X9_38) (am_tab tk_X9_isAhead 8 rfl) rfl ?_
      refine am_aload_n (q := 17) rfl (am_tab tk_X9_isAhead 9 rfl) rfl ?_
      refine am_getR (q := 20) (a := 0) (k := 9) (n := 17) (j := 2) (r := some (15)) (Ls_0 hL) (by decide) rfl hC.t (by decide) (Or.inl kf_X9_19) (am_tab tk_X9_isAhead 10 rfl) rfl ?_
      refine am_callV0 (q := 23) (me2 := M_X1_daysLeft) (b := 32) (kb := 1) (nb := 11) (As := [am_r 15]) (rest := [am_i n]) (out := [am_i (dlM σ), am_i n]) (c_daysLeft_15_32 σ σ hL hC.G hC.W hC.F) ⟨rfl, rfl⟩ (Ls_32 hL) (by decide) ⟨Or.inr km_X9_234, kc_X1_daysLeft, kn_X1, kd_X1_daysLeft, ⟨(Nat.le_of_ble_eq_true rfl), (Nat.le_of_ble_eq_true rfl)⟩, ⟨(Nat.le_of_ble_eq_true rfl), (Nat.le_of_ble_eq_true rfl)⟩, (Nat.le_of_ble_eq_true rfl)⟩ ki_X1_daysLeft ks_X1_daysLeft rfl rfl (am_tab tk_X9_isAhead 11 rfl) rfl ?_
      refine am_icmp_gt (q := 26) (t := 30) (am_tab tk_X9_isAhead 12 rfl) (by decide) rfl (fun h23 => ?_) (fun h23 => ?_)
      · refine am_iconst (q := 31) (n := 0) (by decide) (am_tab tk_X9_isAhead 15 rfl) rfl ?_
        refine am_iret (Or.inr ⟨rfl, by first | exact Or.inl rfl | exact Or.inr rfl | omega⟩) (Nat.le_of_ble_eq_true rfl) (Nat.le_of_ble_eq_true rfl) (am_tab tk_X9_isAhead 16 rfl) ?_
        refine hQ _ _ ?_
        refine ⟨congrArg (fun z => some (am_i z)) ?_, rfl⟩
        first | rw [if_pos (by omega)] | rw [if_neg (by omega)]
      · refine am_iconst (q := 27) (n := 1) (by decide) (am_tab tk_X9_isAhead 13 rfl) rfl ?_
        refine am_goto (t := 31) (am_tab tk_X9_isAhead 14 rfl) (by decide) ?_
        refine am_iret (Or.inr ⟨rfl, by first | exact Or.inl rfl | exact Or.inr rfl | omega⟩) (Nat.le_of_ble_eq_true rfl) (Nat.le_of_ble_eq_true rfl) (am_tab tk_X9_isAhead 16 rfl) ?_
        refine hQ _ _ ?_
        refine ⟨congrArg (fun z => some (am_i z)) ?_, rfl⟩
        first | rw [if_pos (by omega)] | rw [if_neg (by omega)]
theorem c_living_15 (σ : am_H) (hC : CI 15 σ)   : am_met M_X9_living [am_r 0] σ (fun r σ' => r = some (am_i (ao_and (mkS (fun _ => true) (pN σ)) (ao_xor (σ.2.1 32 4) (-1)))) ∧ σ' = σ) := by
  refine am_qq (fun Q hQ => ?_)
  refine am_enter (show plainFor yX9_living = true by decide +kernel) rfl (Nat.le_of_ble_eq_true rfl) (fun _ _ _ => trivial) ?_
  have hL := hC.G.L
  refine am_aload_n (q := 1) rfl (am_tab tk_X9_living 0 rfl) rfl ?_
  refine am_getR (q := 4) (a := 0) (k := 9) (n := 17) (j := 2) (r := some (15)) (Ls_0 hL) (by decide) rfl hC.t (by decide) (Or.inl kf_X9_19) (am_tab tk_X9_living 1 rfl) rfl ?_
  refine am_callV0 (q := 7) (me2 := M_X8_everybody) (b := 15) (kb := 8) (nb := 17) (As := []) (rest := []) (out := [am_i (mkS (fun _ => true) (pN σ))]) (c_everybody_15 σ σ hL hC.G hC.W) ⟨rfl, rfl⟩ (Ls_15 hL) (by decide) ⟨Or.inr km_X9_339, kc_X8_everybody, kn_X8, kd_X8_everybody, ⟨(Nat.le_of_ble_eq_true rfl), (Nat.le_of_ble_eq_true rfl)⟩, ⟨(Nat.le_of_ble_eq_true rfl), (Nat.le_of_ble_eq_true rfl)⟩, (Nat.le_of_ble_eq_true rfl)⟩ ki_X8_everybody ks_X8_everybody rfl rfl (am_tab tk_X9_living 2 rfl) rfl ?_
  refine am_aload_n (q := 8) rfl (am_tab tk_X9_living 3 rfl) rfl ?_
  refine am_getR (q := 11) (a := 0) (k := 9) (n := 17) (j := 4) (r := some (32)) (Ls_0 hL) (by decide) rfl (Lr_0_4 hL) (by decide) (Or.inl kf_X9_38) (am_tab tk_X9_living 4 rfl) rfl ?_
  refine am_getI (q := 14) (a := 32) (k := 1) (n := 11) (j := 4) (x := (σ.2.1 32 4)) (Ls_32 hL) (by decide) rfl rfl (by decide) (Or.inr kf_X9_182) (am_tab tk_X9_living 5 rfl) rfl ?_
  refine am_iconst (q := 15) (n := (-1)) (by decide) (am_tab tk_X9_living 6 rfl) rfl ?_
  refine am_ixor (q := 16) (am_tab tk_X9_living 7 rfl) rfl ?_
  refine am_iand (q := 17) (am_tab tk_X9_living 8 rfl) rfl ?_
  refine am_iret (Or.inl rfl) (Nat.le_of_ble_eq_true rfl) (Nat.le_of_ble_eq_true rfl) (am_tab tk_X9_living 9 rfl) ?_
  refine hQ _ _ ?_
  exact ⟨rfl, rfl⟩
theorem c_foresee_15 (σ : am_H) (hC : CI 15 σ) (n : Int)  : am_met M_X9_foresee [am_r 0, am_i n] σ (fun r σ' => if (1 ≤ n ∧ n ≤ 120) ∧ n ≤ dlM σ then r = some (am_i 1) ∧ CQ σ σ' ∧ LF0 37 σ' (fun j9 => (itS n.toNat σ).2.1 96 j9) ∧ FS 15 σ (n.toNat - 1) σ' else r = some (am_i 0) ∧ σ' = σ) := by
  refine am_qq (fun Q hQ => ?_)
  refine am_enter (show plainFor yX9_foresee = true by decide +kernel) rfl (Nat.le_of_ble_eq_true rfl) (fun _ _ _ => trivial) ?_
  have hL := hC.G.L
  refine am_aload_n (q := 1) rfl (am_tab tk_X9_foresee 0 rfl) rfl ?_
  refine am_iload_n (q := 2) rfl (am_tab tk_X9_foresee 1 rfl) rfl ?_
  refine am_callV0 (q := 5) (me2 := M_X9_isAhead) (b := 0) (kb := 9) (nb := 17) (As := [am_i n]) (rest := []) (out := [am_i (if (1 ≤ n ∧ n ≤ 120) ∧ n ≤ dlM σ then 1 else 0)]) (c_isAhead_15 σ hC n) ⟨rfl, rfl⟩ (Ls_0 hL) (by decide) ⟨Or.inl km_X9_257, kc_X9_isAhead, kn_X9, kd_X9_isAhead, ⟨(Nat.le_of_ble_eq_true rfl), (Nat.le_of_ble_eq_true rfl)⟩, ⟨(Nat.le_of_ble_eq_true rfl), (Nat.le_of_ble_eq_true rfl)⟩, (Nat.le_of_ble_eq_true rfl)⟩ ki_X9_isAhead ks_X9_isAhead rfl rfl (am_tab tk_X9_foresee 2 rfl) rfl ?_
  by_cases ah : (1 ≤ n ∧ n ≤ 120) ∧ n ≤ dlM σ
  · refine am_if_ne (q := 8) (t := 10) (am_tab tk_X9_foresee 3 rfl) (by decide) rfl (fun h5 => ?_) (fun h5 => ?_)
    · replace h5 := b01n h5
      refine am_aload_n (q := 11) rfl (am_tab tk_X9_foresee 6 rfl) rfl ?_
      refine am_getR (q := 14) (a := 0) (k := 9) (n := 17) (j := 5) (r := some (37)) (Ls_0 hL) (by decide) rfl (Lr_0_5 hL) (by decide) (Or.inl kf_X9_42) (am_tab tk_X9_foresee 7 rfl) rfl ?_
      refine am_aload_n (q := 15) rfl (am_tab tk_X9_foresee 8 rfl) rfl ?_
      refine am_getR (q := 18) (a := 0) (k := 9) (n := 17) (j := 4) (r := some (32)) (Ls_0 hL) (by decide) rfl (Lr_0_4 hL) (by decide) (Or.inl kf_X9_38) (am_tab tk_X9_foresee 9 rfl) rfl ?_
      refine am_callVr (q := 21) (me2 := M_X1_copyFrom) (b := 37) (kb := 1) (nb := 11) (As := [am_r 32]) (rest := []) (c_copy_37_32 σ hC.G.L) ⟨rfl, rfl⟩ (Ls_37 hL) (by decide) ⟨Or.inr km_X9_243, kc_X1_copyFrom, kn_X1, kd_X1_copyFrom, ⟨(Nat.le_of_ble_eq_true rfl), (Nat.le_of_ble_eq_true rfl)⟩, ⟨(Nat.le_of_ble_eq_true rfl), (Nat.le_of_ble_eq_true rfl)⟩, (Nat.le_of_ble_eq_true rfl)⟩ ki_X1_copyFrom ks_X1_copyFrom rfl (am_tab tk_X9_foresee 10 rfl) rfl ?_
      rintro r S0 ⟨rfl, hCP, hFc⟩
      have hq0 : CQ σ S0 := hFc.cq (by unfold W_li W_cq; omega)
      have hA0 : LF0 37 S0 (fun j9 => (itS 0 σ).2.1 96 j9) := hCP.lf hC.F
      refine am_st (st2 := []) rfl ?_
      refine am_iconst (q := 22) (n := 0) (by decide) (am_tab tk_X9_foresee 11 rfl) rfl ?_
      refine am_istore_n (q := 23) (by decide) (ls2 := [(2, am_i 0), (0, am_r 0), (1, am_i n)]) rfl (am_tab tk_X9_foresee 12 rfl) rfl ?_
      have L23 : ∀ (n23 : Nat) (k : Nat) (S : am_H), n.toNat - k < n23 → (k : Int) ≤ n → CQ σ S → LF0 37 S (fun j => (itS k σ).2.1 96 j) → (∀ m, k = m + 1 → FS 15 σ m S) → am_wp M_X9_foresee Q 0 0 23 [(2, am_i ((k : Int))), (0, am_r 0), (1, am_i n)] [] S := by
        intro n23
        induction n23 with
        | zero => intro k S hn23; exact absurd hn23 (Nat.not_lt_zero _)
        | succ n23 ih23 =>
          intro k S hn23 hk hq hA hfs
          refine am_iload_n (q := 24) rfl (am_tab tk_X9_foresee 13 rfl) rfl ?_
          refine am_iload_n (q := 25) rfl (am_tab tk_X9_foresee 14 rfl) rfl ?_
          refine am_icmp_ge (q := 28) (t := 57) (am_tab tk_X9_foresee 15 rfl) (by decide) rfl (fun h25 => ?_) (fun h25 => ?_)
          · refine am_iconst (q := 58) (n := 1) (by decide) (am_tab tk_X9_foresee 29 rfl) rfl ?_
            refine am_iret (Or.inr ⟨rfl, by first | exact Or.inl rfl | exact Or.inr rfl | omega⟩) (Nat.le_of_ble_eq_true rfl) (Nat.le_of_ble_eq_true rfl) (am_tab tk_X9_foresee 30 rfl) ?_
            refine hQ _ _ ?_
            rw [if_pos ah]
            have ek : k = n.toNat := by omega
            refine ⟨rfl, hq, by rw [← ek]; exact hA, ?_⟩
            exact hfs (n.toNat - 1) (by omega)
          · have hGk := itS_GD hC.G k (by omega)
            have hck := itS_cc hC.G (n := k) (by omega)
            refine am_aload_n (q := 29) rfl (am_tab tk_X9_foresee 16 rfl) rfl ?_
            refine am_getR (q := 32) (a := 0) (k := 9) (n := 17) (j := 7) (r := some (44)) (Ls_0 (hq.L hC.G.L)) (by decide) rfl (Lr_0_7 (hq.L hC.G.L)) (by decide) (Or.inl kf_X9_57) (am_tab tk_X9_foresee 17 rfl) rfl ?_
            refine am_aload_n (q := 33) rfl (am_tab tk_X9_foresee 18 rfl) rfl ?_
            refine am_getR (q := 36) (a := 0) (k := 9) (n := 17) (j := 2) (r := some (15)) (Ls_0 (hq.L hC.G.L)) (by decide) rfl ((hq.2.1 0 2 (by omega)).trans hC.t) (by decide) (Or.inl kf_X9_19) (am_tab tk_X9_foresee 19 rfl) rfl ?_
            refine am_aload_n (q := 37) rfl (am_tab tk_X9_foresee 20 rfl) rfl ?_
            refine am_getR (q := 40) (a := 0) (k := 9) (n := 17) (j := 5) (r := some (37)) (Ls_0 (hq.L hC.G.L)) (by decide) rfl (Lr_0_5 (hq.L hC.G.L)) (by decide) (Or.inl kf_X9_42) (am_tab tk_X9_foresee 21 rfl) rfl ?_
            refine am_callVr (q := 43) (me2 := M_X0_lookAt) (b := 44) (kb := 0) (nb := 14) (As := [am_r 15, am_r 37]) (rest := []) (c_lookAt_15_37 S (itS k σ) (hq.L hC.G.L) hGk.1 ((hC.W.cq hq (by decide)).it k) hA) ⟨rfl, rfl⟩ (Ls_44 (hq.L hC.G.L)) (by decide) ⟨Or.inr km_X9_247, kc_X0_lookAt, kn_X0, kd_X0_lookAt, ⟨(Nat.le_of_ble_eq_true rfl), (Nat.le_of_ble_eq_true rfl)⟩, ⟨(Nat.le_of_ble_eq_true rfl), (Nat.le_of_ble_eq_true rfl)⟩, (Nat.le_of_ble_eq_true rfl)⟩ ki_X0_lookAt ks_X0_lookAt rfl (am_tab tk_X9_foresee 22 rfl) rfl ?_
            rintro r T1 hlk
            rw [if_pos (by rw [hGk.2]; omega)] at hlk
            obtain ⟨rfl, hDA, hF1⟩ := hlk
            have hq1 : CQ σ T1 := hq.trans (CQ.base hF1)
            have hA1 : LF0 37 T1 (fun j9 => (itS k σ).2.1 96 j9) := LF0.fr (σ := am_setR (am_setR S 44 8 (some 15)) 44 9 (some 37)) hA hF1 (by unfold W_da; omega)
            refine am_st (st2 := [am_i 1]) rfl ?_
            refine am_pop (q := 44) rfl (am_tab tk_X9_foresee 23 rfl) rfl ?_
            refine am_aload_n (q := 45) rfl (am_tab tk_X9_foresee 24 rfl) rfl ?_
            refine am_getR (q := 48) (a := 0) (k := 9) (n := 17) (j := 7) (r := some (44)) (Ls_0 (hq1.L hC.G.L)) (by decide) rfl (Lr_0_7 (hq1.L hC.G.L)) (by decide) (Or.inl kf_X9_57) (am_tab tk_X9_foresee 25 rfl) rfl ?_
            refine am_callVr (q := 51) (me2 := M_X0_settle) (b := 44) (kb := 0) (nb := 14) (As := []) (rest := []) (c_settle_15_37 T1 (itS k σ) (hq1.L hC.G.L) hGk.1 hck hA1 _ hDA) ⟨rfl, rfl⟩ (Ls_44 (hq1.L hC.G.L)) (by decide) ⟨Or.inr km_X9_251, kc_X0_settle, kn_X0, kd_X0_settle, ⟨(Nat.le_of_ble_eq_true rfl), (Nat.le_of_ble_eq_true rfl)⟩, ⟨(Nat.le_of_ble_eq_true rfl), (Nat.le_of_ble_eq_true rfl)⟩, (Nat.le_of_ble_eq_true rfl)⟩ ki_X0_settle ks_X0_settle rfl (am_tab tk_X9_foresee 26 rfl) rfl ?_
            rintro r T2 ⟨rfl, hA2, hF2⟩
            have hq2 : CQ σ T2 := hq1.trans (hF2.cq (by unfold W_se W_cq; omega))
            have hFS : FS 15 σ k T2 := hDA.FS hF2 (by decide)
            refine am_st (st2 := []) rfl ?_
            refine am_iinc (q := 54) rfl (by omega) (by decide) (ls2 := [(2, am_i (((k : Int) + 1))), (0, am_r 0), (1, am_i n)]) rfl (am_tab tk_X9_foresee 27 rfl) rfl ?_
            refine am_goto (t := 23) (am_tab tk_X9_foresee 28 rfl) (by decide) ?_
            exact am_less (by intro q hq; simp only [List.mem_cons, List.not_mem_nil, or_false] at hq; rcases hq with rfl | rfl | rfl <;> simp) (ih23 (k + 1) T2 (by omega) (by omega) hq2 hA2 (fun m hm => (show k = m by omega) ▸ hFS))
      refine am_less (by intro q hq; simp only [List.mem_cons, List.not_mem_nil, or_false] at hq; rcases hq with rfl | rfl | rfl <;> simp) (L23 (_ + 1) 0 S0 (by exact Nat.lt_succ_self _) (by omega) hq0 hA0 (by omega))
    · exact absurd ah (b01z h5)
  · refine am_if_ne (q := 8) (t := 10) (am_tab tk_X9_foresee 3 rfl) (by decide) rfl (fun h5 => ?_) (fun h5 => ?_)
    · exact absurd (b01n h5) ah
    · replace h5 := b01z h5
      refine am_iconst (q := 9) (n := 0) (by decide) (am_tab tk_X9_foresee 4 rfl) rfl ?_
      refine am_iret (Or.inr ⟨rfl, by first | exact Or.inl rfl | exact Or.inr rfl | omega⟩) (Nat.le_of_ble_eq_true rfl) (Nat.le_of_ble_eq_true rfl) (am_tab tk_X9_foresee 5 rfl) ?_
      refine hQ _ _ ?_
      rw [if_neg ah]
      exact ⟨rfl, rfl⟩
theorem c_later_15 (σ : am_H) (hC : CI 15 σ) (n : Int) (w : Int)  : am_met M_X9_later [am_r 0, am_i n, am_i w] σ (fun r σ' => r = some (am_i (latM σ n w)) ∧ CQ σ σ') := by
  refine am_qq (fun Q hQ => ?_)
  refine am_enter (show plainFor yX9_later = true by decide +kernel) rfl (Nat.le_of_ble_eq_true rfl) (fun _ _ _ => trivial) ?_
  have hL := hC.G.L
  by_cases ah : (1 ≤ n ∧ n ≤ 120) ∧ n ≤ dlM σ
  · refine am_aload_n (q := 1) rfl (am_tab tk_X9_later 0 rfl) rfl ?_
    refine am_iload_n (q := 2) rfl (am_tab tk_X9_later 1 rfl) rfl ?_
    refine am_callVr (q := 5) (me2 := M_X9_foresee) (b := 0) (kb := 9) (nb := 17) (As := [am_i n]) (rest := []) (c_foresee_15 σ hC n) ⟨rfl, rfl⟩ (Ls_0 hL) (by decide) ⟨Or.inl km_X9_219, kc_X9_foresee, kn_X9, kd_X9_foresee, ⟨(Nat.le_of_ble_eq_true rfl), (Nat.le_of_ble_eq_true rfl)⟩, ⟨(Nat.le_of_ble_eq_true rfl), (Nat.le_of_ble_eq_true rfl)⟩, (Nat.le_of_ble_eq_true rfl)⟩ ki_X9_foresee ks_X9_foresee rfl (am_tab tk_X9_later 2 rfl) rfl ?_
    rintro r S hfo
    rw [if_pos ah] at hfo
    obtain ⟨rfl, hq, hA, hFS⟩ := hfo
    refine am_st (st2 := [am_i 1]) rfl ?_
    refine am_if_ne (q := 8) (t := 10) (am_tab tk_X9_later 3 rfl) (by decide) rfl (fun h5 => ?_) (fun h5 => ?_)
    · refine am_iload_n (q := 11) rfl (am_tab tk_X9_later 6 rfl) rfl ?_
      rcases (show w = 0 ∨ w = 1 ∨ w = 2 ∨ w = 3 ∨ w = 4 ∨ (w < 0 ∨ 4 < w) by omega) with e11 | e11 | e11 | e11 | e11 | e11
      · refine am_tableIn (t := 44) (off := 33) (by omega) (by omega) (by rw [e11]; rfl) dsw_X9_later_11 (by decide) ?_
        refine am_aload_n (q := 45) rfl (am_tab tk_X9_later 8 rfl) rfl ?_
        refine am_getR (q := 48) (a := 0) (k := 9) (n := 17) (j := 7) (r := some (44)) (Ls_0 (hq.L hC.G.L)) (by decide) rfl (Lr_0_7 (hq.L hC.G.L)) (by decide) (Or.inl kf_X9_57) (am_tab tk_X9_later 9 rfl) rfl ?_
        refine am_getI (q := 51) (a := 44) (k := 0) (n := 14) (j := 4) (x := (sfD (itS (n.toNat - 1) σ))) (Ls_44 (hq.L hC.G.L)) (by decide) rfl hFS.2.2.1 (by decide) (Or.inr kf_X9_222) (am_tab tk_X9_later 10 rfl) rfl ?_
        refine am_iret (Or.inl rfl) (Nat.le_of_ble_eq_true rfl) (Nat.le_of_ble_eq_true rfl) (am_tab tk_X9_later 11 rfl) ?_
        refine hQ _ _ ?_
        refine ⟨congrArg (fun z => some (am_i z)) ?_, hq⟩
        unfold latM
        rw [if_pos (by omega)]
        have hc9 := itS_cc hC.G (n := n.toNat - 1) (by omega)
        have hi0 := it_0 hC.G hc9 (by omega)
        rw [show n.toNat - 1 + 1 = n.toNat by omega] at hi0
        have hf01 := fsD01 (itS (n.toNat - 1) σ)
        subst e11
        first | (rw [if_pos rfl]; done) | (rw [if_neg (by decide), if_pos rfl]; done) | (rw [if_neg (by decide), if_neg (by decide), if_neg (by decide)]; first | exact hi0.1.symm | exact hi0.2.symm) | (rw [if_neg (by decide), if_neg (by decide), if_pos rfl]; omega)
      · refine am_tableIn (t := 52) (off := 41) (by omega) (by omega) (by rw [e11]; rfl) dsw_X9_later_11 (by decide) ?_
        refine am_aload_n (q := 53) rfl (am_tab tk_X9_later 12 rfl) rfl ?_
        refine am_getR (q := 56) (a := 0) (k := 9) (n := 17) (j := 7) (r := some (44)) (Ls_0 (hq.L hC.G.L)) (by decide) rfl (Lr_0_7 (hq.L hC.G.L)) (by decide) (Or.inl kf_X9_57) (am_tab tk_X9_later 13 rfl) rfl ?_
        refine am_getI (q := 59) (a := 44) (k := 0) (n := 14) (j := 5) (x := (thD (itS (n.toNat - 1) σ))) (Ls_44 (hq.L hC.G.L)) (by decide) rfl hFS.2.2.2.1 (by decide) (Or.inr kf_X9_225) (am_tab tk_X9_later 14 rfl) rfl ?_
        refine am_iret (Or.inl rfl) (Nat.le_of_ble_eq_true rfl) (Nat.le_of_ble_eq_true rfl) (am_tab tk_X9_later 15 rfl) ?_
        refine hQ _ _ ?_
        refine ⟨congrArg (fun z => some (am_i z)) ?_, hq⟩
        unfold latM
        rw [if_pos (by omega)]
        have hc9 := itS_cc hC.G (n := n.toNat - 1) (by omega)
        have hi0 := it_0 hC.G hc9 (by omega)
        rw [show n.toNat - 1 + 1 = n.toNat by omega] at hi0
        have hf01 := fsD01 (itS (n.toNat - 1) σ)
        subst e11
        first | (rw [if_pos rfl]; done) | (rw [if_neg (by decide), if_pos rfl]; done) | (rw [if_neg (by decide), if_neg (by decide), if_neg (by decide)]; first | exact hi0.1.symm | exact hi0.2.symm) | (rw [if_neg (by decide), if_neg (by decide), if_pos rfl]; omega)
      · refine am_tableIn (t := 60) (off := 49) (by omega) (by omega) (by rw [e11]; rfl) dsw_X9_later_11 (by decide) ?_
        refine am_aload_n (q := 61) rfl (am_tab tk_X9_later 16 rfl) rfl ?_
        refine am_getR (q := 64) (a := 0) (k := 9) (n := 17) (j := 7) (r := some (44)) (Ls_0 (hq.L hC.G.L)) (by decide) rfl (Lr_0_7 (hq.L hC.G.L)) (by decide) (Or.inl kf_X9_57) (am_tab tk_X9_later 17 rfl) rfl ?_
        refine am_getI (q := 67) (a := 44) (k := 0) (n := 14) (j := 0) (x := (bgN (itS (n.toNat - 1) σ) 0)) (Ls_44 (hq.L hC.G.L)) (by decide) rfl hFS.1 (by decide) (Or.inr kf_X9_228) (am_tab tk_X9_later 18 rfl) rfl ?_
        refine am_iret (Or.inl rfl) (Nat.le_of_ble_eq_true rfl) (Nat.le_of_ble_eq_true rfl) (am_tab tk_X9_later 19 rfl) ?_
        refine hQ _ _ ?_
        refine ⟨congrArg (fun z => some (am_i z)) ?_, hq⟩
        unfold latM
        rw [if_pos (by omega)]
        have hc9 := itS_cc hC.G (n := n.toNat - 1) (by omega)
        have hi0 := it_0 hC.G hc9 (by omega)
        rw [show n.toNat - 1 + 1 = n.toNat by omega] at hi0
        have hf01 := fsD01 (itS (n.toNat - 1) σ)
        subst e11
        first | (rw [if_pos rfl]; done) | (rw [if_neg (by decide), if_pos rfl]; done) | (rw [if_neg (by decide), if_neg (by decide), if_neg (by decide)]; first | exact hi0.1.symm | exact hi0.2.symm) | (rw [if_neg (by decide), if_neg (by decide), if_pos rfl]; omega)
      · refine am_tableIn (t := 68) (off := 57) (by omega) (by omega) (by rw [e11]; rfl) dsw_X9_later_11 (by decide) ?_
        refine am_aload_n (q := 69) rfl (am_tab tk_X9_later 20 rfl) rfl ?_
        refine am_getR (q := 72) (a := 0) (k := 9) (n := 17) (j := 7) (r := some (44)) (Ls_0 (hq.L hC.G.L)) (by decide) rfl (Lr_0_7 (hq.L hC.G.L)) (by decide) (Or.inl kf_X9_57) (am_tab tk_X9_later 21 rfl) rfl ?_
        refine am_getI (q := 75) (a := 44) (k := 0) (n := 14) (j := 1) (x := (bgN (itS (n.toNat - 1) σ) 1)) (Ls_44 (hq.L hC.G.L)) (by decide) rfl hFS.2.1 (by decide) (Or.inr kf_X9_229) (am_tab tk_X9_later 22 rfl) rfl ?_
        refine am_iret (Or.inl rfl) (Nat.le_of_ble_eq_true rfl) (Nat.le_of_ble_eq_true rfl) (am_tab tk_X9_later 23 rfl) ?_
        refine hQ _ _ ?_
        refine ⟨congrArg (fun z => some (am_i z)) ?_, hq⟩
        unfold latM
        rw [if_pos (by omega)]
        have hc9 := itS_cc hC.G (n := n.toNat - 1) (by omega)
        have hi0 := it_0 hC.G hc9 (by omega)
        rw [show n.toNat - 1 + 1 = n.toNat by omega] at hi0
        have hf01 := fsD01 (itS (n.toNat - 1) σ)
        subst e11
        first | (rw [if_pos rfl]; done) | (rw [if_neg (by decide), if_pos rfl]; done) | (rw [if_neg (by decide), if_neg (by decide), if_neg (by decide)]; first | exact hi0.1.symm | exact hi0.2.symm) | (rw [if_neg (by decide), if_neg (by decide), if_pos rfl]; omega)
      · refine am_tableIn (t := 76) (off := 65) (by omega) (by omega) (by rw [e11]; rfl) dsw_X9_later_11 (by decide) ?_
        refine am_aload_n (q := 77) rfl (am_tab tk_X9_later 24 rfl) rfl ?_
        refine am_getR (q := 80) (a := 0) (k := 9) (n := 17) (j := 7) (r := some (44)) (Ls_0 (hq.L hC.G.L)) (by decide) rfl (Lr_0_7 (hq.L hC.G.L)) (by decide) (Or.inl kf_X9_57) (am_tab tk_X9_later 25 rfl) rfl ?_
        refine am_getI (q := 83) (a := 44) (k := 0) (n := 14) (j := 6) (x := (fsD (itS (n.toNat - 1) σ))) (Ls_44 (hq.L hC.G.L)) (by decide) rfl hFS.2.2.2.2.1 (by decide) (Or.inr kf_X9_230) (am_tab tk_X9_later 26 rfl) rfl ?_
        refine am_if_eq (q := 86) (t := 90) (am_tab tk_X9_later 27 rfl) (by decide) rfl (fun h83 => ?_) (fun h83 => ?_)
        · refine am_iconst (q := 91) (n := 0) (by decide) (am_tab tk_X9_later 30 rfl) rfl ?_
          refine am_iret (Or.inl rfl) (Nat.le_of_ble_eq_true rfl) (Nat.le_of_ble_eq_true rfl) (am_tab tk_X9_later 31 rfl) ?_
          refine hQ _ _ ?_
          refine ⟨congrArg (fun z => some (am_i z)) ?_, hq⟩
          unfold latM
          rw [if_pos (by omega)]
          have hc9 := itS_cc hC.G (n := n.toNat - 1) (by omega)
          have hi0 := it_0 hC.G hc9 (by omega)
          rw [show n.toNat - 1 + 1 = n.toNat by omega] at hi0
          have hf01 := fsD01 (itS (n.toNat - 1) σ)
          subst e11
          first | (rw [if_pos rfl]; done) | (rw [if_neg (by decide), if_pos rfl]; done) | (rw [if_neg (by decide), if_neg (by decide), if_neg (by decide)]; first | exact hi0.1.symm | exact hi0.2.symm) | (rw [if_neg (by decide), if_neg (by decide), if_pos rfl]; omega)
        · refine am_iconst (q := 87) (n := 1) (by decide) (am_tab tk_X9_later 28 rfl) rfl ?_
          refine am_goto (t := 91) (am_tab tk_X9_later 29 rfl) (by decide) ?_
          refine am_iret (Or.inl rfl) (Nat.le_of_ble_eq_true rfl) (Nat.le_of_ble_eq_true rfl) (am_tab tk_X9_later 31 rfl) ?_
          refine hQ _ _ ?_
          refine ⟨congrArg (fun z => some (am_i z)) ?_, hq⟩
          unfold latM
          rw [if_pos (by omega)]
          have hc9 := itS_cc hC.G (n := n.toNat - 1) (by omega)
          have hi0 := it_0 hC.G hc9 (by omega)
          rw [show n.toNat - 1 + 1 = n.toNat by omega] at hi0
          have hf01 := fsD01 (itS (n.toNat - 1) σ)
          subst e11
          first | (rw [if_pos rfl]; done) | (rw [if_neg (by decide), if_pos rfl]; done) | (rw [if_neg (by decide), if_neg (by decide), if_neg (by decide)]; first | exact hi0.1.symm | exact hi0.2.symm) | (rw [if_neg (by decide), if_neg (by decide), if_pos rfl]; omega)
      · refine am_tableOut (t := 92) e11 dsw_X9_later_11 (by decide) ?_
        refine am_iconst (q := 93) (n := (-1)) (by decide) (am_tab tk_X9_later 32 rfl) rfl ?_
        refine am_iret (Or.inl rfl) (Nat.le_of_ble_eq_true rfl) (Nat.le_of_ble_eq_true rfl) (am_tab tk_X9_later 33 rfl) ?_
        refine hQ _ _ ?_
        refine ⟨congrArg (fun z => some (am_i z)) ?_, hq⟩
        unfold latM
        rw [if_neg (by omega)]
    · exact absurd h5 (by decide)
  · refine am_aload_n (q := 1) rfl (am_tab tk_X9_later 0 rfl) rfl ?_
    refine am_iload_n (q := 2) rfl (am_tab tk_X9_later 1 rfl) rfl ?_
    refine am_callVr (q := 5) (me2 := M_X9_foresee) (b := 0) (kb := 9) (nb := 17) (As := [am_i n]) (rest := []) (c_foresee_15 σ hC n) ⟨rfl, rfl⟩ (Ls_0 hL) (by decide) ⟨Or.inl km_X9_219, kc_X9_foresee, kn_X9, kd_X9_foresee, ⟨(Nat.le_of_ble_eq_true rfl), (Nat.le_of_ble_eq_true rfl)⟩, ⟨(Nat.le_of_ble_eq_true rfl), (Nat.le_of_ble_eq_true rfl)⟩, (Nat.le_of_ble_eq_true rfl)⟩ ki_X9_foresee ks_X9_foresee rfl (am_tab tk_X9_later 2 rfl) rfl ?_
    rintro r S hfo
    rw [if_neg ah] at hfo
    obtain ⟨rfl, hSS⟩ := hfo
    rw [hSS]
    refine am_st (st2 := [am_i 0]) rfl ?_
    refine am_if_ne (q := 8) (t := 10) (am_tab tk_X9_later 3 rfl) (by decide) rfl (fun h5 => ?_) (fun h5 => ?_)
    · exact absurd h5 (by decide)
    · refine am_iconst (q := 9) (n := (-1)) (by decide) (am_tab tk_X9_later 4 rfl) rfl ?_
      refine am_iret (Or.inl rfl) (Nat.le_of_ble_eq_true rfl) (Nat.le_of_ble_eq_true rfl) (am_tab tk_X9_later 5 rfl) ?_
      refine hQ _ _ ?_
      refine ⟨congrArg (fun z => some (am_i z)) ?_, CQ.refl σ⟩
      unfold latM
      rw [if_neg (fun h => ah h.1)]
