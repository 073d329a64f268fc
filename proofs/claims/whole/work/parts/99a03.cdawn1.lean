theorem c_bit (σ : am_H) (s q : Int) (hs : 0 ≤ s ∧ s < 256) (hq : 0 ≤ q ∧ q < 8) : am_met M_X9_bit [am_i s, am_i q] σ (fun r σ' => r = some (am_i (tb s q)) ∧ σ' = σ) := by
  refine am_mono (c_X9_bit σ s q) (fun r τ h => ?_)
  rw [tb_eq hs hq] at h
  exact h
theorem mkS_ext {x : Int} {f : Nat → Bool} {n : Nat} (hx : 0 ≤ x ∧ x < 256) (hn : n ≤ 8) (h : ∀ q : Nat, q < 8 → tb x q = if q < n ∧ f q = true then 1 else 0) : x = mkS f n := set_ext hx (mkS_256 f hn) (fun p hp => by rw [h p hp, mkS_tb f n hn p hp])
/-- the class's dawn of the day that B has begun -/
def DWr (t l : Nat) (σ B : am_H) : Prop := (σ.2.2 44 8 = some t ∧ σ.2.2 44 9 = some l) ∧ σ.2.1 44 1 = B.2.1 96 1 ∧ (σ.2.1 45 13 = B.2.1 96 1 ∧ σ.2.1 45 14 = B.2.1 96 0 ∧ σ.2.1 45 7 = fzM B ∧ σ.2.1 45 16 = ffM B) ∧ TWr t σ B ∧ (∀ p : Nat, p < 8 → σ.2.1 (l + 1) p = B.2.1 96 (4 + p)) ∧ (∀ d : Nat, d < 91 → σ.2.1 (l + 2) d = B.2.1 96 (20 + d))
def W_dw (a j : Nat) : Prop := a = 46 ∨ a = 47 ∨ a = 48 ∨ (a = 45 ∧ (j = 4 ∨ j = 15 ∨ j = 2 ∨ j = 17))
def W_ow (a j : Nat) : Prop := a = 46 ∨ (a = 45 ∧ (j = 4 ∨ j = 15 ∨ j = 2 ∨ j = 17))
theorem W_ow_d {S T : am_H} (h : frw W_ow S T) : frw W_dw S T := h.mono (fun _ _ h => by unfold W_ow at h; unfold W_dw; omega)
theorem DWr.fr {t l : Nat} {σ τ B : am_H} (h : DWr t l σ B) (hF : frw W_dw σ τ) (ht : t ≤ 15) (hl : 32 ≤ l ∧ l ≤ 37) : DWr t l τ B := by
  obtain ⟨h1, h2, h3, h4, h5, h6⟩ := h
  refine ⟨by rw [hF.2.1]; exact h1, by rw [hF.2.2 44 1 (by unfold W_dw; omega)]; exact h2, by rw [hF.2.2 45 13 (by unfold W_dw; omega), hF.2.2 45 14 (by unfold W_dw; omega), hF.2.2 45 7 (by unfold W_dw; omega), hF.2.2 45 16 (by unfold W_dw; omega)]; exact h3, h4.fr hF (by unfold W_dw; omega), fun p hp => by rw [hF.2.2 (l + 1) p (by unfold W_dw; omega)]; exact h5 p hp, fun d hd => by rw [hF.2.2 (l + 2) d (by unfold W_dw; omega)]; exact h6 d hd⟩
theorem DWr.tw {t l : Nat} {σ B : am_H} (h : DWr t l σ B) : TWr t σ B := h.2.2.2.1
theorem TWr.people {t : Nat} {σ H : am_H} (h : TWr t σ H) : σ.2.1 t 2 = H.2.1 85 5 := h.1.2.1
theorem TWr.days {t : Nat} {σ H : am_H} (h : TWr t σ H) : σ.2.1 t 0 = H.2.1 85 9 := h.1.1
theorem TWr.minds {t : Nat} {σ H : am_H} (h : TWr t σ H) : ∀ p, p < pN H → σ.2.1 (t + 2) p = H.2.1 87 (8 + p) := h.2.2.1
theorem TWr.asks {t : Nat} {σ H : am_H} (h : TWr t σ H) : ∀ p, p < pN H → σ.2.1 (t + 3) p = H.2.1 88 (8 + p) := h.2.2.2.1
theorem TWr.rems {t : Nat} {σ H : am_H} (h : TWr t σ H) : ∀ p, p < pN H → σ.2.1 (t + 4) p = H.2.1 89 (8 + p) := h.2.2.2.2.1
theorem TWr.rby {t : Nat} {σ H : am_H} (h : TWr t σ H) : ∀ p, p < pN H → (0 ≤ σ.2.1 (t + 5) p ∧ σ.2.1 (t + 5) p < 256) ∧ ∀ q : Nat, q < 8 → tb (σ.2.1 (t + 5) p) q = if q < pN H ∧ tb (H.2.1 89 (8 + q)) p = 1 then 1 else 0 := h.2.2.2.2.2.1
theorem TWr.frost {t : Nat} {σ H : am_H} (h : TWr t σ H) : ∀ d : Nat, d < 91 → 1 ≤ d → (d : Int) ≤ H.2.1 85 9 → σ.2.1 (t + 7) d = if frM H (d : Int) = true then 1 else 0 := h.2.2.2.2.2.2.1
theorem TWr.thinks {t : Nat} {σ H : am_H} (h : TWr t σ H) : RLr (t + 8) σ (rlB H 0) := h.2.2.2.2.2.2.2.1
theorem TWr.hears {t : Nat} {σ H : am_H} (h : TWr t σ H) : RLr (t + 10) σ (rlB H 1) := h.2.2.2.2.2.2.2.2
theorem RLr.size {r : Nat} {σ : am_H} {cs : List Int} (h : RLr r σ cs) : σ.2.1 r 1 = (cs.length : Int) := by
  obtain ⟨_, c, m, _, _, _, _, h6, _⟩ := h
  exact h6
theorem rlB_0 {H : am_H} (hK : RK H) {wh : Nat} (hw : wh < 2) : ((rlB H wh).length : Int) = 0 ↔ H.2.1 93 (2 + wh) = -1 := by
  unfold rlB
  constructor
  · intro h
    by_cases h1 : H.2.1 93 (2 + wh) = -1
    · exact h1
    · rw [if_neg h1] at h
      rcases hK wh hw with h2 | ⟨_, _, _, h2⟩
      · exact h2
      · rw [List.eq_nil_of_length_eq_zero (by omega : (ruM H wh).length = 0)] at h2
        exact absurd h2 (by decide)
  · intro h
    rw [if_pos h]; rfl
theorem RK.ok {H : am_H} (hK : RK H) {wh : Nat} (hw : wh < 2) (h : ¬ H.2.1 93 (2 + wh) = -1) : okT (rlB H wh) [] = true ∧ rlB H wh = ruM H wh := by
  unfold rlB
  rw [if_neg h]
  rcases hK wh hw with h2 | ⟨_, _, _, h2⟩
  · exact absurd h2 h
  · exact ⟨h2, rfl⟩
theorem pe_r {B : am_H} (hG : GD B) {ts ot : Int} {p : Nat} (hp : p < 8) (ho : 0 ≤ ot ∧ ot ≤ 99) : ∀ k, 0 ≤ k → k < 8 → -1000000 ≤ pe B ts (ffM B) (fzM B) ot p k ∧ pe B ts (ffM B) (fzM B) ot p k ≤ 1000000 := by
  intro k h1 h2
  have a1 := hG.R.day
  have a2 := hG.R.Y
  have a3 := hG.R.ago p hp
  have a4 := hG.R.mind p hp
  have a5 := hG.R.year
  have a6 := tb_01 ts p
  unfold pe ffM fzM
  repeat' split
  all_goals omega
theorem prt {S B : am_H} {ts ot : Int} {p : Nat} {cs : List Int} (h13 : S.2.1 45 13 = B.2.1 96 1) (h14 : S.2.1 45 14 = B.2.1 96 0) (h7 : S.2.1 45 7 = fzM B) (h16 : S.2.1 45 16 = ffM B) (h4 : S.2.1 45 4 = tb ts p) (h15 : S.2.1 45 15 = B.2.1 96 (4 + p)) (h2 : S.2.1 45 2 = B.2.1 87 (8 + p)) (h17 : 47 ∈ cs → S.2.1 45 17 = ot) : ∀ v ∈ cs, 40 ≤ v → v < 48 → S.2.1 45 (rwP (v - 40)).toNat = pe B ts (ffM B) (fzM B) ot p (v - 40) := by
  intro v hv h1 h8
  rcases (show v = 40 ∨ v = 41 ∨ v = 42 ∨ v = 43 ∨ v = 44 ∨ v = 45 ∨ v = 46 ∨ v = 47 by omega) with rfl | rfl | rfl | rfl | rfl | rfl | rfl | rfl
  · exact h13
  · exact h4
  · exact h15
  · exact h2
  · exact h16
  · exact h14
  · exact h7
  · exact h17 hv
theorem or_sh0 {x : Int} {n : Nat} (hx : 0 ≤ x ∧ x < 256) (hn : n < 8) : ao_or x (ao_shl 0 (n : Int)) = x := by
  have h0 : ao_shl 0 (n : Int) = 0 := by
    have h : (List.range 8).all (fun k => decide (ao_shl 0 ((k : Nat) : Int) = 0)) = true := by decide +kernel
    exact of_decide_eq_true (List.all_eq_true.mp h n (List.mem_range.mpr hn))
  rw [h0]
  refine set_ext (or_tb hx (by decide)).1 hx (fun p _ => ?_)
  rw [(or_tb hx (by decide)).2 p]
  have h1 := tb_01 x p
  have h2 : ¬ tb 0 (p : Int) = 1 := by unfold tb; simp
  by_cases h3 : tb x p = 1
  · rw [if_pos (Or.inl h3), h3]
  · rw [if_neg (fun h => h.elim h3 h2)]; omega
def owB (B : am_H) (who ts : Int) (p : Nat) : Bool := decide (tb who p = 1 ∧ (if B.2.1 93 2 = -1 then tb ts p = 1 else tdE B ts (ffM B) (fzM B) 0 0 p = 1))
theorem c_setPerson_3_32 (σ B : am_H) (hL : lay σ) (hG : GD B) (hD : DWr 3 32 σ B) (p : Nat) (x : Int) (hp : p < pN B) : am_met M_X0_setPerson [am_r 44, am_i ((p : Int)), am_i x] σ (fun r σ' => r = none ∧ σ' = am_setN (am_setN (am_setN σ 45 4 x) 45 15 (B.2.1 96 (4 + p))) 45 2 (B.2.1 87 (8 + p))) := by
  refine am_qq (fun Q hQ => ?_)
  refine am_enter (show plainFor yX0_setPerson = true by decide +kernel) rfl (Nat.le_of_ble_eq_true rfl) (fun _ _ _ => trivial) ?_
  have h8 : pN B ≤ 8 := by have := hG.R.P; unfold pN; omega
  refine am_aload_n (q := 1) rfl (am_tab tk_X0_setPerson 0 rfl) rfl ?_
  refine am_getR (q := 4) (a := 44) (k := 0) (n := 14) (j := 10) (r := some (45)) (Ls_44 hL) (by decide) rfl (Lr_44_10 hL) (by decide) (Or.inl kf_X0_9) (am_tab tk_X0_setPerson 1 rfl) rfl ?_
  refine am_iconst (q := 5) (n := 4) (by decide) (am_tab tk_X0_setPerson 2 rfl) rfl ?_
  refine am_iload_n (q := 6) rfl (am_tab tk_X0_setPerson 3 rfl) rfl ?_
  refine am_iast (q := 7) (a := 45) (n := 34) (Ls_45 hL) (by omega) (by omega) (am_tab tk_X0_setPerson 4 rfl) rfl ?_
  refine am_aload_n (q := 8) rfl (am_tab tk_X0_setPerson 5 rfl) rfl ?_
  refine am_getR (q := 11) (a := 44) (k := 0) (n := 14) (j := 10) (r := some (45)) (Ls_44 hL) (by decide) rfl (Lr_44_10 hL) (by decide) (Or.inl kf_X0_9) (am_tab tk_X0_setPerson 6 rfl) rfl ?_
  refine am_bipush (q := 13) (n := 15) (by decide) rfl (am_tab tk_X0_setPerson 7 rfl) rfl ?_
  refine am_aload_n (q := 14) rfl (am_tab tk_X0_setPerson 8 rfl) rfl ?_
  refine am_getR (q := 17) (a := 44) (k := 0) (n := 14) (j := 9) (r := some (32)) (Ls_44 hL) (by decide) rfl hD.1.2 (by decide) (Or.inl kf_X0_28) (am_tab tk_X0_setPerson 9 rfl) rfl ?_
  refine am_getR (q := 20) (a := 32) (k := 1) (n := 11) (j := 5) (r := some (33)) (Ls_32 hL) (by decide) rfl (Lr_32_5 hL) (by decide) (Or.inr kf_X0_108) (am_tab tk_X0_setPerson 10 rfl) rfl ?_
  refine am_iload_n (q := 21) rfl (am_tab tk_X0_setPerson 11 rfl) rfl ?_
  refine am_iald (q := 22) (a := 33) (n := 8) (x := (B.2.1 96 (4 + p))) (Ls_33 hL) (by omega) (by omega) (by rw [show Int.toNat (p : Int) = p by omega]; exact hD.2.2.2.2.1 p (by omega)) (am_tab tk_X0_setPerson 12 rfl) rfl ?_
  refine am_iast (q := 23) (a := 45) (n := 34) (Ls_45 hL) (by omega) (by omega) (am_tab tk_X0_setPerson 13 rfl) rfl ?_
  refine am_aload_n (q := 24) rfl (am_tab tk_X0_setPerson 14 rfl) rfl ?_
  refine am_getR (q := 27) (a := 44) (k := 0) (n := 14) (j := 10) (r := some (45)) (Ls_44 hL) (by decide) rfl (Lr_44_10 hL) (by decide) (Or.inl kf_X0_9) (am_tab tk_X0_setPerson 15 rfl) rfl ?_
  refine am_iconst (q := 28) (n := 2) (by decide) (am_tab tk_X0_setPerson 16 rfl) rfl ?_
  refine am_aload_n (q := 29) rfl (am_tab tk_X0_setPerson 17 rfl) rfl ?_
  refine am_getR (q := 32) (a := 44) (k := 0) (n := 14) (j := 8) (r := some (3)) (Ls_44 hL) (by decide) rfl hD.1.1 (by decide) (Or.inl kf_X0_24) (am_tab tk_X0_setPerson 18 rfl) rfl ?_
  refine am_getR (q := 35) (a := 3) (k := 8) (n := 17) (j := 9) (r := some (5)) (Ls_3 hL) (by decide) rfl (Lr_3_9 hL) (by decide) (Or.inr kf_X0_149) (am_tab tk_X0_setPerson 19 rfl) rfl ?_
  refine am_iload_n (q := 36) rfl (am_tab tk_X0_setPerson 20 rfl) rfl ?_
  refine am_iald (q := 37) (a := 5) (n := 8) (x := (B.2.1 87 (8 + p))) (Ls_5 hL) (by omega) (by omega) (by rw [show Int.toNat (p : Int) = p by omega]; exact hD.tw.minds p hp) (am_tab tk_X0_setPerson 21 rfl) rfl ?_
  refine am_iast (q := 38) (a := 45) (n := 34) (Ls_45 hL) (by omega) (by omega) (am_tab tk_X0_setPerson 22 rfl) rfl ?_
  refine am_vret rfl (Nat.le_of_ble_eq_true rfl) (Nat.le_of_ble_eq_true rfl) (am_tab tk_X0_setPerson 23 rfl) ?_
  refine hQ _ _ ?_
  exact ⟨rfl, rfl⟩
theorem c_ofThemselves_3_32 (σ B : am_H) (hL : lay σ) (hG : GD B) (hD : DWr 3 32 σ B) (who : Int) (ts : Int) (hw : 0 ≤ who ∧ who < 256) (ht : 0 ≤ ts ∧ ts < 256) (hwp : ∀ q : Nat, q < 8 → tb who q = 1 → q < pN B) : am_met M_X0_ofThemselves [am_r 44, am_i who, am_i ts] σ (fun r σ' => r = some (am_i (mkS (owB B who ts) (pN B))) ∧ frw W_ow σ σ') := by
  refine am_qq (fun Q hQ => ?_)
  refine am_enter (show plainFor yX0_ofThemselves = true by decide +kernel) rfl (Nat.le_of_ble_eq_true rfl) (fun _ _ _ => trivial) ?_
  have h8 : pN B ≤ 8 := by have := hG.R.P; unfold pN; omega
  have hPi := hG.R.P
  have hpn : (pN B : Int) = B.2.1 85 5 := by unfold pN; omega
  have hz := rlB_0 hG.K (wh := 0) (by decide)
  refine am_aload_n (q := 1) rfl (am_tab tk_X0_ofThemselves 0 rfl) rfl ?_
  refine am_getR (q := 4) (a := 44) (k := 0) (n := 14) (j := 8) (r := some (3)) (Ls_44 hL) (by decide) rfl hD.1.1 (by decide) (Or.inl kf_X0_24) (am_tab tk_X0_ofThemselves 1 rfl) rfl ?_
  refine am_getR (q := 7) (a := 3) (k := 8) (n := 17) (j := 15) (r := some (11)) (Ls_3 hL) (by decide) rfl (Lr_3_15 hL) (by decide) (Or.inr kf_X0_116) (am_tab tk_X0_ofThemselves 2 rfl) rfl ?_
  refine am_getI (q := 10) (a := 11) (k := 5) (n := 2) (j := 1) (x := ((rlB B 0).length : Int)) (Ls_11 hL) (by decide) rfl hD.tw.thinks.size (by decide) (Or.inr kf_X0_120) (am_tab tk_X0_ofThemselves 3 rfl) rfl ?_
  refine am_if_ne (q := 13) (t := 17) (am_tab tk_X0_ofThemselves 4 rfl) (by decide) rfl (fun h10 => ?_) (fun h10 => ?_)
  · have hrl : ¬ B.2.1 93 2 = -1 := fun h => h10 (hz.mpr h)
    have hrk := hG.K.ok (wh := 0) (by decide) hrl
    have hno : 47 ∈ rlB B 0 → ¬ (47 : Int) = 47 := fun h => by
      rcases hG.O with h2 | h2
      · exact absurd h2 hrl
      · exact h2 47 (by rw [← hrk.2]; exact h)
    refine am_iconst (q := 18) (n := 0) (by decide) (am_tab tk_X0_ofThemselves 9 rfl) rfl ?_
    refine am_istore_n (q := 19) (by decide) (ls2 := [(3, am_i 0), (0, am_r 44), (1, am_i who), (2, am_i ts)]) rfl (am_tab tk_X0_ofThemselves 10 rfl) rfl ?_
    refine am_iconst (q := 20) (n := 0) (by decide) (am_tab tk_X0_ofThemselves 11 rfl) rfl ?_
    refine am_istore (q := 22) (by decide) (ls2 := [(4, am_i 0), (3, am_i 0), (0, am_r 44), (1, am_i who), (2, am_i ts)]) rfl (am_tab tk_X0_ofThemselves 12 rfl) rfl ?_
    have L22 : ∀ (n22 : Nat) (p : Nat) (T : am_H), 8 - p < n22 → frw W_ow σ T → p ≤ pN B → am_wp M_X0_ofThemselves Q 0 0 22 [(4, am_i ((p : Int))), (3, am_i (mkS (owB B who ts) p)), (0, am_r 44), (1, am_i who), (2, am_i ts)] [] T := by
      intro n22
      induction n22 with
      | zero => intro p T hn22; exact absurd hn22 (Nat.not_lt_zero _)
      | succ n22 ih22 =>
        intro p T hn22 hF hp
        have hLT : lay T := hF.L hL
        have hDT := hD.fr (W_ow_d hF) (by decide) (by decide)
        refine am_iload (q := 24) rfl (am_tab tk_X0_ofThemselves 13 rfl) rfl ?_
        refine am_aload_n (q := 25) rfl (am_tab tk_X0_ofThemselves 14 rfl) rfl ?_
        refine am_getR (q := 28) (a := 44) (k := 0) (n := 14) (j := 8) (r := some (3)) (Ls_44 hLT) (by decide) rfl hDT.1.1 (by decide) (Or.inl kf_X0_24) (am_tab tk_X0_ofThemselves 15 rfl) rfl ?_
        refine am_getI (q := 31) (a := 3) (k := 8) (n := 17) (j := 2) (x := (B.2.1 85 5)) (Ls_3 hLT) (by decide) rfl hDT.tw.people (by decide) (Or.inr kf_X0_102) (am_tab tk_X0_ofThemselves 16 rfl) rfl ?_
        refine am_icmp_ge (q := 34) (t := 86) (am_tab tk_X0_ofThemselves 17 rfl) (by decide) rfl (fun h31 => ?_) (fun h31 => ?_)
        · refine am_iload_n (q := 87) rfl (am_tab tk_X0_ofThemselves 44 rfl) rfl ?_
          refine am_iret (Or.inl rfl) (Nat.le_of_ble_eq_true rfl) (Nat.le_of_ble_eq_true rfl) (am_tab tk_X0_ofThemselves 45 rfl) ?_
          refine hQ _ _ ?_
          rw [show p = pN B by omega]
          exact ⟨rfl, hF⟩
        · have hpp : p < pN B := by omega
          refine am_iload_n (q := 35) rfl (am_tab tk_X0_ofThemselves 18 rfl) rfl ?_
          refine am_iload (q := 37) rfl (am_tab tk_X0_ofThemselves 19 rfl) rfl ?_
          refine am_callS0 (q := 40) (me2 := M_X9_bit) (As := [am_i who, am_i ((p : Int))]) (rest := []) (out := [am_i (tb who (p : Int))]) (c_bit T who (p : Int) (hw) (by omega)) ⟨rfl, rfl⟩ ⟨Or.inr km_X0_105, kc_X9_bit, kn_X9, kd_X9_bit, ⟨(Nat.le_of_ble_eq_true rfl), (Nat.le_of_ble_eq_true rfl)⟩, ⟨(Nat.le_of_ble_eq_true rfl), (Nat.le_of_ble_eq_true rfl)⟩, (Nat.le_of_ble_eq_true rfl)⟩ ki_X9_bit rfl rfl (am_tab tk_X0_ofThemselves 20 rfl) rfl ?_
          refine am_iconst (q := 41) (n := 1) (by decide) (am_tab tk_X0_ofThemselves 21 rfl) rfl ?_
          refine am_icmp_ne (q := 44) (t := 80) (am_tab tk_X0_ofThemselves 22 rfl) (by decide) rfl (fun h41 => ?_) (fun h41 => ?_)
          · refine am_iinc (q := 83) rfl (by omega) (by decide) (ls2 := [(4, am_i (((p : Int) + 1))), (3, am_i (mkS (owB B who ts) p)), (0, am_r 44), (1, am_i who), (2, am_i ts)]) rfl (am_tab tk_X0_ofThemselves 42 rfl) rfl ?_
            refine am_goto (t := 22) (am_tab tk_X0_ofThemselves 43 rfl) (by decide) ?_
            have he : mkS (owB B who ts) (p + 1) = mkS (owB B who ts) p := (mkS_no _ (by unfold owB; rw [decide_eq_true_eq]; exact fun h => h41 h.1)).symm
            exact am_less (by intro q hq; simp only [List.mem_cons, List.not_mem_nil, or_false] at hq; rcases hq with rfl | rfl | rfl | rfl | rfl <;> simp [he]) (ih22 (p + 1) T (by omega) hF (by omega))
          · refine am_aload_n (q := 45) rfl (am_tab tk_X0_ofThemselves 23 rfl) rfl ?_
            refine am_iload (q := 47) rfl (am_tab tk_X0_ofThemselves 24 rfl) rfl ?_
            refine am_iload_n (q := 48) rfl (am_tab tk_X0_ofThemselves 25 rfl) rfl ?_
            refine am_iload (q := 50) rfl (am_tab tk_X0_ofThemselves 26 rfl) rfl ?_
            refine am_callS0 (q := 53) (me2 := M_X9_bit) (As := [am_i ts, am_i ((p : Int))]) (rest := [am_i ((p : Int)), am_r 44]) (out := [am_i (tb ts (p : Int)), am_i ((p : Int)), am_r 44]) (c_bit T ts (p : Int) (ht) (by omega)) ⟨rfl, rfl⟩ ⟨Or.inr km_X0_105, kc_X9_bit, kn_X9, kd_X9_bit, ⟨(Nat.le_of_ble_eq_true rfl), (Nat.le_of_ble_eq_true rfl)⟩, ⟨(Nat.le_of_ble_eq_true rfl), (Nat.le_of_ble_eq_true rfl)⟩, (Nat.le_of_ble_eq_true rfl)⟩ ki_X9_bit rfl rfl (am_tab tk_X0_ofThemselves 27 rfl) rfl ?_
            refine am_callV0 (q := 56) (me2 := M_X0_setPerson) (b := 44) (kb := 0) (nb := 14) (As := [am_i ((p : Int)), am_i (tb ts (p : Int))]) (rest := []) (out := []) (c_setPerson_3_32 T B hLT hG hDT p (tb ts (p : Int)) hpp) ⟨rfl, rfl⟩ (Ls_44 hLT) (by decide) ⟨Or.inl km_X0_125, kc_X0_setPerson, kn_X0, kd_X0_setPerson, ⟨(Nat.le_of_ble_eq_true rfl), (Nat.le_of_ble_eq_true rfl)⟩, ⟨(Nat.le_of_ble_eq_true rfl), (Nat.le_of_ble_eq_true rfl)⟩, (Nat.le_of_ble_eq_true rfl)⟩ ki_X0_setPerson ks_X0_setPerson rfl rfl (am_tab tk_X0_ofThemselves 28 rfl) rfl ?_
            refine am_iload_n (q := 57) rfl (am_tab tk_X0_ofThemselves 29 rfl) rfl ?_
            refine am_aload_n (q := 58) rfl (am_tab tk_X0_ofThemselves 30 rfl) rfl ?_
            refine am_getR (q := 61) (a := 44) (k := 0) (n := 14) (j := 8) (r := some (3)) (Ls_44 hLT) (by decide) rfl hDT.1.1 (by decide) (Or.inl kf_X0_24) (am_tab tk_X0_ofThemselves 31 rfl) rfl ?_
            refine am_getR (q := 64) (a := 3) (k := 8) (n := 17) (j := 15) (r := some (11)) (Ls_3 hLT) (by decide) rfl (Lr_3_15 hLT) (by decide) (Or.inr kf_X0_116) (am_tab tk_X0_ofThemselves 32 rfl) rfl ?_
            refine am_aload_n (q := 65) rfl (am_tab tk_X0_ofThemselves 33 rfl) rfl ?_
            refine am_getR (q := 68) (a := 44) (k := 0) (n := 14) (j := 10) (r := some (45)) (Ls_44 hLT) (by decide) rfl (Lr_44_10 hLT) (by decide) (Or.inl kf_X0_9) (am_tab tk_X0_ofThemselves 34 rfl) rfl ?_
            refine am_aload_n (q := 69) rfl (am_tab tk_X0_ofThemselves 35 rfl) rfl ?_
            refine am_getR (q := 72) (a := 44) (k := 0) (n := 14) (j := 11) (r := some (46)) (Ls_44 hLT) (by decide) rfl (Lr_44_11 hLT) (by decide) (Or.inl kf_X0_15) (am_tab tk_X0_ofThemselves 36 rfl) rfl ?_
            refine am_callVr (q := 75) (me2 := M_X5_valueOf) (b := 11) (kb := 5) (nb := 2) (As := [am_r 45, am_r 46]) (rest := [am_i (mkS (owB B who ts) p)]) (c_rule (am_setN (am_setN (am_setN T 45 4 (tb ts (p : Int))) 45 15 (B.2.1 96 (4 + p))) 45 2 (B.2.1 87 (8 + p))) hLT (RLr.fr (W := W_dw) hDT.tw.thinks ((((frw.refl W_dw T).setN (by unfold W_dw; omega)).setN (by unfold W_dw; omega)).setN (by unfold W_dw; omega)) (by unfold W_dw; omega) (by unfold W_dw; omega)) (by decide) hrk.1 (pe B ts (ffM B) (fzM B) 0 p) (pe_r hG (by omega) (by decide)) (prt hDT.2.2.1.1 hDT.2.2.1.2.1 hDT.2.2.1.2.2.1 hDT.2.2.1.2.2.2 rfl rfl rfl (fun h => absurd rfl (hno h)))) ⟨rfl, rfl⟩ (Ls_11 hLT) (by decide) ⟨Or.inr km_X0_129, kc_X5_valueOf, kn_X5, kd_X5_valueOf, ⟨(Nat.le_of_ble_eq_true rfl), (Nat.le_of_ble_eq_true rfl)⟩, ⟨(Nat.le_of_ble_eq_true rfl), (Nat.le_of_ble_eq_true rfl)⟩, (Nat.le_of_ble_eq_true rfl)⟩ ki_X5_valueOf ks_X5_valueOf rfl (am_tab tk_X0_ofThemselves 37 rfl) rfl ?_
            rintro r T2 ⟨hr, hF2⟩
            have hr2 : r = some (am_i (tdE B ts (ffM B) (fzM B) 0 0 p)) := by rw [hr, hrk.2]; rfl
            subst hr2
            have hLT2 : lay T2 := hF2.L hLT
            have hF3 : frw W_ow σ T2 := (((hF.setN (by unfold W_ow; omega)).setN (by unfold W_ow; omega)).setN (by unfold W_ow; omega)).trans (hF2.mono (by unfold W_ow W_46; omega))
            refine am_st (st2 := [am_i (tdE B ts (ffM B) (fzM B) 0 0 p), am_i (mkS (owB B who ts) p)]) rfl ?_
            have htd : tdE B ts (ffM B) (fzM B) 0 0 p = 0 ∨ tdE B ts (ffM B) (fzM B) 0 0 p = 1 := by
              have h9 := hrk.1
              rw [hrk.2] at h9
              exact evL_01 (pe_r hG (by omega) (by decide)) _ _ _ (show tyOK [] [] from trivial) h9
            refine am_iload (q := 77) rfl (am_tab tk_X0_ofThemselves 38 rfl) rfl ?_
            refine am_ishl (q := 78) (am_tab tk_X0_ofThemselves 39 rfl) rfl ?_
            refine am_ior (q := 79) (am_tab tk_X0_ofThemselves 40 rfl) rfl ?_
            refine am_istore_n (q := 80) (by decide) (ls2 := [(3, am_i ((ao_or (mkS (owB B who ts) p) (ao_shl (tdE B ts (ffM B) (fzM B) 0 0 p) (p : Int))))), (4, am_i ((p : Int))), (0, am_r 44), (1, am_i who), (2, am_i ts)]) rfl (am_tab tk_X0_ofThemselves 41 rfl) rfl ?_
            refine am_iinc (q := 83) rfl (by omega) (by decide) (ls2 := [(4, am_i (((p : Int) + 1))), (3, am_i ((ao_or (mkS (owB B who ts) p) (ao_shl (tdE B ts (ffM B) (fzM B) 0 0 p) (p : Int))))), (0, am_r 44), (1, am_i who), (2, am_i ts)]) rfl (am_tab tk_X0_ofThemselves 42 rfl) rfl ?_
            refine am_goto (t := 22) (am_tab tk_X0_ofThemselves 43 rfl) (by decide) ?_
            have he : mkS (owB B who ts) (p + 1) = ao_or (mkS (owB B who ts) p) (ao_shl (tdE B ts (ffM B) (fzM B) 0 0 p) (p : Int)) := by
              rcases htd with h0 | h0
              · rw [h0, or_sh0 (mkS_256 _ (by omega)) (by omega)]
                exact (mkS_no _ (by unfold owB; rw [decide_eq_true_eq, if_neg hrl]; exact fun h => absurd (h.2.symm.trans h0) (by decide))).symm
              · rw [h0]
                exact (mkS_or _ (by omega) (by unfold owB; rw [decide_eq_true_eq, if_neg hrl]; exact ⟨h41, h0⟩)).symm
            exact am_less (by intro q hq; simp only [List.mem_cons, List.not_mem_nil, or_false] at hq; rcases hq with rfl | rfl | rfl | rfl | rfl <;> simp [he]) (ih22 (p + 1) T2 (by omega) hF3 (by omega))
    refine am_less (by intro q hq; simp only [List.mem_cons, List.not_mem_nil, or_false] at hq; rcases hq with rfl | rfl | rfl | rfl | rfl <;> simp [mkS]) (L22 (_ + 1) 0 σ (by exact Nat.lt_succ_self _) (frw.refl _ σ) (Nat.zero_le _))
  · refine am_iload_n (q := 14) rfl (am_tab tk_X0_ofThemselves 5 rfl) rfl ?_
    refine am_iload_n (q := 15) rfl (am_tab tk_X0_ofThemselves 6 rfl) rfl ?_
    refine am_iand (q := 16) (am_tab tk_X0_ofThemselves 7 rfl) rfl ?_
    refine am_iret (Or.inl rfl) (Nat.le_of_ble_eq_true rfl) (Nat.le_of_ble_eq_true rfl) (am_tab tk_X0_ofThemselves 8 rfl) ?_
    refine hQ _ _ ?_
    refine ⟨congrArg (fun z => some (am_i z)) ?_, frw.refl _ σ⟩
    have h0 := hz.mp h10
    refine mkS_ext (and_tb hw ht).1 h8 (fun q hq => ?_)
    rw [(and_tb hw ht).2 q]
    by_cases h1 : tb who q = 1 ∧ tb ts q = 1
    · rw [if_pos h1, if_pos ⟨hwp q hq h1.1, by unfold owB; rw [decide_eq_true_eq, if_pos h0]; exact h1⟩]
    · rw [if_neg h1, if_neg]
      rintro ⟨_, h3⟩
      unfold owB at h3
      rw [decide_eq_true_eq, if_pos h0] at h3
      exact h1 h3
theorem c_setPerson_3_37 (σ B : am_H) (hL : lay σ) (hG : GD B) (hD : DWr 3 37 σ B) (p : Nat) (x : Int) (hp : p < pN B) : am_met M_X0_setPerson [am_r 44, am_i ((p : Int)), am_i x] σ (fun r σ' => r = none ∧ σ' = am_setN (am_setN (am_setN σ 45 4 x) 45 15 (B.2.1 96 (4 + p))) 45 2 (B.2.1 87 (8 + p))) := by
  refine am_qq (fun Q hQ => ?_)
  refine am_enter (show plainFor yX0_setPerson = true by decide +kernel) rfl (Nat.le_of_ble_eq_true rfl) (fun _ _ _ => trivial) ?_
  have h8 : pN B ≤ 8 := by have := hG.R.P; unfold pN; omega
  refine am_aload_n (q := 1) rfl (am_tab tk_X0_setPerson 0 rfl) rfl ?_
  refine am_getR (q := 4) (a := 44) (k := 0) (n := 14) (j := 10) (r := some (45)) (Ls_44 hL) (by decide) rfl (Lr_44_10 hL) (by decide) (Or.inl kf_X0_9) (am_tab tk_X0_setPerson 1 rfl) rfl ?_
  refine am_iconst (q := 5) (n := 4) (by decide) (am_tab tk_X0_setPerson 2 rfl) rfl ?_
  refine am_iload_n (q := 6) rfl (am_tab tk_X0_setPerson 3 rfl) rfl ?_
  refine am_iast (q := 7) (a := 45) (n := 34) (Ls_45 hL) (by omega) (by omega) (am_tab tk_X0_setPerson 4 rfl) rfl ?_
  refine am_aload_n (q := 8) rfl (am_tab tk_X0_setPerson 5 rfl) rfl ?_
  refine am_getR (q := 11) (a := 44) (k := 0) (n := 14) (j := 10) (r := some (45)) (Ls_44 hL) (by decide) rfl (Lr_44_10 hL) (by decide) (Or.inl kf_X0_9) (am_tab tk_X0_setPerson 6 rfl) rfl ?_
  refine am_bipush (q := 13) (n := 15) (by decide) rfl (am_tab tk_X0_setPerson 7 rfl) rfl ?_
  refine am_aload_n (q := 14) rfl (am_tab tk_X0_setPerson 8 rfl) rfl ?_
  refine am_getR (q := 17) (a := 44) (k := 0) (n := 14) (j := 9) (r := some (37)) (Ls_44 hL) (by decide) rfl hD.1.2 (by decide) (Or.inl kf_X0_28) (am_tab tk_X0_setPerson 9 rfl) rfl ?_
  refine am_getR (q := 20) (a := 37) (k := 1) (n := 11) (j := 5) (r := some (38)) (Ls_37 hL) (by decide) rfl (Lr_37_5 hL) (by decide) (Or.inr kf_X0_108) (am_tab tk_X0_setPerson 10 rfl) rfl ?_
  refine am_iload_n (q := 21) rfl (am_tab tk_X0_setPerson 11 rfl) rfl ?_
  refine am_iald (q := 22) (a := 38) (n := 8) (x := (B.2.1 96 (4 + p))) (Ls_38 hL) (by omega) (by omega) (by rw [show Int.toNat (p : Int) = p by omega]; exact hD.2.2.2.2.1 p (by omega)) (am_tab tk_X0_setPerson 12 rfl) rfl ?_
  refine am_iast (q := 23) (a := 45) (n := 34) (Ls_45 hL) (by omega) (by omega) (am_tab tk_X0_setPerson 13 rfl) rfl ?_
  refine am_aload_n (q := 24) rfl (am_tab tk_X0_setPerson 14 rfl) rfl ?_
  refine am_getR (q := 27) (a := 44) (k := 0) (n := 14) (j := 10) (r := some (45)) (Ls_44 hL) (by decide) rfl (Lr_44_10 hL) (by decide) (Or.inl kf_X0_9) (am_tab tk_X0_setPerson 15 rfl) rfl ?_
  refine am_iconst (q := 28) (n := 2) (by decide) (am_tab tk_X0_setPerson 16 rfl) rfl ?_
  refine am_aload_n (q := 29) rfl (am_tab tk_X0_setPerson 17 rfl) rfl ?_
  refine am_getR (q := 32) (a := 44) (k := 0) (n := 14) (j := 8) (r := some (3)) (Ls_44 hL) (by decide) rfl hD.1.1 (by decide) (Or.inl kf_X0_24) (am_tab tk_X0_setPerson 18 rfl) rfl ?_
  refine am_getR (q := 35) (a := 3) (k := 8) (n := 17) (j := 9) (r := some (5)) (Ls_3 hL) (by decide) rfl (Lr_3_9 hL) (by decide) (Or.inr kf_X0_149) (am_tab tk_X0_setPerson 19 rfl) rfl ?_
  refine am_iload_n (q := 36) rfl (am_tab tk_X0_setPerson 20 rfl) rfl ?_
  refine am_iald (q := 37) (a := 5) (n := 8) (x := (B.2.1 87 (8 + p))) (Ls_5 hL) (by omega) (by omega) (by rw [show Int.toNat (p : Int) = p by omega]; exact hD.tw.minds p hp) (am_tab tk_X0_setPerson 21 rfl) rfl ?_
  refine am_iast (q := 38) (a := 45) (n := 34) (Ls_45 hL) (by omega) (by omega) (am_tab tk_X0_setPerson 22 rfl) rfl ?_
  refine am_vret rfl (Nat.le_of_ble_eq_true rfl) (Nat.le_of_ble_eq_true rfl) (am_tab tk_X0_setPerson 23 rfl) ?_
  refine hQ _ _ ?_
  exact ⟨rfl, rfl⟩
theorem c_ofThemselves_3_37 (σ B : am_H) (hL : lay σ) (hG : GD B) (hD : DWr 3 37 σ B) (who : Int) (ts : Int) (hw : 0 ≤ who ∧ who < 256) (ht : 0 ≤ ts ∧ ts < 256) (hwp : ∀ q : Nat, q < 8 → tb who q = 1 → q < pN B) : am_met M_X0_ofThemselves [am_r 44, am_i who, am_i ts] σ (fun r σ' => r = some (am_i (mkS (owB B who ts) (pN B))) ∧ frw W_ow σ σ') := by
  refine am_qq (fun Q hQ => ?_)
  refine am_enter (show plainFor yX0_ofThemselves = true by decide +kernel) rfl (Nat.le_of_ble_eq_true rfl) (fun _ _ _ => trivial) ?_
  have h8 : pN B ≤ 8 := by have := hG.R.P; unfold pN; omega
  have hPi := hG.R.P
  have hpn : (pN B : Int) = B.2.1 85 5 := by unfold pN; omega
  have hz := rlB_0 hG.K (wh := 0) (by decide)
  refine am_aload_n (q := 1) rfl (am_tab tk_X0_ofThemselves 0 rfl) rfl ?_
  refine am_getR (q := 4) (a := 44) (k := 0) (n := 14) (j := 8) (r := some (3)) (Ls_44 hL) (by decide) rfl hD.1.1 (by decide) (Or.inl kf_X0_24) (am_tab tk_X0_ofThemselves 1 rfl) rfl ?_
  refine am_getR (q := 7) (a := 3) (k := 8) (n := 17) (j := 15) (r := some (11)) (Ls_3 hL) (by decide) rfl (Lr_3_15 hL) (by decide) (Or.inr kf_X0_116) (am_tab tk_X0_ofThemselves 2 rfl) rfl ?_
  refine am_getI (q := 10) (a := 11) (k := 5) (n := 2) (j := 1) (x := ((rlB B 0).length : Int)) (Ls_11 hL) (by decide) rfl hD.tw.thinks.size (by decide) (Or.inr kf_X0_120) (am_tab tk_X0_ofThemselves 3 rfl) rfl ?_
  refine am_if_ne (q := 13) (t := 17) (am_tab tk_X0_ofThemselves 4 rfl) (by decide) rfl (fun h10 => ?_) (fun h10 => ?_)
  · have hrl : ¬ B.2.1 93 2 = -1 := fun h => h10 (hz.mpr h)
    have hrk := hG.K.ok (wh := 0) (by decide) hrl
    have hno : 47 ∈ rlB B 0 → ¬ (47 : Int) = 47 := fun h => by
      rcases hG.O with h2 | h2
      · exact absurd h2 hrl
      · exact h2 47 (by rw [← hrk.2]; exact h)
    refine am_iconst (q := 18) (n := 0) (by decide) (am_tab tk_X0_ofThemselves 9 rfl) rfl ?_
    refine am_istore_n (q := 19) (by decide) (ls2 := [(3, am_i 0), (0, am_r 44), (1, am_i who), (2, am_i ts)]) rfl (am_tab tk_X0_ofThemselves 10 rfl) rfl ?_
    refine am_iconst (q := 20) (n := 0) (by decide) (am_tab tk_X0_ofThemselves 11 rfl) rfl ?_
    refine am_istore (q := 22) (by decide) (ls2 := [(4, am_i 0), (3, am_i 0), (0, am_r 44), (1, am_i who), (2, am_i ts)]) rfl (am_tab tk_X0_ofThemselves 12 rfl) rfl ?_
    have L22 : ∀ (n22 : Nat) (p : Nat) (T : am_H), 8 - p < n22 → frw W_ow σ T → p ≤ pN B → am_wp M_X0_ofThemselves Q 0 0 22 [(4, am_i ((p : Int))), (3, am_i (mkS (owB B who ts) p)), (0, am_r 44), (1, am_i who), (2, am_i ts)] [] T := by
      intro n22
      induction n22 with
      | zero => intro p T hn22; exact absurd hn22 (Nat.not_lt_zero _)
      | succ n22 ih22 =>
        intro p T hn22 hF hp
        have hLT : lay T := hF.L hL
        have hDT := hD.fr (W_ow_d hF) (by decide) (by decide)
        refine am_iload (q := 24) rfl (am_tab tk_X0_ofThemselves 13 rfl) rfl ?_
        refine am_aload_n (q := 25) rfl (am_tab tk_X0_ofThemselves 14 rfl) rfl ?_
        refine am_getR (q := 28) (a := 44) (k := 0) (n := 14) (j := 8) (r := some (3)) (Ls_44 hLT) (by decide) rfl hDT.1.1 (by decide) (Or.inl kf_X0_24) (am_tab tk_X0_ofThemselves 15 rfl) rfl ?_
        refine am_getI (q := 31) (a := 3) (k := 8) (n := 17) (j := 2) (x := (B.2.1 85 5)) (Ls_3 hLT) (by decide) rfl hDT.tw.people (by decide) (Or.inr kf_X0_102) (am_tab tk_X0_ofThemselves 16 rfl) rfl ?_
        refine am_icmp_ge (q := 34) (t := 86) (am_tab tk_X0_ofThemselves 17 rfl) (by decide) rfl (fun h31 => ?_) (fun h31 => ?_)
        · refine am_iload_n (q := 87) rfl (am_tab tk_X0_ofThemselves 44 rfl) rfl ?_
          refine am_iret (Or.inl rfl) (Nat.le_of_ble_eq_true rfl) (Nat.le_of_ble_eq_true rfl) (am_tab tk_X0_ofThemselves 45 rfl) ?_
          refine hQ _ _ ?_
          rw [show p = pN B by omega]
          exact ⟨rfl, hF⟩
        · have hpp : p < pN B := by omega
          refine am_iload_n (q := 35) rfl (am_tab tk_X0_ofThemselves 18 rfl) rfl ?_
          refine am_iload (q := 37) rfl (am_tab tk_X0_ofThemselves 19 rfl) rfl ?_
          refine am_callS0 (q := 40) (me2 := M_X9_bit) (As := [am_i who, am_i ((p : Int))]) (rest := []) (out := [am_i (tb who (p : Int))]) (c_bit T who (p : Int) (hw) (by omega)) ⟨rfl, rfl⟩ ⟨Or.inr km_X0_105, kc_X9_bit, kn_X9, kd_X9_bit, ⟨(Nat.le_of_ble_eq_true rfl), (Nat.le_of_ble_eq_true rfl)⟩, ⟨(Nat.le_of_ble_eq_true rfl), (Nat.le_of_ble_eq_true rfl)⟩, (Nat.le_of_ble_eq_true rfl)⟩ ki_X9_bit rfl rfl (am_tab tk_X0_ofThemselves 20 rfl) rfl ?_
          refine am_iconst (q := 41) (n := 1) (by decide) (am_tab tk_X0_ofThemselves 21 rfl) rfl ?_
          refine am_icmp_ne (q := 44) (t := 80) (am_tab tk_X0_ofThemselves 22 rfl) (by decide) rfl (fun h41 => ?_) (fun h41 => ?_)
          · refine am_iinc (q := 83) rfl (by omega) (by decide) (ls2 := [(4, am_i (((p : Int) + 1))), (3, am_i (mkS (owB B who ts) p)), (0, am_r 44), (1, am_i who), (2, am_i ts)]) rfl (am_tab tk_X0_ofThemselves 42 rfl) rfl ?_
            refine am_goto (t := 22) (am_tab tk_X0_ofThemselves 43 rfl) (by decide) ?_
            have he : mkS (owB B who ts) (p + 1) = mkS (owB B who ts) p := (mkS_no _ (by unfold owB; rw [decide_eq_true_eq]; exact fun h => h41 h.1)).symm
            exact am_less (by intro q hq; simp only [List.mem_cons, List.not_mem_nil, or_false] at hq; rcases hq with rfl | rfl | rfl | rfl | rfl <;> simp [he]) (ih22 (p + 1) T (by omega) hF (by omega))
          · refine am_aload_n (q := 45) rfl (am_tab tk_X0_ofThemselves 23 rfl) rfl ?_
            refine am_iload (q := 47) rfl (am_tab tk_X0_ofThemselves 24 rfl) rfl ?_
            refine am_iload_n (q := 48) rfl (am_tab tk_X0_ofThemselves 25 rfl) rfl ?_
            refine am_iload (q := 50) rfl (am_tab tk_X0_ofThemselves 26 rfl) rfl ?_
            refine am_callS0 (q := 53) (me2 := M_X9_bit) (As := [am_i ts, am_i ((p : Int))]) (rest := [am_i ((p : Int)), am_r 44]) (out := [am_i (tb ts (p : Int)), am_i ((p : Int)), am_r 44]) (c_bit T ts (p : Int) (ht) (by omega)) ⟨rfl, rfl⟩ ⟨Or.inr km_X0_105, kc_X9_bit, kn_X9, kd_X9_bit, ⟨(Nat.le_of_ble_eq_true rfl), (Nat.le_of_ble_eq_true rfl)⟩, ⟨(Nat.le_of_ble_eq_true rfl), (Nat.le_of_ble_eq_true rfl)⟩, (Nat.le_of_ble_eq_true rfl)⟩ ki_X9_bit rfl rfl (am_tab tk_X0_ofThemselves 27 rfl) rfl ?_
            refine am_callV0 (q := 56) (me2 := M_X0_setPerson) (b := 44) (kb := 0) (nb := 14) (As := [am_i ((p : Int)), am_i (tb ts (p : Int))]) (rest := []) (out := []) (c_setPerson_3_37 T B hLT hG hDT p (tb ts (p : Int)) hpp) ⟨rfl, rfl⟩ (Ls_44 hLT) (by decide) ⟨Or.inl km_X0_125, kc_X0_setPerson, kn_X0, kd_X0_setPerson, ⟨(Nat.le_of_ble_eq_true rfl), (Nat.le_of_ble_eq_true rfl)⟩, ⟨(Nat.le_of_ble_eq_true rfl), (Nat.le_of_ble_eq_true rfl)⟩, (Nat.le_of_ble_eq_true rfl)⟩ ki_X0_setPerson ks_X0_setPerson rfl rfl (am_tab tk_X0_ofThemselves 28 rfl) rfl ?_
            refine am_iload_n (q := 57) rfl (am_tab tk_X0_ofThemselves 29 rfl) rfl ?_
            refine am_aload_n (q := 58) rfl (am_tab tk_X0_ofThemselves 30 rfl) rfl ?_
            refine am_getR (q := 61) (a := 44) (k := 0) (n := 14) (j := 8) (r := some (3)) (Ls_44 hLT) (by decide) rfl hDT.1.1 (by decide) (Or.inl kf_X0_24) (am_tab tk_X0_ofThemselves 31 rfl) rfl ?_
            refine am_getR (q := 64) (a := 3) (k := 8) (n := 17) (j := 15) (r := some (11)) (Ls_3 hLT) (by decide) rfl (Lr_3_15 hLT) (by decide) (Or.inr kf_X0_116) (am_tab tk_X0_ofThemselves 32 rfl) rfl ?_
            refine am_aload_n (q := 65) rfl (am_tab tk_X0_ofThemselves 33 rfl) rfl ?_
            refine am_getR (q := 68) (a := 44) (k := 0) (n := 14) (j := 10) (r := some (45)) (Ls_44 hLT) (by decide) rfl (Lr_44_10 hLT) (by decide) (Or.inl kf_X0_9) (am_tab tk_X0_ofThemselves 34 rfl) rfl ?_
            refine am_aload_n (q := 69) rfl (am_tab tk_X0_ofThemselves 35 rfl) rfl ?_
            refine am_getR (q := 72) (a := 44) (k := 0) (n := 14) (j := 11) (r := some (46)) (Ls_44 hLT) (by decide) rfl (Lr_44_11 hLT) (by decide) (Or.inl kf_X0_15) (am_tab tk_X0_ofThemselves 36 rfl) rfl ?_
            refine am_callVr (q := 75) (me2 := M_X5_valueOf) (b := 11) (kb := 5) (nb := 2) (As := [am_r 45, am_r 46]) (rest := [am_i (mkS (owB B who ts) p)]) (c_rule (am_setN (am_setN (am_setN T 45 4 (tb ts (p : Int))) 45 15 (B.2.1 96 (4 + p))) 45 2 (B.2.1 87 (8 + p))) hLT (RLr.fr (W := W_dw) hDT.tw.thinks ((((frw.refl W_dw T).setN (by unfold W_dw; omega)).setN (by unfold W_dw; omega)).setN (by unfold W_dw; omega)) (by unfold W_dw; omega) (by unfold W_dw; omega)) (by decide) hrk.1 (pe B ts (ffM B) (fzM B) 0 p) (pe_r hG (by omega) (by decide)) (prt hDT.2.2.1.1 hDT.2.2.1.2.1 hDT.2.2.1.2.2.1 hDT.2.2.1.2.2.2 rfl rfl rfl (fun h => absurd rfl (hno h)))) ⟨rfl, rfl⟩ (Ls_11 hLT) (by decide) ⟨Or.inr km_X0_129, kc_X5_valueOf, kn_X5, kd_X5_valueOf, ⟨(Nat.le_of_ble_eq_true rfl), (Nat.le_of_ble_eq_true rfl)⟩, ⟨(Nat.le_of_ble_eq_true rfl), (Nat.le_of_ble_eq_true rfl)⟩, (Nat.le_of_ble_eq_true rfl)⟩ ki_X5_valueOf ks_X5_valueOf rfl (am_tab tk_X0_ofThemselves 37 rfl) rfl ?_
            rintro r T2 ⟨hr, hF2⟩
            have hr2 : r = some (am_i (tdE B ts (ffM B) (fzM B) 0 0 p)) := by rw [hr, hrk.2]; rfl
            subst hr2
            have hLT2 : lay T2 := hF2.L hLT
            have hF3 : frw W_ow σ T2 := (((hF.setN (by unfold W_ow; omega)).setN (by unfold W_ow; omega)).setN (by unfold W_ow; omega)).trans (hF2.mono (by unfold W_ow W_46; omega))
            refine am_st (st2 := [am_i (tdE B ts (ffM B) (fzM B) 0 0 p), am_i (mkS (owB B who ts) p)]) rfl ?_
            have htd : tdE B ts (ffM B) (fzM B) 0 0 p = 0 ∨ tdE B ts (ffM B) (fzM B) 0 0 p = 1 := by
              have h9 := hrk.1
              rw [hrk.2] at h9
              exact evL_01 (pe_r hG (by omega) (by decide)) _ _ _ (show tyOK [] [] from trivial) h9
            refine am_iload (q := 77) rfl (am_tab tk_X0_ofThemselves 38 rfl) rfl ?_
            refine am_ishl (q := 78) (am_tab tk_X0_ofThemselves 39 rfl) rfl ?_
            refine am_ior (q := 79) (am_tab tk_X0_ofThemselves 40 rfl) rfl ?_
            refine am_istore_n (q := 80) (by decide) (ls2 := [(3, am_i ((ao_or (mkS (owB B who ts) p) (ao_shl (tdE B ts (ffM B) (fzM B) 0 0 p) (p : Int))))), (4, am_i ((p : Int))), (0, am_r 44), (1, am_i who), (2, am_i ts)]) rfl (am_tab tk_X0_ofThemselves 41 rfl) rfl ?_
            refine am_iinc (q := 83) rfl (by omega) (by decide) (ls2 := [(4, am_i (((p : Int) + 1))), (3, am_i ((ao_or (mkS (owB B who ts) p) (ao_shl (tdE B ts (ffM B) (fzM B) 0 0 p) (p : Int))))), (0, am_r 44), (1, am_i who), (2, am_i ts)]) rfl (am_tab tk_X0_ofThemselves 42 rfl) rfl ?_
            refine am_goto (t := 22) (am_tab tk_X0_ofThemselves 43 rfl) (by decide) ?_
            have he : mkS (owB B who ts) (p + 1) = ao_or (mkS (owB B who ts) p) (ao_shl (tdE B ts (ffM B) (fzM B) 0 0 p) (p : Int)) := by
              rcases htd with h0 | h0
              · rw [h0, or_sh0 (mkS_256 _ (by omega)) (by omega)]
                exact (mkS_no _ (by unfold owB; rw [decide_eq_true_eq, if_neg hrl]; exact fun h => absurd (h.2.symm.trans h0) (by decide))).symm
              · rw [h0]
                exact (mkS_or _ (by omega) (by unfold owB; rw [decide_eq_true_eq, if_neg hrl]; exact ⟨h41, h0⟩)).symm
            exact am_less (by intro q hq; simp only [List.mem_cons, List.not_mem_nil, or_false] at hq; rcases hq with rfl | rfl | rfl | rfl | rfl <;> simp [he]) (ih22 (p + 1) T2 (by omega) hF3 (by omega))
    refine am_less (by intro q hq; simp only [List.mem_cons, List.not_mem_nil, or_false] at hq; rcases hq with rfl | rfl | rfl | rfl | rfl <;> simp [mkS]) (L22 (_ + 1) 0 σ (by exact Nat.lt_succ_self _) (frw.refl _ σ) (Nat.zero_le _))
  · refine am_iload_n (q := 14) rfl (am_tab tk_X0_ofThemselves 5 rfl) rfl ?_
    refine am_iload_n (q := 15) rfl (am_tab tk_X0_ofThemselves 6 rfl) rfl ?_
    refine am_iand (q := 16) (am_tab tk_X0_ofThemselves 7 rfl) rfl ?_
    refine am_iret (Or.inl rfl) (Nat.le_of_ble_eq_true rfl) (Nat.le_of_ble_eq_true rfl) (am_tab tk_X0_ofThemselves 8 rfl) ?_
    refine hQ _ _ ?_
    refine ⟨congrArg (fun z => some (am_i z)) ?_, frw.refl _ σ⟩
    have h0 := hz.mp h10
    refine mkS_ext (and_tb hw ht).1 h8 (fun q hq => ?_)
    rw [(and_tb hw ht).2 q]
    by_cases h1 : tb who q = 1 ∧ tb ts q = 1
    · rw [if_pos h1, if_pos ⟨hwp q hq h1.1, by unfold owB; rw [decide_eq_true_eq, if_pos h0]; exact h1⟩]
    · rw [if_neg h1, if_neg]
      rintro ⟨_, h3⟩
      unfold owB at h3
      rw [decide_eq_true_eq, if_pos h0] at h3
      exact h1 h3
theorem c_setPerson_15_32 (σ B : am_H) (hL : lay σ) (hG : GD B) (hD : DWr 15 32 σ B) (p : Nat) (x : Int) (hp : p < pN B) : am_met M_X0_setPerson [am_r 44, am_i ((p : Int)), am_i x] σ (fun r σ' => r = none ∧ σ' = am_setN (am_setN (am_setN σ 45 4 x) 45 15 (B.2.1 96 (4 + p))) 45 2 (B.2.1 87 (8 + p))) := by
  refine am_qq (fun Q hQ => ?_)
  refine am_enter (show plainFor yX0_setPerson = true by decide +kernel) rfl (Nat.le_of_ble_eq_true rfl) (fun _ _ _ => trivial) ?_
  have h8 : pN B ≤ 8 := by have := hG.R.P; unfold pN; omega
  refine am_aload_n (q := 1) rfl (am_tab tk_X0_setPerson 0 rfl) rfl ?_
  refine am_getR (q := 4) (a := 44) (k := 0) (n := 14) (j := 10) (r := some (45)) (Ls_44 hL) (by decide) rfl (Lr_44_10 hL) (by decide) (Or.inl kf_X0_9) (am_tab tk_X0_setPerson 1 rfl) rfl ?_
  refine am_iconst (q := 5) (n := 4) (by decide) (am_tab tk_X0_setPerson 2 rfl) rfl ?_
  refine am_iload_n (q := 6) rfl (am_tab tk_X0_setPerson 3 rfl) rfl ?_
  refine am_iast (q := 7) (a := 45) (n := 34) (Ls_45 hL) (by omega) (by omega) (am_tab tk_X0_setPerson 4 rfl) rfl ?_
  refine am_aload_n (q := 8) rfl (am_tab tk_X0_setPerson 5 rfl) rfl ?_
  refine am_getR (q := 11) (a := 44) (k := 0) (n := 14) (j := 10) (r := some (45)) (Ls_44 hL) (by decide) rfl (Lr_44_10 hL) (by decide) (Or.inl kf_X0_9) (am_tab tk_X0_setPerson 6 rfl) rfl ?_
  refine am_bipush (q := 13) (n := 15) (by decide) rfl (am_tab tk_X0_setPerson 7 rfl) rfl ?_
  refine am_aload_n (q := 14) rfl (am_tab tk_X0_setPerson 8 rfl) rfl ?_
  refine am_getR (q := 17) (a := 44) (k := 0) (n := 14) (j := 9) (r := some (32)) (Ls_44 hL) (by decide) rfl hD.1.2 (by decide) (Or.inl kf_X0_28) (am_tab tk_X0_setPerson 9 rfl) rfl ?_
  refine am_getR (q := 20) (a := 32) (k := 1) (n := 11) (j := 5) (r := some (33)) (Ls_32 hL) (by decide) rfl (Lr_32_5 hL) (by decide) (Or.inr kf_X0_108) (am_tab tk_X0_setPerson 10 rfl) rfl ?_
  refine am_iload_n (q := 21) rfl (am_tab tk_X0_setPerson 11 rfl) rfl ?_
  refine am_iald (q := 22) (a := 33) (n := 8) (x := (B.2.1 96 (4 + p))) (Ls_33 hL) (by omega) (by omega) (by rw [show Int.toNat (p : Int) = p by omega]; exact hD.2.2.2.2.1 p (by omega)) (am_tab tk_X0_setPerson 12 rfl) rfl ?_
  refine am_iast (q := 23) (a := 45) (n := 34) (Ls_45 hL) (by omega) (by omega) (am_tab tk_X0_setPerson 13 rfl) rfl ?_
  refine am_aload_n (q := 24) rfl (am_tab tk_X0_setPerson 14 rfl) rfl ?_
  refine am_getR (q := 27) (a := 44) (k := 0) (n := 14) (j := 10) (r := some (45)) (Ls_44 hL) (by decide) rfl (Lr_44_10 hL) (by decide) (Or.inl kf_X0_9) (am_tab tk_X0_setPerson 15 rfl) rfl ?_
  refine am_iconst (q := 28) (n := 2) (by decide) (am_tab tk_X0_setPerson 16 rfl) rfl ?_
  refine am_aload_n (q := 29) rfl (am_tab tk_X0_setPerson 17 rfl) rfl ?_
  refine am_getR (q := 32) (a := 44) (k := 0) (n := 14) (j := 8) (r := some (15)) (Ls_44 hL) (by decide) rfl hD.1.1 (by decide) (Or.inl kf_X0_24) (am_tab tk_X0_setPerson 18 rfl) rfl ?_
  refine am_getR (q := 35) (a := 15) (k := 8) (n := 17) (j := 9) (r := some (17)) (Ls_15 hL) (by decide) rfl (Lr_15_9 hL) (by decide) (Or.inr kf_X0_149) (am_tab tk_X0_setPerson 19 rfl) rfl ?_
  refine am_iload_n (q := 36) rfl (am_tab tk_X0_setPerson 20 rfl) rfl ?_
  refine am_iald (q := 37) (a := 17) (n := 8) (x := (B.2.1 87 (8 + p))) (Ls_17 hL) (by omega) (by omega) (by rw [show Int.toNat (p : Int) = p by omega]; exact hD.tw.minds p hp) (am_tab tk_X0_setPerson 21 rfl) rfl ?_
  refine am_iast (q := 38) (a := 45) (n := 34) (Ls_45 hL) (by omega) (by omega) (am_tab tk_X0_setPerson 22 rfl) rfl ?_
  refine am_vret rfl (Nat.le_of_ble_eq_true rfl) (Nat.le_of_ble_eq_true rfl) (am_tab tk_X0_setPerson 23 rfl) ?_
  refine hQ _ _ ?_
  exact ⟨rfl, rfl⟩
theorem c_ofThemselves_15_32 (σ B : am_H) (hL : lay σ) (hG : GD B) (hD : DWr 15 32 σ B) (who : Int) (ts : Int) (hw : 0 ≤ who ∧ who < 256) (ht : 0 ≤ ts ∧ ts < 256) (hwp : ∀ q : Nat, q < 8 → tb who q = 1 → q < pN B) : am_met M_X0_ofThemselves [am_r 44, am_i who, am_i ts] σ (fun r σ' => r = some (am_i (mkS (owB B who ts) (pN B))) ∧ frw W_ow σ σ') := by
  refine am_qq (fun Q hQ => ?_)
  refine am_enter (show plainFor yX0_ofThemselves = true by decide +kernel) rfl (Nat.le_of_ble_eq_true rfl) (fun _ _ _ => trivial) ?_
  have h8 : pN B ≤ 8 := by have := hG.R.P; unfold pN; omega
  have hPi := hG.R.P
  have hpn : (pN B : Int) = B.2.1 85 5 := by unfold pN; omega
  have hz := rlB_0 hG.K (wh := 0) (by decide)
  refine am_aload_n (q := 1) rfl (am_tab tk_X0_ofThemselves 0 rfl) rfl ?_
  refine am_getR (q := 4) (a := 44) (k := 0) (n := 14) (j := 8) (r := some (15)) (Ls_44 hL) (by decide) rfl hD.1.1 (by decide) (Or.inl kf_X0_24) (am_tab tk_X0_ofThemselves 1 rfl) rfl ?_
  refine am_getR (q := 7) (a := 15) (k := 8) (n := 17) (j := 15) (r := some (23)) (Ls_15 hL) (by decide) rfl (Lr_15_15 hL) (by decide) (Or.inr kf_X0_116) (am_tab tk_X0_ofThemselves 2 rfl) rfl ?_
  refine am_getI (q := 10) (a := 23) (k := 5) (n := 2) (j := 1) (x := ((rlB B 0).length : Int)) (Ls_23 hL) (by decide) rfl hD.tw.thinks.size (by decide) (Or.inr kf_X0_120) (am_tab tk_X0_ofThemselves 3 rfl) rfl ?_
  refine am_if_ne (q := 13) (t := 17) (am_tab tk_X0_ofThemselves 4 rfl) (by decide) rfl (fun h10 => ?_) (fun h10 => ?_)
  · have hrl : ¬ B.2.1 93 2 = -1 := fun h => h10 (hz.mpr h)
    have hrk := hG.K.ok (wh := 0) (by decide) hrl
    have hno : 47 ∈ rlB B 0 → ¬ (47 : Int) = 47 := fun h => by
      rcases hG.O with h2 | h2
      · exact absurd h2 hrl
      · exact h2 47 (by rw [← hrk.2]; exact h)
    refine am_iconst (q := 18) (n := 0) (by decide) (am_tab tk_X0_ofThemselves 9 rfl) rfl ?_
    refine am_istore_n (q := 19) (by decide) (ls2 := [(3, am_i 0), (0, am_r 44), (1, am_i who), (2, am_i ts)]) rfl (am_tab tk_X0_ofThemselves 10 rfl) rfl ?_
    refine am_iconst (q := 20) (n := 0) (by decide) (am_tab tk_X0_ofThemselves 11 rfl) rfl ?_
    refine am_istore (q := 22) (by decide) (ls2 := [(4, am_i 0), (3, am_i 0), (0, am_r 44), (1, am_i who), (2, am_i ts)]) rfl (am_tab tk_X0_ofThemselves 12 rfl) rfl ?_
    have L22 : ∀ (n22 : Nat) (p : Nat) (T : am_H), 8 - p < n22 → frw W_ow σ T → p ≤ pN B → am_wp M_X0_ofThemselves Q 0 0 22 [(4, am_i ((p : Int))), (3, am_i (mkS (owB B who ts) p)), (0, am_r 44), (1, am_i who), (2, am_i ts)] [] T := by
      intro n22
      induction n22 with
      | zero => intro p T hn22; exact absurd hn22 (Nat.not_lt_zero _)
      | succ n22 ih22 =>
        intro p T hn22 hF hp
        have hLT : lay T := hF.L hL
        have hDT := hD.fr (W_ow_d hF) (by decide) (by decide)
        refine am_iload (q := 24) rfl (am_tab tk_X0_ofThemselves 13 rfl) rfl ?_
        refine am_aload_n (q := 25) rfl (am_tab tk_X0_ofThemselves 14 rfl) rfl ?_
        refine am_getR (q := 28) (a := 44) (k := 0) (n := 14) (j := 8) (r := some (15)) (Ls_44 hLT) (by decide) rfl hDT.1.1 (by decide) (Or.inl kf_X0_24) (am_tab tk_X0_ofThemselves 15 rfl) rfl ?_
        refine am_getI (q := 31) (a := 15) (k := 8) (n := 17) (j := 2) (x := (B.2.1 85 5)) (Ls_15 hLT) (by decide) rfl hDT.tw.people (by decide) (Or.inr kf_X0_102) (am_tab tk_X0_ofThemselves 16 rfl) rfl ?_
        refine am_icmp_ge (q := 34) (t := 86) (am_tab tk_X0_ofThemselves 17 rfl) (by decide) rfl (fun h31 => ?_) (fun h31 => ?_)
        · refine am_iload_n (q := 87) rfl (am_tab tk_X0_ofThemselves 44 rfl) rfl ?_
          refine am_iret (Or.inl rfl) (Nat.le_of_ble_eq_true rfl) (Nat.le_of_ble_eq_true rfl) (am_tab tk_X0_ofThemselves 45 rfl) ?_
          refine hQ _ _ ?_
          rw [show p = pN B by omega]
          exact ⟨rfl, hF⟩
        · have hpp : p < pN B := by omega
          refine am_iload_n (q := 35) rfl (am_tab tk_X0_ofThemselves 18 rfl) rfl ?_
          refine am_iload (q := 37) rfl (am_tab tk_X0_ofThemselves 19 rfl) rfl ?_
          refine am_callS0 (q := 40) (me2 := M_X9_bit) (As := [am_i who, am_i ((p : Int))]) (rest := []) (out := [am_i (tb who (p : Int))]) (c_bit T who (p : Int) (hw) (by omega)) ⟨rfl, rfl⟩ ⟨Or.inr km_X0_105, kc_X9_bit, kn_X9, kd_X9_bit, ⟨(Nat.le_of_ble_eq_true rfl), (Nat.le_of_ble_eq_true rfl)⟩, ⟨(Nat.le_of_ble_eq_true rfl), (Nat.le_of_ble_eq_true rfl)⟩, (Nat.le_of_ble_eq_true rfl)⟩ ki_X9_bit rfl rfl (am_tab tk_X0_ofThemselves 20 rfl) rfl ?_
          refine am_iconst (q := 41) (n := 1) (by decide) (am_tab tk_X0_ofThemselves 21 rfl) rfl ?_
          refine am_icmp_ne (q := 44) (t := 80) (am_tab tk_X0_ofThemselves 22 rfl) (by decide) rfl (fun h41 => ?_) (fun h41 => ?_)
          · refine am_iinc (q := 83) rfl (by omega) (by decide) (ls2 := [(4, am_i (((p : Int) + 1))), (3, am_i (mkS (owB B who ts) p)), (0, am_r 44), (1, am_i who), (2, am_i ts)]) rfl (am_tab tk_X0_ofThemselves 42 rfl) rfl ?_
            refine am_goto (t := 22) (am_tab tk_X0_ofThemselves 43 rfl) (by decide) ?_
            have he : mkS (owB B who ts) (p + 1) = mkS (owB B who ts) p := (mkS_no _ (by unfold owB; rw [decide_eq_true_eq]; exact fun h => h41 h.1)).symm
            exact am_less (by intro q hq; simp only [List.mem_cons, List.not_mem_nil, or_false] at hq; rcases hq with rfl | rfl | rfl | rfl | rfl <;> simp [he]) (ih22 (p + 1) T (by omega) hF (by omega))
          · refine am_aload_n (q := 45) rfl (am_tab tk_X0_ofThemselves 23 rfl) rfl ?_
            refine am_iload (q := 47) rfl (am_tab tk_X0_ofThemselves 24 rfl) rfl ?_
            refine am_iload_n (q := 48) rfl (am_tab tk_X0_ofThemselves 25 rfl) rfl ?_
            refine am_iload (q := 50) rfl (am_tab tk_X0_ofThemselves 26 rfl) rfl ?_
            refine am_callS0 (q := 53) (me2 := M_X9_bit) (As := [am_i ts, am_i ((p : Int))]) (rest := [am_i ((p : Int)), am_r 44]) (out := [am_i (tb ts (p : Int)), am_i ((p : Int)), am_r 44]) (c_bit T ts (p : Int) (ht) (by omega)) ⟨rfl, rfl⟩ ⟨Or.inr km_X0_105, kc_X9_bit, kn_X9, kd_X9_bit, ⟨(Nat.le_of_ble_eq_true rfl), (Nat.le_of_ble_eq_true rfl)⟩, ⟨(Nat.le_of_ble_eq_true rfl), (Nat.le_of_ble_eq_true rfl)⟩, (Nat.le_of_ble_eq_true rfl)⟩ ki_X9_bit rfl rfl (am_tab tk_X0_ofThemselves 27 rfl) rfl ?_
            refine am_callV0 (q := 56) (me2 := M_X0_setPerson) (b := 44) (kb := 0) (nb := 14) (As := [am_i ((p : Int)), am_i (tb ts (p : Int))]) (rest := []) (out := []) (c_setPerson_15_32 T B hLT hG hDT p (tb ts (p : Int)) hpp) ⟨rfl, rfl⟩ (Ls_44 hLT) (by decide) ⟨Or.inl km_X0_125, kc_X0_setPerson, kn_X0, kd_X0_setPerson, ⟨(Nat.le_of_ble_eq_true rfl), (Nat.le_of_ble_eq_true rfl)⟩, ⟨(Nat.le_of_ble_eq_true rfl), (Nat.le_of_ble_eq_true rfl)⟩, (Nat.le_of_ble_eq_true rfl)⟩ ki_X0_setPerson ks_X0_setPerson rfl rfl (am_tab tk_X0_ofThemselves 28 rfl) rfl ?_
            refine am_iload_n (q := 57) rfl (am_tab tk_X0_ofThemselves 29 rfl) rfl ?_
            refine am_aload_n (q := 58) rfl (am_tab tk_X0_ofThemselves 30 rfl) rfl ?_
            refine am_getR (q := 61) (a := 44) (k := 0) (n := 14) (j := 8) (r := some (15)) (Ls_44 hLT) (by decide) rfl hDT.1.1 (by decide) (Or.inl kf_X0_24) (am_tab tk_X0_ofThemselves 31 rfl) rfl ?_
            refine am_getR (q := 64) (a := 15) (k := 8) (n := 17) (j := 15) (r := some (23)) (Ls_15 hLT) (by decide) rfl (Lr_15_15 hLT) (by decide) (Or.inr kf_X0_116) (am_tab tk_X0_ofThemselves 32 rfl) rfl ?_
            refine am_aload_n (q := 65) rfl (am_tab tk_X0_ofThemselves 33 rfl) rfl ?_
            refine am_getR (q := 68) (a := 44) (k := 0) (n := 14) (j := 10) (r := some (45)) (Ls_44 hLT) (by decide) rfl (Lr_44_10 hLT) (by decide) (Or.inl kf_X0_9) (am_tab tk_X0_ofThemselves 34 rfl) rfl ?_
            refine am_aload_n (q := 69) rfl (am_tab tk_X0_ofThemselves 35 rfl) rfl ?_
            refine am_getR (q := 72) (a := 44) (k := 0) (n := 14) (j := 11) (r := some (46)) (Ls_44 hLT) (by decide) rfl (Lr_44_11 hLT) (by decide) (Or.inl kf_X0_15) (am_tab tk_X0_ofThemselves 36 rfl) rfl ?_
            refine am_callVr (q := 75) (me2 := M_X5_valueOf) (b := 23) (kb := 5) (nb := 2) (As := [am_r 45, am_r 46]) (rest := [am_i (mkS (owB B who ts) p)]) (c_rule (am_setN (am_setN (am_setN T 45 4 (tb ts (p : Int))) 45 15 (B.2.1 96 (4 + p))) 45 2 (B.2.1 87 (8 + p))) hLT (RLr.fr (W := W_dw) hDT.tw.thinks ((((frw.refl W_dw T).setN (by unfold W_dw; omega)).setN (by unfold W_dw; omega)).setN (by unfold W_dw; omega)) (by unfold W_dw; omega) (by unfold W_dw; omega)) (by decide) hrk.1 (pe B ts (ffM B) (fzM B) 0 p) (pe_r hG (by omega) (by decide)) (prt hDT.2.2.1.1 hDT.2.2.1.2.1 hDT.2.2.1.2.2.1 hDT.2.2.1.2.2.2 rfl rfl rfl (fun h => absurd rfl (hno h)))) ⟨rfl, rfl⟩ (Ls_23 hLT) (by decide) ⟨Or.inr km_X0_129, kc_X5_valueOf, kn_X5, kd_X5_valueOf, ⟨(Nat.le_of_ble_eq_true rfl), (Nat.le_of_ble_eq_true rfl)⟩, ⟨(Nat.le_of_ble_eq_true rfl), (Nat.le_of_ble_eq_true rfl)⟩, (Nat.le_of_ble_eq_true rfl)⟩ ki_X5_valueOf ks_X5_valueOf rfl (am_tab tk_X0_ofThemselves 37 rfl) rfl ?_
            rintro r T2 ⟨hr, hF2⟩
            have hr2 : r = some (am_i (tdE B ts (ffM B) (fzM B) 0 0 p)) := by rw [hr, hrk.2]; rfl
            subst hr2
            have hLT2 : lay T2 := hF2.L hLT
            have hF3 : frw W_ow σ T2 := (((hF.setN (by unfold W_ow; omega)).setN (by unfold W_ow; omega)).setN (by unfold W_ow; omega)).trans (hF2.mono (by unfold W_ow W_46; omega))
            refine am_st (st2 := [am_i (tdE B ts (ffM B) (fzM B) 0 0 p), am_i (mkS (owB B who ts) p)]) rfl ?_
            have htd : tdE B ts (ffM B) (fzM B) 0 0 p = 0 ∨ tdE B ts (ffM B) (fzM B) 0 0 p = 1 := by
              have h9 := hrk.1
              rw [hrk.2] at h9
              exact evL_01 (pe_r hG (by omega) (by decide)) _ _ _ (show tyOK [] [] from trivial) h9
            refine am_iload (q := 77) rfl (am_tab tk_X0_ofThemselves 38 rfl) rfl ?_
            refine am_ishl (q := 78) (am_tab tk_X0_ofThemselves 39 rfl) rfl ?_
            refine am_ior (q := 79) (am_tab tk_X0_ofThemselves 40 rfl) rfl ?_
            refine am_istore_n (q := 80) (by decide) (ls2 := [(3, am_i ((ao_or (mkS (owB B who ts) p) (ao_shl (tdE B ts (ffM B) (fzM B) 0 0 p) (p : Int))))), (4, am_i ((p : Int))), (0, am_r 44), (1, am_i who), (2, am_i ts)]) rfl (am_tab tk_X0_ofThemselves 41 rfl) rfl ?_
            refine am_iinc (q := 83) rfl (by omega) (by decide) (ls2 := [(4, am_i (((p : Int) + 1))), (3, am_i ((ao_or (mkS (owB B who ts) p) (ao_shl (tdE B ts (ffM B) (fzM B) 0 0 p) (p : Int))))), (0, am_r 44), (1, am_i who), (2, am_i ts)]) rfl (am_tab tk_X0_ofThemselves 42 rfl) rfl ?_
            refine am_goto (t := 22) (am_tab tk_X0_ofThemselves 43 rfl) (by decide) ?_
            have he : mkS (owB B who ts) (p + 1) = ao_or (mkS (owB B who ts) p) (ao_shl (tdE B ts (ffM B) (fzM B) 0 0 p) (p : Int)) := by
              rcases htd with h0 | h0
              · rw [h0, or_sh0 (mkS_256 _ (by omega)) (by omega)]
                exact (mkS_no _ (by unfold owB; rw [decide_eq_true_eq, if_neg hrl]; exact fun h => absurd (h.2.symm.trans h0) (by decide))).symm
              · rw [h0]
                exact (mkS_or _ (by omega) (by unfold owB; rw [decide_eq_true_eq, if_neg hrl]; exact ⟨h41, h0⟩)).symm
            exact am_less (by intro q hq; simp only [List.mem_cons, List.not_mem_nil, or_false] at hq; rcases hq with rfl | rfl | rfl | rfl | rfl <;> simp [he]) (ih22 (p + 1) T2 (by omega) hF3 (by omega))
    refine am_less (by intro q hq; simp only [List.mem_cons, List.not_mem_nil, or_false] at hq; rcases hq with rfl | rfl | rfl | rfl | rfl <;> simp [mkS]) (L22 (_ + 1) 0 σ (by exact Nat.lt_succ_self _) (frw.refl _ σ) (Nat.zero_le _))
  · refine am_iload_n (q := 14) rfl (am_tab tk_X0_ofThemselves 5 rfl) rfl ?_
    refine am_iload_n (q := 15) rfl (am_tab tk_X0_ofThemselves 6 rfl) rfl ?_
    refine am_iand (q := 16) (am_tab tk_X0_ofThemselves 7 rfl) rfl ?_
    refine am_iret (Or.inl rfl) (Nat.le_of_ble_eq_true rfl) (Nat.le_of_ble_eq_true rfl) (am_tab tk_X0_ofThemselves 8 rfl) ?_
    refine hQ _ _ ?_
    refine ⟨congrArg (fun z => some (am_i z)) ?_, frw.refl _ σ⟩
    have h0 := hz.mp h10
    refine mkS_ext (and_tb hw ht).1 h8 (fun q hq => ?_)
    rw [(and_tb hw ht).2 q]
    by_cases h1 : tb who q = 1 ∧ tb ts q = 1
    · rw [if_pos h1, if_pos ⟨hwp q hq h1.1, by unfold owB; rw [decide_eq_true_eq, if_pos h0]; exact h1⟩]
    · rw [if_neg h1, if_neg]
      rintro ⟨_, h3⟩
      unfold owB at h3
      rw [decide_eq_true_eq, if_pos h0] at h3
      exact h1 h3
theorem c_setPerson_15_37 (σ B : am_H) (hL : lay σ) (hG : GD B) (hD : DWr 15 37 σ B) (p : Nat) (x : Int) (hp : p < pN B) : am_met M_X0_setPerson [am_r 44, am_i ((p : Int)), am_i x] σ (fun r σ' => r = none ∧ σ' = am_setN (am_setN (am_setN σ 45 4 x) 45 15 (B.2.1 96 (4 + p))) 45 2 (B.2.1 87 (8 + p))) := by
  refine am_qq (fun Q hQ => ?_)
  refine am_enter (show plainFor yX0_setPerson = true by decide +kernel) rfl (Nat.le_of_ble_eq_true rfl) (fun _ _ _ => trivial) ?_
  have h8 : pN B ≤ 8 := by have := hG.R.P; unfold pN; omega
  refine am_aload_n (q := 1) rfl (am_tab tk_X0_setPerson 0 rfl) rfl ?_
  refine am_getR (q := 4) (a := 44) (k := 0) (n := 14) (j := 10) (r := some (45)) (Ls_44 hL) (by decide) rfl (Lr_44_10 hL) (by decide) (Or.inl kf_X0_9) (am_tab tk_X0_setPerson 1 rfl) rfl ?_
  refine am_iconst (q := 5) (n := 4) (by decide) (am_tab tk_X0_setPerson 2 rfl) rfl ?_
  refine am_iload_n (q := 6) rfl (am_tab tk_X0_setPerson 3 rfl) rfl ?_
  refine am_iast (q := 7) (a := 45) (n := 34) (Ls_45 hL) (by omega) (by omega) (am_tab tk_X0_setPerson 4 rfl) rfl ?_
  refine am_aload_n (q := 8) rfl (am_tab tk_X0_setPerson 5 rfl) rfl ?_
  refine am_getR (q := 11) (a := 44) (k := 0) (n := 14) (j := 10) (r := some (45)) (Ls_44 hL) (by decide) rfl (Lr_44_10 hL) (by decide) (Or.inl kf_X0_9) (am_tab tk_X0_setPerson 6 rfl) rfl ?_
  refine am_bipush (q := 13) (n := 15) (by decide) rfl (am_tab tk_X0_setPerson 7 rfl) rfl ?_
  refine am_aload_n (q := 14) rfl (am_tab tk_X0_setPerson 8 rfl) rfl ?_
  refine am_getR (q := 17) (a := 44) (k := 0) (n := 14) (j := 9) (r := some (37)) (Ls_44 hL) (by decide) rfl hD.1.2 (by decide) (Or.inl kf_X0_28) (am_tab tk_X0_setPerson 9 rfl) rfl ?_
  refine am_getR (q := 20) (a := 37) (k := 1) (n := 11) (j := 5) (r := some (38)) (Ls_37 hL) (by decide) rfl (Lr_37_5 hL) (by decide) (Or.inr kf_X0_108) (am_tab tk_X0_setPerson 10 rfl) rfl ?_
  refine am_iload_n (q := 21) rfl (am_tab tk_X0_setPerson 11 rfl) rfl ?_
  refine am_iald (q := 22) (a := 38) (n := 8) (x := (B.2.1 96 (4 + p))) (Ls_38 hL) (by omega) (by omega) (by rw [show Int.toNat (p : Int) = p by omega]; exact hD.2.2.2.2.1 p (by omega)) (am_tab tk_X0_setPerson 12 rfl) rfl ?_
  refine am_iast (q := 23) (a := 45) (n := 34) (Ls_45 hL) (by omega) (by omega) (am_tab tk_X0_setPerson 13 rfl) rfl ?_
  refine am_aload_n (q := 24) rfl (am_tab tk_X0_setPerson 14 rfl) rfl ?_
  refine am_getR (q := 27) (a := 44) (k := 0) (n := 14) (j := 10) (r := some (45)) (Ls_44 hL) (by decide) rfl (Lr_44_10 hL) (by decide) (Or.inl kf_X0_9) (am_tab tk_X0_setPerson 15 rfl) rfl ?_
  refine am_iconst (q := 28) (n := 2) (by decide) (am_tab tk_X0_setPerson 16 rfl) rfl ?_
  refine am_aload_n (q := 29) rfl (am_tab tk_X0_setPerson 17 rfl) rfl ?_
  refine am_getR (q := 32) (a := 44) (k := 0) (n := 14) (j := 8) (r := some (15)) (Ls_44 hL) (by decide) rfl hD.1.1 (by decide) (Or.inl kf_X0_24) (am_tab tk_X0_setPerson 18 rfl) rfl ?_
  refine am_getR (q := 35) (a := 15) (k := 8) (n := 17) (j := 9) (r := some (17)) (Ls_15 hL) (by decide) rfl (Lr_15_9 hL) (by decide) (Or.inr kf_X0_149) (am_tab tk_X0_setPerson 19 rfl) rfl ?_
  refine am_iload_n (q := 36) rfl (am_tab tk_X0_setPerson 20 rfl) rfl ?_
  refine am_iald (q := 37) (a := 17) (n := 8) (x := (B.2.1 87 (8 + p))) (Ls_17 hL) (by omega) (by omega) (by rw [show Int.toNat (p : Int) = p by omega]; exact hD.tw.minds p hp) (am_tab tk_X0_setPerson 21 rfl) rfl ?_
  refine am_iast (q := 38) (a := 45) (n := 34) (Ls_45 hL) (by omega) (by omega) (am_tab tk_X0_setPerson 22 rfl) rfl ?_
  refine am_vret rfl (Nat.le_of_ble_eq_true rfl) (Nat.le_of_ble_eq_true rfl) (am_tab tk_X0_setPerson 23 rfl) ?_
  refine hQ _ _ ?_
  exact ⟨rfl, rfl⟩
theorem c_ofThemselves_15_37 (σ B : am_H) (hL : lay σ) (hG : GD B) (hD : DWr 15 37 σ B) (who : Int) (ts : Int) (hw : 0 ≤ who ∧ who < 256) (ht : 0 ≤ ts ∧ ts < 256) (hwp : ∀ q : Nat, q < 8 → tb who q = 1 → q < pN B) : am_met M_X0_ofThemselves [am_r 44, am_i who, am_i ts] σ (fun r σ' => r = some (am_i (mkS (owB B who ts) (pN B))) ∧ frw W_ow σ σ') := by
  refine am_qq (fun Q hQ => ?_)
  refine am_enter (show plainFor yX0_ofThemselves = true by decide +kernel) rfl (Nat.le_of_ble_eq_true rfl) (fun _ _ _ => trivial) ?_
  have h8 : pN B ≤ 8 := by have := hG.R.P; unfold pN; omega
  have hPi := hG.R.P
  have hpn : (pN B : Int) = B.2.1 85 5 := by unfold pN; omega
  have hz := rlB_0 hG.K (wh := 0) (by decide)
  refine am_aload_n (q := 1) rfl (am_tab tk_X0_ofThemselves 0 rfl) rfl ?_
  refine am_getR (q := 4) (a := 44) (k := 0) (n := 14) (j := 8) (r := some (15)) (Ls_44 hL) (by decide) rfl hD.1.1 (by decide) (Or.inl kf_X0_24) (am_tab tk_X0_ofThemselves 1 rfl) rfl ?_
  refine am_getR (q := 7) (a := 15) (k := 8) (n := 17) (j := 15) (r := some (23)) (Ls_15 hL) (by decide) rfl (Lr_15_15 hL) (by decide) (Or.inr kf_X0_116) (am_tab tk_X0_ofThemselves 2 rfl) rfl ?_
  refine am_getI (q := 10) (a := 23) (k := 5) (n := 2) (j := 1) (x := ((rlB B 0).length : Int)) (Ls_23 hL) (by decide) rfl hD.tw.thinks.size (by decide) (Or.inr kf_X0_120) (am_tab tk_X0_ofThemselves 3 rfl) rfl ?_
  refine am_if_ne (q := 13) (t := 17) (am_tab tk_X0_ofThemselves 4 rfl) (by decide) rfl (fun h10 => ?_) (fun h10 => ?_)
  · have hrl : ¬ B.2.1 93 2 = -1 := fun h => h10 (hz.mpr h)
    have hrk := hG.K.ok (wh := 0) (by decide) hrl
    have hno : 47 ∈ rlB B 0 → ¬ (47 : Int) = 47 := fun h => by
      rcases hG.O with h2 | h2
      · exact absurd h2 hrl
      · exact h2 47 (by rw [← hrk.2]; exact h)
    refine am_iconst (q := 18) (n := 0) (by decide) (am_tab tk_X0_ofThemselves 9 rfl) rfl ?_
    refine am_istore_n (q := 19) (by decide) (ls2 := [(3, am_i 0), (0, am_r 44), (1, am_i who), (2, am_i ts)]) rfl (am_tab tk_X0_ofThemselves 10 rfl) rfl ?_
    refine am_iconst (q := 20) (n := 0) (by decide) (am_tab tk_X0_ofThemselves 11 rfl) rfl ?_
    refine am_istore (q := 22) (by decide) (ls2 := [(4, am_i 0), (3, am_i 0), (0, am_r 44), (1, am_i who), (2, am_i ts)]) rfl (am_tab tk_X0_ofThemselves 12 rfl) rfl ?_
    have L22 : ∀ (n22 : Nat) (p : Nat) (T : am_H), 8 - p < n22 → frw W_ow σ T → p ≤ pN B → am_wp M_X0_ofThemselves Q 0 0 22 [(4, am_i ((p : Int))), (3, am_i (mkS (owB B who ts) p)), (0, am_r 44), (1, am_i who), (2, am_i ts)] [] T := by
      intro n22
      induction n22 with
      | zero => intro p T hn22; exact absurd hn22 (Nat.not_lt_zero _)
      | succ n22 ih22 =>
        intro p T hn22 hF hp
        have hLT : lay T := hF.L hL
        have hDT := hD.fr (W_ow_d hF) (by decide) (by decide)
        refine am_iload (q := 24) rfl (am_tab tk_X0_ofThemselves 13 rfl) rfl ?_
        refine am_aload_n (q := 25) rfl (am_tab tk_X0_ofThemselves 14 rfl) rfl ?_
        refine am_getR (q := 28) (a := 44) (k := 0) (n := 14) (j := 8) (r := some (15)) (Ls_44 hLT) (by decide) rfl hDT.1.1 (by decide) (Or.inl kf_X0_24) (am_tab tk_X0_ofThemselves 15 rfl) rfl ?_
        refine am_getI (q := 31) (a := 15) (k := 8) (n := 17) (j := 2) (x := (B.2.1 85 5)) (Ls_15 hLT) (by decide) rfl hDT.tw.people (by decide) (Or.inr kf_X0_102) (am_tab tk_X0_ofThemselves 16 rfl) rfl ?_
        refine am_icmp_ge (q := 34) (t := 86) (am_tab tk_X0_ofThemselves 17 rfl) (by decide) rfl (fun h31 => ?_) (fun h31 => ?_)
        · refine am_iload_n (q := 87) rfl (am_tab tk_X0_ofThemselves 44 rfl) rfl ?_
          refine am_iret (Or.inl rfl) (Nat.le_of_ble_eq_true rfl) (Nat.le_of_ble_eq_true rfl) (am_tab tk_X0_ofThemselves 45 rfl) ?_
          refine hQ _ _ ?_
          rw [show p = pN B by omega]
          exact ⟨rfl, hF⟩
        · have hpp : p < pN B := by omega
          refine am_iload_n (q := 35) rfl (am_tab tk_X0_ofThemselves 18 rfl) rfl ?_
          refine am_iload (q := 37) rfl (am_tab tk_X0_ofThemselves 19 rfl) rfl ?_
          refine am_callS0 (q := 40) (me2 := M_X9_bit) (As := [am_i who, am_i ((p : Int))]) (rest := []) (out := [am_i (tb who (p : Int))]) (c_bit T who (p : Int) (hw) (by omega)) ⟨rfl, rfl⟩ ⟨Or.inr km_X0_105, kc_X9_bit, kn_X9, kd_X9_bit, ⟨(Nat.le_of_ble_eq_true rfl), (Nat.le_of_ble_eq_true rfl)⟩, ⟨(Nat.le_of_ble_eq_true rfl), (Nat.le_of_ble_eq_true rfl)⟩, (Nat.le_of_ble_eq_true rfl)⟩ ki_X9_bit rfl rfl (am_tab tk_X0_ofThemselves 20 rfl) rfl ?_
          refine am_iconst (q := 41) (n := 1) (by decide) (am_tab tk_X0_ofThemselves 21 rfl) rfl ?_
          refine am_icmp_ne (q := 44) (t := 80) (am_tab tk_X0_ofThemselves 22 rfl) (by decide) rfl (fun h41 => ?_) (fun h41 => ?_)
          · refine am_iinc (q := 83) rfl (by omega) (by decide) (ls2 := [(4, am_i (((p : Int) + 1))), (3, am_i (mkS (owB B who ts) p)), (0, am_r 44), (1, am_i who), (2, am_i ts)]) rfl (am_tab tk_X0_ofThemselves 42 rfl) rfl ?_
            refine am_goto (t := 22) (am_tab tk_X0_ofThemselves 43 rfl) (by decide) ?_
            have he : mkS (owB B who ts) (p + 1) = mkS (owB B who ts) p := (mkS_no _ (by unfold owB; rw [decide_eq_true_eq]; exact fun h => h41 h.1)).symm
            exact am_less (by intro q hq; simp only [List.mem_cons, List.not_mem_nil, or_false] at hq; rcases hq with rfl | rfl | rfl | rfl | rfl <;> simp [he]) (ih22 (p + 1) T (by omega) hF (by omega))
          · refine am_aload_n (q := 45) rfl (am_tab tk_X0_ofThemselves 23 rfl) rfl ?_
            refine am_iload (q := 47) rfl (am_tab tk_X0_ofThemselves 24 rfl) rfl ?_
            refine am_iload_n (q := 48) rfl (am_tab tk_X0_ofThemselves 25 rfl) rfl ?_
            refine am_iload (q := 50) rfl (am_tab tk_X0_ofThemselves 26 rfl) rfl ?_
            refine am_callS0 (q := 53) (me2 := M_X9_bit) (As := [am_i ts, am_i ((p : Int))]) (rest := [am_i ((p : Int)), am_r 44]) (out := [am_i (tb ts (p : Int)), am_i ((p : Int)), am_r 44]) (c_bit T ts (p : Int) (ht) (by omega)) ⟨rfl, rfl⟩ ⟨Or.inr km_X0_105, kc_X9_bit, kn_X9, kd_X9_bit, ⟨(Nat.le_of_ble_eq_true rfl), (Nat.le_of_ble_eq_true rfl)⟩, ⟨(Nat.le_of_ble_eq_true rfl), (Nat.le_of_ble_eq_true rfl)⟩, (Nat.le_of_ble_eq_true rfl)⟩ ki_X9_bit rfl rfl (am_tab tk_X0_ofThemselves 27 rfl) rfl ?_
            refine am_callV0 (q := 56) (me2 := M_X0_setPerson) (b := 44) (kb := 0) (nb := 14) (As := [am_i ((p : Int)), am_i (tb ts (p : Int))]) (rest := []) (out := []) (c_setPerson_15_37 T B hLT hG hDT p (tb ts (p : Int)) hpp) ⟨rfl, rfl⟩ (Ls_44 hLT) (by decide) ⟨Or.inl km_X0_125, kc_X0_setPerson, kn_X0, kd_X0_setPerson, ⟨(Nat.le_of_ble_eq_true rfl), (Nat.le_of_ble_eq_true rfl)⟩, ⟨(Nat.le_of_ble_eq_true rfl), (Nat.le_of_ble_eq_true rfl)⟩, (Nat.le_of_ble_eq_true rfl)⟩ ki_X0_setPerson ks_X0_setPerson rfl rfl (am_tab tk_X0_ofThemselves 28 rfl) rfl ?_
            refine am_iload_n (q := 57) rfl (am_tab tk_X0_ofThemselves 29 rfl) rfl ?_
            refine am_aload_n (q := 58) rfl (am_tab tk_X0_ofThemselves 30 rfl) rfl ?_
            refine am_getR (q := 61) (a := 44) (k := 0) (n := 14) (j := 8) (r := some (15)) (Ls_44 hLT) (by decide) rfl hDT.1.1 (by decide) (Or.inl kf_X0_24) (am_tab tk_X0_ofThemselves 31 rfl) rfl ?_
            refine am_getR (q := 64) (a := 15) (k := 8) (n := 17) (j := 15) (r := some (23)) (Ls_15 hLT) (by decide) rfl (Lr_15_15 hLT) (by decide) (Or.inr kf_X0_116) (am_tab tk_X0_ofThemselves 32 rfl) rfl ?_
            refine am_aload_n (q := 65) rfl (am_tab tk_X0_ofThemselves 33 rfl) rfl ?_
            refine am_getR (q := 68) (a := 44) (k := 0) (n := 14) (j := 10) (r := some (45)) (Ls_44 hLT) (by decide) rfl (Lr_44_10 hLT) (by decide) (Or.inl kf_X0_9) (am_tab tk_X0_ofThemselves 34 rfl) rfl ?_
            refine am_aload_n (q := 69) rfl (am_tab tk_X0_ofThemselves 35 rfl) rfl ?_
            refine am_getR (q := 72) (a := 44) (k := 0) (n := 14) (j := 11) (r := some (46)) (Ls_44 hLT) (by decide) rfl (Lr_44_11 hLT) (by decide) (Or.inl kf_X0_15) (am_tab tk_X0_ofThemselves 36 rfl) rfl ?_
            refine am_callVr (q := 75) (me2 := M_X5_valueOf) (b := 23) (kb := 5) (nb := 2) (As := [am_r 45, am_r 46]) (rest := [am_i (mkS (owB B who ts) p)]) (c_rule (am_setN (am_setN (am_setN T 45 4 (tb ts (p : Int))) 45 15 (B.2.1 96 (4 + p))) 45 2 (B.2.1 87 (8 + p))) hLT (RLr.fr (W := W_dw) hDT.tw.thinks ((((frw.refl W_dw T).setN (by unfold W_dw; omega)).setN (by unfold W_dw; omega)).setN (by unfold W_dw; omega)) (by unfold W_dw; omega) (by unfold W_dw; omega)) (by decide) hrk.1 (pe B ts (ffM B) (fzM B) 0 p) (pe_r hG (by omega) (by decide)) (prt hDT.2.2.1.1 hDT.2.2.1.2.1 hDT.2.2.1.2.2.1 hDT.2.2.1.2.2.2 rfl rfl rfl (fun h => absurd rfl (hno h)))) ⟨rfl, rfl⟩ (Ls_23 hLT) (by decide) ⟨Or.inr km_X0_129, kc_X5_valueOf, kn_X5, kd_X5_valueOf, ⟨(Nat.le_of_ble_eq_true rfl), (Nat.le_of_ble_eq_true rfl)⟩, ⟨(Nat.le_of_ble_eq_true rfl), (Nat.le_of_ble_eq_true rfl)⟩, (Nat.le_of_ble_eq_true rfl)⟩ ki_X5_valueOf ks_X5_valueOf rfl (am_tab tk_X0_ofThemselves 37 rfl) rfl ?_
            rintro r T2 ⟨hr, hF2⟩
            have hr2 : r = some (am_i (tdE B ts (ffM B) (fzM B) 0 0 p)) := by rw [hr, hrk.2]; rfl
            subst hr2
            have hLT2 : lay T2 := hF2.L hLT
            have hF3 : frw W_ow σ T2 := (((hF.setN (by unfold W_ow; omega)).setN (by unfold W_ow; omega)).setN (by unfold W_ow; omega)).trans (hF2.mono (by unfold W_ow W_46; omega))
            refine am_st (st2 := [am_i (tdE B ts (ffM B) (fzM B) 0 0 p), am_i (mkS (owB B who ts) p)]) rfl ?_
            have htd : tdE B ts (ffM B) (fzM B) 0 0 p = 0 ∨ tdE B ts (ffM B) (fzM B) 0 0 p = 1 := by
              have h9 := hrk.1
              rw [hrk.2] at h9
              exact evL_01 (pe_r hG (by omega) (by decide)) _ _ _ (show tyOK [] [] from trivial) h9
            refine am_iload (q := 77) rfl (am_tab tk_X0_ofThemselves 38 rfl) rfl ?_
            refine am_ishl (q := 78) (am_tab tk_X0_ofThemselves 39 rfl) rfl ?_
            refine am_ior (q := 79) (am_tab tk_X0_ofThemselves 40 rfl) rfl ?_
            refine am_istore_n (q := 80) (by decide) (ls2 := [(3, am_i ((ao_or (mkS (owB B who ts) p) (ao_shl (tdE B ts (ffM B) (fzM B) 0 0 p) (p : Int))))), (4, am_i ((p : Int))), (0, am_r 44), (1, am_i who), (2, am_i ts)]) rfl (am_tab tk_X0_ofThemselves 41 rfl) rfl ?_
            refine am_iinc (q := 83) rfl (by omega) (by decide) (ls2 := [(4, am_i (((p : Int) + 1))), (3, am_i ((ao_or (mkS (owB B who ts) p) (ao_shl (tdE B ts (ffM B) (fzM B) 0 0 p) (p : Int))))), (0, am_r 44), (1, am_i who), (2, am_i ts)]) rfl (am_tab tk_X0_ofThemselves 42 rfl) rfl ?_
            refine am_goto (t := 22) (am_tab tk_X0_ofThemselves 43 rfl) (by decide) ?_
            have he : mkS (owB B who ts) (p + 1) = ao_or (mkS (owB B who ts) p) (ao_shl (tdE B ts (ffM B) (fzM B) 0 0 p) (p : Int)) := by
              rcases htd with h0 | h0
              · rw [h0, or_sh0 (mkS_256 _ (by omega)) (by omega)]
                exact (mkS_no _ (by unfold owB; rw [decide_eq_true_eq, if_neg hrl]; exact fun h => absurd (h.2.symm.trans h0) (by decide))).symm
              · rw [h0]
                exact (mkS_or _ (by omega) (by unfold owB; rw [decide_eq_true_eq, if_neg hrl]; exact ⟨h41, h0⟩)).symm
            exact am_less (by intro q hq; simp only [List.mem_cons, List.not_mem_nil, or_false] at hq; rcases hq with rfl | rfl | rfl | rfl | rfl <;> simp [he]) (ih22 (p + 1) T2 (by omega) hF3 (by omega))
    refine am_less (by intro q hq; simp only [List.mem_cons, List.not_mem_nil, or_false] at hq; rcases hq with rfl | rfl | rfl | rfl | rfl <;> simp [mkS]) (L22 (_ + 1) 0 σ (by exact Nat.lt_succ_self _) (frw.refl _ σ) (Nat.zero_le _))
  · refine am_iload_n (q := 14) rfl (am_tab tk_X0_ofThemselves 5 rfl) rfl ?_
    refine am_iload_n (q := 15) rfl (am_tab tk_X0_ofThemselves 6 rfl) rfl ?_
    refine am_iand (q := 16) (am_tab tk_X0_ofThemselves 7 rfl) rfl ?_
    refine am_iret (Or.inl rfl) (Nat.le_of_ble_eq_true rfl) (Nat.le_of_ble_eq_true rfl) (am_tab tk_X0_ofThemselves 8 rfl) ?_
    refine hQ _ _ ?_
    refine ⟨congrArg (fun z => some (am_i z)) ?_, frw.refl _ σ⟩
    have h0 := hz.mp h10
    refine mkS_ext (and_tb hw ht).1 h8 (fun q hq => ?_)
    rw [(and_tb hw ht).2 q]
    by_cases h1 : tb who q = 1 ∧ tb ts q = 1
    · rw [if_pos h1, if_pos ⟨hwp q hq h1.1, by unfold owB; rw [decide_eq_true_eq, if_pos h0]; exact h1⟩]
    · rw [if_neg h1, if_neg]
      rintro ⟨_, h3⟩
      unfold owB at h3
      rw [decide_eq_true_eq, if_pos h0] at h3
      exact h1 h3
