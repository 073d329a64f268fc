def dts (B : am_H) : Int := B.2.1 96 (20 + B.2.1 96 1).toNat
def hrV (B : am_H) (p q : Nat) : Int := tdE B (dts B) (ffM B) (fzM B) (B.2.1 87 (8 + q)) 1 p
def hrC (B : am_H) (p q : Nat) : Int := if B.2.1 93 3 = -1 then 1 else hrV B p q
/-- what has been tried this day is remembered -/
def MEM (σ B : am_H) : Prop := ∀ p : Nat, p < 8 → (0 ≤ σ.2.1 47 p ∧ σ.2.1 47 p < 256) ∧ (0 ≤ σ.2.1 48 p ∧ σ.2.1 48 p < 256) ∧ ∀ q : Nat, q < 8 → tb (σ.2.1 48 p) q = if tb (σ.2.1 47 p) q = 1 then hrV B p q else 0
theorem or_sh {x v : Int} {q : Nat} (hx : 0 ≤ x ∧ x < 256) (hv : v = 0 ∨ v = 1) (hq : q < 8) : (0 ≤ ao_or x (ao_shl v (q : Int)) ∧ ao_or x (ao_shl v (q : Int)) < 256) ∧ ∀ k : Nat, k < 8 → tb (ao_or x (ao_shl v (q : Int))) k = if k = q ∧ v = 1 then 1 else tb x k := by
  rcases hv with rfl | rfl
  · rw [or_sh0 hx hq]
    exact ⟨hx, fun k _ => by rw [if_neg (by omega)]⟩
  · refine ⟨(or_tb hx (shl_rng q hq)).1, fun k hk => ?_⟩
    rw [(or_tb hx (shl_rng q hq)).2 k, shl_tb q hq k hk]
    have h1 := tb_01 x k
    by_cases h : k = q
    · rw [if_pos (Or.inr (if_pos h)), if_pos ⟨h, rfl⟩]
    · by_cases h2 : tb x k = 1
      · rw [if_pos (Or.inl h2), if_neg (fun z => h z.1), h2]
      · rw [if_neg, if_neg (fun z => h z.1)]
        · omega
        · rintro (h3 | h3)
          · exact h2 h3
          · rw [if_neg h] at h3; exact absurd h3 (by decide)
theorem dts_rng {B : am_H} (hG : GD B) : 0 ≤ dts B ∧ dts B < 256 := by
  have h1 := hG.R.day
  have h2 := hG.R.Y
  unfold dts
  rw [show (20 + B.2.1 96 1).toNat = 20 + (B.2.1 96 1).toNat by omega]
  exact hG.R.told _ (by omega)
theorem hrV_01 {B : am_H} (hG : GD B) (h : ¬ B.2.1 93 3 = -1) {p q : Nat} (hp : p < 8) (hq : q < 8) : hrV B p q = 0 ∨ hrV B p q = 1 := by
  have hk := hG.K.ok (wh := 1) (by decide) h
  have h9 := hk.1
  rw [hk.2] at h9
  exact evL_01 (pe_r hG hp (hG.R.mind q hq)) _ _ _ (show tyOK [] [] from trivial) h9
theorem MEM.on {S T B : am_H} {p q : Nat} {v : Int} (h : MEM S B) (hp : p < 8) (hq : q < 8) (h0 : ¬ tb (S.2.1 47 p) q = 1) (hv : v = 0 ∨ v = 1) (hhv : v = hrV B p q) (h7 : ∀ k, T.2.1 47 k = if k = p then ao_or (S.2.1 47 p) (ao_shl 1 (q : Int)) else S.2.1 47 k) (h8 : ∀ k, T.2.1 48 k = if k = p then ao_or (S.2.1 48 p) (ao_shl v (q : Int)) else S.2.1 48 k) : MEM T B ∧ tb (T.2.1 48 p) q = hrV B p q := by
  obtain ⟨a1, a2, a3⟩ := h p hp
  have e7 := or_sh a1 (Or.inr rfl) hq
  have e8 := or_sh a2 hv hq
  have key : ∀ k : Nat, k < 8 → tb (T.2.1 48 p) k = if tb (T.2.1 47 p) k = 1 then hrV B p k else 0 := by
    intro k hk
    rw [h7 p, h8 p, if_pos rfl, if_pos rfl, e7.2 k hk, e8.2 k hk]
    by_cases g : k = q
    · subst g
      rw [if_pos (show (if k = k ∧ (1 : Int) = 1 then (1 : Int) else tb (S.2.1 47 p) k) = 1 from if_pos ⟨rfl, rfl⟩)]
      rcases hv with rfl | rfl
      · rw [if_neg (by omega), a3 k hk, if_neg h0]; exact hhv
      · rw [if_pos ⟨rfl, rfl⟩]; exact hhv
    · rw [if_neg (show ¬ (k = q ∧ v = 1) from fun z => g z.1), if_neg (show ¬ (k = q ∧ (1 : Int) = 1) from fun z => g z.1)]
      exact a3 k hk
  refine ⟨fun k hk => ?_, ?_⟩
  · by_cases g : k = p
    · subst g
      refine ⟨?_, ?_, key⟩
      · rw [h7 k, if_pos rfl]; exact e7.1
      · rw [h8 k, if_pos rfl]; exact e8.1
    · rw [h7 k, h8 k, if_neg g, if_neg g]
      exact h k hk
  · rw [key q hq, if_pos]
    rw [h7 p, if_pos rfl, e7.2 q hq, if_pos ⟨rfl, rfl⟩]
theorem MEM.fr {W : Nat → Nat → Prop} {S T B : am_H} (h : MEM S B) (hF : frw W S T) (hW : ∀ a j, a = 47 ∨ a = 48 → ¬ W a j) : MEM T B := by
  intro p hp
  rw [hF.2.2 47 p (hW _ _ (Or.inl rfl)), hF.2.2 48 p (hW _ _ (Or.inr rfl))]
  exact h p hp
set_option maxRecDepth 100000 in
theorem c_wouldHear_3_32 (σ B : am_H) (hL : lay σ) (hG : GD B) (hD : DWr 3 32 σ B) (p : Nat) (q : Nat) (hM : MEM σ B) (hpp : p < pN B) (hqp : q < pN B) : am_met M_X0_wouldHear [am_r 44, am_i ((p : Int)), am_i ((q : Int))] σ (fun r σ' => r = some (am_i (hrC B p q)) ∧ MEM σ' B ∧ frw W_dw σ σ') := by
  refine am_qq (fun Q hQ => ?_)
  refine am_enter (show plainFor yX0_wouldHear = true by decide +kernel) rfl (Nat.le_of_ble_eq_true rfl) (fun _ _ _ => trivial) ?_
  have h8 : pN B ≤ 8 := by have := hG.R.P; unfold pN; omega
  have hz := rlB_0 hG.K (wh := 1) (by decide)
  have hm := hM p (by omega)
  have hday := hG.R.day
  have hYY := hG.R.Y
  have hdayN : Int.toNat (B.2.1 96 1) = (B.2.1 96 1).toNat := rfl
  have hdts : B.2.1 96 (20 + (B.2.1 96 1).toNat) = dts B := by unfold dts; rw [show (20 + B.2.1 96 1).toNat = 20 + (B.2.1 96 1).toNat by omega]
  refine am_aload_n (q := 1) rfl (am_tab tk_X0_wouldHear 0 rfl) rfl ?_
  refine am_getR (q := 4) (a := 44) (k := 0) (n := 14) (j := 8) (r := some (3)) (Ls_44 hL) (by decide) rfl hD.1.1 (by decide) (Or.inl kf_X0_24) (am_tab tk_X0_wouldHear 1 rfl) rfl ?_
  refine am_getR (q := 7) (a := 3) (k := 8) (n := 17) (j := 16) (r := some (13)) (Ls_3 hL) (by decide) rfl (Lr_3_16 hL) (by decide) (Or.inr kf_X0_146) (am_tab tk_X0_wouldHear 2 rfl) rfl ?_
  refine am_getI (q := 10) (a := 13) (k := 5) (n := 2) (j := 1) (x := ((rlB B 1).length : Int)) (Ls_13 hL) (by decide) rfl hD.tw.hears.size (by decide) (Or.inr kf_X0_120) (am_tab tk_X0_wouldHear 3 rfl) rfl ?_
  refine am_if_ne (q := 13) (t := 15) (am_tab tk_X0_wouldHear 4 rfl) (by decide) rfl (fun h10 => ?_) (fun h10 => ?_)
  · have hrl : ¬ B.2.1 93 3 = -1 := fun h => h10 (hz.mpr h)
    have hrk := hG.K.ok (wh := 1) (by decide) hrl
    refine am_iload_n (q := 16) rfl (am_tab tk_X0_wouldHear 7 rfl) rfl ?_
    refine am_if_lt (q := 19) (t := 25) (am_tab tk_X0_wouldHear 8 rfl) (by decide) rfl (fun h16 => ?_) (fun h16 => ?_)
    · exact absurd h16 (by omega)
    · refine am_iload_n (q := 20) rfl (am_tab tk_X0_wouldHear 9 rfl) rfl ?_
      refine am_bipush (q := 22) (n := 8) (by decide) rfl (am_tab tk_X0_wouldHear 10 rfl) rfl ?_
      refine am_icmp_lt (q := 25) (t := 27) (am_tab tk_X0_wouldHear 11 rfl) (by decide) rfl (fun h22 => ?_) (fun h22 => ?_)
      · refine am_aload_n (q := 28) rfl (am_tab tk_X0_wouldHear 14 rfl) rfl ?_
        refine am_getR (q := 31) (a := 44) (k := 0) (n := 14) (j := 12) (r := some (47)) (Ls_44 hL) (by decide) rfl (Lr_44_12 hL) (by decide) (Or.inl kf_X0_18) (am_tab tk_X0_wouldHear 15 rfl) rfl ?_
        refine am_iload_n (q := 32) rfl (am_tab tk_X0_wouldHear 16 rfl) rfl ?_
        refine am_iald (q := 33) (a := 47) (n := 8) (x := (σ.2.1 47 p)) (Ls_47 hL) (by omega) (by omega) (by rw [show Int.toNat (p : Int) = p by omega]) (am_tab tk_X0_wouldHear 17 rfl) rfl ?_
        refine am_iload_n (q := 34) rfl (am_tab tk_X0_wouldHear 18 rfl) rfl ?_
        refine am_callS0 (q := 37) (me2 := M_X9_bit) (As := [am_i ((σ.2.1 47 p)), am_i ((q : Int))]) (rest := []) (out := [am_i (tb (σ.2.1 47 p) (q : Int))]) (c_bit σ (σ.2.1 47 p) (q : Int) (hm.1) (by omega)) ⟨rfl, rfl⟩ ⟨Or.inr km_X0_105, kc_X9_bit, kn_X9, kd_X9_bit, ⟨(Nat.le_of_ble_eq_true rfl), (Nat.le_of_ble_eq_true rfl)⟩, ⟨(Nat.le_of_ble_eq_true rfl), (Nat.le_of_ble_eq_true rfl)⟩, (Nat.le_of_ble_eq_true rfl)⟩ ki_X9_bit rfl rfl (am_tab tk_X0_wouldHear 19 rfl) rfl ?_
        refine am_if_ne (q := 40) (t := 118) (am_tab tk_X0_wouldHear 20 rfl) (by decide) rfl (fun h37 => ?_) (fun h37 => ?_)
        · refine am_aload_n (q := 119) rfl (am_tab tk_X0_wouldHear 68 rfl) rfl ?_
          refine am_getR (q := 122) (a := 44) (k := 0) (n := 14) (j := 13) (r := some (48)) (Ls_44 hL) (by decide) rfl (Lr_44_13 hL) (by decide) (Or.inl kf_X0_21) (am_tab tk_X0_wouldHear 69 rfl) rfl ?_
          refine am_iload_n (q := 123) rfl (am_tab tk_X0_wouldHear 70 rfl) rfl ?_
          refine am_iald (q := 124) (a := 48) (n := 8) (x := (σ.2.1 48 p)) (Ls_48 hL) (by omega) (by omega) (by rw [show Int.toNat (p : Int) = p by omega]) (am_tab tk_X0_wouldHear 71 rfl) rfl ?_
          refine am_iload_n (q := 125) rfl (am_tab tk_X0_wouldHear 72 rfl) rfl ?_
          refine am_callS0 (q := 128) (me2 := M_X9_bit) (As := [am_i ((σ.2.1 48 p)), am_i ((q : Int))]) (rest := []) (out := [am_i (tb (σ.2.1 48 p) (q : Int))]) (c_bit σ (σ.2.1 48 p) (q : Int) (hm.2.1) (by omega)) ⟨rfl, rfl⟩ ⟨Or.inr km_X0_105, kc_X9_bit, kn_X9, kd_X9_bit, ⟨(Nat.le_of_ble_eq_true rfl), (Nat.le_of_ble_eq_true rfl)⟩, ⟨(Nat.le_of_ble_eq_true rfl), (Nat.le_of_ble_eq_true rfl)⟩, (Nat.le_of_ble_eq_true rfl)⟩ ki_X9_bit rfl rfl (am_tab tk_X0_wouldHear 73 rfl) rfl ?_
          refine am_iconst (q := 129) (n := 1) (by decide) (am_tab tk_X0_wouldHear 74 rfl) rfl ?_
          refine am_icmp_ne (q := 132) (t := 136) (am_tab tk_X0_wouldHear 75 rfl) (by decide) rfl (fun h129 => ?_) (fun h129 => ?_)
          · refine am_iconst (q := 137) (n := 0) (by decide) (am_tab tk_X0_wouldHear 78 rfl) rfl ?_
            refine am_iret (Or.inr ⟨rfl, by first | exact Or.inl rfl | exact Or.inr rfl | omega⟩) (Nat.le_of_ble_eq_true rfl) (Nat.le_of_ble_eq_true rfl) (am_tab tk_X0_wouldHear 79 rfl) ?_
            refine hQ _ _ ?_
            unfold hrC
            rw [if_neg hrl]
            have h9 := hm.2.2 q (by omega)
            rw [if_pos (by have := tb_01 (σ.2.1 47 p) q; omega)] at h9
            refine ⟨congrArg (fun z => some (am_i z)) ?_, hM, frw.refl _ σ⟩
            have := hrV_01 hG hrl (p := p) (q := q) (by omega) (by omega)
            omega
          · refine am_iconst (q := 133) (n := 1) (by decide) (am_tab tk_X0_wouldHear 76 rfl) rfl ?_
            refine am_goto (t := 137) (am_tab tk_X0_wouldHear 77 rfl) (by decide) ?_
            refine am_iret (Or.inr ⟨rfl, by first | exact Or.inl rfl | exact Or.inr rfl | omega⟩) (Nat.le_of_ble_eq_true rfl) (Nat.le_of_ble_eq_true rfl) (am_tab tk_X0_wouldHear 79 rfl) ?_
            refine hQ _ _ ?_
            unfold hrC
            rw [if_neg hrl]
            have h9 := hm.2.2 q (by omega)
            rw [if_pos (by have := tb_01 (σ.2.1 47 p) q; omega)] at h9
            refine ⟨congrArg (fun z => some (am_i z)) ?_, hM, frw.refl _ σ⟩
            have := hrV_01 hG hrl (p := p) (q := q) (by omega) (by omega)
            omega
        · refine am_aload_n (q := 41) rfl (am_tab tk_X0_wouldHear 21 rfl) rfl ?_
          refine am_getR (q := 44) (a := 44) (k := 0) (n := 14) (j := 12) (r := some (47)) (Ls_44 hL) (by decide) rfl (Lr_44_12 hL) (by decide) (Or.inl kf_X0_18) (am_tab tk_X0_wouldHear 22 rfl) rfl ?_
          refine am_iload_n (q := 45) rfl (am_tab tk_X0_wouldHear 23 rfl) rfl ?_
          refine am_dup2 (q := 46) rfl rfl (am_tab tk_X0_wouldHear 24 rfl) rfl ?_
          refine am_iald (q := 47) (a := 47) (n := 8) (x := (σ.2.1 47 p)) (Ls_47 hL) (by omega) (by omega) (by rw [show Int.toNat (p : Int) = p by omega]) (am_tab tk_X0_wouldHear 25 rfl) rfl ?_
          refine am_iconst (q := 48) (n := 1) (by decide) (am_tab tk_X0_wouldHear 26 rfl) rfl ?_
          refine am_iload_n (q := 49) rfl (am_tab tk_X0_wouldHear 27 rfl) rfl ?_
          refine am_ishl (q := 50) (am_tab tk_X0_wouldHear 28 rfl) rfl ?_
          refine am_ior (q := 51) (am_tab tk_X0_wouldHear 29 rfl) rfl ?_
          refine am_iast (q := 52) (a := 47) (n := 8) (Ls_47 hL) (by omega) (by omega) (am_tab tk_X0_wouldHear 30 rfl) rfl ?_
          refine am_aload_n (q := 53) rfl (am_tab tk_X0_wouldHear 31 rfl) rfl ?_
          refine am_iload_n (q := 54) rfl (am_tab tk_X0_wouldHear 32 rfl) rfl ?_
          refine am_aload_n (q := 55) rfl (am_tab tk_X0_wouldHear 33 rfl) rfl ?_
          refine am_getR (q := 58) (a := 44) (k := 0) (n := 14) (j := 9) (r := some (32)) (Ls_44 hL) (by decide) rfl hD.1.2 (by decide) (Or.inl kf_X0_28) (am_tab tk_X0_wouldHear 34 rfl) rfl ?_
          refine am_getR (q := 61) (a := 32) (k := 1) (n := 11) (j := 6) (r := some (34)) (Ls_32 hL) (by decide) rfl (Lr_32_6 hL) (by decide) (Or.inr kf_X0_84) (am_tab tk_X0_wouldHear 35 rfl) rfl ?_
          refine am_aload_n (q := 62) rfl (am_tab tk_X0_wouldHear 36 rfl) rfl ?_
          refine am_getI (q := 65) (a := 44) (k := 0) (n := 14) (j := 1) (x := (B.2.1 96 1)) (Ls_44 hL) (by decide) rfl hD.2.1 (by decide) (Or.inl kf_X0_55) (am_tab tk_X0_wouldHear 37 rfl) rfl ?_
          refine am_iald (q := 66) (a := 34) (n := 91) (x := (dts B)) (Ls_34 hL) (by omega) (by omega) (by rw [hdayN]; exact (hD.2.2.2.2.2 _ (by omega)).trans hdts) (am_tab tk_X0_wouldHear 38 rfl) rfl ?_
          refine am_iload_n (q := 67) rfl (am_tab tk_X0_wouldHear 39 rfl) rfl ?_
          refine am_callS0 (q := 70) (me2 := M_X9_bit) (As := [am_i ((dts B)), am_i ((p : Int))]) (rest := [am_i ((p : Int)), am_r 44]) (out := [am_i (tb (dts B) (p : Int)), am_i ((p : Int)), am_r 44]) (c_bit (am_setN σ 47 (Int.toNat (p : Int)) (ao_or (σ.2.1 47 p) (ao_shl 1 (q : Int)))) (dts B) (p : Int) (dts_rng hG) (by omega)) ⟨rfl, rfl⟩ ⟨Or.inr km_X0_105, kc_X9_bit, kn_X9, kd_X9_bit, ⟨(Nat.le_of_ble_eq_true rfl), (Nat.le_of_ble_eq_true rfl)⟩, ⟨(Nat.le_of_ble_eq_true rfl), (Nat.le_of_ble_eq_true rfl)⟩, (Nat.le_of_ble_eq_true rfl)⟩ ki_X9_bit rfl rfl (am_tab tk_X0_wouldHear 40 rfl) rfl ?_
          refine am_callV0 (q := 73) (me2 := M_X0_setPerson) (b := 44) (kb := 0) (nb := 14) (As := [am_i ((p : Int)), am_i (tb (dts B) (p : Int))]) (rest := []) (out := []) (c_setPerson_3_32 (am_setN σ 47 (Int.toNat (p : Int)) (ao_or (σ.2.1 47 p) (ao_shl 1 (q : Int)))) B hL hG (hD.fr ((frw.refl W_dw σ).setN (by unfold W_dw; omega)) (by decide) (by decide)) p (tb (dts B) (p : Int)) hpp) ⟨rfl, rfl⟩ (Ls_44 hL) (by decide) ⟨Or.inl km_X0_125, kc_X0_setPerson, kn_X0, kd_X0_setPerson, ⟨(Nat.le_of_ble_eq_true rfl), (Nat.le_of_ble_eq_true rfl)⟩, ⟨(Nat.le_of_ble_eq_true rfl), (Nat.le_of_ble_eq_true rfl)⟩, (Nat.le_of_ble_eq_true rfl)⟩ ki_X0_setPerson ks_X0_setPerson rfl rfl (am_tab tk_X0_wouldHear 41 rfl) rfl ?_
          refine am_aload_n (q := 74) rfl (am_tab tk_X0_wouldHear 42 rfl) rfl ?_
          refine am_getR (q := 77) (a := 44) (k := 0) (n := 14) (j := 10) (r := some (45)) (Ls_44 hL) (by decide) rfl (Lr_44_10 hL) (by decide) (Or.inl kf_X0_9) (am_tab tk_X0_wouldHear 43 rfl) rfl ?_
          refine am_bipush (q := 79) (n := 17) (by decide) rfl (am_tab tk_X0_wouldHear 44 rfl) rfl ?_
          refine am_aload_n (q := 80) rfl (am_tab tk_X0_wouldHear 45 rfl) rfl ?_
          refine am_getR (q := 83) (a := 44) (k := 0) (n := 14) (j := 8) (r := some (3)) (Ls_44 hL) (by decide) rfl hD.1.1 (by decide) (Or.inl kf_X0_24) (am_tab tk_X0_wouldHear 46 rfl) rfl ?_
          refine am_getR (q := 86) (a := 3) (k := 8) (n := 17) (j := 9) (r := some (5)) (Ls_3 hL) (by decide) rfl (Lr_3_9 hL) (by decide) (Or.inr kf_X0_149) (am_tab tk_X0_wouldHear 47 rfl) rfl ?_
          refine am_iload_n (q := 87) rfl (am_tab tk_X0_wouldHear 48 rfl) rfl ?_
          refine am_iald (q := 88) (a := 5) (n := 8) (x := (B.2.1 87 (8 + q))) (Ls_5 hL) (by omega) (by omega) (by rw [show Int.toNat (q : Int) = q by omega]; exact hD.tw.minds q hqp) (am_tab tk_X0_wouldHear 49 rfl) rfl ?_
          refine am_iast (q := 89) (a := 45) (n := 34) (Ls_45 hL) (by omega) (by omega) (am_tab tk_X0_wouldHear 50 rfl) rfl ?_
          refine am_aload_n (q := 90) rfl (am_tab tk_X0_wouldHear 51 rfl) rfl ?_
          refine am_getR (q := 93) (a := 44) (k := 0) (n := 14) (j := 13) (r := some (48)) (Ls_44 hL) (by decide) rfl (Lr_44_13 hL) (by decide) (Or.inl kf_X0_21) (am_tab tk_X0_wouldHear 52 rfl) rfl ?_
          refine am_iload_n (q := 94) rfl (am_tab tk_X0_wouldHear 53 rfl) rfl ?_
          refine am_dup2 (q := 95) rfl rfl (am_tab tk_X0_wouldHear 54 rfl) rfl ?_
          refine am_iald (q := 96) (a := 48) (n := 8) (x := (σ.2.1 48 p)) (Ls_48 hL) (by omega) (by omega) (by rw [show Int.toNat (p : Int) = p by omega]; rfl) (am_tab tk_X0_wouldHear 55 rfl) rfl ?_
          have hF1 : frw W_dw σ (am_setN (am_setN (am_setN (am_setN (am_setN σ 47 (Int.toNat (p : Int)) (ao_or (σ.2.1 47 p) (ao_shl 1 (q : Int)))) 45 4 (tb (dts B) (p : Int))) 45 15 (B.2.1 96 (4 + p))) 45 2 (B.2.1 87 (8 + p))) 45 17 (B.2.1 87 (8 + q))) := (((((frw.refl W_dw σ).setN (by unfold W_dw; omega)).setN (by unfold W_dw; omega)).setN (by unfold W_dw; omega)).setN (by unfold W_dw; omega)).setN (by unfold W_dw; omega)
          refine am_aload_n (q := 97) rfl (am_tab tk_X0_wouldHear 56 rfl) rfl ?_
          refine am_getR (q := 100) (a := 44) (k := 0) (n := 14) (j := 8) (r := some (3)) (Ls_44 hL) (by decide) rfl hD.1.1 (by decide) (Or.inl kf_X0_24) (am_tab tk_X0_wouldHear 57 rfl) rfl ?_
          refine am_getR (q := 103) (a := 3) (k := 8) (n := 17) (j := 16) (r := some (13)) (Ls_3 hL) (by decide) rfl (Lr_3_16 hL) (by decide) (Or.inr kf_X0_146) (am_tab tk_X0_wouldHear 58 rfl) rfl ?_
          refine am_aload_n (q := 104) rfl (am_tab tk_X0_wouldHear 59 rfl) rfl ?_
          refine am_getR (q := 107) (a := 44) (k := 0) (n := 14) (j := 10) (r := some (45)) (Ls_44 hL) (by decide) rfl (Lr_44_10 hL) (by decide) (Or.inl kf_X0_9) (am_tab tk_X0_wouldHear 60 rfl) rfl ?_
          refine am_aload_n (q := 108) rfl (am_tab tk_X0_wouldHear 61 rfl) rfl ?_
          refine am_getR (q := 111) (a := 44) (k := 0) (n := 14) (j := 11) (r := some (46)) (Ls_44 hL) (by decide) rfl (Lr_44_11 hL) (by decide) (Or.inl kf_X0_15) (am_tab tk_X0_wouldHear 62 rfl) rfl ?_
          refine am_callVr (q := 114) (me2 := M_X5_valueOf) (b := 13) (kb := 5) (nb := 2) (As := [am_r 45, am_r 46]) (rest := [am_i ((σ.2.1 48 p)), am_i ((p : Int)), am_r 48]) (c_rule (am_setN (am_setN (am_setN (am_setN (am_setN σ 47 (Int.toNat (p : Int)) (ao_or (σ.2.1 47 p) (ao_shl 1 (q : Int)))) 45 4 (tb (dts B) (p : Int))) 45 15 (B.2.1 96 (4 + p))) 45 2 (B.2.1 87 (8 + p))) 45 17 (B.2.1 87 (8 + q))) hL (RLr.fr (W := W_dw) hD.tw.hears hF1 (by unfold W_dw; omega) (by unfold W_dw; omega)) (by decide) hrk.1 (pe B (dts B) (ffM B) (fzM B) (B.2.1 87 (8 + q)) p) (pe_r hG (by omega) (hG.R.mind q (by omega))) (prt hD.2.2.1.1 hD.2.2.1.2.1 hD.2.2.1.2.2.1 hD.2.2.1.2.2.2 rfl rfl rfl (fun _ => rfl))) ⟨rfl, rfl⟩ (Ls_13 hL) (by decide) ⟨Or.inr km_X0_129, kc_X5_valueOf, kn_X5, kd_X5_valueOf, ⟨(Nat.le_of_ble_eq_true rfl), (Nat.le_of_ble_eq_true rfl)⟩, ⟨(Nat.le_of_ble_eq_true rfl), (Nat.le_of_ble_eq_true rfl)⟩, (Nat.le_of_ble_eq_true rfl)⟩ ki_X5_valueOf ks_X5_valueOf rfl (am_tab tk_X0_wouldHear 63 rfl) rfl ?_
          rintro r T2 ⟨hr, hF2⟩
          have hr2 : r = some (am_i (hrV B p q)) := by rw [hr, hrk.2]; rfl
          subst hr2
          have hLT2 : lay T2 := hF2.L hL
          have hF3 : frw W_dw σ T2 := hF1.trans (hF2.mono (by unfold W_dw W_46; omega))
          have e7 : ∀ k, T2.2.1 47 k = if k = p then ao_or (σ.2.1 47 p) (ao_shl 1 (q : Int)) else σ.2.1 47 k := fun k => by
            rw [hF2.2.2 47 k (by unfold W_46; omega)]
            show (if 47 = 47 ∧ k = Int.toNat (p : Int) then _ else σ.2.1 47 k) = _
            by_cases g : k = p
            · rw [if_pos ⟨rfl, by omega⟩, if_pos g]
            · rw [if_neg (fun h => g (by omega)), if_neg g]
          have e8 : ∀ k, T2.2.1 48 k = σ.2.1 48 k := fun k => hF2.2.2 48 k (by unfold W_46; omega)
          refine am_st (st2 := [am_i (hrV B p q), am_i ((σ.2.1 48 p)), am_i ((p : Int)), am_r 48]) rfl ?_
          refine am_iload_n (q := 115) rfl (am_tab tk_X0_wouldHear 64 rfl) rfl ?_
          refine am_ishl (q := 116) (am_tab tk_X0_wouldHear 65 rfl) rfl ?_
          refine am_ior (q := 117) (am_tab tk_X0_wouldHear 66 rfl) rfl ?_
          refine am_iast (q := 118) (a := 48) (n := 8) (Ls_48 hLT2) (by omega) (by omega) (am_tab tk_X0_wouldHear 67 rfl) rfl ?_
          have hMN : MEM (am_setN T2 48 (Int.toNat (p : Int)) (ao_or (σ.2.1 48 p) (ao_shl (hrV B p q) (q : Int)))) B ∧ tb ((am_setN T2 48 (Int.toNat (p : Int)) (ao_or (σ.2.1 48 p) (ao_shl (hrV B p q) (q : Int)))).2.1 48 p) q = hrV B p q := MEM.on hM (by omega) (by omega) (by omega) (hrV_01 hG hrl (by omega) (by omega)) rfl e7 (fun k => by
            show (if 48 = 48 ∧ k = Int.toNat (p : Int) then _ else T2.2.1 48 k) = _
            by_cases g : k = p
            · rw [if_pos ⟨rfl, by omega⟩, if_pos g]
            · rw [if_neg (fun h => g (by omega)), if_neg g, e8 k])
          have hNX : (am_setN T2 48 (Int.toNat (p : Int)) (ao_or (σ.2.1 48 p) (ao_shl (hrV B p q) (q : Int)))).2.1 48 p = ao_or (σ.2.1 48 p) (ao_shl (hrV B p q) (q : Int)) := by
            show (if 48 = 48 ∧ p = Int.toNat (p : Int) then _ else T2.2.1 48 p) = _
            rw [if_pos ⟨rfl, by omega⟩]
          refine am_aload_n (q := 119) rfl (am_tab tk_X0_wouldHear 68 rfl) rfl ?_
          refine am_getR (q := 122) (a := 44) (k := 0) (n := 14) (j := 13) (r := some (48)) (Ls_44 hLT2) (by decide) rfl (Lr_44_13 hLT2) (by decide) (Or.inl kf_X0_21) (am_tab tk_X0_wouldHear 69 rfl) rfl ?_
          refine am_iload_n (q := 123) rfl (am_tab tk_X0_wouldHear 70 rfl) rfl ?_
          refine am_iald (q := 124) (a := 48) (n := 8) (x := (ao_or (σ.2.1 48 p) (ao_shl (hrV B p q) (q : Int)))) (Ls_48 hLT2) (by omega) (by omega) (by simp [am_setN]) (am_tab tk_X0_wouldHear 71 rfl) rfl ?_
          refine am_iload_n (q := 125) rfl (am_tab tk_X0_wouldHear 72 rfl) rfl ?_
          refine am_callS0 (q := 128) (me2 := M_X9_bit) (As := [am_i ((ao_or (σ.2.1 48 p) (ao_shl (hrV B p q) (q : Int)))), am_i ((q : Int))]) (rest := []) (out := [am_i (tb (ao_or (σ.2.1 48 p) (ao_shl (hrV B p q) (q : Int))) (q : Int))]) (c_bit (am_setN T2 48 (Int.toNat (p : Int)) (ao_or (σ.2.1 48 p) (ao_shl (hrV B p q) (q : Int)))) (ao_or (σ.2.1 48 p) (ao_shl (hrV B p q) (q : Int))) (q : Int) ((or_sh hm.2.1 (hrV_01 hG hrl (p := p) (q := q) (by omega) (by omega)) (by omega)).1) (by omega)) ⟨rfl, rfl⟩ ⟨Or.inr km_X0_105, kc_X9_bit, kn_X9, kd_X9_bit, ⟨(Nat.le_of_ble_eq_true rfl), (Nat.le_of_ble_eq_true rfl)⟩, ⟨(Nat.le_of_ble_eq_true rfl), (Nat.le_of_ble_eq_true rfl)⟩, (Nat.le_of_ble_eq_true rfl)⟩ ki_X9_bit rfl rfl (am_tab tk_X0_wouldHear 73 rfl) rfl ?_
          refine am_iconst (q := 129) (n := 1) (by decide) (am_tab tk_X0_wouldHear 74 rfl) rfl ?_
          refine am_icmp_ne (q := 132) (t := 136) (am_tab tk_X0_wouldHear 75 rfl) (by decide) rfl (fun h129 => ?_) (fun h129 => ?_)
          · refine am_iconst (q := 137) (n := 0) (by decide) (am_tab tk_X0_wouldHear 78 rfl) rfl ?_
            refine am_iret (Or.inr ⟨rfl, by first | exact Or.inl rfl | exact Or.inr rfl | omega⟩) (Nat.le_of_ble_eq_true rfl) (Nat.le_of_ble_eq_true rfl) (am_tab tk_X0_wouldHear 79 rfl) ?_
            refine hQ _ _ ?_
            unfold hrC
            rw [if_neg hrl]
            refine ⟨congrArg (fun z => some (am_i z)) ?_, hMN.1, hF3.setN (by unfold W_dw; omega)⟩
            have h9 := hMN.2
            rw [hNX] at h9
            have := hrV_01 hG hrl (p := p) (q := q) (by omega) (by omega)
            omega
          · refine am_iconst (q := 133) (n := 1) (by decide) (am_tab tk_X0_wouldHear 76 rfl) rfl ?_
            refine am_goto (t := 137) (am_tab tk_X0_wouldHear 77 rfl) (by decide) ?_
            refine am_iret (Or.inr ⟨rfl, by first | exact Or.inl rfl | exact Or.inr rfl | omega⟩) (Nat.le_of_ble_eq_true rfl) (Nat.le_of_ble_eq_true rfl) (am_tab tk_X0_wouldHear 79 rfl) ?_
            refine hQ _ _ ?_
            unfold hrC
            rw [if_neg hrl]
            refine ⟨congrArg (fun z => some (am_i z)) ?_, hMN.1, hF3.setN (by unfold W_dw; omega)⟩
            have h9 := hMN.2
            rw [hNX] at h9
            have := hrV_01 hG hrl (p := p) (q := q) (by omega) (by omega)
            omega
      · exact absurd h22 (by omega)
  · refine am_iconst (q := 14) (n := 1) (by decide) (am_tab tk_X0_wouldHear 5 rfl) rfl ?_
    refine am_iret (Or.inr ⟨rfl, by first | exact Or.inl rfl | exact Or.inr rfl | omega⟩) (Nat.le_of_ble_eq_true rfl) (Nat.le_of_ble_eq_true rfl) (am_tab tk_X0_wouldHear 6 rfl) ?_
    refine hQ _ _ ?_
    have h0 := hz.mp h10
    unfold hrC
    rw [if_pos h0]
    exact ⟨rfl, hM, frw.refl _ σ⟩
set_option maxRecDepth 100000 in
theorem c_wouldHear_3_37 (σ B : am_H) (hL : lay σ) (hG : GD B) (hD : DWr 3 37 σ B) (p : Nat) (q : Nat) (hM : MEM σ B) (hpp : p < pN B) (hqp : q < pN B) : am_met M_X0_wouldHear [am_r 44, am_i ((p : Int)), am_i ((q : Int))] σ (fun r σ' => r = some (am_i (hrC B p q)) ∧ MEM σ' B ∧ frw W_dw σ σ') := by
  refine am_qq (fun Q hQ => ?_)
  refine am_enter (show plainFor yX0_wouldHear = true by decide +kernel) rfl (Nat.le_of_ble_eq_true rfl) (fun _ _ _ => trivial) ?_
  have h8 : pN B ≤ 8 := by have := hG.R.P; unfold pN; omega
  have hz := rlB_0 hG.K (wh := 1) (by decide)
  have hm := hM p (by omega)
  have hday := hG.R.day
  have hYY := hG.R.Y
  have hdayN : Int.toNat (B.2.1 96 1) = (B.2.1 96 1).toNat := rfl
  have hdts : B.2.1 96 (20 + (B.2.1 96 1).toNat) = dts B := by unfold dts; rw [show (20 + B.2.1 96 1).toNat = 20 + (B.2.1 96 1).toNat by omega]
  refine am_aload_n (q := 1) rfl (am_tab tk_X0_wouldHear 0 rfl) rfl ?_
  refine am_getR (q := 4) (a := 44) (k := 0) (n := 14) (j := 8) (r := some (3)) (Ls_44 hL) (by decide) rfl hD.1.1 (by decide) (Or.inl kf_X0_24) (am_tab tk_X0_wouldHear 1 rfl) rfl ?_
  refine am_getR (q := 7) (a := 3) (k := 8) (n := 17) (j := 16) (r := some (13)) (Ls_3 hL) (by decide) rfl (Lr_3_16 hL) (by decide) (Or.inr kf_X0_146) (am_tab tk_X0_wouldHear 2 rfl) rfl ?_
  refine am_getI (q := 10) (a := 13) (k := 5) (n := 2) (j := 1) (x := ((rlB B 1).length : Int)) (Ls_13 hL) (by decide) rfl hD.tw.hears.size (by decide) (Or.inr kf_X0_120) (am_tab tk_X0_wouldHear 3 rfl) rfl ?_
  refine am_if_ne (q := 13) (t := 15) (am_tab tk_X0_wouldHear 4 rfl) (by decide) rfl (fun h10 => ?_) (fun h10 => ?_)
  · have hrl : ¬ B.2.1 93 3 = -1 := fun h => h10 (hz.mpr h)
    have hrk := hG.K.ok (wh := 1) (by decide) hrl
    refine am_iload_n (q := 16) rfl (am_tab tk_X0_wouldHear 7 rfl) rfl ?_
    refine am_if_lt (q := 19) (t := 25) (am_tab tk_X0_wouldHear 8 rfl) (by decide) rfl (fun h16 => ?_) (fun h16 => ?_)
    · exact absurd h16 (by omega)
    · refine am_iload_n (q := 20) rfl (am_tab tk_X0_wouldHear 9 rfl) rfl ?_
      refine am_bipush (q := 22) (n := 8) (by decide) rfl (am_tab tk_X0_wouldHear 10 rfl) rfl ?_
      refine am_icmp_lt (q := 25) (t := 27) (am_tab tk_X0_wouldHear 11 rfl) (by decide) rfl (fun h22 => ?_) (fun h22 => ?_)
      · refine am_aload_n (q := 28) rfl (am_tab tk_X0_wouldHear 14 rfl) rfl ?_
        refine am_getR (q := 31) (a := 44) (k := 0) (n := 14) (j := 12) (r := some (47)) (Ls_44 hL) (by decide) rfl (Lr_44_12 hL) (by decide) (Or.inl kf_X0_18) (am_tab tk_X0_wouldHear 15 rfl) rfl ?_
        refine am_iload_n (q := 32) rfl (am_tab tk_X0_wouldHear 16 rfl) rfl ?_
        refine am_iald (q := 33) (a := 47) (n := 8) (x := (σ.2.1 47 p)) (Ls_47 hL) (by omega) (by omega) (by rw [show Int.toNat (p : Int) = p by omega]) (am_tab tk_X0_wouldHear 17 rfl) rfl ?_
        refine am_iload_n (q := 34) rfl (am_tab tk_X0_wouldHear 18 rfl) rfl ?_
        refine am_callS0 (q := 37) (me2 := M_X9_bit) (As := [am_i ((σ.2.1 47 p)), am_i ((q : Int))]) (rest := []) (out := [am_i (tb (σ.2.1 47 p) (q : Int))]) (c_bit σ (σ.2.1 47 p) (q : Int) (hm.1) (by omega)) ⟨rfl, rfl⟩ ⟨Or.inr km_X0_105, kc_X9_bit, kn_X9, kd_X9_bit, ⟨(Nat.le_of_ble_eq_true rfl), (Nat.le_of_ble_eq_true rfl)⟩, ⟨(Nat.le_of_ble_eq_true rfl), (Nat.le_of_ble_eq_true rfl)⟩, (Nat.le_of_ble_eq_true rfl)⟩ ki_X9_bit rfl rfl (am_tab tk_X0_wouldHear 19 rfl) rfl ?_
        refine am_if_ne (q := 40) (t := 118) (am_tab tk_X0_wouldHear 20 rfl) (by decide) rfl (fun h37 => ?_) (fun h37 => ?_)
        · refine am_aload_n (q := 119) rfl (am_tab tk_X0_wouldHear 68 rfl) rfl ?_
          refine am_getR (q := 122) (a := 44) (k := 0) (n := 14) (j := 13) (r := some (48)) (Ls_44 hL) (by decide) rfl (Lr_44_13 hL) (by decide) (Or.inl kf_X0_21) (am_tab tk_X0_wouldHear 69 rfl) rfl ?_
          refine am_iload_n (q := 123) rfl (am_tab tk_X0_wouldHear 70 rfl) rfl ?_
          refine am_iald (q := 124) (a := 48) (n := 8) (x := (σ.2.1 48 p)) (Ls_48 hL) (by omega) (by omega) (by rw [show Int.toNat (p : Int) = p by omega]) (am_tab tk_X0_wouldHear 71 rfl) rfl ?_
          refine am_iload_n (q := 125) rfl (am_tab tk_X0_wouldHear 72 rfl) rfl ?_
          refine am_callS0 (q := 128) (me2 := M_X9_bit) (As := [am_i ((σ.2.1 48 p)), am_i ((q : Int))]) (rest := []) (out := [am_i (tb (σ.2.1 48 p) (q : Int))]) (c_bit σ (σ.2.1 48 p) (q : Int) (hm.2.1) (by omega)) ⟨rfl, rfl⟩ ⟨Or.inr km_X0_105, kc_X9_bit, kn_X9, kd_X9_bit, ⟨(Nat.le_of_ble_eq_true rfl), (Nat.le_of_ble_eq_true rfl)⟩, ⟨(Nat.le_of_ble_eq_true rfl), (Nat.le_of_ble_eq_true rfl)⟩, (Nat.le_of_ble_eq_true rfl)⟩ ki_X9_bit rfl rfl (am_tab tk_X0_wouldHear 73 rfl) rfl ?_
          refine am_iconst (q := 129) (n := 1) (by decide) (am_tab tk_X0_wouldHear 74 rfl) rfl ?_
          refine am_icmp_ne (q := 132) (t := 136) (am_tab tk_X0_wouldHear 75 rfl) (by decide) rfl (fun h129 => ?_) (fun h129 => ?_)
          · refine am_iconst (q := 137) (n := 0) (by decide) (am_tab tk_X0_wouldHear 78 rfl) rfl ?_
            refine am_iret (Or.inr ⟨rfl, by first | exact Or.inl rfl | exact Or.inr rfl | omega⟩) (Nat.le_of_ble_eq_true rfl) (Nat.le_of_ble_eq_true rfl) (am_tab tk_X0_wouldHear 79 rfl) ?_
            refine hQ _ _ ?_
            unfold hrC
            rw [if_neg hrl]
            have h9 := hm.2.2 q (by omega)
            rw [if_pos (by have := tb_01 (σ.2.1 47 p) q; omega)] at h9
            refine ⟨congrArg (fun z => some (am_i z)) ?_, hM, frw.refl _ σ⟩
            have := hrV_01 hG hrl (p := p) (q := q) (by omega) (by omega)
            omega
          · refine am_iconst (q := 133) (n := 1) (by decide) (am_tab tk_X0_wouldHear 76 rfl) rfl ?_
            refine am_goto (t := 137) (am_tab tk_X0_wouldHear 77 rfl) (by decide) ?_
            refine am_iret (Or.inr ⟨rfl, by first | exact Or.inl rfl | exact Or.inr rfl | omega⟩) (Nat.le_of_ble_eq_true rfl) (Nat.le_of_ble_eq_true rfl) (am_tab tk_X0_wouldHear 79 rfl) ?_
            refine hQ _ _ ?_
            unfold hrC
            rw [if_neg hrl]
            have h9 := hm.2.2 q (by omega)
            rw [if_pos (by have := tb_01 (σ.2.1 47 p) q; omega)] at h9
            refine ⟨congrArg (fun z => some (am_i z)) ?_, hM, frw.refl _ σ⟩
            have := hrV_01 hG hrl (p := p) (q := q) (by omega) (by omega)
            omega
        · refine am_aload_n (q := 41) rfl (am_tab tk_X0_wouldHear 21 rfl) rfl ?_
          refine am_getR (q := 44) (a := 44) (k := 0) (n := 14) (j := 12) (r := some (47)) (Ls_44 hL) (by decide) rfl (Lr_44_12 hL) (by decide) (Or.inl kf_X0_18) (am_tab tk_X0_wouldHear 22 rfl) rfl ?_
          refine am_iload_n (q := 45) rfl (am_tab tk_X0_wouldHear 23 rfl) rfl ?_
          refine am_dup2 (q := 46) rfl rfl (am_tab tk_X0_wouldHear 24 rfl) rfl ?_
          refine am_iald (q := 47) (a := 47) (n := 8) (x := (σ.2.1 47 p)) (Ls_47 hL) (by omega) (by omega) (by rw [show Int.toNat (p : Int) = p by omega]) (am_tab tk_X0_wouldHear 25 rfl) rfl ?_
          refine am_iconst (q := 48) (n := 1) (by decide) (am_tab tk_X0_wouldHear 26 rfl) rfl ?_
          refine am_iload_n (q := 49) rfl (am_tab tk_X0_wouldHear 27 rfl) rfl ?_
          refine am_ishl (q := 50) (am_tab tk_X0_wouldHear 28 rfl) rfl ?_
          refine am_ior (q := 51) (am_tab tk_X0_wouldHear 29 rfl) rfl ?_
          refine am_iast (q := 52) (a := 47) (n := 8) (Ls_47 hL) (by omega) (by omega) (am_tab tk_X0_wouldHear 30 rfl) rfl ?_
          refine am_aload_n (q := 53) rfl (am_tab tk_X0_wouldHear 31 rfl) rfl ?_
          refine am_iload_n (q := 54) rfl (am_tab tk_X0_wouldHear 32 rfl) rfl ?_
          refine am_aload_n (q := 55) rfl (am_tab tk_X0_wouldHear 33 rfl) rfl ?_
          refine am_getR (q := 58) (a := 44) (k := 0) (n := 14) (j := 9) (r := some (37)) (Ls_44 hL) (by decide) rfl hD.1.2 (by decide) (Or.inl kf_X0_28) (am_tab tk_X0_wouldHear 34 rfl) rfl ?_
          refine am_getR (q := 61) (a := 37) (k := 1) (n := 11) (j := 6) (r := some (39)) (Ls_37 hL) (by decide) rfl (Lr_37_6 hL) (by decide) (Or.inr kf_X0_84) (am_tab tk_X0_wouldHear 35 rfl) rfl ?_
          refine am_aload_n (q := 62) rfl (am_tab tk_X0_wouldHear 36 rfl) rfl ?_
          refine am_getI (q := 65) (a := 44) (k := 0) (n := 14) (j := 1) (x := (B.2.1 96 1)) (Ls_44 hL) (by decide) rfl hD.2.1 (by decide) (Or.inl kf_X0_55) (am_tab tk_X0_wouldHear 37 rfl) rfl ?_
          refine am_iald (q := 66) (a := 39) (n := 91) (x := (dts B)) (Ls_39 hL) (by omega) (by omega) (by rw [hdayN]; exact (hD.2.2.2.2.2 _ (by omega)).trans hdts) (am_tab tk_X0_wouldHear 38 rfl) rfl ?_
          refine am_iload_n (q := 67) rfl (am_tab tk_X0_wouldHear 39 rfl) rfl ?_
          refine am_callS0 (q := 70) (me2 := M_X9_bit) (As := [am_i ((dts B)), am_i ((p : Int))]) (rest := [am_i ((p : Int)), am_r 44]) (out := [am_i (tb (dts B) (p : Int)), am_i ((p : Int)), am_r 44]) (c_bit (am_setN σ 47 (Int.toNat (p : Int)) (ao_or (σ.2.1 47 p) (ao_shl 1 (q : Int)))) (dts B) (p : Int) (dts_rng hG) (by omega)) ⟨rfl, rfl⟩ ⟨Or.inr km_X0_105, kc_X9_bit, kn_X9, kd_X9_bit, ⟨(Nat.le_of_ble_eq_true rfl), (Nat.le_of_ble_eq_true rfl)⟩, ⟨(Nat.le_of_ble_eq_true rfl), (Nat.le_of_ble_eq_true rfl)⟩, (Nat.le_of_ble_eq_true rfl)⟩ ki_X9_bit rfl rfl (am_tab tk_X0_wouldHear 40 rfl) rfl ?_
          refine am_callV0 (q := 73) (me2 := M_X0_setPerson) (b := 44) (kb := 0) (nb := 14) (As := [am_i ((p : Int)), am_i (tb (dts B) (p : Int))]) (rest := []) (out := []) (c_setPerson_3_37 (am_setN σ 47 (Int.toNat (p : Int)) (ao_or (σ.2.1 47 p) (ao_shl 1 (q : Int)))) B hL hG (hD.fr ((frw.refl W_dw σ).setN (by unfold W_dw; omega)) (by decide) (by decide)) p (tb (dts B) (p : Int)) hpp) ⟨rfl, rfl⟩ (Ls_44 hL) (by decide) ⟨Or.inl km_X0_125, kc_X0_setPerson, kn_X0, kd_X0_setPerson, ⟨(Nat.le_of_ble_eq_true rfl), (Nat.le_of_ble_eq_true rfl)⟩, ⟨(Nat.le_of_ble_eq_true rfl), (Nat.le_of_ble_eq_true rfl)⟩, (Nat.le_of_ble_eq_true rfl)⟩ ki_X0_setPerson ks_X0_setPerson rfl rfl (am_tab tk_X0_wouldHear 41 rfl) rfl ?_
          refine am_aload_n (q := 74) rfl (am_tab tk_X0_wouldHear 42 rfl) rfl ?_
          refine am_getR (q := 77) (a := 44) (k := 0) (n := 14) (j := 10) (r := some (45)) (Ls_44 hL) (by decide) rfl (Lr_44_10 hL) (by decide) (Or.inl kf_X0_9) (am_tab tk_X0_wouldHear 43 rfl) rfl ?_
          refine am_bipush (q := 79) (n := 17) (by decide) rfl (am_tab tk_X0_wouldHear 44 rfl) rfl ?_
          refine am_aload_n (q := 80) rfl (am_tab tk_X0_wouldHear 45 rfl) rfl ?_
          refine am_getR (q := 83) (a := 44) (k := 0) (n := 14) (j := 8) (r := some (3)) (Ls_44 hL) (by decide) rfl hD.1.1 (by decide) (Or.inl kf_X0_24) (am_tab tk_X0_wouldHear 46 rfl) rfl ?_
          refine am_getR (q := 86) (a := 3) (k := 8) (n := 17) (j := 9) (r := some (5)) (Ls_3 hL) (by decide) rfl (Lr_3_9 hL) (by decide) (Or.inr kf_X0_149) (am_tab tk_X0_wouldHear 47 rfl) rfl ?_
          refine am_iload_n (q := 87) rfl (am_tab tk_X0_wouldHear 48 rfl) rfl ?_
          refine am_iald (q := 88) (a := 5) (n := 8) (x := (B.2.1 87 (8 + q))) (Ls_5 hL) (by omega) (by omega) (by rw [show Int.toNat (q : Int) = q by omega]; exact hD.tw.minds q hqp) (am_tab tk_X0_wouldHear 49 rfl) rfl ?_
          refine am_iast (q := 89) (a := 45) (n := 34) (Ls_45 hL) (by omega) (by omega) (am_tab tk_X0_wouldHear 50 rfl) rfl ?_
          refine am_aload_n (q := 90) rfl (am_tab tk_X0_wouldHear 51 rfl) rfl ?_
          refine am_getR (q := 93) (a := 44) (k := 0) (n := 14) (j := 13) (r := some (48)) (Ls_44 hL) (by decide) rfl (Lr_44_13 hL) (by decide) (Or.inl kf_X0_21) (am_tab tk_X0_wouldHear 52 rfl) rfl ?_
          refine am_iload_n (q := 94) rfl (am_tab tk_X0_wouldHear 53 rfl) rfl ?_
          refine am_dup2 (q := 95) rfl rfl (am_tab tk_X0_wouldHear 54 rfl) rfl ?_
          refine am_iald (q := 96) (a := 48) (n := 8) (x := (σ.2.1 48 p)) (Ls_48 hL) (by omega) (by omega) (by rw [show Int.toNat (p : Int) = p by omega]; rfl) (am_tab tk_X0_wouldHear 55 rfl) rfl ?_
          have hF1 : frw W_dw σ (am_setN (am_setN (am_setN (am_setN (am_setN σ 47 (Int.toNat (p : Int)) (ao_or (σ.2.1 47 p) (ao_shl 1 (q : Int)))) 45 4 (tb (dts B) (p : Int))) 45 15 (B.2.1 96 (4 + p))) 45 2 (B.2.1 87 (8 + p))) 45 17 (B.2.1 87 (8 + q))) := (((((frw.refl W_dw σ).setN (by unfold W_dw; omega)).setN (by unfold W_dw; omega)).setN (by unfold W_dw; omega)).setN (by unfold W_dw; omega)).setN (by unfold W_dw; omega)
          refine am_aload_n (q := 97) rfl (am_tab tk_X0_wouldHear 56 rfl) rfl ?_
          refine am_getR (q := 100) (a := 44) (k := 0) (n := 14) (j := 8) (r := some (3)) (Ls_44 hL) (by decide) rfl hD.1.1 (by decide) (Or.inl kf_X0_24) (am_tab tk_X0_wouldHear 57 rfl) rfl ?_
          refine am_getR (q := 103) (a := 3) (k := 8) (n := 17) (j := 16) (r := some (13)) (Ls_3 hL) (by decide) rfl (Lr_3_16 hL) (by decide) (Or.inr kf_X0_146) (am_tab tk_X0_wouldHear 58 rfl) rfl ?_
          refine am_aload_n (q := 104) rfl (am_tab tk_X0_wouldHear 59 rfl) rfl ?_
          refine am_getR (q := 107) (a := 44) (k := 0) (n := 14) (j := 10) (r := some (45)) (Ls_44 hL) (by decide) rfl (Lr_44_10 hL) (by decide) (Or.inl kf_X0_9) (am_tab tk_X0_wouldHear 60 rfl) rfl ?_
          refine am_aload_n (q := 108) rfl (am_tab tk_X0_wouldHear 61 rfl) rfl ?_
          refine am_getR (q := 111) (a := 44) (k := 0) (n := 14) (j := 11) (r := some (46)) (Ls_44 hL) (by decide) rfl (Lr_44_11 hL) (by decide) (Or.inl kf_X0_15) (am_tab tk_X0_wouldHear 62 rfl) rfl ?_
          refine am_callVr (q := 114) (me2 := M_X5_valueOf) (b := 13) (kb := 5) (nb := 2) (As := [am_r 45, am_r 46]) (rest := [am_i ((σ.2.1 48 p)), am_i ((p : Int)), am_r 48]) (c_rule (am_setN (am_setN (am_setN (am_setN (am_setN σ 47 (Int.toNat (p : Int)) (ao_or (σ.2.1 47 p) (ao_shl 1 (q : Int)))) 45 4 (tb (dts B) (p : Int))) 45 15 (B.2.1 96 (4 + p))) 45 2 (B.2.1 87 (8 + p))) 45 17 (B.2.1 87 (8 + q))) hL (RLr.fr (W := W_dw) hD.tw.hears hF1 (by unfold W_dw; omega) (by unfold W_dw; omega)) (by decide) hrk.1 (pe B (dts B) (ffM B) (fzM B) (B.2.1 87 (8 + q)) p) (pe_r hG (by omega) (hG.R.mind q (by omega))) (prt hD.2.2.1.1 hD.2.2.1.2.1 hD.2.2.1.2.2.1 hD.2.2.1.2.2.2 rfl rfl rfl (fun _ => rfl))) ⟨rfl, rfl⟩ (Ls_13 hL) (by decide) ⟨Or.inr km_X0_129, kc_X5_valueOf, kn_X5, kd_X5_valueOf, ⟨(Nat.le_of_ble_eq_true rfl), (Nat.le_of_ble_eq_true rfl)⟩, ⟨(Nat.le_of_ble_eq_true rfl), (Nat.le_of_ble_eq_true rfl)⟩, (Nat.le_of_ble_eq_true rfl)⟩ ki_X5_valueOf ks_X5_valueOf rfl (am_tab tk_X0_wouldHear 63 rfl) rfl ?_
          rintro r T2 ⟨hr, hF2⟩
          have hr2 : r = some (am_i (hrV B p q)) := by rw [hr, hrk.2]; rfl
          subst hr2
          have hLT2 : lay T2 := hF2.L hL
          have hF3 : frw W_dw σ T2 := hF1.trans (hF2.mono (by unfold W_dw W_46; omega))
          have e7 : ∀ k, T2.2.1 47 k = if k = p then ao_or (σ.2.1 47 p) (ao_shl 1 (q : Int)) else σ.2.1 47 k := fun k => by
            rw [hF2.2.2 47 k (by unfold W_46; omega)]
            show (if 47 = 47 ∧ k = Int.toNat (p : Int) then _ else σ.2.1 47 k) = _
            by_cases g : k = p
            · rw [if_pos ⟨rfl, by omega⟩, if_pos g]
            · rw [if_neg (fun h => g (by omega)), if_neg g]
          have e8 : ∀ k, T2.2.1 48 k = σ.2.1 48 k := fun k => hF2.2.2 48 k (by unfold W_46; omega)
          refine am_st (st2 := [am_i (hrV B p q), am_i ((σ.2.1 48 p)), am_i ((p : Int)), am_r 48]) rfl ?_
          refine am_iload_n (q := 115) rfl (am_tab tk_X0_wouldHear 64 rfl) rfl ?_
          refine am_ishl (q := 116) (am_tab tk_X0_wouldHear 65 rfl) rfl ?_
          refine am_ior (q := 117) (am_tab tk_X0_wouldHear 66 rfl) rfl ?_
          refine am_iast (q := 118) (a := 48) (n := 8) (Ls_48 hLT2) (by omega) (by omega) (am_tab tk_X0_wouldHear 67 rfl) rfl ?_
          have hMN : MEM (am_setN T2 48 (Int.toNat (p : Int)) (ao_or (σ.2.1 48 p) (ao_shl (hrV B p q) (q : Int)))) B ∧ tb ((am_setN T2 48 (Int.toNat (p : Int)) (ao_or (σ.2.1 48 p) (ao_shl (hrV B p q) (q : Int)))).2.1 48 p) q = hrV B p q := MEM.on hM (by omega) (by omega) (by omega) (hrV_01 hG hrl (by omega) (by omega)) rfl e7 (fun k => by
            show (if 48 = 48 ∧ k = Int.toNat (p : Int) then _ else T2.2.1 48 k) = _
            by_cases g : k = p
            · rw [if_pos ⟨rfl, by omega⟩, if_pos g]
            · rw [if_neg (fun h => g (by omega)), if_neg g, e8 k])
          have hNX : (am_setN T2 48 (Int.toNat (p : Int)) (ao_or (σ.2.1 48 p) (ao_shl (hrV B p q) (q : Int)))).2.1 48 p = ao_or (σ.2.1 48 p) (ao_shl (hrV B p q) (q : Int)) := by
            show (if 48 = 48 ∧ p = Int.toNat (p : Int) then _ else T2.2.1 48 p) = _
            rw [if_pos ⟨rfl, by omega⟩]
          refine am_aload_n (q := 119) rfl (am_tab tk_X0_wouldHear 68 rfl) rfl ?_
          refine am_getR (q := 122) (a := 44) (k := 0) (n := 14) (j := 13) (r := some (48)) (Ls_44 hLT2) (by decide) rfl (Lr_44_13 hLT2) (by decide) (Or.inl kf_X0_21) (am_tab tk_X0_wouldHear 69 rfl) rfl ?_
          refine am_iload_n (q := 123) rfl (am_tab tk_X0_wouldHear 70 rfl) rfl ?_
          refine am_iald (q := 124) (a := 48) (n := 8) (x := (ao_or (σ.2.1 48 p) (ao_shl (hrV B p q) (q : Int)))) (Ls_48 hLT2) (by omega) (by omega) (by simp [am_setN]) (am_tab tk_X0_wouldHear 71 rfl) rfl ?_
          refine am_iload_n (q := 125) rfl (am_tab tk_X0_wouldHear 72 rfl) rfl ?_
          refine am_callS0 (q := 128) (me2 := M_X9_bit) (As := [am_i ((ao_or (σ.2.1 48 p) (ao_shl (hrV B p q) (q : Int)))), am_i ((q : Int))]) (rest := []) (out := [am_i (tb (ao_or (σ.2.1 48 p) (ao_shl (hrV B p q) (q : Int))) (q : Int))]) (c_bit (am_setN T2 48 (Int.toNat (p : Int)) (ao_or (σ.2.1 48 p) (ao_shl (hrV B p q) (q : Int)))) (ao_or (σ.2.1 48 p) (ao_shl (hrV B p q) (q : Int))) (q : Int) ((or_sh hm.2.1 (hrV_01 hG hrl (p := p) (q := q) (by omega) (by omega)) (by omega)).1) (by omega)) ⟨rfl, rfl⟩ ⟨Or.inr km_X0_105, kc_X9_bit, kn_X9, kd_X9_bit, ⟨(Nat.le_of_ble_eq_true rfl), (Nat.le_of_ble_eq_true rfl)⟩, ⟨(Nat.le_of_ble_eq_true rfl), (Nat.le_of_ble_eq_true rfl)⟩, (Nat.le_of_ble_eq_true rfl)⟩ ki_X9_bit rfl rfl (am_tab tk_X0_wouldHear 73 rfl) rfl ?_
          refine am_iconst (q := 129) (n := 1) (by decide) (am_tab tk_X0_wouldHear 74 rfl) rfl ?_
          refine am_icmp_ne (q := 132) (t := 136) (am_tab tk_X0_wouldHear 75 rfl) (by decide) rfl (fun h129 => ?_) (fun h129 => ?_)
          · refine am_iconst (q := 137) (n := 0) (by decide) (am_tab tk_X0_wouldHear 78 rfl) rfl ?_
            refine am_iret (Or.inr ⟨rfl, by first | exact Or.inl rfl | exact Or.inr rfl | omega⟩) (Nat.le_of_ble_eq_true rfl) (Nat.le_of_ble_eq_true rfl) (am_tab tk_X0_wouldHear 79 rfl) ?_
            refine hQ _ _ ?_
            unfold hrC
            rw [if_neg hrl]
            refine ⟨congrArg (fun z => some (am_i z)) ?_, hMN.1, hF3.setN (by unfold W_dw; omega)⟩
            have h9 := hMN.2
            rw [hNX] at h9
            have := hrV_01 hG hrl (p := p) (q := q) (by omega) (by omega)
            omega
          · refine am_iconst (q := 133) (n := 1) (by decide) (am_tab tk_X0_wouldHear 76 rfl) rfl ?_
            refine am_goto (t := 137) (am_tab tk_X0_wouldHear 77 rfl) (by decide) ?_
            refine am_iret (Or.inr ⟨rfl, by first | exact Or.inl rfl | exact Or.inr rfl | omega⟩) (Nat.le_of_ble_eq_true rfl) (Nat.le_of_ble_eq_true rfl) (am_tab tk_X0_wouldHear 79 rfl) ?_
            refine hQ _ _ ?_
            unfold hrC
            rw [if_neg hrl]
            refine ⟨congrArg (fun z => some (am_i z)) ?_, hMN.1, hF3.setN (by unfold W_dw; omega)⟩
            have h9 := hMN.2
            rw [hNX] at h9
            have := hrV_01 hG hrl (p := p) (q := q) (by omega) (by omega)
            omega
      · exact absurd h22 (by omega)
  · refine am_iconst (q := 14) (n := 1) (by decide) (am_tab tk_X0_wouldHear 5 rfl) rfl ?_
    refine am_iret (Or.inr ⟨rfl, by first | exact Or.inl rfl | exact Or.inr rfl | omega⟩) (Nat.le_of_ble_eq_true rfl) (Nat.le_of_ble_eq_true rfl) (am_tab tk_X0_wouldHear 6 rfl) ?_
    refine hQ _ _ ?_
    have h0 := hz.mp h10
    unfold hrC
    rw [if_pos h0]
    exact ⟨rfl, hM, frw.refl _ σ⟩
set_option maxRecDepth 100000 in
theorem c_wouldHear_15_32 (σ B : am_H) (hL : lay σ) (hG : GD B) (hD : DWr 15 32 σ B) (p : Nat) (q : Nat) (hM : MEM σ B) (hpp : p < pN B) (hqp : q < pN B) : am_met M_X0_wouldHear [am_r 44, am_i ((p : Int)), am_i ((q : Int))] σ (fun r σ' => r = some (am_i (hrC B p q)) ∧ MEM σ' B ∧ frw W_dw σ σ') := by
  refine am_qq (fun Q hQ => ?_)
  refine am_enter (show plainFor yX0_wouldHear = true by decide +kernel) rfl (Nat.le_of_ble_eq_true rfl) (fun _ _ _ => trivial) ?_
  have h8 : pN B ≤ 8 := by have := hG.R.P; unfold pN; omega
  have hz := rlB_0 hG.K (wh := 1) (by decide)
  have hm := hM p (by omega)
  have hday := hG.R.day
  have hYY := hG.R.Y
  have hdayN : Int.toNat (B.2.1 96 1) = (B.2.1 96 1).toNat := rfl
  have hdts : B.2.1 96 (20 + (B.2.1 96 1).toNat) = dts B := by unfold dts; rw [show (20 + B.2.1 96 1).toNat = 20 + (B.2.1 96 1).toNat by omega]
  refine am_aload_n (q := 1) rfl (am_tab tk_X0_wouldHear 0 rfl) rfl ?_
  refine am_getR (q := 4) (a := 44) (k := 0) (n := 14) (j := 8) (r := some (15)) (Ls_44 hL) (by decide) rfl hD.1.1 (by decide) (Or.inl kf_X0_24) (am_tab tk_X0_wouldHear 1 rfl) rfl ?_
  refine am_getR (q := 7) (a := 15) (k := 8) (n := 17) (j := 16) (r := some (25)) (Ls_15 hL) (by decide) rfl (Lr_15_16 hL) (by decide) (Or.inr kf_X0_146) (am_tab tk_X0_wouldHear 2 rfl) rfl ?_
  refine am_getI (q := 10) (a := 25) (k := 5) (n := 2) (j := 1) (x := ((rlB B 1).length : Int)) (Ls_25 hL) (by decide) rfl hD.tw.hears.size (by decide) (Or.inr kf_X0_120) (am_tab tk_X0_wouldHear 3 rfl) rfl ?_
  refine am_if_ne (q := 13) (t := 15) (am_tab tk_X0_wouldHear 4 rfl) (by decide) rfl (fun h10 => ?_) (fun h10 => ?_)
  · have hrl : ¬ B.2.1 93 3 = -1 := fun h => h10 (hz.mpr h)
    have hrk := hG.K.ok (wh := 1) (by decide) hrl
    refine am_iload_n (q := 16) rfl (am_tab tk_X0_wouldHear 7 rfl) rfl ?_
    refine am_if_lt (q := 19) (t := 25) (am_tab tk_X0_wouldHear 8 rfl) (by decide) rfl (fun h16 => ?_) (fun h16 => ?_)
    · exact absurd h16 (by omega)
    · refine am_iload_n (q := 20) rfl (am_tab tk_X0_wouldHear 9 rfl) rfl ?_
      refine am_bipush (q := 22) (n := 8) (by decide) rfl (am_tab tk_X0_wouldHear 10 rfl) rfl ?_
      refine am_icmp_lt (q := 25) (t := 27) (am_tab tk_X0_wouldHear 11 rfl) (by decide) rfl (fun h22 => ?_) (fun h22 => ?_)
      · refine am_aload_n (q := 28) rfl (am_tab tk_X0_wouldHear 14 rfl) rfl ?_
        refine am_getR (q := 31) (a := 44) (k := 0) (n := 14) (j := 12) (r := some (47)) (Ls_44 hL) (by decide) rfl (Lr_44_12 hL) (by decide) (Or.inl kf_X0_18) (am_tab tk_X0_wouldHear 15 rfl) rfl ?_
        refine am_iload_n (q := 32) rfl (am_tab tk_X0_wouldHear 16 rfl) rfl ?_
        refine am_iald (q := 33) (a := 47) (n := 8) (x := (σ.2.1 47 p)) (Ls_47 hL) (by omega) (by omega) (by rw [show Int.toNat (p : Int) = p by omega]) (am_tab tk_X0_wouldHear 17 rfl) rfl ?_
        refine am_iload_n (q := 34) rfl (am_tab tk_X0_wouldHear 18 rfl) rfl ?_
        refine am_callS0 (q := 37) (me2 := M_X9_bit) (As := [am_i ((σ.2.1 47 p)), am_i ((q : Int))]) (rest := []) (out := [am_i (tb (σ.2.1 47 p) (q : Int))]) (c_bit σ (σ.2.1 47 p) (q : Int) (hm.1) (by omega)) ⟨rfl, rfl⟩ ⟨Or.inr km_X0_105, kc_X9_bit, kn_X9, kd_X9_bit, ⟨(Nat.le_of_ble_eq_true rfl), (Nat.le_of_ble_eq_true rfl)⟩, ⟨(Nat.le_of_ble_eq_true rfl), (Nat.le_of_ble_eq_true rfl)⟩, (Nat.le_of_ble_eq_true rfl)⟩ ki_X9_bit rfl rfl (am_tab tk_X0_wouldHear 19 rfl) rfl ?_
        refine am_if_ne (q := 40) (t := 118) (am_tab tk_X0_wouldHear 20 rfl) (by decide) rfl (fun h37 => ?_) (fun h37 => ?_)
        · refine am_aload_n (q := 119) rfl (am_tab tk_X0_wouldHear 68 rfl) rfl ?_
          refine am_getR (q := 122) (a := 44) (k := 0) (n := 14) (j := 13) (r := some (48)) (Ls_44 hL) (by decide) rfl (Lr_44_13 hL) (by decide) (Or.inl kf_X0_21) (am_tab tk_X0_wouldHear 69 rfl) rfl ?_
          refine am_iload_n (q := 123) rfl (am_tab tk_X0_wouldHear 70 rfl) rfl ?_
          refine am_iald (q := 124) (a := 48) (n := 8) (x := (σ.2.1 48 p)) (Ls_48 hL) (by omega) (by omega) (by rw [show Int.toNat (p : Int) = p by omega]) (am_tab tk_X0_wouldHear 71 rfl) rfl ?_
          refine am_iload_n (q := 125) rfl (am_tab tk_X0_wouldHear 72 rfl) rfl ?_
          refine am_callS0 (q := 128) (me2 := M_X9_bit) (As := [am_i ((σ.2.1 48 p)), am_i ((q : Int))]) (rest := []) (out := [am_i (tb (σ.2.1 48 p) (q : Int))]) (c_bit σ (σ.2.1 48 p) (q : Int) (hm.2.1) (by omega)) ⟨rfl, rfl⟩ ⟨Or.inr km_X0_105, kc_X9_bit, kn_X9, kd_X9_bit, ⟨(Nat.le_of_ble_eq_true rfl), (Nat.le_of_ble_eq_true rfl)⟩, ⟨(Nat.le_of_ble_eq_true rfl), (Nat.le_of_ble_eq_true rfl)⟩, (Nat.le_of_ble_eq_true rfl)⟩ ki_X9_bit rfl rfl (am_tab tk_X0_wouldHear 73 rfl) rfl ?_
          refine am_iconst (q := 129) (n := 1) (by decide) (am_tab tk_X0_wouldHear 74 rfl) rfl ?_
          refine am_icmp_ne (q := 132) (t := 136) (am_tab tk_X0_wouldHear 75 rfl) (by decide) rfl (fun h129 => ?_) (fun h129 => ?_)
          · refine am_iconst (q := 137) (n := 0) (by decide) (am_tab tk_X0_wouldHear 78 rfl) rfl ?_
            refine am_iret (Or.inr ⟨rfl, by first | exact Or.inl rfl | exact Or.inr rfl | omega⟩) (Nat.le_of_ble_eq_true rfl) (Nat.le_of_ble_eq_true rfl) (am_tab tk_X0_wouldHear 79 rfl) ?_
            refine hQ _ _ ?_
            unfold hrC
            rw [if_neg hrl]
            have h9 := hm.2.2 q (by omega)
            rw [if_pos (by have := tb_01 (σ.2.1 47 p) q; omega)] at h9
            refine ⟨congrArg (fun z => some (am_i z)) ?_, hM, frw.refl _ σ⟩
            have := hrV_01 hG hrl (p := p) (q := q) (by omega) (by omega)
            omega
          · refine am_iconst (q := 133) (n := 1) (by decide) (am_tab tk_X0_wouldHear 76 rfl) rfl ?_
            refine am_goto (t := 137) (am_tab tk_X0_wouldHear 77 rfl) (by decide) ?_
            refine am_iret (Or.inr ⟨rfl, by first | exact Or.inl rfl | exact Or.inr rfl | omega⟩) (Nat.le_of_ble_eq_true rfl) (Nat.le_of_ble_eq_true rfl) (am_tab tk_X0_wouldHear 79 rfl) ?_
            refine hQ _ _ ?_
            unfold hrC
            rw [if_neg hrl]
            have h9 := hm.2.2 q (by omega)
            rw [if_pos (by have := tb_01 (σ.2.1 47 p) q; omega)] at h9
            refine ⟨congrArg (fun z => some (am_i z)) ?_, hM, frw.refl _ σ⟩
            have := hrV_01 hG hrl (p := p) (q := q) (by omega) (by omega)
            omega
        · refine am_aload_n (q := 41) rfl (am_tab tk_X0_wouldHear 21 rfl) rfl ?_
          refine am_getR (q := 44) (a := 44) (k := 0) (n := 14) (j := 12) (r := some (47)) (Ls_44 hL) (by decide) rfl (Lr_44_12 hL) (by decide) (Or.inl kf_X0_18) (am_tab tk_X0_wouldHear 22 rfl) rfl ?_
          refine am_iload_n (q := 45) rfl (am_tab tk_X0_wouldHear 23 rfl) rfl ?_
          refine am_dup2 (q := 46) rfl rfl (am_tab tk_X0_wouldHear 24 rfl) rfl ?_
          refine am_iald (q := 47) (a := 47) (n := 8) (x := (σ.2.1 47 p)) (Ls_47 hL) (by omega) (by omega) (by rw [show Int.toNat (p : Int) = p by omega]) (am_tab tk_X0_wouldHear 25 rfl) rfl ?_
          refine am_iconst (q := 48) (n := 1) (by decide) (am_tab tk_X0_wouldHear 26 rfl) rfl ?_
          refine am_iload_n (q := 49) rfl (am_tab tk_X0_wouldHear 27 rfl) rfl ?_
          refine am_ishl (q := 50) (am_tab tk_X0_wouldHear 28 rfl) rfl ?_
          refine am_ior (q := 51) (am_tab tk_X0_wouldHear 29 rfl) rfl ?_
          refine am_iast (q := 52) (a := 47) (n := 8) (Ls_47 hL) (by omega) (by omega) (am_tab tk_X0_wouldHear 30 rfl) rfl ?_
          refine am_aload_n (q := 53) rfl (am_tab tk_X0_wouldHear 31 rfl) rfl ?_
          refine am_iload_n (q := 54) rfl (am_tab tk_X0_wouldHear 32 rfl) rfl ?_
          refine am_aload_n (q := 55) rfl (am_tab tk_X0_wouldHear 33 rfl) rfl ?_
          refine am_getR (q := 58) (a := 44) (k := 0) (n := 14) (j := 9) (r := some (32)) (Ls_44 hL) (by decide) rfl hD.1.2 (by decide) (Or.inl kf_X0_28) (am_tab tk_X0_wouldHear 34 rfl) rfl ?_
          refine am_getR (q := 61) (a := 32) (k := 1) (n := 11) (j := 6) (r := some (34)) (Ls_32 hL) (by decide) rfl (Lr_32_6 hL) (by decide) (Or.inr kf_X0_84) (am_tab tk_X0_wouldHear 35 rfl) rfl ?_
          refine am_aload_n (q := 62) rfl (am_tab tk_X0_wouldHear 36 rfl) rfl ?_
          refine am_getI (q := 65) (a := 44) (k := 0) (n := 14) (j := 1) (x := (B.2.1 96 1)) (Ls_44 hL) (by decide) rfl hD.2.1 (by decide) (Or.inl kf_X0_55) (am_tab tk_X0_wouldHear 37 rfl) rfl ?_
          refine am_iald (q := 66) (a := 34) (n := 91) (x := (dts B)) (Ls_34 hL) (by omega) (by omega) (by rw [hdayN]; exact (hD.2.2.2.2.2 _ (by omega)).trans hdts) (am_tab tk_X0_wouldHear 38 rfl) rfl ?_
          refine am_iload_n (q := 67) rfl (am_tab tk_X0_wouldHear 39 rfl) rfl ?_
          refine am_callS0 (q := 70) (me2 := M_X9_bit) (As := [am_i ((dts B)), am_i ((p : Int))]) (rest := [am_i ((p : Int)), am_r 44]) (out := [am_i (tb (dts B) (p : Int)), am_i ((p : Int)), am_r 44]) (c_bit (am_setN σ 47 (Int.toNat (p : Int)) (ao_or (σ.2.1 47 p) (ao_shl 1 (q : Int)))) (dts B) (p : Int) (dts_rng hG) (by omega)) ⟨rfl, rfl⟩ ⟨Or.inr km_X0_105, kc_X9_bit, kn_X9, kd_X9_bit, ⟨(Nat.le_of_ble_eq_true rfl), (Nat.le_of_ble_eq_true rfl)⟩, ⟨(Nat.le_of_ble_eq_true rfl), (Nat.le_of_ble_eq_true rfl)⟩, (Nat.le_of_ble_eq_true rfl)⟩ ki_X9_bit rfl rfl (am_tab tk_X0_wouldHear 40 rfl) rfl ?_
          refine am_callV0 (q := 73) (me2 := M_X0_setPerson) (b := 44) (kb := 0) (nb := 14) (As := [am_i ((p : Int)), am_i (tb (dts B) (p : Int))]) (rest := []) (out := []) (c_setPerson_15_32 (am_setN σ 47 (Int.toNat (p : Int)) (ao_or (σ.2.1 47 p) (ao_shl 1 (q : Int)))) B hL hG (hD.fr ((frw.refl W_dw σ).setN (by unfold W_dw; omega)) (by decide) (by decide)) p (tb (dts B) (p : Int)) hpp) ⟨rfl, rfl⟩ (Ls_44 hL) (by decide) ⟨Or.inl km_X0_125, kc_X0_setPerson, kn_X0, kd_X0_setPerson, ⟨(Nat.le_of_ble_eq_true rfl), (Nat.le_of_ble_eq_true rfl)⟩, ⟨(Nat.le_of_ble_eq_true rfl), (Nat.le_of_ble_eq_true rfl)⟩, (Nat.le_of_ble_eq_true rfl)⟩ ki_X0_setPerson ks_X0_setPerson rfl rfl (am_tab tk_X0_wouldHear 41 rfl) rfl ?_
          refine am_aload_n (q := 74) rfl (am_tab tk_X0_wouldHear 42 rfl) rfl ?_
          refine am_getR (q := 77) (a := 44) (k := 0) (n := 14) (j := 10) (r := some (45)) (Ls_44 hL) (by decide) rfl (Lr_44_10 hL) (by decide) (Or.inl kf_X0_9) (am_tab tk_X0_wouldHear 43 rfl) rfl ?_
          refine am_bipush (q := 79) (n := 17) (by decide) rfl (am_tab tk_X0_wouldHear 44 rfl) rfl ?_
          refine am_aload_n (q := 80) rfl (am_tab tk_X0_wouldHear 45 rfl) rfl ?_
          refine am_getR (q := 83) (a := 44) (k := 0) (n := 14) (j := 8) (r := some (15)) (Ls_44 hL) (by decide) rfl hD.1.1 (by decide) (Or.inl kf_X0_24) (am_tab tk_X0_wouldHear 46 rfl) rfl ?_
          refine am_getR (q := 86) (a := 15) (k := 8) (n := 17) (j := 9) (r := some (17)) (Ls_15 hL) (by decide) rfl (Lr_15_9 hL) (by decide) (Or.inr kf_X0_149) (am_tab tk_X0_wouldHear 47 rfl) rfl ?_
          refine am_iload_n (q := 87) rfl (am_tab tk_X0_wouldHear 48 rfl) rfl ?_
          refine am_iald (q := 88) (a := 17) (n := 8) (x := (B.2.1 87 (8 + q))) (Ls_17 hL) (by omega) (by omega) (by rw [show Int.toNat (q : Int) = q by omega]; exact hD.tw.minds q hqp) (am_tab tk_X0_wouldHear 49 rfl) rfl ?_
          refine am_iast (q := 89) (a := 45) (n := 34) (Ls_45 hL) (by omega) (by omega) (am_tab tk_X0_wouldHear 50 rfl) rfl ?_
          refine am_aload_n (q := 90) rfl (am_tab tk_X0_wouldHear 51 rfl) rfl ?_
          refine am_getR (q := 93) (a := 44) (k := 0) (n := 14) (j := 13) (r := some (48)) (Ls_44 hL) (by decide) rfl (Lr_44_13 hL) (by decide) (Or.inl kf_X0_21) (am_tab tk_X0_wouldHear 52 rfl) rfl ?_
          refine am_iload_n (q := 94) rfl (am_tab tk_X0_wouldHear 53 rfl) rfl ?_
          refine am_dup2 (q := 95) rfl rfl (am_tab tk_X0_wouldHear 54 rfl) rfl ?_
          refine am_iald (q := 96) (a := 48) (n := 8) (x := (σ.2.1 48 p)) (Ls_48 hL) (by omega) (by omega) (by rw [show Int.toNat (p : Int) = p by omega]; rfl) (am_tab tk_X0_wouldHear 55 rfl) rfl ?_
          have hF1 : frw W_dw σ (am_setN (am_setN (am_setN (am_setN (am_setN σ 47 (Int.toNat (p : Int)) (ao_or (σ.2.1 47 p) (ao_shl 1 (q : Int)))) 45 4 (tb (dts B) (p : Int))) 45 15 (B.2.1 96 (4 + p))) 45 2 (B.2.1 87 (8 + p))) 45 17 (B.2.1 87 (8 + q))) := (((((frw.refl W_dw σ).setN (by unfold W_dw; omega)).setN (by unfold W_dw; omega)).setN (by unfold W_dw; omega)).setN (by unfold W_dw; omega)).setN (by unfold W_dw; omega)
          refine am_aload_n (q := 97) rfl (am_tab tk_X0_wouldHear 56 rfl) rfl ?_
          refine am_getR (q := 100) (a := 44) (k := 0) (n := 14) (j := 8) (r := some (15)) (Ls_44 hL) (by decide) rfl hD.1.1 (by decide) (Or.inl kf_X0_24) (am_tab tk_X0_wouldHear 57 rfl) rfl ?_
          refine am_getR (q := 103) (a := 15) (k := 8) (n := 17) (j := 16) (r := some (25)) (Ls_15 hL) (by decide) rfl (Lr_15_16 hL) (by decide) (Or.inr kf_X0_146) (am_tab tk_X0_wouldHear 58 rfl) rfl ?_
          refine am_aload_n (q := 104) rfl (am_tab tk_X0_wouldHear 59 rfl) rfl ?_
          refine am_getR (q := 107) (a := 44) (k := 0) (n := 14) (j := 10) (r := some (45)) (Ls_44 hL) (by decide) rfl (Lr_44_10 hL) (by decide) (Or.inl kf_X0_9) (am_tab tk_X0_wouldHear 60 rfl) rfl ?_
          refine am_aload_n (q := 108) rfl (am_tab tk_X0_wouldHear 61 rfl) rfl ?_
          refine am_getR (q := 111) (a := 44) (k := 0) (n := 14) (j := 11) (r := some (46)) (Ls_44 hL) (by decide) rfl (Lr_44_11 hL) (by decide) (Or.inl kf_X0_15) (am_tab tk_X0_wouldHear 62 rfl) rfl ?_
          refine am_callVr (q := 114) (me2 := M_X5_valueOf) (b := 25) (kb := 5) (nb := 2) (As := [am_r 45, am_r 46]) (rest := [am_i ((σ.2.1 48 p)), am_i ((p : Int)), am_r 48]) (c_rule (am_setN (am_setN (am_setN (am_setN (am_setN σ 47 (Int.toNat (p : Int)) (ao_or (σ.2.1 47 p) (ao_shl 1 (q : Int)))) 45 4 (tb (dts B) (p : Int))) 45 15 (B.2.1 96 (4 + p))) 45 2 (B.2.1 87 (8 + p))) 45 17 (B.2.1 87 (8 + q))) hL (RLr.fr (W := W_dw) hD.tw.hears hF1 (by unfold W_dw; omega) (by unfold W_dw; omega)) (by decide) hrk.1 (pe B (dts B) (ffM B) (fzM B) (B.2.1 87 (8 + q)) p) (pe_r hG (by omega) (hG.R.mind q (by omega))) (prt hD.2.2.1.1 hD.2.2.1.2.1 hD.2.2.1.2.2.1 hD.2.2.1.2.2.2 rfl rfl rfl (fun _ => rfl))) ⟨rfl, rfl⟩ (Ls_25 hL) (by decide) ⟨Or.inr km_X0_129, kc_X5_valueOf, kn_X5, kd_X5_valueOf, ⟨(Nat.le_of_ble_eq_true rfl), (Nat.le_of_ble_eq_true rfl)⟩, ⟨(Nat.le_of_ble_eq_true rfl), (Nat.le_of_ble_eq_true rfl)⟩, (Nat.le_of_ble_eq_true rfl)⟩ ki_X5_valueOf ks_X5_valueOf rfl (am_tab tk_X0_wouldHear 63 rfl) rfl ?_
          rintro r T2 ⟨hr, hF2⟩
          have hr2 : r = some (am_i (hrV B p q)) := by rw [hr, hrk.2]; rfl
          subst hr2
          have hLT2 : lay T2 := hF2.L hL
          have hF3 : frw W_dw σ T2 := hF1.trans (hF2.mono (by unfold W_dw W_46; omega))
          have e7 : ∀ k, T2.2.1 47 k = if k = p then ao_or (σ.2.1 47 p) (ao_shl 1 (q : Int)) else σ.2.1 47 k := fun k => by
            rw [hF2.2.2 47 k (by unfold W_46; omega)]
            show (if 47 = 47 ∧ k = Int.toNat (p : Int) then _ else σ.2.1 47 k) = _
            by_cases g : k = p
            · rw [if_pos ⟨rfl, by omega⟩, if_pos g]
            · rw [if_neg (fun h => g (by omega)), if_neg g]
          have e8 : ∀ k, T2.2.1 48 k = σ.2.1 48 k := fun k => hF2.2.2 48 k (by unfold W_46; omega)
          refine am_st (st2 := [am_i (hrV B p q), am_i ((σ.2.1 48 p)), am_i ((p : Int)), am_r 48]) rfl ?_
          refine am_iload_n (q := 115) rfl (am_tab tk_X0_wouldHear 64 rfl) rfl ?_
          refine am_ishl (q := 116) (am_tab tk_X0_wouldHear 65 rfl) rfl ?_
          refine am_ior (q := 117) (am_tab tk_X0_wouldHear 66 rfl) rfl ?_
          refine am_iast (q := 118) (a := 48) (n := 8) (Ls_48 hLT2) (by omega) (by omega) (am_tab tk_X0_wouldHear 67 rfl) rfl ?_
          have hMN : MEM (am_setN T2 48 (Int.toNat (p : Int)) (ao_or (σ.2.1 48 p) (ao_shl (hrV B p q) (q : Int)))) B ∧ tb ((am_setN T2 48 (Int.toNat (p : Int)) (ao_or (σ.2.1 48 p) (ao_shl (hrV B p q) (q : Int)))).2.1 48 p) q = hrV B p q := MEM.on hM (by omega) (by omega) (by omega) (hrV_01 hG hrl (by omega) (by omega)) rfl e7 (fun k => by
            show (if 48 = 48 ∧ k = Int.toNat (p : Int) then _ else T2.2.1 48 k) = _
            by_cases g : k = p
            · rw [if_pos ⟨rfl, by omega⟩, if_pos g]
            · rw [if_neg (fun h => g (by omega)), if_neg g, e8 k])
          have hNX : (am_setN T2 48 (Int.toNat (p : Int)) (ao_or (σ.2.1 48 p) (ao_shl (hrV B p q) (q : Int)))).2.1 48 p = ao_or (σ.2.1 48 p) (ao_shl (hrV B p q) (q : Int)) := by
            show (if 48 = 48 ∧ p = Int.toNat (p : Int) then _ else T2.2.1 48 p) = _
            rw [if_pos ⟨rfl, by omega⟩]
          refine am_aload_n (q := 119) rfl (am_tab tk_X0_wouldHear 68 rfl) rfl ?_
          refine am_getR (q := 122) (a := 44) (k := 0) (n := 14) (j := 13) (r := some (48)) (Ls_44 hLT2) (by decide) rfl (Lr_44_13 hLT2) (by decide) (Or.inl kf_X0_21) (am_tab tk_X0_wouldHear 69 rfl) rfl ?_
          refine am_iload_n (q := 123) rfl (am_tab tk_X0_wouldHear 70 rfl) rfl ?_
          refine am_iald (q := 124) (a := 48) (n := 8) (x := (ao_or (σ.2.1 48 p) (ao_shl (hrV B p q) (q : Int)))) (Ls_48 hLT2) (by omega) (by omega) (by simp [am_setN]) (am_tab tk_X0_wouldHear 71 rfl) rfl ?_
          refine am_iload_n (q := 125) rfl (am_tab tk_X0_wouldHear 72 rfl) rfl ?_
          refine am_callS0 (q := 128) (me2 := M_X9_bit) (As := [am_i ((ao_or (σ.2.1 48 p) (ao_shl (hrV B p q) (q : Int)))), am_i ((q : Int))]) (rest := []) (out := [am_i (tb (ao_or (σ.2.1 48 p) (ao_shl (hrV B p q) (q : Int))) (q : Int))]) (c_bit (am_setN T2 48 (Int.toNat (p : Int)) (ao_or (σ.2.1 48 p) (ao_shl (hrV B p q) (q : Int)))) (ao_or (σ.2.1 48 p) (ao_shl (hrV B p q) (q : Int))) (q : Int) ((or_sh hm.2.1 (hrV_01 hG hrl (p := p) (q := q) (by omega) (by omega)) (by omega)).1) (by omega)) ⟨rfl, rfl⟩ ⟨Or.inr km_X0_105, kc_X9_bit, kn_X9, kd_X9_bit, ⟨(Nat.le_of_ble_eq_true rfl), (Nat.le_of_ble_eq_true rfl)⟩, ⟨(Nat.le_of_ble_eq_true rfl), (Nat.le_of_ble_eq_true rfl)⟩, (Nat.le_of_ble_eq_true rfl)⟩ ki_X9_bit rfl rfl (am_tab tk_X0_wouldHear 73 rfl) rfl ?_
          refine am_iconst (q := 129) (n := 1) (by decide) (am_tab tk_X0_wouldHear 74 rfl) rfl ?_
          refine am_icmp_ne (q := 132) (t := 136) (am_tab tk_X0_wouldHear 75 rfl) (by decide) rfl (fun h129 => ?_) (fun h129 => ?_)
          · refine am_iconst (q := 137) (n := 0) (by decide) (am_tab tk_X0_wouldHear 78 rfl) rfl ?_
            refine am_iret (Or.inr ⟨rfl, by first | exact Or.inl rfl | exact Or.inr rfl | omega⟩) (Nat.le_of_ble_eq_true rfl) (Nat.le_of_ble_eq_true rfl) (am_tab tk_X0_wouldHear 79 rfl) ?_
            refine hQ _ _ ?_
            unfold hrC
            rw [if_neg hrl]
            refine ⟨congrArg (fun z => some (am_i z)) ?_, hMN.1, hF3.setN (by unfold W_dw; omega)⟩
            have h9 := hMN.2
            rw [hNX] at h9
            have := hrV_01 hG hrl (p := p) (q := q) (by omega) (by omega)
            omega
          · refine am_iconst (q := 133) (n := 1) (by decide) (am_tab tk_X0_wouldHear 76 rfl) rfl ?_
            refine am_goto (t := 137) (am_tab tk_X0_wouldHear 77 rfl) (by decide) ?_
            refine am_iret (Or.inr ⟨rfl, by first | exact Or.inl rfl | exact Or.inr rfl | omega⟩) (Nat.le_of_ble_eq_true rfl) (Nat.le_of_ble_eq_true rfl) (am_tab tk_X0_wouldHear 79 rfl) ?_
            refine hQ _ _ ?_
            unfold hrC
            rw [if_neg hrl]
            refine ⟨congrArg (fun z => some (am_i z)) ?_, hMN.1, hF3.setN (by unfold W_dw; omega)⟩
            have h9 := hMN.2
            rw [hNX] at h9
            have := hrV_01 hG hrl (p := p) (q := q) (by omega) (by omega)
            omega
      · exact absurd h22 (by omega)
  · refine am_iconst (q := 14) (n := 1) (by decide) (am_tab tk_X0_wouldHear 5 rfl) rfl ?_
    refine am_iret (Or.inr ⟨rfl, by first | exact Or.inl rfl | exact Or.inr rfl | omega⟩) (Nat.le_of_ble_eq_true rfl) (Nat.le_of_ble_eq_true rfl) (am_tab tk_X0_wouldHear 6 rfl) ?_
    refine hQ _ _ ?_
    have h0 := hz.mp h10
    unfold hrC
    rw [if_pos h0]
    exact ⟨rfl, hM, frw.refl _ σ⟩
set_option maxRecDepth 100000 in
theorem c_wouldHear_15_37 (σ B : am_H) (hL : lay σ) (hG : GD B) (hD : DWr 15 37 σ B) (p : Nat) (q : Nat) (hM : MEM σ B) (hpp : p < pN B) (hqp : q < pN B) : am_met M_X0_wouldHear [am_r 44, am_i ((p : Int)), am_i ((q : Int))] σ (fun r σ' => r = some (am_i (hrC B p q)) ∧ MEM σ' B ∧ frw W_dw σ σ') := by
  refine am_qq (fun Q hQ => ?_)
  refine am_enter (show plainFor yX0_wouldHear = true by decide +kernel) rfl (Nat.le_of_ble_eq_true rfl) (fun _ _ _ => trivial) ?_
  have h8 : pN B ≤ 8 := by have := hG.R.P; unfold pN; omega
  have hz := rlB_0 hG.K (wh := 1) (by decide)
  have hm := hM p (by omega)
  have hday := hG.R.day
  have hYY := hG.R.Y
  have hdayN : Int.toNat (B.2.1 96 1) = (B.2.1 96 1).toNat := rfl
  have hdts : B.2.1 96 (20 + (B.2.1 96 1).toNat) = dts B := by unfold dts; rw [show (20 + B.2.1 96 1).toNat = 20 + (B.2.1 96 1).toNat by omega]
  refine am_aload_n (q := 1) rfl (am_tab tk_X0_wouldHear 0 rfl) rfl ?_
  refine am_getR (q := 4) (a := 44) (k := 0) (n := 14) (j := 8) (r := some (15)) (Ls_44 hL) (by decide) rfl hD.1.1 (by decide) (Or.inl kf_X0_24) (am_tab tk_X0_wouldHear 1 rfl) rfl ?_
  refine am_getR (q := 7) (a := 15) (k := 8) (n := 17) (j := 16) (r := some (25)) (Ls_15 hL) (by decide) rfl (Lr_15_16 hL) (by decide) (Or.inr kf_X0_146) (am_tab tk_X0_wouldHear 2 rfl) rfl ?_
  refine am_getI (q := 10) (a := 25) (k := 5) (n := 2) (j := 1) (x := ((rlB B 1).length : Int)) (Ls_25 hL) (by decide) rfl hD.tw.hears.size (by decide) (Or.inr kf_X0_120) (am_tab tk_X0_wouldHear 3 rfl) rfl ?_
  refine am_if_ne (q := 13) (t := 15) (am_tab tk_X0_wouldHear 4 rfl) (by decide) rfl (fun h10 => ?_) (fun h10 => ?_)
  · have hrl : ¬ B.2.1 93 3 = -1 := fun h => h10 (hz.mpr h)
    have hrk := hG.K.ok (wh := 1) (by decide) hrl
    refine am_iload_n (q := 16) rfl (am_tab tk_X0_wouldHear 7 rfl) rfl ?_
    refine am_if_lt (q := 19) (t := 25) (am_tab tk_X0_wouldHear 8 rfl) (by decide) rfl (fun h16 => ?_) (fun h16 => ?_)
    · exact absurd h16 (by omega)
    · refine am_iload_n (q := 20) rfl (am_tab tk_X0_wouldHear 9 rfl) rfl ?_
      refine am_bipush (q := 22) (n := 8) (by decide) rfl (am_tab tk_X0_wouldHear 10 rfl) rfl ?_
      refine am_icmp_lt (q := 25) (t := 27) (am_tab tk_X0_wouldHear 11 rfl) (by decide) rfl (fun h22 => ?_) (fun h22 => ?_)
      · refine am_aload_n (q := 28) rfl (am_tab tk_X0_wouldHear 14 rfl) rfl ?_
        refine am_getR (q := 31) (a := 44) (k := 0) (n := 14) (j := 12) (r := some (47)) (Ls_44 hL) (by decide) rfl (Lr_44_12 hL) (by decide) (Or.inl kf_X0_18) (am_tab tk_X0_wouldHear 15 rfl) rfl ?_
        refine am_iload_n (q := 32) rfl (am_tab tk_X0_wouldHear 16 rfl) rfl ?_
        refine am_iald (q := 33) (a := 47) (n := 8) (x := (σ.2.1 47 p)) (Ls_47 hL) (by omega) (by omega) (by rw [show Int.toNat (p : Int) = p by omega]) (am_tab tk_X0_wouldHear 17 rfl) rfl ?_
        refine am_iload_n (q := 34) rfl (am_tab tk_X0_wouldHear 18 rfl) rfl ?_
        refine am_callS0 (q := 37) (me2 := M_X9_bit) (As := [am_i ((σ.2.1 47 p)), am_i ((q : Int))]) (rest := []) (out := [am_i (tb (σ.2.1 47 p) (q : Int))]) (c_bit σ (σ.2.1 47 p) (q : Int) (hm.1) (by omega)) ⟨rfl, rfl⟩ ⟨Or.inr km_X0_105, kc_X9_bit, kn_X9, kd_X9_bit, ⟨(Nat.le_of_ble_eq_true rfl), (Nat.le_of_ble_eq_true rfl)⟩, ⟨(Nat.le_of_ble_eq_true rfl), (Nat.le_of_ble_eq_true rfl)⟩, (Nat.le_of_ble_eq_true rfl)⟩ ki_X9_bit rfl rfl (am_tab tk_X0_wouldHear 19 rfl) rfl ?_
        refine am_if_ne (q := 40) (t := 118) (am_tab tk_X0_wouldHear 20 rfl) (by decide) rfl (fun h37 => ?_) (fun h37 => ?_)
        · refine am_aload_n (q := 119) rfl (am_tab tk_X0_wouldHear 68 rfl) rfl ?_
          refine am_getR (q := 122) (a := 44) (k := 0) (n := 14) (j := 13) (r := some (48)) (Ls_44 hL) (by decide) rfl (Lr_44_13 hL) (by decide) (Or.inl kf_X0_21) (am_tab tk_X0_wouldHear 69 rfl) rfl ?_
          refine am_iload_n (q := 123) rfl (am_tab tk_X0_wouldHear 70 rfl) rfl ?_
          refine am_iald (q := 124) (a := 48) (n := 8) (x := (σ.2.1 48 p)) (Ls_48 hL) (by omega) (by omega) (by rw [show Int.toNat (p : Int) = p by omega]) (am_tab tk_X0_wouldHear 71 rfl) rfl ?_
          refine am_iload_n (q := 125) rfl (am_tab tk_X0_wouldHear 72 rfl) rfl ?_
          refine am_callS0 (q := 128) (me2 := M_X9_bit) (As := [am_i ((σ.2.1 48 p)), am_i ((q : Int))]) (rest := []) (out := [am_i (tb (σ.2.1 48 p) (q : Int))]) (c_bit σ (σ.2.1 48 p) (q : Int) (hm.2.1) (by omega)) ⟨rfl, rfl⟩ ⟨Or.inr km_X0_105, kc_X9_bit, kn_X9, kd_X9_bit, ⟨(Nat.le_of_ble_eq_true rfl), (Nat.le_of_ble_eq_true rfl)⟩, ⟨(Nat.le_of_ble_eq_true rfl), (Nat.le_of_ble_eq_true rfl)⟩, (Nat.le_of_ble_eq_true rfl)⟩ ki_X9_bit rfl rfl (am_tab tk_X0_wouldHear 73 rfl) rfl ?_
          refine am_iconst (q := 129) (n := 1) (by decide) (am_tab tk_X0_wouldHear 74 rfl) rfl ?_
          refine am_icmp_ne (q := 132) (t := 136) (am_tab tk_X0_wouldHear 75 rfl) (by decide) rfl (fun h129 => ?_) (fun h129 => ?_)
          · refine am_iconst (q := 137) (n := 0) (by decide) (am_tab tk_X0_wouldHear 78 rfl) rfl ?_
            refine am_iret (Or.inr ⟨rfl, by first | exact Or.inl rfl | exact Or.inr rfl | omega⟩) (Nat.le_of_ble_eq_true rfl) (Nat.le_of_ble_eq_true rfl) (am_tab tk_X0_wouldHear 79 rfl) ?_
            refine hQ _ _ ?_
            unfold hrC
            rw [if_neg hrl]
            have h9 := hm.2.2 q (by omega)
            rw [if_pos (by have := tb_01 (σ.2.1 47 p) q; omega)] at h9
            refine ⟨congrArg (fun z => some (am_i z)) ?_, hM, frw.refl _ σ⟩
            have := hrV_01 hG hrl (p := p) (q := q) (by omega) (by omega)
            omega
          · refine am_iconst (q := 133) (n := 1) (by decide) (am_tab tk_X0_wouldHear 76 rfl) rfl ?_
            refine am_goto (t := 137) (am_tab tk_X0_wouldHear 77 rfl) (by decide) ?_
            refine am_iret (Or.inr ⟨rfl, by first | exact Or.inl rfl | exact Or.inr rfl | omega⟩) (Nat.le_of_ble_eq_true rfl) (Nat.le_of_ble_eq_true rfl) (am_tab tk_X0_wouldHear 79 rfl) ?_
            refine hQ _ _ ?_
            unfold hrC
            rw [if_neg hrl]
            have h9 := hm.2.2 q (by omega)
            rw [if_pos (by have := tb_01 (σ.2.1 47 p) q; omega)] at h9
            refine ⟨congrArg (fun z => some (am_i z)) ?_, hM, frw.refl _ σ⟩
            have := hrV_01 hG hrl (p := p) (q := q) (by omega) (by omega)
            omega
        · refine am_aload_n (q := 41) rfl (am_tab tk_X0_wouldHear 21 rfl) rfl ?_
          refine am_getR (q := 44) (a := 44) (k := 0) (n := 14) (j := 12) (r := some (47)) (Ls_44 hL) (by decide) rfl (Lr_44_12 hL) (by decide) (Or.inl kf_X0_18) (am_tab tk_X0_wouldHear 22 rfl) rfl ?_
          refine am_iload_n (q := 45) rfl (am_tab tk_X0_wouldHear 23 rfl) rfl ?_
          refine am_dup2 (q := 46) rfl rfl (am_tab tk_X0_wouldHear 24 rfl) rfl ?_
          refine am_iald (q := 47) (a := 47) (n := 8) (x := (σ.2.1 47 p)) (Ls_47 hL) (by omega) (by omega) (by rw [show Int.toNat (p : Int) = p by omega]) (am_tab tk_X0_wouldHear 25 rfl) rfl ?_
          refine am_iconst (q := 48) (n := 1) (by decide) (am_tab tk_X0_wouldHear 26 rfl) rfl ?_
          refine am_iload_n (q := 49) rfl (am_tab tk_X0_wouldHear 27 rfl) rfl ?_
          refine am_ishl (q := 50) (am_tab tk_X0_wouldHear 28 rfl) rfl ?_
          refine am_ior (q := 51) (am_tab tk_X0_wouldHear 29 rfl) rfl ?_
          refine am_iast (q := 52) (a := 47) (n := 8) (Ls_47 hL) (by omega) (by omega) (am_tab tk_X0_wouldHear 30 rfl) rfl ?_
          refine am_aload_n (q := 53) rfl (am_tab tk_X0_wouldHear 31 rfl) rfl ?_
          refine am_iload_n (q := 54) rfl (am_tab tk_X0_wouldHear 32 rfl) rfl ?_
          refine am_aload_n (q := 55) rfl (am_tab tk_X0_wouldHear 33 rfl) rfl ?_
          refine am_getR (q := 58) (a := 44) (k := 0) (n := 14) (j := 9) (r := some (37)) (Ls_44 hL) (by decide) rfl hD.1.2 (by decide) (Or.inl kf_X0_28) (am_tab tk_X0_wouldHear 34 rfl) rfl ?_
          refine am_getR (q := 61) (a := 37) (k := 1) (n := 11) (j := 6) (r := some (39)) (Ls_37 hL) (by decide) rfl (Lr_37_6 hL) (by decide) (Or.inr kf_X0_84) (am_tab tk_X0_wouldHear 35 rfl) rfl ?_
          refine am_aload_n (q := 62) rfl (am_tab tk_X0_wouldHear 36 rfl) rfl ?_
          refine am_getI (q := 65) (a := 44) (k := 0) (n := 14) (j := 1) (x := (B.2.1 96 1)) (Ls_44 hL) (by decide) rfl hD.2.1 (by decide) (Or.inl kf_X0_55) (am_tab tk_X0_wouldHear 37 rfl) rfl ?_
          refine am_iald (q := 66) (a := 39) (n := 91) (x := (dts B)) (Ls_39 hL) (by omega) (by omega) (by rw [hdayN]; exact (hD.2.2.2.2.2 _ (by omega)).trans hdts) (am_tab tk_X0_wouldHear 38 rfl) rfl ?_
          refine am_iload_n (q := 67) rfl (am_tab tk_X0_wouldHear 39 rfl) rfl ?_
          refine am_callS0 (q := 70) (me2 := M_X9_bit) (As := [am_i ((dts B)), am_i ((p : Int))]) (rest := [am_i ((p : Int)), am_r 44]) (out := [am_i (tb (dts B) (p : Int)), am_i ((p : Int)), am_r 44]) (c_bit (am_setN σ 47 (Int.toNat (p : Int)) (ao_or (σ.2.1 47 p) (ao_shl 1 (q : Int)))) (dts B) (p : Int) (dts_rng hG) (by omega)) ⟨rfl, rfl⟩ ⟨Or.inr km_X0_105, kc_X9_bit, kn_X9, kd_X9_bit, ⟨(Nat.le_of_ble_eq_true rfl), (Nat.le_of_ble_eq_true rfl)⟩, ⟨(Nat.le_of_ble_eq_true rfl), (Nat.le_of_ble_eq_true rfl)⟩, (Nat.le_of_ble_eq_true rfl)⟩ ki_X9_bit rfl rfl (am_tab tk_X0_wouldHear 40 rfl) rfl ?_
          refine am_callV0 (q := 73) (me2 := M_X0_setPerson) (b := 44) (kb := 0) (nb := 14) (As := [am_i ((p : Int)), am_i (tb (dts B) (p : Int))]) (rest := []) (out := []) (c_setPerson_15_37 (am_setN σ 47 (Int.toNat (p : Int)) (ao_or (σ.2.1 47 p) (ao_shl 1 (q : Int)))) B hL hG (hD.fr ((frw.refl W_dw σ).setN (by unfold W_dw; omega)) (by decide) (by decide)) p (tb (dts B) (p : Int)) hpp) ⟨rfl, rfl⟩ (Ls_44 hL) (by decide) ⟨Or.inl km_X0_125, kc_X0_setPerson, kn_X0, kd_X0_setPerson, ⟨(Nat.le_of_ble_eq_true rfl), (Nat.le_of_ble_eq_true rfl)⟩, ⟨(Nat.le_of_ble_eq_true rfl), (Nat.le_of_ble_eq_true rfl)⟩, (Nat.le_of_ble_eq_true rfl)⟩ ki_X0_setPerson ks_X0_setPerson rfl rfl (am_tab tk_X0_wouldHear 41 rfl) rfl ?_
          refine am_aload_n (q := 74) rfl (am_tab tk_X0_wouldHear 42 rfl) rfl ?_
          refine am_getR (q := 77) (a := 44) (k := 0) (n := 14) (j := 10) (r := some (45)) (Ls_44 hL) (by decide) rfl (Lr_44_10 hL) (by decide) (Or.inl kf_X0_9) (am_tab tk_X0_wouldHear 43 rfl) rfl ?_
          refine am_bipush (q := 79) (n := 17) (by decide) rfl (am_tab tk_X0_wouldHear 44 rfl) rfl ?_
          refine am_aload_n (q := 80) rfl (am_tab tk_X0_wouldHear 45 rfl) rfl ?_
          refine am_getR (q := 83) (a := 44) (k := 0) (n := 14) (j := 8) (r := some (15)) (Ls_44 hL) (by decide) rfl hD.1.1 (by decide) (Or.inl kf_X0_24) (am_tab tk_X0_wouldHear 46 rfl) rfl ?_
          refine am_getR (q := 86) (a := 15) (k := 8) (n := 17) (j := 9) (r := some (17)) (Ls_15 hL) (by decide) rfl (Lr_15_9 hL) (by decide) (Or.inr kf_X0_149) (am_tab tk_X0_wouldHear 47 rfl) rfl ?_
          refine am_iload_n (q := 87) rfl (am_tab tk_X0_wouldHear 48 rfl) rfl ?_
          refine am_iald (q := 88) (a := 17) (n := 8) (x := (B.2.1 87 (8 + q))) (Ls_17 hL) (by omega) (by omega) (by rw [show Int.toNat (q : Int) = q by omega]; exact hD.tw.minds q hqp) (am_tab tk_X0_wouldHear 49 rfl) rfl ?_
          refine am_iast (q := 89) (a := 45) (n := 34) (Ls_45 hL) (by omega) (by omega) (am_tab tk_X0_wouldHear 50 rfl) rfl ?_
          refine am_aload_n (q := 90) rfl (am_tab tk_X0_wouldHear 51 rfl) rfl ?_
          refine am_getR (q := 93) (a := 44) (k := 0) (n := 14) (j := 13) (r := some (48)) (Ls_44 hL) (by decide) rfl (Lr_44_13 hL) (by decide) (Or.inl kf_X0_21) (am_tab tk_X0_wouldHear 52 rfl) rfl ?_
          refine am_iload_n (q := 94) rfl (am_tab tk_X0_wouldHear 53 rfl) rfl ?_
          refine am_dup2 (q := 95) rfl rfl (am_tab tk_X0_wouldHear 54 rfl) rfl ?_
          refine am_iald (q := 96) (a := 48) (n := 8) (x := (σ.2.1 48 p)) (Ls_48 hL) (by omega) (by omega) (by rw [show Int.toNat (p : Int) = p by omega]; rfl) (am_tab tk_X0_wouldHear 55 rfl) rfl ?_
          have hF1 : frw W_dw σ (am_setN (am_setN (am_setN (am_setN (am_setN σ 47 (Int.toNat (p : Int)) (ao_or (σ.2.1 47 p) (ao_shl 1 (q : Int)))) 45 4 (tb (dts B) (p : Int))) 45 15 (B.2.1 96 (4 + p))) 45 2 (B.2.1 87 (8 + p))) 45 17 (B.2.1 87 (8 + q))) := (((((frw.refl W_dw σ).setN (by unfold W_dw; omega)).setN (by unfold W_dw; omega)).setN (by unfold W_dw; omega)).setN (by unfold W_dw; omega)).setN (by unfold W_dw; omega)
          refine am_aload_n (q := 97) rfl (am_tab tk_X0_wouldHear 56 rfl) rfl ?_
          refine am_getR (q := 100) (a := 44) (k := 0) (n := 14) (j := 8) (r := some (15)) (Ls_44 hL) (by decide) rfl hD.1.1 (by decide) (Or.inl kf_X0_24) (am_tab tk_X0_wouldHear 57 rfl) rfl ?_
          refine am_getR (q := 103) (a := 15) (k := 8) (n := 17) (j := 16) (r := some (25)) (Ls_15 hL) (by decide) rfl (Lr_15_16 hL) (by decide) (Or.inr kf_X0_146) (am_tab tk_X0_wouldHear 58 rfl) rfl ?_
          refine am_aload_n (q := 104) rfl (am_tab tk_X0_wouldHear 59 rfl) rfl ?_
          refine am_getR (q := 107) (a := 44) (k := 0) (n := 14) (j := 10) (r := some (45)) (Ls_44 hL) (by decide) rfl (Lr_44_10 hL) (by decide) (Or.inl kf_X0_9) (am_tab tk_X0_wouldHear 60 rfl) rfl ?_
          refine am_aload_n (q := 108) rfl (am_tab tk_X0_wouldHear 61 rfl) rfl ?_
          refine am_getR (q := 111) (a := 44) (k := 0) (n := 14) (j := 11) (r := some (46)) (Ls_44 hL) (by decide) rfl (Lr_44_11 hL) (by decide) (Or.inl kf_X0_15) (am_tab tk_X0_wouldHear 62 rfl) rfl ?_
          refine am_callVr (q := 114) (me2 := M_X5_valueOf) (b := 25) (kb := 5) (nb := 2) (As := [am_r 45, am_r 46]) (rest := [am_i ((σ.2.1 48 p)), am_i ((p : Int)), am_r 48]) (c_rule (am_setN (am_setN (am_setN (am_setN (am_setN σ 47 (Int.toNat (p : Int)) (ao_or (σ.2.1 47 p) (ao_shl 1 (q : Int)))) 45 4 (tb (dts B) (p : Int))) 45 15 (B.2.1 96 (4 + p))) 45 2 (B.2.1 87 (8 + p))) 45 17 (B.2.1 87 (8 + q))) hL (RLr.fr (W := W_dw) hD.tw.hears hF1 (by unfold W_dw; omega) (by unfold W_dw; omega)) (by decide) hrk.1 (pe B (dts B) (ffM B) (fzM B) (B.2.1 87 (8 + q)) p) (pe_r hG (by omega) (hG.R.mind q (by omega))) (prt hD.2.2.1.1 hD.2.2.1.2.1 hD.2.2.1.2.2.1 hD.2.2.1.2.2.2 rfl rfl rfl (fun _ => rfl))) ⟨rfl, rfl⟩ (Ls_25 hL) (by decide) ⟨Or.inr km_X0_129, kc_X5_valueOf, kn_X5, kd_X5_valueOf, ⟨(Nat.le_of_ble_eq_true rfl), (Nat.le_of_ble_eq_true rfl)⟩, ⟨(Nat.le_of_ble_eq_true rfl), (Nat.le_of_ble_eq_true rfl)⟩, (Nat.le_of_ble_eq_true rfl)⟩ ki_X5_valueOf ks_X5_valueOf rfl (am_tab tk_X0_wouldHear 63 rfl) rfl ?_
          rintro r T2 ⟨hr, hF2⟩
          have hr2 : r = some (am_i (hrV B p q)) := by rw [hr, hrk.2]; rfl
          subst hr2
          have hLT2 : lay T2 := hF2.L hL
          have hF3 : frw W_dw σ T2 := hF1.trans (hF2.mono (by unfold W_dw W_46; omega))
          have e7 : ∀ k, T2.2.1 47 k = if k = p then ao_or (σ.2.1 47 p) (ao_shl 1 (q : Int)) else σ.2.1 47 k := fun k => by
            rw [hF2.2.2 47 k (by unfold W_46; omega)]
            show (if 47 = 47 ∧ k = Int.toNat (p : Int) then _ else σ.2.1 47 k) = _
            by_cases g : k = p
            · rw [if_pos ⟨rfl, by omega⟩, if_pos g]
            · rw [if_neg (fun h => g (by omega)), if_neg g]
          have e8 : ∀ k, T2.2.1 48 k = σ.2.1 48 k := fun k => hF2.2.2 48 k (by unfold W_46; omega)
          refine am_st (st2 := [am_i (hrV B p q), am_i ((σ.2.1 48 p)), am_i ((p : Int)), am_r 48]) rfl ?_
          refine am_iload_n (q := 115) rfl (am_tab tk_X0_wouldHear 64 rfl) rfl ?_
          refine am_ishl (q := 116) (am_tab tk_X0_wouldHear 65 rfl) rfl ?_
          refine am_ior (q := 117) (am_tab tk_X0_wouldHear 66 rfl) rfl ?_
          refine am_iast (q := 118) (a := 48) (n := 8) (Ls_48 hLT2) (by omega) (by omega) (am_tab tk_X0_wouldHear 67 rfl) rfl ?_
          have hMN : MEM (am_setN T2 48 (Int.toNat (p : Int)) (ao_or (σ.2.1 48 p) (ao_shl (hrV B p q) (q : Int)))) B ∧ tb ((am_setN T2 48 (Int.toNat (p : Int)) (ao_or (σ.2.1 48 p) (ao_shl (hrV B p q) (q : Int)))).2.1 48 p) q = hrV B p q := MEM.on hM (by omega) (by omega) (by omega) (hrV_01 hG hrl (by omega) (by omega)) rfl e7 (fun k => by
            show (if 48 = 48 ∧ k = Int.toNat (p : Int) then _ else T2.2.1 48 k) = _
            by_cases g : k = p
            · rw [if_pos ⟨rfl, by omega⟩, if_pos g]
            · rw [if_neg (fun h => g (by omega)), if_neg g, e8 k])
          have hNX : (am_setN T2 48 (Int.toNat (p : Int)) (ao_or (σ.2.1 48 p) (ao_shl (hrV B p q) (q : Int)))).2.1 48 p = ao_or (σ.2.1 48 p) (ao_shl (hrV B p q) (q : Int)) := by
            show (if 48 = 48 ∧ p = Int.toNat (p : Int) then _ else T2.2.1 48 p) = _
            rw [if_pos ⟨rfl, by omega⟩]
          refine am_aload_n (q := 119) rfl (am_tab tk_X0_wouldHear 68 rfl) rfl ?_
          refine am_getR (q := 122) (a := 44) (k := 0) (n := 14) (j := 13) (r := some (48)) (Ls_44 hLT2) (by decide) rfl (Lr_44_13 hLT2) (by decide) (Or.inl kf_X0_21) (am_tab tk_X0_wouldHear 69 rfl) rfl ?_
          refine am_iload_n (q := 123) rfl (am_tab tk_X0_wouldHear 70 rfl) rfl ?_
          refine am_iald (q := 124) (a := 48) (n := 8) (x := (ao_or (σ.2.1 48 p) (ao_shl (hrV B p q) (q : Int)))) (Ls_48 hLT2) (by omega) (by omega) (by simp [am_setN]) (am_tab tk_X0_wouldHear 71 rfl) rfl ?_
          refine am_iload_n (q := 125) rfl (am_tab tk_X0_wouldHear 72 rfl) rfl ?_
          refine am_callS0 (q := 128) (me2 := M_X9_bit) (As := [am_i ((ao_or (σ.2.1 48 p) (ao_shl (hrV B p q) (q : Int)))), am_i ((q : Int))]) (rest := []) (out := [am_i (tb (ao_or (σ.2.1 48 p) (ao_shl (hrV B p q) (q : Int))) (q : Int))]) (c_bit (am_setN T2 48 (Int.toNat (p : Int)) (ao_or (σ.2.1 48 p) (ao_shl (hrV B p q) (q : Int)))) (ao_or (σ.2.1 48 p) (ao_shl (hrV B p q) (q : Int))) (q : Int) ((or_sh hm.2.1 (hrV_01 hG hrl (p := p) (q := q) (by omega) (by omega)) (by omega)).1) (by omega)) ⟨rfl, rfl⟩ ⟨Or.inr km_X0_105, kc_X9_bit, kn_X9, kd_X9_bit, ⟨(Nat.le_of_ble_eq_true rfl), (Nat.le_of_ble_eq_true rfl)⟩, ⟨(Nat.le_of_ble_eq_true rfl), (Nat.le_of_ble_eq_true rfl)⟩, (Nat.le_of_ble_eq_true rfl)⟩ ki_X9_bit rfl rfl (am_tab tk_X0_wouldHear 73 rfl) rfl ?_
          refine am_iconst (q := 129) (n := 1) (by decide) (am_tab tk_X0_wouldHear 74 rfl) rfl ?_
          refine am_icmp_ne (q := 132) (t := 136) (am_tab tk_X0_wouldHear 75 rfl) (by decide) rfl (fun h129 => ?_) (fun h129 => ?_)
          · refine am_iconst (q := 137) (n := 0) (by decide) (am_tab tk_X0_wouldHear 78 rfl) rfl ?_
            refine am_iret (Or.inr ⟨rfl, by first | exact Or.inl rfl | exact Or.inr rfl | omega⟩) (Nat.le_of_ble_eq_true rfl) (Nat.le_of_ble_eq_true rfl) (am_tab tk_X0_wouldHear 79 rfl) ?_
            refine hQ _ _ ?_
            unfold hrC
            rw [if_neg hrl]
            refine ⟨congrArg (fun z => some (am_i z)) ?_, hMN.1, hF3.setN (by unfold W_dw; omega)⟩
            have h9 := hMN.2
            rw [hNX] at h9
            have := hrV_01 hG hrl (p := p) (q := q) (by omega) (by omega)
            omega
          · refine am_iconst (q := 133) (n := 1) (by decide) (am_tab tk_X0_wouldHear 76 rfl) rfl ?_
            refine am_goto (t := 137) (am_tab tk_X0_wouldHear 77 rfl) (by decide) ?_
            refine am_iret (Or.inr ⟨rfl, by first | exact Or.inl rfl | exact Or.inr rfl | omega⟩) (Nat.le_of_ble_eq_true rfl) (Nat.le_of_ble_eq_true rfl) (am_tab tk_X0_wouldHear 79 rfl) ?_
            refine hQ _ _ ?_
            unfold hrC
            rw [if_neg hrl]
            refine ⟨congrArg (fun z => some (am_i z)) ?_, hMN.1, hF3.setN (by unfold W_dw; omega)⟩
            have h9 := hMN.2
            rw [hNX] at h9
            have := hrV_01 hG hrl (p := p) (q := q) (by omega) (by omega)
            omega
      · exact absurd h22 (by omega)
  · refine am_iconst (q := 14) (n := 1) (by decide) (am_tab tk_X0_wouldHear 5 rfl) rfl ?_
    refine am_iret (Or.inr ⟨rfl, by first | exact Or.inl rfl | exact Or.inr rfl | omega⟩) (Nat.le_of_ble_eq_true rfl) (Nat.le_of_ble_eq_true rfl) (am_tab tk_X0_wouldHear 6 rfl) ?_
    refine hQ _ _ ?_
    have h0 := hz.mp h10
    unfold hrC
    rw [if_pos h0]
    exact ⟨rfl, hM, frw.refl _ σ⟩
