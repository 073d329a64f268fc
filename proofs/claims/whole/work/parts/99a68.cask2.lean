theorem evQ_ty {env of : Int → Int} : ∀ (cs : List Int) (ts t : List Bool) (st : List Int), tyOK ts st → tyR 2 ts cs = some t → tyOK t (evQ env of st cs)
  | [], ts, t, st, h, hk => by
    have h2 : ts = t := Option.some.inj hk
    rw [← h2]
    exact h
  | v :: cs, ts, t, st, h, hk => by
    obtain ⟨t1, h1, _, h3⟩ := tyR_cons hk
    unfold ty2 at h1
    split at h1
    · exact absurd h1 (by simp)
    · rw [if_pos rfl] at h1
      exact evQ_ty cs t1 t _ (ty1q_ok h h1) h3
theorem aqV_01 {σ : am_H} {n : Nat} {cs : List Int} {x y : Int} (h : tyR 2 [] cs = some [true]) (i : Nat) : aqV σ n cs x y i = 0 ∨ aqV σ n cs x y i = 1 := by
  have h1 := evQ_ty (env := ptM (aqS σ n x y) i) (of := fun m => ofQ σ m (i : Int)) cs [] [true] [] trivial h
  unfold aqV
  cases hs : evQ (ptM (aqS σ n x y) i) (fun m => ofQ σ m (i : Int)) [] cs with
  | nil => rw [hs] at h1; exact h1.elim
  | cons a l => rw [hs] at h1; exact h1.1
theorem q_env {σ : am_H} {n p : Nat} {cs : List Int} {P : Nat → Int} (hG : GD σ) (hGn : GD (itS n σ)) (hp : p < 8) (hno : ∀ v ∈ cs, ¬ (45 ≤ v ∧ v ≤ 47)) (hth : 0 ≤ thD (itS (n - 1) σ) ∧ thD (itS (n - 1) σ) < 256)
    (h13 : P 13 = (itS n σ).2.1 96 1) (h4 : P 4 = tb ((itS n σ).2.1 96 (20 + (itS n σ).2.1 96 1).toNat) p) (h15 : P 15 = (itS n σ).2.1 96 (4 + p)) (h2 : P 2 = σ.2.1 87 (8 + p)) (h16 : P 16 = if fsD (itS (n - 1) σ) = 0 then 0 else 1) (h18 : P 18 = (p : Int)) (h19 : P 19 = if (itS n σ).2.1 96 (12 + p) = 1 then 1 else 0) (h9 : P 9 = tb (thD (itS (n - 1) σ)) p) :
    ∀ v ∈ cs, 40 ≤ v → v ≤ 50 → P (rwP (v - 40)).toNat = clp (ptM (aqS σ n 0 0) p (v - 40)) := by
  intro v hv a b
  have h := hno v hv
  have t01 : ∀ s q : Int, tb s q = 0 ∨ tb s q = 1 := fun s q => by unfold tb; omega
  have hday := hGn.R.day
  have hY := hGn.R.Y
  have e87 : (aqS σ n 0 0).2.1 87 (8 + p) = σ.2.1 87 (8 + p) := itS_9 87 (8 + p) (by decide) n
  rcases (show v = 40 ∨ v = 41 ∨ v = 42 ∨ v = 43 ∨ v = 44 ∨ v = 48 ∨ v = 49 ∨ v = 50 by omega) with rfl | rfl | rfl | rfl | rfl | rfl | rfl | rfl
  · show P 13 = clp ((itS n σ).2.1 96 1)
    rw [h13, clp_id (by omega)]
  · show P 4 = clp (tb ((itS n σ).2.1 96 (20 + (itS n σ).2.1 96 1).toNat) p)
    have := t01 ((itS n σ).2.1 96 (20 + (itS n σ).2.1 96 1).toNat) p
    rw [h4, clp_id (by omega)]
  · show P 15 = clp ((itS n σ).2.1 96 (4 + p))
    have := hGn.R.ago p hp
    rw [h15, clp_id (by omega)]
  · show P 2 = clp ((aqS σ n 0 0).2.1 87 (8 + p))
    have := hG.R.mind p hp
    rw [h2, e87, clp_id (by omega)]
  · show P 16 = clp (if fsD (itS (n - 1) σ) = 0 then 0 else 1)
    rw [h16]
    split <;> rfl
  · show P 18 = clp (p : Int)
    rw [h18, clp_id (by omega)]
  · show P 19 = clp (if (itS n σ).2.1 96 (12 + p) = 1 then 1 else 0)
    rw [h19]
    split <;> rfl
  · show P 9 = clp (tb (thD (itS (n - 1) σ)) p)
    have := t01 (thD (itS (n - 1) σ)) p
    rw [h9, clp_id (by omega)]
theorem q_of {σ : am_H} {t : Nat} {T : am_H} {p : Nat} {w x : Int} (hG : GD σ) (hT : TWr t T σ) (hp : p < pN σ) (hw : w = T.2.1 (t + 5) p) : (if 0 ≤ x ∧ x < 8 then ao_and (ao_shr w x) 1 else 0) = clp (ofQ σ x (p : Int)) := by
  obtain ⟨hr, hb⟩ := hT.rby p hp
  have h8 := pN_8 hG.R
  have hN := pN_eq hG.R
  rw [← hw] at hr hb
  have t01 : ∀ s q : Int, tb s q = 0 ∨ tb s q = 1 := fun s q => by unfold tb; omega
  unfold ofQ
  by_cases g : 0 ≤ x ∧ x ≤ σ.2.1 85 5 - 1
  · obtain ⟨q, rfl⟩ := Int.eq_ofNat_of_zero_le g.1
    have hq : q < pN σ := by omega
    have hrem := hG.R.rem q (by omega)
    have h3 := hb q (by omega)
    have h5 := t01 (σ.2.1 89 (8 + q)) p
    rw [if_pos (by omega), if_pos g, tb_eq hr (by omega), show ((8 : Int) + (q : Int)).toNat = 8 + q by omega, tb_eq hrem (by omega), h3, clp_id (by omega)]
    by_cases g2 : tb (σ.2.1 89 (8 + q)) p = 1
    · rw [if_pos ⟨hq, g2⟩, g2]
    · rw [if_neg (fun z => g2 z.2)]
      omega
  · rw [if_neg g]
    by_cases g2 : 0 ≤ x ∧ x < 8
    · obtain ⟨q, rfl⟩ := Int.eq_ofNat_of_zero_le g2.1
      rw [if_pos g2, tb_eq hr (by omega), hb q (by omega), if_neg (fun z => by omega)]
      rfl
    · rw [if_neg g2]
      rfl
def W_vf (a j : Nat) : Prop := a = 45 ∨ a = 46
/-- what holds while people are asked -/
def VQ (t n : Nat) (cs : List Int) (σ S : am_H) : Prop := CQ σ S ∧ LF0 37 S (fun j9 => (itS n σ).2.1 96 j9) ∧ FS t σ (n - 1) S ∧ RLr 28 S cs
theorem VQ.fr {t n : Nat} {cs : List Int} {σ S T : am_H} (h : VQ t n cs σ S) (hF : frw W_vf S T) : VQ t n cs σ T := by
  obtain ⟨h1, h2, h3, h4⟩ := h
  refine ⟨h1.trans (hF.cq (fun a j z => by unfold W_vf at z; unfold W_cq; omega)), h2.fr hF (fun a j z => by unfold W_vf; omega), ?_, h4.fr hF (by unfold W_vf; omega) (fun a j z => by unfold W_vf; omega)⟩
  obtain ⟨g1, g2, g3, g4, g5, g6⟩ := h3
  exact ⟨(hF.2.2 44 0 (by unfold W_vf; omega)).trans g1, (hF.2.2 44 1 (by unfold W_vf; omega)).trans g2, (hF.2.2 44 4 (by unfold W_vf; omega)).trans g3, (hF.2.2 44 5 (by unfold W_vf; omega)).trans g4, (hF.2.2 44 6 (by unfold W_vf; omega)).trans g5, by rw [hF.2.1]; exact g6⟩
theorem rl28 {T : am_H} {cs : List Int} (h : RLr 28 T cs) (hL : lay T) : T.2.1 28 1 = (cs.length : Int) ∧ cs.length ≤ 1600 ∧ ∀ i, i < cs.length → T.2.1 29 i = kap (cs.getD i 0) := by
  obtain ⟨_, c, m, h2, h3, _, h5, h6, h7⟩ := h
  have e1 : 29 = c := Option.some.inj ((Lr_28_0 hL).symm.trans h2)
  subst e1
  have e2 := Option.some.inj ((Ls_29 hL).symm.trans h3)
  have e3 : 1600 = m := congrArg Prod.snd e2
  exact ⟨h6, by omega, h7⟩
set_option maxRecDepth 100000 in
theorem c_valueFor_3 (σ S : am_H) (n : Nat) (cs : List Int) (hC : CI 3 σ) (p : Nat) (hV : VQ 3 n cs σ S) (hn : 1 ≤ n ∧ (n : Int) ≤ dlM σ) (hok : okQ cs [] = true) (hno : ∀ v ∈ cs, ¬ (45 ≤ v ∧ v ≤ 47)) (hp : p < pN σ) : am_met M_X0_valueFor [am_r 44, am_r 28, am_r 37, am_i ((p : Int))] S (fun r σ' => r = some (am_i (aqV σ n cs 0 0 p)) ∧ frw W_vf S σ') := by
  refine am_qq (fun Q hQ => ?_)
  refine am_enter (show plainFor yX0_valueFor = true by decide +kernel) rfl (Nat.le_of_ble_eq_true rfl) (fun _ _ _ => trivial) ?_
  have hL := hV.1.L hC.G.L
  obtain ⟨hq, hA, hFS, hR⟩ := id hV
  have hG := hC.G
  have h8 := pN_8 hG.R
  have hNe := pN_eq hG.R
  have hGn := (itS_GD hC.G n (by omega)).1
  have hG1 := (itS_GD hC.G (n - 1) (by omega)).1
  have hc1 := itS_cc hC.G (n := n - 1) (by omega)
  have hi0 := it_0 hC.G hc1 (by omega)
  rw [show n - 1 + 1 = n by omega] at hi0
  have hb1 := bg1_rng hG1 hc1
  have hY9 : (itS (n - 1) σ).2.1 85 9 ≤ 90 := by have := hG1.R.Y; omega
  have hth := thD_rng hG1 hc1
  obtain ⟨d, hd⟩ := Int.eq_ofNat_of_zero_le (show 0 ≤ bgN (itS (n - 1) σ) 1 by omega)
  have htd := hA.2.2.2.2.1 d (by omega)
  have htr := hGn.R.told d (by omega)
  have htl : 0 ≤ S.2.1 39 d ∧ S.2.1 39 d < 256 := by rw [htd]; exact htr
  have hde := hA.2.1
  have hp8 : p < 8 := by omega
  have hf01 := fsD01 (itS (n - 1) σ)
  refine am_aload_n (q := 1) rfl (am_tab tk_X0_valueFor 0 rfl) rfl ?_
  refine am_getR (q := 4) (a := 44) (k := 0) (n := 14) (j := 10) (r := some (45)) (Ls_44 hL) (by decide) rfl (Lr_44_10 hL) (by decide) (Or.inl kf_X0_9) (am_tab tk_X0_valueFor 1 rfl) rfl ?_
  refine am_bipush (q := 6) (n := 18) (by decide) rfl (am_tab tk_X0_valueFor 2 rfl) rfl ?_
  refine am_iload_n (q := 7) rfl (am_tab tk_X0_valueFor 3 rfl) rfl ?_
  refine am_iast (q := 8) (a := 45) (n := 34) (Ls_45 hL) (by omega) (by omega) (am_tab tk_X0_valueFor 4 rfl) rfl ?_
  refine am_aload_n (q := 9) rfl (am_tab tk_X0_valueFor 5 rfl) rfl ?_
  refine am_getR (q := 12) (a := 44) (k := 0) (n := 14) (j := 10) (r := some (45)) (Ls_44 hL) (by decide) rfl (Lr_44_10 hL) (by decide) (Or.inl kf_X0_9) (am_tab tk_X0_valueFor 6 rfl) rfl ?_
  refine am_iconst (q := 13) (n := 2) (by decide) (am_tab tk_X0_valueFor 7 rfl) rfl ?_
  refine am_aload_n (q := 14) rfl (am_tab tk_X0_valueFor 8 rfl) rfl ?_
  refine am_getR (q := 17) (a := 44) (k := 0) (n := 14) (j := 8) (r := some (3)) (Ls_44 hL) (by decide) rfl hFS.2.2.2.2.2 (by decide) (Or.inl kf_X0_24) (am_tab tk_X0_valueFor 9 rfl) rfl ?_
  refine am_getR (q := 20) (a := 3) (k := 8) (n := 17) (j := 9) (r := some (5)) (Ls_3 hL) (by decide) rfl (Lr_3_9 hL) (by decide) (Or.inr kf_X0_149) (am_tab tk_X0_valueFor 10 rfl) rfl ?_
  refine am_iload_n (q := 21) rfl (am_tab tk_X0_valueFor 11 rfl) rfl ?_
  refine am_iald (q := 22) (a := 5) (n := 8) (x := (S.2.1 5 (Int.toNat (p : Int)))) (Ls_5 hL) (by omega) (by omega) rfl (am_tab tk_X0_valueFor 12 rfl) rfl ?_
  refine am_iast (q := 23) (a := 45) (n := 34) (Ls_45 hL) (by omega) (by omega) (am_tab tk_X0_valueFor 13 rfl) rfl ?_
  refine am_aload_n (q := 24) rfl (am_tab tk_X0_valueFor 14 rfl) rfl ?_
  refine am_getR (q := 27) (a := 44) (k := 0) (n := 14) (j := 10) (r := some (45)) (Ls_44 hL) (by decide) rfl (Lr_44_10 hL) (by decide) (Or.inl kf_X0_9) (am_tab tk_X0_valueFor 15 rfl) rfl ?_
  refine am_iconst (q := 28) (n := 4) (by decide) (am_tab tk_X0_valueFor 16 rfl) rfl ?_
  refine am_aload_n (q := 29) rfl (am_tab tk_X0_valueFor 17 rfl) rfl ?_
  refine am_getR (q := 32) (a := 37) (k := 1) (n := 11) (j := 6) (r := some (39)) (Ls_37 hL) (by decide) rfl (Lr_37_6 hL) (by decide) (Or.inr kf_X0_84) (am_tab tk_X0_valueFor 18 rfl) rfl ?_
  refine am_aload_n (q := 33) rfl (am_tab tk_X0_valueFor 19 rfl) rfl ?_
  refine am_getI (q := 36) (a := 44) (k := 0) (n := 14) (j := 1) (x := (d : Int)) (Ls_44 hL) (by decide) rfl (hFS.2.1.trans hd) (by decide) (Or.inl kf_X0_55) (am_tab tk_X0_valueFor 20 rfl) rfl ?_
  refine am_iald (q := 37) (a := 39) (n := 91) (x := (S.2.1 39 (Int.toNat (d : Int)))) (Ls_39 hL) (by omega) (by omega) rfl (am_tab tk_X0_valueFor 21 rfl) rfl ?_
  refine am_iload_n (q := 38) rfl (am_tab tk_X0_valueFor 22 rfl) rfl ?_
  refine am_callS0 (q := 41) (me2 := M_X9_bit) (As := [am_i ((S.2.1 39 (Int.toNat (d : Int)))), am_i ((p : Int))]) (rest := [am_i 4, am_r 45]) (out := [am_i (tb (S.2.1 39 (Int.toNat (d : Int))) (p : Int)), am_i 4, am_r 45]) (c_bit (am_setN (am_setN S 45 18 (p : Int)) 45 2 (S.2.1 5 (Int.toNat (p : Int)))) (S.2.1 39 (Int.toNat (d : Int))) (p : Int) htl (by omega)) ⟨rfl, rfl⟩ ⟨Or.inr km_X0_105, kc_X9_bit, kn_X9, kd_X9_bit, ⟨(Nat.le_of_ble_eq_true rfl), (Nat.le_of_ble_eq_true rfl)⟩, ⟨(Nat.le_of_ble_eq_true rfl), (Nat.le_of_ble_eq_true rfl)⟩, (Nat.le_of_ble_eq_true rfl)⟩ ki_X9_bit rfl rfl (am_tab tk_X0_valueFor 23 rfl) rfl ?_
  refine am_iast (q := 42) (a := 45) (n := 34) (Ls_45 hL) (by omega) (by omega) (am_tab tk_X0_valueFor 24 rfl) rfl ?_
  refine am_aload_n (q := 43) rfl (am_tab tk_X0_valueFor 25 rfl) rfl ?_
  refine am_getR (q := 46) (a := 44) (k := 0) (n := 14) (j := 10) (r := some (45)) (Ls_44 hL) (by decide) rfl (Lr_44_10 hL) (by decide) (Or.inl kf_X0_9) (am_tab tk_X0_valueFor 26 rfl) rfl ?_
  refine am_bipush (q := 48) (n := 15) (by decide) rfl (am_tab tk_X0_valueFor 27 rfl) rfl ?_
  refine am_aload_n (q := 49) rfl (am_tab tk_X0_valueFor 28 rfl) rfl ?_
  refine am_getR (q := 52) (a := 37) (k := 1) (n := 11) (j := 5) (r := some (38)) (Ls_37 hL) (by decide) rfl (Lr_37_5 hL) (by decide) (Or.inr kf_X0_108) (am_tab tk_X0_valueFor 29 rfl) rfl ?_
  refine am_iload_n (q := 53) rfl (am_tab tk_X0_valueFor 30 rfl) rfl ?_
  refine am_iald (q := 54) (a := 38) (n := 8) (x := (S.2.1 38 (Int.toNat (p : Int)))) (Ls_38 hL) (by omega) (by omega) rfl (am_tab tk_X0_valueFor 31 rfl) rfl ?_
  refine am_iast (q := 55) (a := 45) (n := 34) (Ls_45 hL) (by omega) (by omega) (am_tab tk_X0_valueFor 32 rfl) rfl ?_
  refine am_aload_n (q := 56) rfl (am_tab tk_X0_valueFor 33 rfl) rfl ?_
  refine am_getR (q := 59) (a := 44) (k := 0) (n := 14) (j := 10) (r := some (45)) (Ls_44 hL) (by decide) rfl (Lr_44_10 hL) (by decide) (Or.inl kf_X0_9) (am_tab tk_X0_valueFor 34 rfl) rfl ?_
  refine am_bipush (q := 61) (n := 19) (by decide) rfl (am_tab tk_X0_valueFor 35 rfl) rfl ?_
  refine am_aload_n (q := 62) rfl (am_tab tk_X0_valueFor 36 rfl) rfl ?_
  refine am_getI (q := 65) (a := 37) (k := 1) (n := 11) (j := 4) (x := (S.2.1 37 4)) (Ls_37 hL) (by decide) rfl rfl (by decide) (Or.inr kf_X0_75) (am_tab tk_X0_valueFor 37 rfl) rfl ?_
  refine am_iload_n (q := 66) rfl (am_tab tk_X0_valueFor 38 rfl) rfl ?_
  refine am_callS0 (q := 69) (me2 := M_X9_bit) (As := [am_i ((S.2.1 37 4)), am_i ((p : Int))]) (rest := [am_i 19, am_r 45]) (out := [am_i (tb (S.2.1 37 4) (p : Int)), am_i 19, am_r 45]) (c_bit (am_setN (am_setN (am_setN (am_setN S 45 18 (p : Int)) 45 2 (S.2.1 5 (Int.toNat (p : Int)))) 45 4 (tb (S.2.1 39 (Int.toNat (d : Int))) (p : Int))) 45 15 (S.2.1 38 (Int.toNat (p : Int)))) (S.2.1 37 4) (p : Int) hde (by omega)) ⟨rfl, rfl⟩ ⟨Or.inr km_X0_105, kc_X9_bit, kn_X9, kd_X9_bit, ⟨(Nat.le_of_ble_eq_true rfl), (Nat.le_of_ble_eq_true rfl)⟩, ⟨(Nat.le_of_ble_eq_true rfl), (Nat.le_of_ble_eq_true rfl)⟩, (Nat.le_of_ble_eq_true rfl)⟩ ki_X9_bit rfl rfl (am_tab tk_X0_valueFor 39 rfl) rfl ?_
  refine am_iast (q := 70) (a := 45) (n := 34) (Ls_45 hL) (by omega) (by omega) (am_tab tk_X0_valueFor 40 rfl) rfl ?_
  refine am_aload_n (q := 71) rfl (am_tab tk_X0_valueFor 41 rfl) rfl ?_
  refine am_getR (q := 74) (a := 44) (k := 0) (n := 14) (j := 10) (r := some (45)) (Ls_44 hL) (by decide) rfl (Lr_44_10 hL) (by decide) (Or.inl kf_X0_9) (am_tab tk_X0_valueFor 42 rfl) rfl ?_
  refine am_bipush (q := 76) (n := 16) (by decide) rfl (am_tab tk_X0_valueFor 43 rfl) rfl ?_
  refine am_aload_n (q := 77) rfl (am_tab tk_X0_valueFor 44 rfl) rfl ?_
  refine am_getI (q := 80) (a := 44) (k := 0) (n := 14) (j := 6) (x := (fsD (itS (n - 1) σ))) (Ls_44 hL) (by decide) rfl hFS.2.2.2.2.1 (by decide) (Or.inl kf_X0_99) (am_tab tk_X0_valueFor 45 rfl) rfl ?_
  refine am_if_eq (q := 83) (t := 87) (am_tab tk_X0_valueFor 46 rfl) (by decide) rfl (fun h80 => ?_) (fun h80 => ?_)
  · refine am_iconst (q := 88) (n := 0) (by decide) (am_tab tk_X0_valueFor 49 rfl) rfl ?_
    refine am_iast (q := 89) (a := 45) (n := 34) (Ls_45 hL) (by omega) (by omega) (am_tab tk_X0_valueFor 50 rfl) rfl ?_
    refine am_aload_n (q := 90) rfl (am_tab tk_X0_valueFor 51 rfl) rfl ?_
    refine am_getR (q := 93) (a := 44) (k := 0) (n := 14) (j := 10) (r := some (45)) (Ls_44 hL) (by decide) rfl (Lr_44_10 hL) (by decide) (Or.inl kf_X0_9) (am_tab tk_X0_valueFor 52 rfl) rfl ?_
    refine am_bipush (q := 95) (n := 13) (by decide) rfl (am_tab tk_X0_valueFor 53 rfl) rfl ?_
    refine am_aload_n (q := 96) rfl (am_tab tk_X0_valueFor 54 rfl) rfl ?_
    refine am_getI (q := 99) (a := 44) (k := 0) (n := 14) (j := 1) (x := (d : Int)) (Ls_44 hL) (by decide) rfl (hFS.2.1.trans hd) (by decide) (Or.inl kf_X0_55) (am_tab tk_X0_valueFor 55 rfl) rfl ?_
    refine am_iast (q := 100) (a := 45) (n := 34) (Ls_45 hL) (by omega) (by omega) (am_tab tk_X0_valueFor 56 rfl) rfl ?_
    refine am_aload_n (q := 101) rfl (am_tab tk_X0_valueFor 57 rfl) rfl ?_
    refine am_getR (q := 104) (a := 44) (k := 0) (n := 14) (j := 10) (r := some (45)) (Ls_44 hL) (by decide) rfl (Lr_44_10 hL) (by decide) (Or.inl kf_X0_9) (am_tab tk_X0_valueFor 58 rfl) rfl ?_
    refine am_bipush (q := 106) (n := 9) (by decide) rfl (am_tab tk_X0_valueFor 59 rfl) rfl ?_
    refine am_aload_n (q := 107) rfl (am_tab tk_X0_valueFor 60 rfl) rfl ?_
    refine am_getI (q := 110) (a := 44) (k := 0) (n := 14) (j := 5) (x := (thD (itS (n - 1) σ))) (Ls_44 hL) (by decide) rfl hFS.2.2.2.1 (by decide) (Or.inl kf_X0_96) (am_tab tk_X0_valueFor 61 rfl) rfl ?_
    refine am_iload_n (q := 111) rfl (am_tab tk_X0_valueFor 62 rfl) rfl ?_
    refine am_callS0 (q := 114) (me2 := M_X9_bit) (As := [am_i ((thD (itS (n - 1) σ))), am_i ((p : Int))]) (rest := [am_i 9, am_r 45]) (out := [am_i (tb (thD (itS (n - 1) σ)) (p : Int)), am_i 9, am_r 45]) (c_bit (am_setN (am_setN (am_setN (am_setN (am_setN (am_setN (am_setN S 45 18 (p : Int)) 45 2 (S.2.1 5 (Int.toNat (p : Int)))) 45 4 (tb (S.2.1 39 (Int.toNat (d : Int))) (p : Int))) 45 15 (S.2.1 38 (Int.toNat (p : Int)))) 45 19 (tb (S.2.1 37 4) (p : Int))) 45 16 0) 45 13 (d : Int)) (thD (itS (n - 1) σ)) (p : Int) hth (by omega)) ⟨rfl, rfl⟩ ⟨Or.inr km_X0_105, kc_X9_bit, kn_X9, kd_X9_bit, ⟨(Nat.le_of_ble_eq_true rfl), (Nat.le_of_ble_eq_true rfl)⟩, ⟨(Nat.le_of_ble_eq_true rfl), (Nat.le_of_ble_eq_true rfl)⟩, (Nat.le_of_ble_eq_true rfl)⟩ ki_X9_bit rfl rfl (am_tab tk_X0_valueFor 63 rfl) rfl ?_
    refine am_iast (q := 115) (a := 45) (n := 34) (Ls_45 hL) (by omega) (by omega) (am_tab tk_X0_valueFor 64 rfl) rfl ?_
    refine am_aload_n (q := 116) rfl (am_tab tk_X0_valueFor 65 rfl) rfl ?_
    refine am_getR (q := 119) (a := 44) (k := 0) (n := 14) (j := 10) (r := some (45)) (Ls_44 hL) (by decide) rfl (Lr_44_10 hL) (by decide) (Or.inl kf_X0_9) (am_tab tk_X0_valueFor 66 rfl) rfl ?_
    refine am_bipush (q := 121) (n := 33) (by decide) rfl (am_tab tk_X0_valueFor 67 rfl) rfl ?_
    refine am_aload_n (q := 122) rfl (am_tab tk_X0_valueFor 68 rfl) rfl ?_
    refine am_getR (q := 125) (a := 44) (k := 0) (n := 14) (j := 8) (r := some (3)) (Ls_44 hL) (by decide) rfl hFS.2.2.2.2.2 (by decide) (Or.inl kf_X0_24) (am_tab tk_X0_valueFor 69 rfl) rfl ?_
    refine am_getR (q := 128) (a := 3) (k := 8) (n := 17) (j := 12) (r := some (8)) (Ls_3 hL) (by decide) rfl (Lr_3_12 hL) (by decide) (Or.inr kf_X0_133) (am_tab tk_X0_valueFor 70 rfl) rfl ?_
    refine am_iload_n (q := 129) rfl (am_tab tk_X0_valueFor 71 rfl) rfl ?_
    refine am_iald (q := 130) (a := 8) (n := 8) (x := (S.2.1 8 (Int.toNat (p : Int)))) (Ls_8 hL) (by omega) (by omega) rfl (am_tab tk_X0_valueFor 72 rfl) rfl ?_
    refine am_iast (q := 131) (a := 45) (n := 34) (Ls_45 hL) (by omega) (by omega) (am_tab tk_X0_valueFor 73 rfl) rfl ?_
    have e0 : Int.toNat (p : Int) = p := by omega
    have hE : frw W_vf S (am_setN (am_setN (am_setN (am_setN (am_setN (am_setN (am_setN (am_setN (am_setN S 45 18 (p : Int)) 45 2 (S.2.1 5 (Int.toNat (p : Int)))) 45 4 (tb (S.2.1 39 (Int.toNat (d : Int))) (p : Int))) 45 15 (S.2.1 38 (Int.toNat (p : Int)))) 45 19 (tb (S.2.1 37 4) (p : Int))) 45 16 0) 45 13 (d : Int)) 45 9 (tb (thD (itS (n - 1) σ)) (p : Int))) 45 33 (S.2.1 8 (Int.toNat (p : Int)))) := ((((((((((frw.refl W_vf S).setN (Or.inl rfl)).setN (Or.inl rfl)).setN (Or.inl rfl)).setN (Or.inl rfl)).setN (Or.inl rfl)).setN (Or.inl rfl)).setN (Or.inl rfl)).setN (Or.inl rfl)).setN (Or.inl rfl))
    have hV2 := hV.fr hE
    obtain ⟨hsz, hcl, hcd⟩ : (am_setN (am_setN (am_setN (am_setN (am_setN (am_setN (am_setN (am_setN (am_setN S 45 18 (p : Int)) 45 2 (S.2.1 5 (Int.toNat (p : Int)))) 45 4 (tb (S.2.1 39 (Int.toNat (d : Int))) (p : Int))) 45 15 (S.2.1 38 (Int.toNat (p : Int)))) 45 19 (tb (S.2.1 37 4) (p : Int))) 45 16 0) 45 13 (d : Int)) 45 9 (tb (thD (itS (n - 1) σ)) (p : Int))) 45 33 (S.2.1 8 (Int.toNat (p : Int)))).2.1 28 1 = (cs.length : Int) ∧ cs.length ≤ 1600 ∧ ∀ i, i < cs.length → (am_setN (am_setN (am_setN (am_setN (am_setN (am_setN (am_setN (am_setN (am_setN S 45 18 (p : Int)) 45 2 (S.2.1 5 (Int.toNat (p : Int)))) 45 4 (tb (S.2.1 39 (Int.toNat (d : Int))) (p : Int))) 45 15 (S.2.1 38 (Int.toNat (p : Int)))) 45 19 (tb (S.2.1 37 4) (p : Int))) 45 16 0) 45 13 (d : Int)) 45 9 (tb (thD (itS (n - 1) σ)) (p : Int))) 45 33 (S.2.1 8 (Int.toNat (p : Int)))).2.1 29 i = kap (cs.getD i 0) := rl28 hV2.2.2.2 hL
    have henv := q_env (P := fun k => (am_setN (am_setN (am_setN (am_setN (am_setN (am_setN (am_setN (am_setN (am_setN S 45 18 (p : Int)) 45 2 (S.2.1 5 (Int.toNat (p : Int)))) 45 4 (tb (S.2.1 39 (Int.toNat (d : Int))) (p : Int))) 45 15 (S.2.1 38 (Int.toNat (p : Int)))) 45 19 (tb (S.2.1 37 4) (p : Int))) 45 16 0) 45 13 (d : Int)) 45 9 (tb (thD (itS (n - 1) σ)) (p : Int))) 45 33 (S.2.1 8 (Int.toNat (p : Int)))).2.1 45 k) hG hGn hp8 hno hth (by rw [hi0.2]; exact hd.symm) (by show tb (S.2.1 39 (Int.toNat (d : Int))) (p : Int) = _; rw [hi0.2, hd, show ((20 : Int) + (d : Int)).toNat = 20 + d by omega, show Int.toNat (d : Int) = d by omega, htd]) (by show S.2.1 38 (Int.toNat (p : Int)) = _; rw [e0]; exact hA.2.2.2.1 p hp8) (by show S.2.1 5 (Int.toNat (p : Int)) = _; rw [e0, hq.2.2 5 p (by unfold W_cq; omega)]; exact hC.W.minds p hp) (by show (0 : Int) = _; first | rw [if_pos (by omega)] | rw [if_neg (by omega)]) rfl (by show tb (S.2.1 37 4) (p : Int) = _; rw [hA.2.2.1 p hp8]; show (itS n σ).2.1 96 (12 + p) = _; rcases hGn.R.dead p hp8 with z | z <;> rw [z] <;> rfl) rfl
    have hof : 60 ∈ cs → ∀ x : Int, -1000000 ≤ x → x ≤ 1000000 → (if 0 ≤ x ∧ x < 8 then ao_and (ao_shr ((am_setN (am_setN (am_setN (am_setN (am_setN (am_setN (am_setN (am_setN (am_setN S 45 18 (p : Int)) 45 2 (S.2.1 5 (Int.toNat (p : Int)))) 45 4 (tb (S.2.1 39 (Int.toNat (d : Int))) (p : Int))) 45 15 (S.2.1 38 (Int.toNat (p : Int)))) 45 19 (tb (S.2.1 37 4) (p : Int))) 45 16 0) 45 13 (d : Int)) 45 9 (tb (thD (itS (n - 1) σ)) (p : Int))) 45 33 (S.2.1 8 (Int.toNat (p : Int)))).2.1 45 33) x) 1 else 0) = clp ((fun m => ofQ σ m (p : Int)) x) := fun _ x _ _ => q_of hG (hC.W.cq hq (by decide)) hp (by show S.2.1 8 (Int.toNat (p : Int)) = _; rw [e0])
    refine am_aload_n (q := 132) rfl (am_tab tk_X0_valueFor 74 rfl) rfl ?_
    refine am_aload_n (q := 133) rfl (am_tab tk_X0_valueFor 75 rfl) rfl ?_
    refine am_getR (q := 136) (a := 44) (k := 0) (n := 14) (j := 10) (r := some (45)) (Ls_44 hL) (by decide) rfl (Lr_44_10 hL) (by decide) (Or.inl kf_X0_9) (am_tab tk_X0_valueFor 76 rfl) rfl ?_
    refine am_aload_n (q := 137) rfl (am_tab tk_X0_valueFor 77 rfl) rfl ?_
    refine am_getR (q := 140) (a := 44) (k := 0) (n := 14) (j := 11) (r := some (46)) (Ls_44 hL) (by decide) rfl (Lr_44_11 hL) (by decide) (Or.inl kf_X0_15) (am_tab tk_X0_valueFor 78 rfl) rfl ?_
    refine am_callVr (q := 143) (me2 := M_X5_valueOf) (b := 28) (kb := 5) (nb := 2) (As := [am_r 45, am_r 46]) (rest := []) (c_X5_valueOf (am_setN (am_setN (am_setN (am_setN (am_setN (am_setN (am_setN (am_setN (am_setN S 45 18 (p : Int)) 45 2 (S.2.1 5 (Int.toNat (p : Int)))) 45 4 (tb (S.2.1 39 (Int.toNat (d : Int))) (p : Int))) 45 15 (S.2.1 38 (Int.toNat (p : Int)))) 45 19 (tb (S.2.1 37 4) (p : Int))) 45 16 0) 45 13 (d : Int)) 45 9 (tb (thD (itS (n - 1) σ)) (p : Int))) 45 33 (S.2.1 8 (Int.toNat (p : Int)))) hL 28 29 1600 (Ls_28 hL) (Lr_28_0 hL) (by decide) (Ls_29 hL) (by decide) cs (ptM (aqS σ n 0 0) p) (fun m => ofQ σ m (p : Int)) hsz ⟨hcl, by decide⟩ hcd hok henv hof) ⟨rfl, rfl⟩ (Ls_28 hL) (by decide) ⟨Or.inr km_X0_129, kc_X5_valueOf, kn_X5, kd_X5_valueOf, ⟨(Nat.le_of_ble_eq_true rfl), (Nat.le_of_ble_eq_true rfl)⟩, ⟨(Nat.le_of_ble_eq_true rfl), (Nat.le_of_ble_eq_true rfl)⟩, (Nat.le_of_ble_eq_true rfl)⟩ ki_X5_valueOf ks_X5_valueOf rfl (am_tab tk_X0_valueFor 79 rfl) rfl ?_
    rintro r T9 ⟨rfl, hF9⟩
    refine am_st (st2 := [am_i ((aqV σ n cs 0 0 p))]) rfl ?_
    refine am_iret (Or.inl rfl) (Nat.le_of_ble_eq_true rfl) (Nat.le_of_ble_eq_true rfl) (am_tab tk_X0_valueFor 80 rfl) ?_
    refine hQ _ _ ?_
    exact ⟨rfl, hE.trans (hF9.mono (fun a j z => Or.inr z))⟩
  · refine am_iconst (q := 84) (n := 1) (by decide) (am_tab tk_X0_valueFor 47 rfl) rfl ?_
    refine am_goto (t := 88) (am_tab tk_X0_valueFor 48 rfl) (by decide) ?_
    refine am_iast (q := 89) (a := 45) (n := 34) (Ls_45 hL) (by omega) (by omega) (am_tab tk_X0_valueFor 50 rfl) rfl ?_
    refine am_aload_n (q := 90) rfl (am_tab tk_X0_valueFor 51 rfl) rfl ?_
    refine am_getR (q := 93) (a := 44) (k := 0) (n := 14) (j := 10) (r := some (45)) (Ls_44 hL) (by decide) rfl (Lr_44_10 hL) (by decide) (Or.inl kf_X0_9) (am_tab tk_X0_valueFor 52 rfl) rfl ?_
    refine am_bipush (q := 95) (n := 13) (by decide) rfl (am_tab tk_X0_valueFor 53 rfl) rfl ?_
    refine am_aload_n (q := 96) rfl (am_tab tk_X0_valueFor 54 rfl) rfl ?_
    refine am_getI (q := 99) (a := 44) (k := 0) (n := 14) (j := 1) (x := (d : Int)) (Ls_44 hL) (by decide) rfl (hFS.2.1.trans hd) (by decide) (Or.inl kf_X0_55) (am_tab tk_X0_valueFor 55 rfl) rfl ?_
    refine am_iast (q := 100) (a := 45) (n := 34) (Ls_45 hL) (by omega) (by omega) (am_tab tk_X0_valueFor 56 rfl) rfl ?_
    refine am_aload_n (q := 101) rfl (am_tab tk_X0_valueFor 57 rfl) rfl ?_
    refine am_getR (q := 104) (a := 44) (k := 0) (n := 14) (j := 10) (r := some (45)) (Ls_44 hL) (by decide) rfl (Lr_44_10 hL) (by decide) (Or.inl kf_X0_9) (am_tab tk_X0_valueFor 58 rfl) rfl ?_
    refine am_bipush (q := 106) (n := 9) (by decide) rfl (am_tab tk_X0_valueFor 59 rfl) rfl ?_
    refine am_aload_n (q := 107) rfl (am_tab tk_X0_valueFor 60 rfl) rfl ?_
    refine am_getI (q := 110) (a := 44) (k := 0) (n := 14) (j := 5) (x := (thD (itS (n - 1) σ))) (Ls_44 hL) (by decide) rfl hFS.2.2.2.1 (by decide) (Or.inl kf_X0_96) (am_tab tk_X0_valueFor 61 rfl) rfl ?_
    refine am_iload_n (q := 111) rfl (am_tab tk_X0_valueFor 62 rfl) rfl ?_
    refine am_callS0 (q := 114) (me2 := M_X9_bit) (As := [am_i ((thD (itS (n - 1) σ))), am_i ((p : Int))]) (rest := [am_i 9, am_r 45]) (out := [am_i (tb (thD (itS (n - 1) σ)) (p : Int)), am_i 9, am_r 45]) (c_bit (am_setN (am_setN (am_setN (am_setN (am_setN (am_setN (am_setN S 45 18 (p : Int)) 45 2 (S.2.1 5 (Int.toNat (p : Int)))) 45 4 (tb (S.2.1 39 (Int.toNat (d : Int))) (p : Int))) 45 15 (S.2.1 38 (Int.toNat (p : Int)))) 45 19 (tb (S.2.1 37 4) (p : Int))) 45 16 1) 45 13 (d : Int)) (thD (itS (n - 1) σ)) (p : Int) hth (by omega)) ⟨rfl, rfl⟩ ⟨Or.inr km_X0_105, kc_X9_bit, kn_X9, kd_X9_bit, ⟨(Nat.le_of_ble_eq_true rfl), (Nat.le_of_ble_eq_true rfl)⟩, ⟨(Nat.le_of_ble_eq_true rfl), (Nat.le_of_ble_eq_true rfl)⟩, (Nat.le_of_ble_eq_true rfl)⟩ ki_X9_bit rfl rfl (am_tab tk_X0_valueFor 63 rfl) rfl ?_
    refine am_iast (q := 115) (a := 45) (n := 34) (Ls_45 hL) (by omega) (by omega) (am_tab tk_X0_valueFor 64 rfl) rfl ?_
    refine am_aload_n (q := 116) rfl (am_tab tk_X0_valueFor 65 rfl) rfl ?_
    refine am_getR (q := 119) (a := 44) (k := 0) (n := 14) (j := 10) (r := some (45)) (Ls_44 hL) (by decide) rfl (Lr_44_10 hL) (by decide) (Or.inl kf_X0_9) (am_tab tk_X0_valueFor 66 rfl) rfl ?_
    refine am_bipush (q := 121) (n := 33) (by decide) rfl (am_tab tk_X0_valueFor 67 rfl) rfl ?_
    refine am_aload_n (q := 122) rfl (am_tab tk_X0_valueFor 68 rfl) rfl ?_
    refine am_getR (q := 125) (a := 44) (k := 0) (n := 14) (j := 8) (r := some (3)) (Ls_44 hL) (by decide) rfl hFS.2.2.2.2.2 (by decide) (Or.inl kf_X0_24) (am_tab tk_X0_valueFor 69 rfl) rfl ?_
    refine am_getR (q := 128) (a := 3) (k := 8) (n := 17) (j := 12) (r := some (8)) (Ls_3 hL) (by decide) rfl (Lr_3_12 hL) (by decide) (Or.inr kf_X0_133) (am_tab tk_X0_valueFor 70 rfl) rfl ?_
    refine am_iload_n (q := 129) rfl (am_tab tk_X0_valueFor 71 rfl) rfl ?_
    refine am_iald (q := 130) (a := 8) (n := 8) (x := (S.2.1 8 (Int.toNat (p : Int)))) (Ls_8 hL) (by omega) (by omega) rfl (am_tab tk_X0_valueFor 72 rfl) rfl ?_
    refine am_iast (q := 131) (a := 45) (n := 34) (Ls_45 hL) (by omega) (by omega) (am_tab tk_X0_valueFor 73 rfl) rfl ?_
    have e0 : Int.toNat (p : Int) = p := by omega
    have hE : frw W_vf S (am_setN (am_setN (am_setN (am_setN (am_setN (am_setN (am_setN (am_setN (am_setN S 45 18 (p : Int)) 45 2 (S.2.1 5 (Int.toNat (p : Int)))) 45 4 (tb (S.2.1 39 (Int.toNat (d : Int))) (p : Int))) 45 15 (S.2.1 38 (Int.toNat (p : Int)))) 45 19 (tb (S.2.1 37 4) (p : Int))) 45 16 1) 45 13 (d : Int)) 45 9 (tb (thD (itS (n - 1) σ)) (p : Int))) 45 33 (S.2.1 8 (Int.toNat (p : Int)))) := ((((((((((frw.refl W_vf S).setN (Or.inl rfl)).setN (Or.inl rfl)).setN (Or.inl rfl)).setN (Or.inl rfl)).setN (Or.inl rfl)).setN (Or.inl rfl)).setN (Or.inl rfl)).setN (Or.inl rfl)).setN (Or.inl rfl))
    have hV2 := hV.fr hE
    obtain ⟨hsz, hcl, hcd⟩ : (am_setN (am_setN (am_setN (am_setN (am_setN (am_setN (am_setN (am_setN (am_setN S 45 18 (p : Int)) 45 2 (S.2.1 5 (Int.toNat (p : Int)))) 45 4 (tb (S.2.1 39 (Int.toNat (d : Int))) (p : Int))) 45 15 (S.2.1 38 (Int.toNat (p : Int)))) 45 19 (tb (S.2.1 37 4) (p : Int))) 45 16 1) 45 13 (d : Int)) 45 9 (tb (thD (itS (n - 1) σ)) (p : Int))) 45 33 (S.2.1 8 (Int.toNat (p : Int)))).2.1 28 1 = (cs.length : Int) ∧ cs.length ≤ 1600 ∧ ∀ i, i < cs.length → (am_setN (am_setN (am_setN (am_setN (am_setN (am_setN (am_setN (am_setN (am_setN S 45 18 (p : Int)) 45 2 (S.2.1 5 (Int.toNat (p : Int)))) 45 4 (tb (S.2.1 39 (Int.toNat (d : Int))) (p : Int))) 45 15 (S.2.1 38 (Int.toNat (p : Int)))) 45 19 (tb (S.2.1 37 4) (p : Int))) 45 16 1) 45 13 (d : Int)) 45 9 (tb (thD (itS (n - 1) σ)) (p : Int))) 45 33 (S.2.1 8 (Int.toNat (p : Int)))).2.1 29 i = kap (cs.getD i 0) := rl28 hV2.2.2.2 hL
    have henv := q_env (P := fun k => (am_setN (am_setN (am_setN (am_setN (am_setN (am_setN (am_setN (am_setN (am_setN S 45 18 (p : Int)) 45 2 (S.2.1 5 (Int.toNat (p : Int)))) 45 4 (tb (S.2.1 39 (Int.toNat (d : Int))) (p : Int))) 45 15 (S.2.1 38 (Int.toNat (p : Int)))) 45 19 (tb (S.2.1 37 4) (p : Int))) 45 16 1) 45 13 (d : Int)) 45 9 (tb (thD (itS (n - 1) σ)) (p : Int))) 45 33 (S.2.1 8 (Int.toNat (p : Int)))).2.1 45 k) hG hGn hp8 hno hth (by rw [hi0.2]; exact hd.symm) (by show tb (S.2.1 39 (Int.toNat (d : Int))) (p : Int) = _; rw [hi0.2, hd, show ((20 : Int) + (d : Int)).toNat = 20 + d by omega, show Int.toNat (d : Int) = d by omega, htd]) (by show S.2.1 38 (Int.toNat (p : Int)) = _; rw [e0]; exact hA.2.2.2.1 p hp8) (by show S.2.1 5 (Int.toNat (p : Int)) = _; rw [e0, hq.2.2 5 p (by unfold W_cq; omega)]; exact hC.W.minds p hp) (by show (1 : Int) = _; first | rw [if_pos (by omega)] | rw [if_neg (by omega)]) rfl (by show tb (S.2.1 37 4) (p : Int) = _; rw [hA.2.2.1 p hp8]; show (itS n σ).2.1 96 (12 + p) = _; rcases hGn.R.dead p hp8 with z | z <;> rw [z] <;> rfl) rfl
    have hof : 60 ∈ cs → ∀ x : Int, -1000000 ≤ x → x ≤ 1000000 → (if 0 ≤ x ∧ x < 8 then ao_and (ao_shr ((am_setN (am_setN (am_setN (am_setN (am_setN (am_setN (am_setN (am_setN (am_setN S 45 18 (p : Int)) 45 2 (S.2.1 5 (Int.toNat (p : Int)))) 45 4 (tb (S.2.1 39 (Int.toNat (d : Int))) (p : Int))) 45 15 (S.2.1 38 (Int.toNat (p : Int)))) 45 19 (tb (S.2.1 37 4) (p : Int))) 45 16 1) 45 13 (d : Int)) 45 9 (tb (thD (itS (n - 1) σ)) (p : Int))) 45 33 (S.2.1 8 (Int.toNat (p : Int)))).2.1 45 33) x) 1 else 0) = clp ((fun m => ofQ σ m (p : Int)) x) := fun _ x _ _ => q_of hG (hC.W.cq hq (by decide)) hp (by show S.2.1 8 (Int.toNat (p : Int)) = _; rw [e0])
    refine am_aload_n (q := 132) rfl (am_tab tk_X0_valueFor 74 rfl) rfl ?_
    refine am_aload_n (q := 133) rfl (am_tab tk_X0_valueFor 75 rfl) rfl ?_
    refine am_getR (q := 136) (a := 44) (k := 0) (n := 14) (j := 10) (r := some (45)) (Ls_44 hL) (by decide) rfl (Lr_44_10 hL) (by decide) (Or.inl kf_X0_9) (am_tab tk_X0_valueFor 76 rfl) rfl ?_
    refine am_aload_n (q := 137) rfl (am_tab tk_X0_valueFor 77 rfl) rfl ?_
    refine am_getR (q := 140) (a := 44) (k := 0) (n := 14) (j := 11) (r := some (46)) (Ls_44 hL) (by decide) rfl (Lr_44_11 hL) (by decide) (Or.inl kf_X0_15) (am_tab tk_X0_valueFor 78 rfl) rfl ?_
    refine am_callVr (q := 143) (me2 := M_X5_valueOf) (b := 28) (kb := 5) (nb := 2) (As := [am_r 45, am_r 46]) (rest := []) (c_X5_valueOf (am_setN (am_setN (am_setN (am_setN (am_setN (am_setN (am_setN (am_setN (am_setN S 45 18 (p : Int)) 45 2 (S.2.1 5 (Int.toNat (p : Int)))) 45 4 (tb (S.2.1 39 (Int.toNat (d : Int))) (p : Int))) 45 15 (S.2.1 38 (Int.toNat (p : Int)))) 45 19 (tb (S.2.1 37 4) (p : Int))) 45 16 1) 45 13 (d : Int)) 45 9 (tb (thD (itS (n - 1) σ)) (p : Int))) 45 33 (S.2.1 8 (Int.toNat (p : Int)))) hL 28 29 1600 (Ls_28 hL) (Lr_28_0 hL) (by decide) (Ls_29 hL) (by decide) cs (ptM (aqS σ n 0 0) p) (fun m => ofQ σ m (p : Int)) hsz ⟨hcl, by decide⟩ hcd hok henv hof) ⟨rfl, rfl⟩ (Ls_28 hL) (by decide) ⟨Or.inr km_X0_129, kc_X5_valueOf, kn_X5, kd_X5_valueOf, ⟨(Nat.le_of_ble_eq_true rfl), (Nat.le_of_ble_eq_true rfl)⟩, ⟨(Nat.le_of_ble_eq_true rfl), (Nat.le_of_ble_eq_true rfl)⟩, (Nat.le_of_ble_eq_true rfl)⟩ ki_X5_valueOf ks_X5_valueOf rfl (am_tab tk_X0_valueFor 79 rfl) rfl ?_
    rintro r T9 ⟨rfl, hF9⟩
    refine am_st (st2 := [am_i ((aqV σ n cs 0 0 p))]) rfl ?_
    refine am_iret (Or.inl rfl) (Nat.le_of_ble_eq_true rfl) (Nat.le_of_ble_eq_true rfl) (am_tab tk_X0_valueFor 80 rfl) ?_
    refine hQ _ _ ?_
    exact ⟨rfl, hE.trans (hF9.mono (fun a j z => Or.inr z))⟩
set_option maxRecDepth 100000 in
theorem c_valueFor_15 (σ S : am_H) (n : Nat) (cs : List Int) (hC : CI 15 σ) (p : Nat) (hV : VQ 15 n cs σ S) (hn : 1 ≤ n ∧ (n : Int) ≤ dlM σ) (hok : okQ cs [] = true) (hno : ∀ v ∈ cs, ¬ (45 ≤ v ∧ v ≤ 47)) (hp : p < pN σ) : am_met M_X0_valueFor [am_r 44, am_r 28, am_r 37, am_i ((p : Int))] S (fun r σ' => r = some (am_i (aqV σ n cs 0 0 p)) ∧ frw W_vf S σ') := by
  refine am_qq (fun Q hQ => ?_)
  refine am_enter (show plainFor yX0_valueFor = true by decide +kernel) rfl (Nat.le_of_ble_eq_true rfl) (fun _ _ _ => trivial) ?_
  have hL := hV.1.L hC.G.L
  obtain ⟨hq, hA, hFS, hR⟩ := id hV
  have hG := hC.G
  have h8 := pN_8 hG.R
  have hNe := pN_eq hG.R
  have hGn := (itS_GD hC.G n (by omega)).1
  have hG1 := (itS_GD hC.G (n - 1) (by omega)).1
  have hc1 := itS_cc hC.G (n := n - 1) (by omega)
  have hi0 := it_0 hC.G hc1 (by omega)
  rw [show n - 1 + 1 = n by omega] at hi0
  have hb1 := bg1_rng hG1 hc1
  have hY9 : (itS (n - 1) σ).2.1 85 9 ≤ 90 := by have := hG1.R.Y; omega
  have hth := thD_rng hG1 hc1
  obtain ⟨d, hd⟩ := Int.eq_ofNat_of_zero_le (show 0 ≤ bgN (itS (n - 1) σ) 1 by omega)
  have htd := hA.2.2.2.2.1 d (by omega)
  have htr := hGn.R.told d (by omega)
  have htl : 0 ≤ S.2.1 39 d ∧ S.2.1 39 d < 256 := by rw [htd]; exact htr
  have hde := hA.2.1
  have hp8 : p < 8 := by omega
  have hf01 := fsD01 (itS (n - 1) σ)
  refine am_aload_n (q := 1) rfl (am_tab tk_X0_valueFor 0 rfl) rfl ?_
  refine am_getR (q := 4) (a := 44) (k := 0) (n := 14) (j := 10) (r := some (45)) (Ls_44 hL) (by decide) rfl (Lr_44_10 hL) (by decide) (Or.inl kf_X0_9) (am_tab tk_X0_valueFor 1 rfl) rfl ?_
  refine am_bipush (q := 6) (n := 18) (by decide) rfl (am_tab tk_X0_valueFor 2 rfl) rfl ?_
  refine am_iload_n (q := 7) rfl (am_tab tk_X0_valueFor 3 rfl) rfl ?_
  refine am_iast (q := 8) (a := 45) (n := 34) (Ls_45 hL) (by omega) (by omega) (am_tab tk_X0_valueFor 4 rfl) rfl ?_
  refine am_aload_n (q := 9) rfl (am_tab tk_X0_valueFor 5 rfl) rfl ?_
  refine am_getR (q := 12) (a := 44) (k := 0) (n := 14) (j := 10) (r := some (45)) (Ls_44 hL) (by decide) rfl (Lr_44_10 hL) (by decide) (Or.inl kf_X0_9) (am_tab tk_X0_valueFor 6 rfl) rfl ?_
  refine am_iconst (q := 13) (n := 2) (by decide) (am_tab tk_X0_valueFor 7 rfl) rfl ?_
  refine am_aload_n (q := 14) rfl (am_tab tk_X0_valueFor 8 rfl) rfl ?_
  refine am_getR (q := 17) (a := 44) (k := 0) (n := 14) (j := 8) (r := some (15)) (Ls_44 hL) (by decide) rfl hFS.2.2.2.2.2 (by decide) (Or.inl kf_X0_24) (am_tab tk_X0_valueFor 9 rfl) rfl ?_
  refine am_getR (q := 20) (a := 15) (k := 8) (n := 17) (j := 9) (r := some (17)) (Ls_15 hL) (by decide) rfl (Lr_15_9 hL) (by decide) (Or.inr kf_X0_149) (am_tab tk_X0_valueFor 10 rfl) rfl ?_
  refine am_iload_n (q := 21) rfl (am_tab tk_X0_valueFor 11 rfl) rfl ?_
  refine am_iald (q := 22) (a := 17) (n := 8) (x := (S.2.1 17 (Int.toNat (p : Int)))) (Ls_17 hL) (by omega) (by omega) rfl (am_tab tk_X0_valueFor 12 rfl) rfl ?_
  refine am_iast (q := 23) (a := 45) (n := 34) (Ls_45 hL) (by omega) (by omega) (am_tab tk_X0_valueFor 13 rfl) rfl ?_
  refine am_aload_n (q := 24) rfl (am_tab tk_X0_valueFor 14 rfl) rfl ?_
  refine am_getR (q := 27) (a := 44) (k := 0) (n := 14) (j := 10) (r := some (45)) (Ls_44 hL) (by decide) rfl (Lr_44_10 hL) (by decide) (Or.inl kf_X0_9) (am_tab tk_X0_valueFor 15 rfl) rfl ?_
  refine am_iconst (q := 28) (n := 4) (by decide) (am_tab tk_X0_valueFor 16 rfl) rfl ?_
  refine am_aload_n (q := 29) rfl (am_tab tk_X0_valueFor 17 rfl) rfl ?_
  refine am_getR (q := 32) (a := 37) (k := 1) (n := 11) (j := 6) (r := some (39)) (Ls_37 hL) (by decide) rfl (Lr_37_6 hL) (by decide) (Or.inr kf_X0_84) (am_tab tk_X0_valueFor 18 rfl) rfl ?_
  refine am_aload_n (q := 33) rfl (am_tab tk_X0_valueFor 19 rfl) rfl ?_
  refine am_getI (q := 36) (a := 44) (k := 0) (n := 14) (j := 1) (x := (d : Int)) (Ls_44 hL) (by decide) rfl (hFS.2.1.trans hd) (by decide) (Or.inl kf_X0_55) (am_tab tk_X0_valueFor 20 rfl) rfl ?_
  refine am_iald (q := 37) (a := 39) (n := 91) (x := (S.2.1 39 (Int.toNat (d : Int)))) (Ls_39 hL) (by omega) (by omega) rfl (am_tab tk_X0_valueFor 21 rfl) rfl ?_
  refine am_iload_n (q := 38) rfl (am_tab tk_X0_valueFor 22 rfl) rfl ?_
  refine am_callS0 (q := 41) (me2 := M_X9_bit) (As := [am_i ((S.2.1 39 (Int.toNat (d : Int)))), am_i ((p : Int))]) (rest := [am_i 4, am_r 45]) (out := [am_i (tb (S.2.1 39 (Int.toNat (d : Int))) (p : Int)), am_i 4, am_r 45]) (c_bit (am_setN (am_setN S 45 18 (p : Int)) 45 2 (S.2.1 17 (Int.toNat (p : Int)))) (S.2.1 39 (Int.toNat (d : Int))) (p : Int) htl (by omega)) ⟨rfl, rfl⟩ ⟨Or.inr km_X0_105, kc_X9_bit, kn_X9, kd_X9_bit, ⟨(Nat.le_of_ble_eq_true rfl), (Nat.le_of_ble_eq_true rfl)⟩, ⟨(Nat.le_of_ble_eq_true rfl), (Nat.le_of_ble_eq_true rfl)⟩, (Nat.le_of_ble_eq_true rfl)⟩ ki_X9_bit rfl rfl (am_tab tk_X0_valueFor 23 rfl) rfl ?_
  refine am_iast (q := 42) (a := 45) (n := 34) (Ls_45 hL) (by omega) (by omega) (am_tab tk_X0_valueFor 24 rfl) rfl ?_
  refine am_aload_n (q := 43) rfl (am_tab tk_X0_valueFor 25 rfl) rfl ?_
  refine am_getR (q := 46) (a := 44) (k := 0) (n := 14) (j := 10) (r := some (45)) (Ls_44 hL) (by decide) rfl (Lr_44_10 hL) (by decide) (Or.inl kf_X0_9) (am_tab tk_X0_valueFor 26 rfl) rfl ?_
  refine am_bipush (q := 48) (n := 15) (by decide) rfl (am_tab tk_X0_valueFor 27 rfl) rfl ?_
  refine am_aload_n (q := 49) rfl (am_tab tk_X0_valueFor 28 rfl) rfl ?_
  refine am_getR (q := 52) (a := 37) (k := 1) (n := 11) (j := 5) (r := some (38)) (Ls_37 hL) (by decide) rfl (Lr_37_5 hL) (by decide) (Or.inr kf_X0_108) (am_tab tk_X0_valueFor 29 rfl) rfl ?_
  refine am_iload_n (q := 53) rfl (am_tab tk_X0_valueFor 30 rfl) rfl ?_
  refine am_iald (q := 54) (a := 38) (n := 8) (x := (S.2.1 38 (Int.toNat (p : Int)))) (Ls_38 hL) (by omega) (by omega) rfl (am_tab tk_X0_valueFor 31 rfl) rfl ?_
  refine am_iast (q := 55) (a := 45) (n := 34) (Ls_45 hL) (by omega) (by omega) (am_tab tk_X0_valueFor 32 rfl) rfl ?_
  refine am_aload_n (q := 56) rfl (am_tab tk_X0_valueFor 33 rfl) rfl ?_
  refine am_getR (q := 59) (a := 44) (k := 0) (n := 14) (j := 10) (r := some (45)) (Ls_44 hL) (by decide) rfl (Lr_44_10 hL) (by decide) (Or.inl kf_X0_9) (am_tab tk_X0_valueFor 34 rfl) rfl ?_
  refine am_bipush (q := 61) (n := 19) (by decide) rfl (am_tab tk_X0_valueFor 35 rfl) rfl ?_
  refine am_aload_n (q := 62) rfl (am_tab tk_X0_valueFor 36 rfl) rfl ?_
  refine am_getI (q := 65) (a := 37) (k := 1) (n := 11) (j := 4) (x := (S.2.1 37 4)) (Ls_37 hL) (by decide) rfl rfl (by decide) (Or.inr kf_X0_75) (am_tab tk_X0_valueFor 37 rfl) rfl ?_
  refine am_iload_n (q := 66) rfl (am_tab tk_X0_valueFor 38 rfl) rfl ?_
  refine am_callS0 (q := 69) (me2 := M_X9_bit) (As := [am_i ((S.2.1 37 4)), am_i ((p : Int))]) (rest := [am_i 19, am_r 45]) (out := [am_i (tb (S.2.1 37 4) (p : Int)), am_i 19, am_r 45]) (c_bit (am_setN (am_setN (am_setN (am_setN S 45 18 (p : Int)) 45 2 (S.2.1 17 (Int.toNat (p : Int)))) 45 4 (tb (S.2.1 39 (Int.toNat (d : Int))) (p : Int))) 45 15 (S.2.1 38 (Int.toNat (p : Int)))) (S.2.1 37 4) (p : Int) hde (by omega)) ⟨rfl, rfl⟩ ⟨Or.inr km_X0_105, kc_X9_bit, kn_X9, kd_X9_bit, ⟨(Nat.le_of_ble_eq_true rfl), (Nat.le_of_ble_eq_true rfl)⟩, ⟨(Nat.le_of_ble_eq_true rfl), (Nat.le_of_ble_eq_true rfl)⟩, (Nat.le_of_ble_eq_true rfl)⟩ ki_X9_bit rfl rfl (am_tab tk_X0_valueFor 39 rfl) rfl ?_
  refine am_iast (q := 70) (a := 45) (n := 34) (Ls_45 hL) (by omega) (by omega) (am_tab tk_X0_valueFor 40 rfl) rfl ?_
  refine am_aload_n (q := 71) rfl (am_tab tk_X0_valueFor 41 rfl) rfl ?_
  refine am_getR (q := 74) (a := 44) (k := 0) (n := 14) (j := 10) (r := some (45)) (Ls_44 hL) (by decide) rfl (Lr_44_10 hL) (by decide) (Or.inl kf_X0_9) (am_tab tk_X0_valueFor 42 rfl) rfl ?_
  refine am_bipush (q := 76) (n := 16) (by decide) rfl (am_tab tk_X0_valueFor 43 rfl) rfl ?_
  refine am_aload_n (q := 77) rfl (am_tab tk_X0_valueFor 44 rfl) rfl ?_
  refine am_getI (q := 80) (a := 44) (k := 0) (n := 14) (j := 6) (x := (fsD (itS (n - 1) σ))) (Ls_44 hL) (by decide) rfl hFS.2.2.2.2.1 (by decide) (Or.inl kf_X0_99) (am_tab tk_X0_valueFor 45 rfl) rfl ?_
  refine am_if_eq (q := 83) (t := 87) (am_tab tk_X0_valueFor 46 rfl) (by decide) rfl (fun h80 => ?_) (fun h80 => ?_)
  · refine am_iconst (q := 88) (n := 0) (by decide) (am_tab tk_X0_valueFor 49 rfl) rfl ?_
    refine am_iast (q := 89) (a := 45) (n := 34) (Ls_45 hL) (by omega) (by omega) (am_tab tk_X0_valueFor 50 rfl) rfl ?_
    refine am_aload_n (q := 90) rfl (am_tab tk_X0_valueFor 51 rfl) rfl ?_
    refine am_getR (q := 93) (a := 44) (k := 0) (n := 14) (j := 10) (r := some (45)) (Ls_44 hL) (by decide) rfl (Lr_44_10 hL) (by decide) (Or.inl kf_X0_9) (am_tab tk_X0_valueFor 52 rfl) rfl ?_
    refine am_bipush (q := 95) (n := 13) (by decide) rfl (am_tab tk_X0_valueFor 53 rfl) rfl ?_
    refine am_aload_n (q := 96) rfl (am_tab tk_X0_valueFor 54 rfl) rfl ?_
    refine am_getI (q := 99) (a := 44) (k := 0) (n := 14) (j := 1) (x := (d : Int)) (Ls_44 hL) (by decide) rfl (hFS.2.1.trans hd) (by decide) (Or.inl kf_X0_55) (am_tab tk_X0_valueFor 55 rfl) rfl ?_
    refine am_iast (q := 100) (a := 45) (n := 34) (Ls_45 hL) (by omega) (by omega) (am_tab tk_X0_valueFor 56 rfl) rfl ?_
    refine am_aload_n (q := 101) rfl (am_tab tk_X0_valueFor 57 rfl) rfl ?_
    refine am_getR (q := 104) (a := 44) (k := 0) (n := 14) (j := 10) (r := some (45)) (Ls_44 hL) (by decide) rfl (Lr_44_10 hL) (by decide) (Or.inl kf_X0_9) (am_tab tk_X0_valueFor 58 rfl) rfl ?_
    refine am_bipush (q := 106) (n := 9) (by decide) rfl (am_tab tk_X0_valueFor 59 rfl) rfl ?_
    refine am_aload_n (q := 107) rfl (am_tab tk_X0_valueFor 60 rfl) rfl ?_
    refine am_getI (q := 110) (a := 44) (k := 0) (n := 14) (j := 5) (x := (thD (itS (n - 1) σ))) (Ls_44 hL) (by decide) rfl hFS.2.2.2.1 (by decide) (Or.inl kf_X0_96) (am_tab tk_X0_valueFor 61 rfl) rfl ?_
    refine am_iload_n (q := 111) rfl (am_tab tk_X0_valueFor 62 rfl) rfl ?_
    refine am_callS0 (q := 114) (me2 := M_X9_bit) (As := [am_i ((thD (itS (n - 1) σ))), am_i ((p : Int))]) (rest := [am_i 9, am_r 45]) (out := [am_i (tb (thD (itS (n - 1) σ)) (p : Int)), am_i 9, am_r 45]) (c_bit (am_setN (am_setN (am_setN (am_setN (am_setN (am_setN (am_setN S 45 18 (p : Int)) 45 2 (S.2.1 17 (Int.toNat (p : Int)))) 45 4 (tb (S.2.1 39 (Int.toNat (d : Int))) (p : Int))) 45 15 (S.2.1 38 (Int.toNat (p : Int)))) 45 19 (tb (S.2.1 37 4) (p : Int))) 45 16 0) 45 13 (d : Int)) (thD (itS (n - 1) σ)) (p : Int) hth (by omega)) ⟨rfl, rfl⟩ ⟨Or.inr km_X0_105, kc_X9_bit, kn_X9, kd_X9_bit, ⟨(Nat.le_of_ble_eq_true rfl), (Nat.le_of_ble_eq_true rfl)⟩, ⟨(Nat.le_of_ble_eq_true rfl), (Nat.le_of_ble_eq_true rfl)⟩, (Nat.le_of_ble_eq_true rfl)⟩ ki_X9_bit rfl rfl (am_tab tk_X0_valueFor 63 rfl) rfl ?_
    refine am_iast (q := 115) (a := 45) (n := 34) (Ls_45 hL) (by omega) (by omega) (am_tab tk_X0_valueFor 64 rfl) rfl ?_
    refine am_aload_n (q := 116) rfl (am_tab tk_X0_valueFor 65 rfl) rfl ?_
    refine am_getR (q := 119) (a := 44) (k := 0) (n := 14) (j := 10) (r := some (45)) (Ls_44 hL) (by decide) rfl (Lr_44_10 hL) (by decide) (Or.inl kf_X0_9) (am_tab tk_X0_valueFor 66 rfl) rfl ?_
    refine am_bipush (q := 121) (n := 33) (by decide) rfl (am_tab tk_X0_valueFor 67 rfl) rfl ?_
    refine am_aload_n (q := 122) rfl (am_tab tk_X0_valueFor 68 rfl) rfl ?_
    refine am_getR (q := 125) (a := 44) (k := 0) (n := 14) (j := 8) (r := some (15)) (Ls_44 hL) (by decide) rfl hFS.2.2.2.2.2 (by decide) (Or.inl kf_X0_24) (am_tab tk_X0_valueFor 69 rfl) rfl ?_
    refine am_getR (q := 128) (a := 15) (k := 8) (n := 17) (j := 12) (r := some (20)) (Ls_15 hL) (by decide) rfl (Lr_15_12 hL) (by decide) (Or.inr kf_X0_133) (am_tab tk_X0_valueFor 70 rfl) rfl ?_
    refine am_iload_n (q := 129) rfl (am_tab tk_X0_valueFor 71 rfl) rfl ?_
    refine am_iald (q := 130) (a := 20) (n := 8) (x := (S.2.1 20 (Int.toNat (p : Int)))) (Ls_20 hL) (by omega) (by omega) rfl (am_tab tk_X0_valueFor 72 rfl) rfl ?_
    refine am_iast (q := 131) (a := 45) (n := 34) (Ls_45 hL) (by omega) (by omega) (am_tab tk_X0_valueFor 73 rfl) rfl ?_
    have e0 : Int.toNat (p : Int) = p := by omega
    have hE : frw W_vf S (am_setN (am_setN (am_setN (am_setN (am_setN (am_setN (am_setN (am_setN (am_setN S 45 18 (p : Int)) 45 2 (S.2.1 17 (Int.toNat (p : Int)))) 45 4 (tb (S.2.1 39 (Int.toNat (d : Int))) (p : Int))) 45 15 (S.2.1 38 (Int.toNat (p : Int)))) 45 19 (tb (S.2.1 37 4) (p : Int))) 45 16 0) 45 13 (d : Int)) 45 9 (tb (thD (itS (n - 1) σ)) (p : Int))) 45 33 (S.2.1 20 (Int.toNat (p : Int)))) := ((((((((((frw.refl W_vf S).setN (Or.inl rfl)).setN (Or.inl rfl)).setN (Or.inl rfl)).setN (Or.inl rfl)).setN (Or.inl rfl)).setN (Or.inl rfl)).setN (Or.inl rfl)).setN (Or.inl rfl)).setN (Or.inl rfl))
    have hV2 := hV.fr hE
    obtain ⟨hsz, hcl, hcd⟩ : (am_setN (am_setN (am_setN (am_setN (am_setN (am_setN (am_setN (am_setN (am_setN S 45 18 (p : Int)) 45 2 (S.2.1 17 (Int.toNat (p : Int)))) 45 4 (tb (S.2.1 39 (Int.toNat (d : Int))) (p : Int))) 45 15 (S.2.1 38 (Int.toNat (p : Int)))) 45 19 (tb (S.2.1 37 4) (p : Int))) 45 16 0) 45 13 (d : Int)) 45 9 (tb (thD (itS (n - 1) σ)) (p : Int))) 45 33 (S.2.1 20 (Int.toNat (p : Int)))).2.1 28 1 = (cs.length : Int) ∧ cs.length ≤ 1600 ∧ ∀ i, i < cs.length → (am_setN (am_setN (am_setN (am_setN (am_setN (am_setN (am_setN (am_setN (am_setN S 45 18 (p : Int)) 45 2 (S.2.1 17 (Int.toNat (p : Int)))) 45 4 (tb (S.2.1 39 (Int.toNat (d : Int))) (p : Int))) 45 15 (S.2.1 38 (Int.toNat (p : Int)))) 45 19 (tb (S.2.1 37 4) (p : Int))) 45 16 0) 45 13 (d : Int)) 45 9 (tb (thD (itS (n - 1) σ)) (p : Int))) 45 33 (S.2.1 20 (Int.toNat (p : Int)))).2.1 29 i = kap (cs.getD i 0) := rl28 hV2.2.2.2 hL
    have henv := q_env (P := fun k => (am_setN (am_setN (am_setN (am_setN (am_setN (am_setN (am_setN (am_setN (am_setN S 45 18 (p : Int)) 45 2 (S.2.1 17 (Int.toNat (p : Int)))) 45 4 (tb (S.2.1 39 (Int.toNat (d : Int))) (p : Int))) 45 15 (S.2.1 38 (Int.toNat (p : Int)))) 45 19 (tb (S.2.1 37 4) (p : Int))) 45 16 0) 45 13 (d : Int)) 45 9 (tb (thD (itS (n - 1) σ)) (p : Int))) 45 33 (S.2.1 20 (Int.toNat (p : Int)))).2.1 45 k) hG hGn hp8 hno hth (by rw [hi0.2]; exact hd.symm) (by show tb (S.2.1 39 (Int.toNat (d : Int))) (p : Int) = _; rw [hi0.2, hd, show ((20 : Int) + (d : Int)).toNat = 20 + d by omega, show Int.toNat (d : Int) = d by omega, htd]) (by show S.2.1 38 (Int.toNat (p : Int)) = _; rw [e0]; exact hA.2.2.2.1 p hp8) (by show S.2.1 17 (Int.toNat (p : Int)) = _; rw [e0, hq.2.2 17 p (by unfold W_cq; omega)]; exact hC.W.minds p hp) (by show (0 : Int) = _; first | rw [if_pos (by omega)] | rw [if_neg (by omega)]) rfl (by show tb (S.2.1 37 4) (p : Int) = _; rw [hA.2.2.1 p hp8]; show (itS n σ).2.1 96 (12 + p) = _; rcases hGn.R.dead p hp8 with z | z <;> rw [z] <;> rfl) rfl
    have hof : 60 ∈ cs → ∀ x : Int, -1000000 ≤ x → x ≤ 1000000 → (if 0 ≤ x ∧ x < 8 then ao_and (ao_shr ((am_setN (am_setN (am_setN (am_setN (am_setN (am_setN (am_setN (am_setN (am_setN S 45 18 (p : Int)) 45 2 (S.2.1 17 (Int.toNat (p : Int)))) 45 4 (tb (S.2.1 39 (Int.toNat (d : Int))) (p : Int))) 45 15 (S.2.1 38 (Int.toNat (p : Int)))) 45 19 (tb (S.2.1 37 4) (p : Int))) 45 16 0) 45 13 (d : Int)) 45 9 (tb (thD (itS (n - 1) σ)) (p : Int))) 45 33 (S.2.1 20 (Int.toNat (p : Int)))).2.1 45 33) x) 1 else 0) = clp ((fun m => ofQ σ m (p : Int)) x) := fun _ x _ _ => q_of hG (hC.W.cq hq (by decide)) hp (by show S.2.1 20 (Int.toNat (p : Int)) = _; rw [e0])
    refine am_aload_n (q := 132) rfl (am_tab tk_X0_valueFor 74 rfl) rfl ?_
    refine am_aload_n (q := 133) rfl (am_tab tk_X0_valueFor 75 rfl) rfl ?_
    refine am_getR (q := 136) (a := 44) (k := 0) (n := 14) (j := 10) (r := some (45)) (Ls_44 hL) (by decide) rfl (Lr_44_10 hL) (by decide) (Or.inl kf_X0_9) (am_tab tk_X0_valueFor 76 rfl) rfl ?_
    refine am_aload_n (q := 137) rfl (am_tab tk_X0_valueFor 77 rfl) rfl ?_
    refine am_getR (q := 140) (a := 44) (k := 0) (n := 14) (j := 11) (r := some (46)) (Ls_44 hL) (by decide) rfl (Lr_44_11 hL) (by decide) (Or.inl kf_X0_15) (am_tab tk_X0_valueFor 78 rfl) rfl ?_
    refine am_callVr (q := 143) (me2 := M_X5_valueOf) (b := 28) (kb := 5) (nb := 2) (As := [am_r 45, am_r 46]) (rest := []) (c_X5_valueOf (am_setN (am_setN (am_setN (am_setN (am_setN (am_setN (am_setN (am_setN (am_setN S 45 18 (p : Int)) 45 2 (S.2.1 17 (Int.toNat (p : Int)))) 45 4 (tb (S.2.1 39 (Int.toNat (d : Int))) (p : Int))) 45 15 (S.2.1 38 (Int.toNat (p : Int)))) 45 19 (tb (S.2.1 37 4) (p : Int))) 45 16 0) 45 13 (d : Int)) 45 9 (tb (thD (itS (n - 1) σ)) (p : Int))) 45 33 (S.2.1 20 (Int.toNat (p : Int)))) hL 28 29 1600 (Ls_28 hL) (Lr_28_0 hL) (by decide) (Ls_29 hL) (by decide) cs (ptM (aqS σ n 0 0) p) (fun m => ofQ σ m (p : Int)) hsz ⟨hcl, by decide⟩ hcd hok henv hof) ⟨rfl, rfl⟩ (Ls_28 hL) (by decide) ⟨Or.inr km_X0_129, kc_X5_valueOf, kn_X5, kd_X5_valueOf, ⟨(Nat.le_of_ble_eq_true rfl), (Nat.le_of_ble_eq_true rfl)⟩, ⟨(Nat.le_of_ble_eq_true rfl), (Nat.le_of_ble_eq_true rfl)⟩, (Nat.le_of_ble_eq_true rfl)⟩ ki_X5_valueOf ks_X5_valueOf rfl (am_tab tk_X0_valueFor 79 rfl) rfl ?_
    rintro r T9 ⟨rfl, hF9⟩
    refine am_st (st2 := [am_i ((aqV σ n cs 0 0 p))]) rfl ?_
    refine am_iret (Or.inl rfl) (Nat.le_of_ble_eq_true rfl) (Nat.le_of_ble_eq_true rfl) (am_tab tk_X0_valueFor 80 rfl) ?_
    refine hQ _ _ ?_
    exact ⟨rfl, hE.trans (hF9.mono (fun a j z => Or.inr z))⟩
  · refine am_iconst (q := 84) (n := 1) (by decide) (am_tab tk_X0_valueFor 47 rfl) rfl ?_
    refine am_goto (t := 88) (am_tab tk_X0_valueFor 48 rfl) (by decide) ?_
    refine am_iast (q := 89) (a := 45) (n := 34) (Ls_45 hL) (by omega) (by omega) (am_tab tk_X0_valueFor 50 rfl) rfl ?_
    refine am_aload_n (q := 90) rfl (am_tab tk_X0_valueFor 51 rfl) rfl ?_
    refine am_getR (q := 93) (a := 44) (k := 0) (n := 14) (j := 10) (r := some (45)) (Ls_44 hL) (by decide) rfl (Lr_44_10 hL) (by decide) (Or.inl kf_X0_9) (am_tab tk_X0_valueFor 52 rfl) rfl ?_
    refine am_bipush (q := 95) (n := 13) (by decide) rfl (am_tab tk_X0_valueFor 53 rfl) rfl ?_
    refine am_aload_n (q := 96) rfl (am_tab tk_X0_valueFor 54 rfl) rfl ?_
    refine am_getI (q := 99) (a := 44) (k := 0) (n := 14) (j := 1) (x := (d : Int)) (Ls_44 hL) (by decide) rfl (hFS.2.1.trans hd) (by decide) (Or.inl kf_X0_55) (am_tab tk_X0_valueFor 55 rfl) rfl ?_
    refine am_iast (q := 100) (a := 45) (n := 34) (Ls_45 hL) (by omega) (by omega) (am_tab tk_X0_valueFor 56 rfl) rfl ?_
    refine am_aload_n (q := 101) rfl (am_tab tk_X0_valueFor 57 rfl) rfl ?_
    refine am_getR (q := 104) (a := 44) (k := 0) (n := 14) (j := 10) (r := some (45)) (Ls_44 hL) (by decide) rfl (Lr_44_10 hL) (by decide) (Or.inl kf_X0_9) (am_tab tk_X0_valueFor 58 rfl) rfl ?_
    refine am_bipush (q := 106) (n := 9) (by decide) rfl (am_tab tk_X0_valueFor 59 rfl) rfl ?_
    refine am_aload_n (q := 107) rfl (am_tab tk_X0_valueFor 60 rfl) rfl ?_
    refine am_getI (q := 110) (a := 44) (k := 0) (n := 14) (j := 5) (x := (thD (itS (n - 1) σ))) (Ls_44 hL) (by decide) rfl hFS.2.2.2.1 (by decide) (Or.inl kf_X0_96) (am_tab tk_X0_valueFor 61 rfl) rfl ?_
    refine am_iload_n (q := 111) rfl (am_tab tk_X0_valueFor 62 rfl) rfl ?_
    refine am_callS0 (q := 114) (me2 := M_X9_bit) (As := [am_i ((thD (itS (n - 1) σ))), am_i ((p : Int))]) (rest := [am_i 9, am_r 45]) (out := [am_i (tb (thD (itS (n - 1) σ)) (p : Int)), am_i 9, am_r 45]) (c_bit (am_setN (am_setN (am_setN (am_setN (am_setN (am_setN (am_setN S 45 18 (p : Int)) 45 2 (S.2.1 17 (Int.toNat (p : Int)))) 45 4 (tb (S.2.1 39 (Int.toNat (d : Int))) (p : Int))) 45 15 (S.2.1 38 (Int.toNat (p : Int)))) 45 19 (tb (S.2.1 37 4) (p : Int))) 45 16 1) 45 13 (d : Int)) (thD (itS (n - 1) σ)) (p : Int) hth (by omega)) ⟨rfl, rfl⟩ ⟨Or.inr km_X0_105, kc_X9_bit, kn_X9, kd_X9_bit, ⟨(Nat.le_of_ble_eq_true rfl), (Nat.le_of_ble_eq_true rfl)⟩, ⟨(Nat.le_of_ble_eq_true rfl), (Nat.le_of_ble_eq_true rfl)⟩, (Nat.le_of_ble_eq_true rfl)⟩ ki_X9_bit rfl rfl (am_tab tk_X0_valueFor 63 rfl) rfl ?_
    refine am_iast (q := 115) (a := 45) (n := 34) (Ls_45 hL) (by omega) (by omega) (am_tab tk_X0_valueFor 64 rfl) rfl ?_
    refine am_aload_n (q := 116) rfl (am_tab tk_X0_valueFor 65 rfl) rfl ?_
    refine am_getR (q := 119) (a := 44) (k := 0) (n := 14) (j := 10) (r := some (45)) (Ls_44 hL) (by decide) rfl (Lr_44_10 hL) (by decide) (Or.inl kf_X0_9) (am_tab tk_X0_valueFor 66 rfl) rfl ?_
    refine am_bipush (q := 121) (n := 33) (by decide) rfl (am_tab tk_X0_valueFor 67 rfl) rfl ?_
    refine am_aload_n (q := 122) rfl (am_tab tk_X0_valueFor 68 rfl) rfl ?_
    refine am_getR (q := 125) (a := 44) (k := 0) (n := 14) (j := 8) (r := some (15)) (Ls_44 hL) (by decide) rfl hFS.2.2.2.2.2 (by decide) (Or.inl kf_X0_24) (am_tab tk_X0_valueFor 69 rfl) rfl ?_
    refine am_getR (q := 128) (a := 15) (k := 8) (n := 17) (j := 12) (r := some (20)) (Ls_15 hL) (by decide) rfl (Lr_15_12 hL) (by decide) (Or.inr kf_X0_133) (am_tab tk_X0_valueFor 70 rfl) rfl ?_
    refine am_iload_n (q := 129) rfl (am_tab tk_X0_valueFor 71 rfl) rfl ?_
    refine am_iald (q := 130) (a := 20) (n := 8) (x := (S.2.1 20 (Int.toNat (p : Int)))) (Ls_20 hL) (by omega) (by omega) rfl (am_tab tk_X0_valueFor 72 rfl) rfl ?_
    refine am_iast (q := 131) (a := 45) (n := 34) (Ls_45 hL) (by omega) (by omega) (am_tab tk_X0_valueFor 73 rfl) rfl ?_
    have e0 : Int.toNat (p : Int) = p := by omega
    have hE : frw W_vf S (am_setN (am_setN (am_setN (am_setN (am_setN (am_setN (am_setN (am_setN (am_setN S 45 18 (p : Int)) 45 2 (S.2.1 17 (Int.toNat (p : Int)))) 45 4 (tb (S.2.1 39 (Int.toNat (d : Int))) (p : Int))) 45 15 (S.2.1 38 (Int.toNat (p : Int)))) 45 19 (tb (S.2.1 37 4) (p : Int))) 45 16 1) 45 13 (d : Int)) 45 9 (tb (thD (itS (n - 1) σ)) (p : Int))) 45 33 (S.2.1 20 (Int.toNat (p : Int)))) := ((((((((((frw.refl W_vf S).setN (Or.inl rfl)).setN (Or.inl rfl)).setN (Or.inl rfl)).setN (Or.inl rfl)).setN (Or.inl rfl)).setN (Or.inl rfl)).setN (Or.inl rfl)).setN (Or.inl rfl)).setN (Or.inl rfl))
    have hV2 := hV.fr hE
    obtain ⟨hsz, hcl, hcd⟩ : (am_setN (am_setN (am_setN (am_setN (am_setN (am_setN (am_setN (am_setN (am_setN S 45 18 (p : Int)) 45 2 (S.2.1 17 (Int.toNat (p : Int)))) 45 4 (tb (S.2.1 39 (Int.toNat (d : Int))) (p : Int))) 45 15 (S.2.1 38 (Int.toNat (p : Int)))) 45 19 (tb (S.2.1 37 4) (p : Int))) 45 16 1) 45 13 (d : Int)) 45 9 (tb (thD (itS (n - 1) σ)) (p : Int))) 45 33 (S.2.1 20 (Int.toNat (p : Int)))).2.1 28 1 = (cs.length : Int) ∧ cs.length ≤ 1600 ∧ ∀ i, i < cs.length → (am_setN (am_setN (am_setN (am_setN (am_setN (am_setN (am_setN (am_setN (am_setN S 45 18 (p : Int)) 45 2 (S.2.1 17 (Int.toNat (p : Int)))) 45 4 (tb (S.2.1 39 (Int.toNat (d : Int))) (p : Int))) 45 15 (S.2.1 38 (Int.toNat (p : Int)))) 45 19 (tb (S.2.1 37 4) (p : Int))) 45 16 1) 45 13 (d : Int)) 45 9 (tb (thD (itS (n - 1) σ)) (p : Int))) 45 33 (S.2.1 20 (Int.toNat (p : Int)))).2.1 29 i = kap (cs.getD i 0) := rl28 hV2.2.2.2 hL
    have henv := q_env (P := fun k => (am_setN (am_setN (am_setN (am_setN (am_setN (am_setN (am_setN (am_setN (am_setN S 45 18 (p : Int)) 45 2 (S.2.1 17 (Int.toNat (p : Int)))) 45 4 (tb (S.2.1 39 (Int.toNat (d : Int))) (p : Int))) 45 15 (S.2.1 38 (Int.toNat (p : Int)))) 45 19 (tb (S.2.1 37 4) (p : Int))) 45 16 1) 45 13 (d : Int)) 45 9 (tb (thD (itS (n - 1) σ)) (p : Int))) 45 33 (S.2.1 20 (Int.toNat (p : Int)))).2.1 45 k) hG hGn hp8 hno hth (by rw [hi0.2]; exact hd.symm) (by show tb (S.2.1 39 (Int.toNat (d : Int))) (p : Int) = _; rw [hi0.2, hd, show ((20 : Int) + (d : Int)).toNat = 20 + d by omega, show Int.toNat (d : Int) = d by omega, htd]) (by show S.2.1 38 (Int.toNat (p : Int)) = _; rw [e0]; exact hA.2.2.2.1 p hp8) (by show S.2.1 17 (Int.toNat (p : Int)) = _; rw [e0, hq.2.2 17 p (by unfold W_cq; omega)]; exact hC.W.minds p hp) (by show (1 : Int) = _; first | rw [if_pos (by omega)] | rw [if_neg (by omega)]) rfl (by show tb (S.2.1 37 4) (p : Int) = _; rw [hA.2.2.1 p hp8]; show (itS n σ).2.1 96 (12 + p) = _; rcases hGn.R.dead p hp8 with z | z <;> rw [z] <;> rfl) rfl
    have hof : 60 ∈ cs → ∀ x : Int, -1000000 ≤ x → x ≤ 1000000 → (if 0 ≤ x ∧ x < 8 then ao_and (ao_shr ((am_setN (am_setN (am_setN (am_setN (am_setN (am_setN (am_setN (am_setN (am_setN S 45 18 (p : Int)) 45 2 (S.2.1 17 (Int.toNat (p : Int)))) 45 4 (tb (S.2.1 39 (Int.toNat (d : Int))) (p : Int))) 45 15 (S.2.1 38 (Int.toNat (p : Int)))) 45 19 (tb (S.2.1 37 4) (p : Int))) 45 16 1) 45 13 (d : Int)) 45 9 (tb (thD (itS (n - 1) σ)) (p : Int))) 45 33 (S.2.1 20 (Int.toNat (p : Int)))).2.1 45 33) x) 1 else 0) = clp ((fun m => ofQ σ m (p : Int)) x) := fun _ x _ _ => q_of hG (hC.W.cq hq (by decide)) hp (by show S.2.1 20 (Int.toNat (p : Int)) = _; rw [e0])
    refine am_aload_n (q := 132) rfl (am_tab tk_X0_valueFor 74 rfl) rfl ?_
    refine am_aload_n (q := 133) rfl (am_tab tk_X0_valueFor 75 rfl) rfl ?_
    refine am_getR (q := 136) (a := 44) (k := 0) (n := 14) (j := 10) (r := some (45)) (Ls_44 hL) (by decide) rfl (Lr_44_10 hL) (by decide) (Or.inl kf_X0_9) (am_tab tk_X0_valueFor 76 rfl) rfl ?_
    refine am_aload_n (q := 137) rfl (am_tab tk_X0_valueFor 77 rfl) rfl ?_
    refine am_getR (q := 140) (a := 44) (k := 0) (n := 14) (j := 11) (r := some (46)) (Ls_44 hL) (by decide) rfl (Lr_44_11 hL) (by decide) (Or.inl kf_X0_15) (am_tab tk_X0_valueFor 78 rfl) rfl ?_
    refine am_callVr (q := 143) (me2 := M_X5_valueOf) (b := 28) (kb := 5) (nb := 2) (As := [am_r 45, am_r 46]) (rest := []) (c_X5_valueOf (am_setN (am_setN (am_setN (am_setN (am_setN (am_setN (am_setN (am_setN (am_setN S 45 18 (p : Int)) 45 2 (S.2.1 17 (Int.toNat (p : Int)))) 45 4 (tb (S.2.1 39 (Int.toNat (d : Int))) (p : Int))) 45 15 (S.2.1 38 (Int.toNat (p : Int)))) 45 19 (tb (S.2.1 37 4) (p : Int))) 45 16 1) 45 13 (d : Int)) 45 9 (tb (thD (itS (n - 1) σ)) (p : Int))) 45 33 (S.2.1 20 (Int.toNat (p : Int)))) hL 28 29 1600 (Ls_28 hL) (Lr_28_0 hL) (by decide) (Ls_29 hL) (by decide) cs (ptM (aqS σ n 0 0) p) (fun m => ofQ σ m (p : Int)) hsz ⟨hcl, by decide⟩ hcd hok henv hof) ⟨rfl, rfl⟩ (Ls_28 hL) (by decide) ⟨Or.inr km_X0_129, kc_X5_valueOf, kn_X5, kd_X5_valueOf, ⟨(Nat.le_of_ble_eq_true rfl), (Nat.le_of_ble_eq_true rfl)⟩, ⟨(Nat.le_of_ble_eq_true rfl), (Nat.le_of_ble_eq_true rfl)⟩, (Nat.le_of_ble_eq_true rfl)⟩ ki_X5_valueOf ks_X5_valueOf rfl (am_tab tk_X0_valueFor 79 rfl) rfl ?_
    rintro r T9 ⟨rfl, hF9⟩
    refine am_st (st2 := [am_i ((aqV σ n cs 0 0 p))]) rfl ?_
    refine am_iret (Or.inl rfl) (Nat.le_of_ble_eq_true rfl) (Nat.le_of_ble_eq_true rfl) (am_tab tk_X0_valueFor 80 rfl) ?_
    refine hQ _ _ ?_
    exact ⟨rfl, hE.trans (hF9.mono (fun a j z => Or.inr z))⟩
