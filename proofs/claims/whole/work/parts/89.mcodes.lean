/-- what telling a town leaves aside -/
def W_x (a j : Nat) : Prop := W_q a j ∨ W_st a j ∨ (a = 55 ∧ j = 53)
def W_t (a j : Nat) : Prop := W_p a j ∨ (a = 55 ∧ j = 53)
def W_cd (a j : Nat) : Prop := a = 93 ∨ a = 94 ∨ a = 95 ∨ (a = 55 ∧ j = 50)
theorem ZS.x {b : Nat → Int} {E i : Nat} {S T : am_H} (h : ZS b E i S) (hF : frw W_x S T) : ZS b E i T := by
  obtain ⟨h1, h2, h3⟩ := h
  have e : ∀ j, j ≤ 10 → T.2.1 55 j = S.2.1 55 j := fun j hj => hF.2.2 55 j (by unfold W_x W_st W_q; omega)
  refine ⟨hF.L h1, h2.fr hF (by unfold W_x W_st W_q; omega), ?_⟩
  unfold TS TX at *
  rw [e 5 (by omega), e 6 (by omega), e 2 (by omega), e 4 (by omega), e 3 (by omega)]
  exact ⟨⟨fun j => by rw [hF.2.2 56 j (by unfold W_x W_st W_q; omega)]; exact h3.1.1 j, h3.1.2⟩, h3.2⟩
theorem pl_get {f : Nat → Int} : ∀ (n k : Nat), k < n → (pl f n).reverse.getD k 0 = f k
  | 0, _, h => absurd h (Nat.not_lt_zero _)
  | n + 1, k, h => by
    unfold pl
    rw [List.reverse_cons, List.getD_eq_getElem?_getD]
    have hl : (pl f n).reverse.length = n := by rw [List.length_reverse, pl_len]
    by_cases hk : k < n
    · rw [List.getElem?_append_left (by omega), ← List.getD_eq_getElem?_getD]; exact pl_get n k hk
    · have e : k = n := by omega
      rw [e, List.getElem?_append_right (by omega), hl]
      simp
/-- the codes of a rule -/
def cdF (b : Nat → Int) (E : Nat) (S : am_H) (wh pl : Int) (i : Nat) : Nat ⊕ (Int × Int) := if S.2.1 93 wh.toNat = -1 then (match tsF b E wh 1700 i [] [] 0 with | .inl q => .inl q.1 | .inr e => .inr e) else .inr (5, pl)
def cdC (b : Nat → Int) (E : Nat) (wh : Int) (i : Nat) : List Int := match tsF b E wh 1700 i [] [] 0 with | .inl q => q.2 | .inr _ => []
def cdA (S : am_H) (rc : List Int) (k j : Nat) : Int := if (S.2.1 55 50).toNat ≤ j ∧ j < (S.2.1 55 50).toNat + k then rc.reverse.getD (j - (S.2.1 55 50).toNat) 0 else S.2.1 95 j
def cdH (S : am_H) (wh : Int) (rc : List Int) : am_H := am_setN (am_setN (am_setA (am_setN S 93 wh.toNat (S.2.1 55 50)) 95 (cdA S rc rc.length)) 55 50 (S.2.1 55 50 + (rc.length : Int))) 94 wh.toNat (S.2.1 55 50 + (rc.length : Int))
theorem cdA_on {S T : am_H} {rc : List Int} {k : Nat} (h0 : 0 ≤ S.2.1 55 50) (hA : ∀ j, T.2.1 95 j = cdA S rc k j) (j : Nat) : (am_setN T 95 (Int.toNat (S.2.1 55 50 + (k : Int))) (rc.reverse.getD k 0)).2.1 95 j = cdA S rc (k + 1) j := by
  show (if 95 = 95 ∧ j = Int.toNat (S.2.1 55 50 + (k : Int)) then rc.reverse.getD k 0 else T.2.1 95 j) = _
  rw [hA]
  unfold cdA
  by_cases h : j = Int.toNat (S.2.1 55 50 + (k : Int))
  · rw [if_pos ⟨rfl, h⟩, if_pos (by omega), show j - (S.2.1 55 50).toNat = k by omega]
  · rw [if_neg (fun x => h x.2)]
    by_cases h2 : (S.2.1 55 50).toNat ≤ j ∧ j < (S.2.1 55 50).toNat + k
    · rw [if_pos h2, if_pos (by omega)]
    · rw [if_neg h2, if_neg (by omega)]
theorem c_X10_codesTold (b : Nat → Int) (E i : Nat) (S : am_H) (hZ : ZS b E i S) (wh : Int) (pl : Int) (hiz : i ≤ zP b E i) (hwh : 0 ≤ wh ∧ wh ≤ 1) (hcd : 0 ≤ S.2.1 55 50 ∧ S.2.1 55 50 ≤ 1600) : am_met M_X10_codesTold [am_r 55, am_i wh, am_i pl] S (fun r σ' => r = none ∧ ZZ b E σ' (cdF b E S wh pl i) ∧ iZ b E (cdF b E S wh pl i) ∧ ((cdF b E S wh pl i).isLeft = true → (cdC b E wh i).length ≤ 1600) ∧ frw W_t (if (cdF b E S wh pl i).isLeft = true then cdH S wh (cdC b E wh i) else S) σ') := by
  refine am_qq (fun Q hQ => ?_)
  refine am_enter (show plainFor yX10_codesTold = true by decide +kernel) rfl (Nat.le_of_ble_eq_true rfl) (fun _ _ _ => trivial) ?_
  have hL := hZ.1
  refine am_aload_n (q := 1) rfl (am_tab tk_X10_codesTold 0 rfl) rfl ?_
  refine am_getI (q := 4) (a := 55) (k := 10) (n := 108) (j := 5) (x := 0) (Ls_55 hL) (by decide) rfl hZ.2.2.2.1 (by decide) (Or.inl kf_X10_248) (am_tab tk_X10_codesTold 1 rfl) rfl ?_
  refine am_if_ne (q := 7) (t := 23) (am_tab tk_X10_codesTold 2 rfl) (by decide) rfl (fun h4 => ?_) (fun h4 => ?_)
  · exact absurd h4 (by decide)
  · by_cases c1 : S.2.1 93 wh.toNat = -1
    · refine am_aload_n (q := 8) rfl (am_tab tk_X10_codesTold 3 rfl) rfl ?_
      refine am_getR (q := 11) (a := 55) (k := 10) (n := 108) (j := 47) (r := some (93)) (Ls_55 hL) (by decide) rfl (Lr_55_47 hL) (by decide) (Or.inl kf_X10_127) (am_tab tk_X10_codesTold 4 rfl) rfl ?_
      refine am_iload_n (q := 12) rfl (am_tab tk_X10_codesTold 5 rfl) rfl ?_
      refine am_iald (q := 13) (a := 93) (n := 4) (x := (S.2.1 93 (Int.toNat wh))) (Ls_93 hL) (by omega) (by omega) rfl (am_tab tk_X10_codesTold 6 rfl) rfl ?_
      refine am_iconst (q := 14) (n := (-1)) (by decide) (am_tab tk_X10_codesTold 7 rfl) rfl ?_
      refine am_icmp_eq (q := 17) (t := 23) (am_tab tk_X10_codesTold 8 rfl) (by decide) rfl (fun h14 => ?_) (fun h14 => ?_)
      · refine am_aload_n (q := 24) rfl (am_tab tk_X10_codesTold 13 rfl) rfl ?_
        refine am_getI (q := 27) (a := 55) (k := 10) (n := 108) (j := 5) (x := 0) (Ls_55 hL) (by decide) rfl hZ.2.2.2.1 (by decide) (Or.inl kf_X10_248) (am_tab tk_X10_codesTold 14 rfl) rfl ?_
        refine am_if_eq (q := 30) (t := 31) (am_tab tk_X10_codesTold 15 rfl) (by decide) rfl (fun h27 => ?_) (fun h27 => ?_)
        · refine am_aload_n (q := 32) rfl (am_tab tk_X10_codesTold 17 rfl) rfl ?_
          refine am_iload_n (q := 33) rfl (am_tab tk_X10_codesTold 18 rfl) rfl ?_
          refine am_putI (q := 36) (k := 10) (n := 108) (j := 53) (Ls_55 hL) (by decide) rfl (by decide) (Or.inl ⟨kf_X10_306, rfl⟩) (am_tab tk_X10_codesTold 19 rfl) rfl ?_
          refine am_aload_n (q := 37) rfl (am_tab tk_X10_codesTold 20 rfl) rfl ?_
          refine am_iconst (q := 38) (n := 0) (by decide) (am_tab tk_X10_codesTold 21 rfl) rfl ?_
          refine am_putI (q := 41) (k := 10) (n := 108) (j := 97) (Ls_55 hL) (by decide) rfl (by decide) (Or.inl ⟨kf_X10_336, rfl⟩) (am_tab tk_X10_codesTold 22 rfl) rfl ?_
          refine am_aload_n (q := 42) rfl (am_tab tk_X10_codesTold 23 rfl) rfl ?_
          refine am_iconst (q := 43) (n := 0) (by decide) (am_tab tk_X10_codesTold 24 rfl) rfl ?_
          refine am_putI (q := 46) (k := 10) (n := 108) (j := 99) (Ls_55 hL) (by decide) rfl (by decide) (Or.inl ⟨kf_X10_339, rfl⟩) (am_tab tk_X10_codesTold 25 rfl) rfl ?_
          refine am_aload_n (q := 47) rfl (am_tab tk_X10_codesTold 26 rfl) rfl ?_
          refine am_iconst (q := 48) (n := 0) (by decide) (am_tab tk_X10_codesTold 27 rfl) rfl ?_
          refine am_putI (q := 51) (k := 10) (n := 108) (j := 100) (Ls_55 hL) (by decide) rfl (by decide) (Or.inl ⟨kf_X10_342, rfl⟩) (am_tab tk_X10_codesTold 28 rfl) rfl ?_
          refine am_aload_n (q := 52) rfl (am_tab tk_X10_codesTold 29 rfl) rfl ?_
          refine am_iconst (q := 53) (n := 0) (by decide) (am_tab tk_X10_codesTold 30 rfl) rfl ?_
          refine am_putI (q := 56) (k := 10) (n := 108) (j := 101) (Ls_55 hL) (by decide) rfl (by decide) (Or.inl ⟨kf_X10_345, rfl⟩) (am_tab tk_X10_codesTold 31 rfl) rfl ?_
          refine am_aload_n (q := 57) rfl (am_tab tk_X10_codesTold 32 rfl) rfl ?_
          by_cases c3 : (tsF b E wh 1700 i [] [] 0).isLeft = true
          · have hFs : frw W_x S (am_setN (am_setN (am_setN (am_setN (am_setN S 55 53 wh) 55 97 0) 55 99 0) 55 100 0) 55 101 0) := (((((frw.refl W_x S).setN (by unfold W_x W_q W_st; omega)).setN (by unfold W_x W_q W_st; omega)).setN (by unfold W_x W_q W_st; omega)).setN (by unfold W_x W_q W_st; omega)).setN (by unfold W_x W_q W_st; omega)
            have hFt : frw W_t S (am_setN (am_setN (am_setN (am_setN (am_setN S 55 53 wh) 55 97 0) 55 99 0) 55 100 0) 55 101 0) := (((((frw.refl W_t S).setN (by unfold W_t W_p W_sc W_q; omega)).setN (by unfold W_t W_p W_sc W_q; omega)).setN (by unfold W_t W_p W_sc W_q; omega)).setN (by unfold W_t W_p W_sc W_q; omega)).setN (by unfold W_t W_p W_sc W_q; omega)
            have hQ1 : QX b E wh i [] [] 0 0 (am_setN (am_setN (am_setN (am_setN (am_setN S 55 53 wh) 55 97 0) 55 99 0) 55 100 0) 55 101 0) := ⟨hZ.x hFs, ⟨rfl, rfl, rfl, rfl, rfl, rfl⟩, rfl, ⟨rfl, by decide⟩, by simp, hiz⟩
            refine am_callVr (q := 60) (me2 := M_X10_qTest) (b := 55) (kb := 10) (nb := 108) (As := []) (rest := []) (c_X10_qTest b E wh ⟨by omega, by omega⟩ i [] [] 0 (am_setN (am_setN (am_setN (am_setN (am_setN S 55 53 wh) 55 97 0) 55 99 0) 55 100 0) 55 101 0) hQ1 1700 (by omega) rfl) ⟨rfl, rfl⟩ (Ls_55 hL) (by decide) ⟨Or.inl km_X10_348, kc_X10_qTest, kn_X10, kd_X10_qTest, ⟨(Nat.le_of_ble_eq_true rfl), (Nat.le_of_ble_eq_true rfl)⟩, ⟨(Nat.le_of_ble_eq_true rfl), (Nat.le_of_ble_eq_true rfl)⟩, (Nat.le_of_ble_eq_true rfl)⟩ ki_X10_qTest ks_X10_qTest rfl (am_tab tk_X10_codesTold 33 rfl) rfl ?_
            rintro r T1 ⟨rfl, hP, hF1⟩
            have e50 : T1.2.1 55 50 = S.2.1 55 50 := hF1.2.2 55 50 (by unfold W_p W_sc W_q; omega)
            have hT1 : frw W_t S T1 := hFt.trans (hF1.mono (fun _ _ h => Or.inl h))
            obtain ⟨q, hq⟩ := sumL c3
            rw [hq] at hP
            have hX : QX b E wh q.1 q.2 [] 0 0 T1 := hP
            have hcq : cdC b E wh i = q.2 := by unfold cdC; rw [hq]
            have hd : cdF b E S wh pl i = .inl q.1 := by unfold cdF; rw [if_pos c1, hq]
            refine am_st (st2 := []) rfl ?_
            refine am_aload_n (q := 61) rfl (am_tab tk_X10_codesTold 34 rfl) rfl ?_
            refine am_getI (q := 64) (a := 55) (k := 10) (n := 108) (j := 5) (x := 0) (Ls_55 hX.1.1) (by decide) rfl hX.1.2.2.2.1 (by decide) (Or.inl kf_X10_248) (am_tab tk_X10_codesTold 35 rfl) rfl ?_
            refine am_if_eq (q := 67) (t := 68) (am_tab tk_X10_codesTold 36 rfl) (by decide) rfl (fun h64 => ?_) (fun h64 => ?_)
            · refine am_aload_n (q := 69) rfl (am_tab tk_X10_codesTold 38 rfl) rfl ?_
              refine am_getR (q := 72) (a := 55) (k := 10) (n := 108) (j := 47) (r := some (93)) (Ls_55 hX.1.1) (by decide) rfl (Lr_55_47 hX.1.1) (by decide) (Or.inl kf_X10_127) (am_tab tk_X10_codesTold 39 rfl) rfl ?_
              refine am_iload_n (q := 73) rfl (am_tab tk_X10_codesTold 40 rfl) rfl ?_
              refine am_aload_n (q := 74) rfl (am_tab tk_X10_codesTold 41 rfl) rfl ?_
              refine am_getI (q := 77) (a := 55) (k := 10) (n := 108) (j := 50) (x := (S.2.1 55 50)) (Ls_55 hX.1.1) (by decide) rfl e50 (by decide) (Or.inl kf_X10_351) (am_tab tk_X10_codesTold 42 rfl) rfl ?_
              refine am_iast (q := 78) (a := 93) (n := 4) (Ls_93 hX.1.1) (by omega) (by omega) (am_tab tk_X10_codesTold 43 rfl) rfl ?_
              refine am_iconst (q := 79) (n := 0) (by decide) (am_tab tk_X10_codesTold 44 rfl) rfl ?_
              refine am_istore_n (q := 80) (by decide) (ls2 := [(3, am_i 0), (0, am_r 55), (1, am_i wh), (2, am_i pl)]) rfl (am_tab tk_X10_codesTold 45 rfl) rfl ?_
              have L80 : ∀ (n80 : Nat) (k : Nat) (T : am_H), q.2.length - k < n80 → frw W_cd T1 T → T.2.1 55 50 = S.2.1 55 50 + (k : Int) → (∀ j, T.2.1 93 j = if j = wh.toNat then S.2.1 55 50 else S.2.1 93 j) → (∀ j, T.2.1 95 j = cdA S q.2 k j) → k ≤ q.2.length → (∀ j, T.2.1 94 j = T1.2.1 94 j) → am_wp M_X10_codesTold Q 0 0 80 [(3, am_i ((k : Int))), (0, am_r 55), (1, am_i wh), (2, am_i pl)] [] T := by
                intro n80
                induction n80 with
                | zero => intro k T hn80; exact absurd hn80 (Nat.not_lt_zero _)
                | succ n80 ih80 =>
                  intro k T hn80 hT h50 h93 h95 hk hT94
                  have hL8 : lay T := hT.L hX.1.1
                  have h97 : T.2.1 55 97 = (q.2.length : Int) := (hT.2.2 55 97 (by unfold W_cd; omega)).trans hX.2.1.1
                  have h1600 : q.2.length ≤ 1600 := by have h1 := hX.2.2.2.2; have h2 := zP_rng b E q.1; have h3 := hX.1.2.2.1.2.2.1; simp only [List.length_nil] at h1; omega
                  refine am_iload_n (q := 81) rfl (am_tab tk_X10_codesTold 46 rfl) rfl ?_
                  refine am_aload_n (q := 82) rfl (am_tab tk_X10_codesTold 47 rfl) rfl ?_
                  refine am_getI (q := 85) (a := 55) (k := 10) (n := 108) (j := 97) (x := (q.2.length : Int)) (Ls_55 hL8) (by decide) rfl h97 (by decide) (Or.inl kf_X10_336) (am_tab tk_X10_codesTold 48 rfl) rfl ?_
                  refine am_icmp_ge (q := 88) (t := 119) (am_tab tk_X10_codesTold 49 rfl) (by decide) rfl (fun h85 => ?_) (fun h85 => ?_)
                  · refine am_aload_n (q := 120) rfl (am_tab tk_X10_codesTold 67 rfl) rfl ?_
                    refine am_getR (q := 123) (a := 55) (k := 10) (n := 108) (j := 48) (r := some (94)) (Ls_55 hL8) (by decide) rfl (Lr_55_48 hL8) (by decide) (Or.inl kf_X10_130) (am_tab tk_X10_codesTold 68 rfl) rfl ?_
                    refine am_iload_n (q := 124) rfl (am_tab tk_X10_codesTold 69 rfl) rfl ?_
                    refine am_aload_n (q := 125) rfl (am_tab tk_X10_codesTold 70 rfl) rfl ?_
                    refine am_getI (q := 128) (a := 55) (k := 10) (n := 108) (j := 50) (x := (S.2.1 55 50 + (k : Int))) (Ls_55 hL8) (by decide) rfl h50 (by decide) (Or.inl kf_X10_351) (am_tab tk_X10_codesTold 71 rfl) rfl ?_
                    refine am_iast (q := 129) (a := 94) (n := 4) (Ls_94 hL8) (by omega) (by omega) (am_tab tk_X10_codesTold 72 rfl) rfl ?_
                    refine am_vret rfl (Nat.le_of_ble_eq_true rfl) (Nat.le_of_ble_eq_true rfl) (am_tab tk_X10_codesTold 73 rfl) ?_
                    refine hQ _ _ ?_
                    have ek : k = q.2.length := by omega
                    have hFz : frw W_x T1 (am_setN T 94 (Int.toNat wh) (S.2.1 55 50 + (k : Int))) := (hT.mono (fun _ _ h => by unfold W_x W_st W_q; unfold W_cd at h; omega)).setN (by unfold W_x W_st W_q; omega)
                    rw [hd, hcq, if_pos (by rfl)]
                    refine ⟨rfl, hX.1.x hFz, hX.2.2.2.2.2, fun _ => h1600, ?_⟩
                    refine ⟨hT.1.trans hT1.1, hT.2.1.trans hT1.2.1, fun a j hw => ?_⟩
                    have hw2 : ¬ (a = 55 ∧ j = 53) := fun h => hw (Or.inr h)
                    have hTT := fun h => (hT.2.2 a j h).trans (hT1.2.2 a j hw)
                    have h94 := fun (h : a = 94) => ((hT94 j).trans (hT1.2.2 94 j (by unfold W_t W_p W_sc W_q; omega)))
                    unfold cdH
                    rw [← ek]
                    show (if a = 94 ∧ j = wh.toNat then S.2.1 55 50 + (k : Int) else T.2.1 a j) = (if a = 94 ∧ j = wh.toNat then S.2.1 55 50 + (k : Int) else if a = 55 ∧ j = 50 then S.2.1 55 50 + (k : Int) else if a = 95 then cdA S q.2 k j else if a = 93 ∧ j = wh.toNat then S.2.1 55 50 else S.2.1 a j)
                    by_cases g1 : a = 94 ∧ j = wh.toNat
                    · rw [if_pos g1, if_pos g1]
                    · rw [if_neg g1, if_neg g1]
                      by_cases g2 : a = 55 ∧ j = 50
                      · rw [if_pos g2, g2.1, g2.2]; exact h50
                      · rw [if_neg g2]
                        by_cases g3 : a = 95
                        · rw [if_pos g3, g3]; exact h95 j
                        · rw [if_neg g3]
                          by_cases g4 : a = 93
                          · rw [g4, h93 j]
                            by_cases g5 : j = wh.toNat
                            · rw [if_pos g5, if_pos ⟨rfl, g5⟩]
                            · rw [if_neg g5, if_neg (fun h => g5 h.2)]
                          · rw [if_neg (fun h => g4 h.1)]
                            by_cases g6 : a = 94
                            · rw [g6]; exact h94 g6
                            · exact hTT (by unfold W_cd; omega)
                  · refine am_aload_n (q := 89) rfl (am_tab tk_X10_codesTold 50 rfl) rfl ?_
                    refine am_getR (q := 92) (a := 55) (k := 10) (n := 108) (j := 49) (r := some (95)) (Ls_55 hL8) (by decide) rfl (Lr_55_49 hL8) (by decide) (Or.inl kf_X10_133) (am_tab tk_X10_codesTold 51 rfl) rfl ?_
                    refine am_aload_n (q := 93) rfl (am_tab tk_X10_codesTold 52 rfl) rfl ?_
                    refine am_getI (q := 96) (a := 55) (k := 10) (n := 108) (j := 50) (x := (S.2.1 55 50 + (k : Int))) (Ls_55 hL8) (by decide) rfl h50 (by decide) (Or.inl kf_X10_351) (am_tab tk_X10_codesTold 53 rfl) rfl ?_
                    refine am_aload_n (q := 97) rfl (am_tab tk_X10_codesTold 54 rfl) rfl ?_
                    refine am_getR (q := 100) (a := 55) (k := 10) (n := 108) (j := 96) (r := some (127)) (Ls_55 hL8) (by decide) rfl (Lr_55_96 hL8) (by decide) (Or.inl kf_X10_233) (am_tab tk_X10_codesTold 55 rfl) rfl ?_
                    have hgk : T.2.1 127 (Int.toNat (k : Int)) = q.2.reverse.getD k 0 := by
                      rw [show Int.toNat (k : Int) = k by omega, hT.2.2 127 k (by unfold W_cd; omega)]
                      have h9 := pl_get (f := fun k => T1.2.1 127 k) q.2.length k (by omega)
                      rw [hX.2.1.2.1] at h9
                      exact h9.symm
                    refine am_iload_n (q := 101) rfl (am_tab tk_X10_codesTold 56 rfl) rfl ?_
                    refine am_iald (q := 102) (a := 127) (n := 1700) (x := (q.2.reverse.getD k 0)) (Ls_127 hL8) (by omega) (by omega) hgk (am_tab tk_X10_codesTold 57 rfl) rfl ?_
                    refine am_iast (q := 103) (a := 95) (n := 3200) (Ls_95 hL8) (by omega) (by omega) (am_tab tk_X10_codesTold 58 rfl) rfl ?_
                    refine am_aload_n (q := 104) rfl (am_tab tk_X10_codesTold 59 rfl) rfl ?_
                    refine am_dup (q := 105) rfl (am_tab tk_X10_codesTold 60 rfl) rfl ?_
                    refine am_getI (q := 108) (a := 55) (k := 10) (n := 108) (j := 50) (x := (S.2.1 55 50 + (k : Int))) (Ls_55 hL8) (by decide) rfl h50 (by decide) (Or.inl kf_X10_351) (am_tab tk_X10_codesTold 61 rfl) rfl ?_
                    refine am_iconst (q := 109) (n := 1) (by decide) (am_tab tk_X10_codesTold 62 rfl) rfl ?_
                    refine am_iadd (q := 110) (by omega) (am_tab tk_X10_codesTold 63 rfl) rfl ?_
                    refine am_putI (q := 113) (k := 10) (n := 108) (j := 50) (Ls_55 hL8) (by decide) rfl (by decide) (Or.inl ⟨kf_X10_351, rfl⟩) (am_tab tk_X10_codesTold 64 rfl) rfl ?_
                    refine am_iinc (q := 116) rfl (by omega) (by decide) (ls2 := [(3, am_i (((k : Int) + 1))), (0, am_r 55), (1, am_i wh), (2, am_i pl)]) rfl (am_tab tk_X10_codesTold 65 rfl) rfl ?_
                    refine am_goto (t := 80) (am_tab tk_X10_codesTold 66 rfl) (by decide) ?_
                    exact am_less (by intro q hq; simp only [List.mem_cons, List.not_mem_nil, or_false] at hq; rcases hq with rfl | rfl | rfl | rfl <;> simp) (ih80 (k + 1) (am_setN (am_setN T 95 (Int.toNat (S.2.1 55 50 + (k : Int))) (q.2.reverse.getD k 0)) 55 50 ((S.2.1 55 50 + (k : Int)) + 1)) (by omega) ((hT.setN (by unfold W_cd; omega)).setN (by unfold W_cd; omega)) (by show S.2.1 55 50 + (k : Int) + 1 = _; push_cast; omega) h93 (cdA_on hcd.1 h95) (by omega) hT94)
              refine am_less (by intro q hq; simp only [List.mem_cons, List.not_mem_nil, or_false] at hq; rcases hq with rfl | rfl | rfl | rfl <;> simp) (L80 (_ + 1) 0 (am_setN T1 93 (Int.toNat wh) (S.2.1 55 50)) (by exact Nat.lt_succ_self _) ((frw.refl W_cd T1).setN (by unfold W_cd; omega)) (by show T1.2.1 55 50 = _; rw [e50]; simp) (fun j => by show (if 93 = 93 ∧ j = wh.toNat then S.2.1 55 50 else T1.2.1 93 j) = _; rw [hT1.2.2 93 j (by unfold W_t W_p W_sc W_q; omega)]; simp) (fun j => by show T1.2.1 95 j = _; unfold cdA; rw [hT1.2.2 95 j (by unfold W_t W_p W_sc W_q; omega), if_neg (by omega)]) (Nat.zero_le _) (fun j => rfl))
            · exact absurd h64 (by decide)
          · have hFs : frw W_x S (am_setN (am_setN (am_setN (am_setN (am_setN S 55 53 wh) 55 97 0) 55 99 0) 55 100 0) 55 101 0) := (((((frw.refl W_x S).setN (by unfold W_x W_q W_st; omega)).setN (by unfold W_x W_q W_st; omega)).setN (by unfold W_x W_q W_st; omega)).setN (by unfold W_x W_q W_st; omega)).setN (by unfold W_x W_q W_st; omega)
            have hFt : frw W_t S (am_setN (am_setN (am_setN (am_setN (am_setN S 55 53 wh) 55 97 0) 55 99 0) 55 100 0) 55 101 0) := (((((frw.refl W_t S).setN (by unfold W_t W_p W_sc W_q; omega)).setN (by unfold W_t W_p W_sc W_q; omega)).setN (by unfold W_t W_p W_sc W_q; omega)).setN (by unfold W_t W_p W_sc W_q; omega)).setN (by unfold W_t W_p W_sc W_q; omega)
            have hQ1 : QX b E wh i [] [] 0 0 (am_setN (am_setN (am_setN (am_setN (am_setN S 55 53 wh) 55 97 0) 55 99 0) 55 100 0) 55 101 0) := ⟨hZ.x hFs, ⟨rfl, rfl, rfl, rfl, rfl, rfl⟩, rfl, ⟨rfl, by decide⟩, by simp, hiz⟩
            refine am_callVr (q := 60) (me2 := M_X10_qTest) (b := 55) (kb := 10) (nb := 108) (As := []) (rest := []) (c_X10_qTest b E wh ⟨by omega, by omega⟩ i [] [] 0 (am_setN (am_setN (am_setN (am_setN (am_setN S 55 53 wh) 55 97 0) 55 99 0) 55 100 0) 55 101 0) hQ1 1700 (by omega) rfl) ⟨rfl, rfl⟩ (Ls_55 hL) (by decide) ⟨Or.inl km_X10_348, kc_X10_qTest, kn_X10, kd_X10_qTest, ⟨(Nat.le_of_ble_eq_true rfl), (Nat.le_of_ble_eq_true rfl)⟩, ⟨(Nat.le_of_ble_eq_true rfl), (Nat.le_of_ble_eq_true rfl)⟩, (Nat.le_of_ble_eq_true rfl)⟩ ki_X10_qTest ks_X10_qTest rfl (am_tab tk_X10_codesTold 33 rfl) rfl ?_
            rintro r T1 ⟨rfl, hP, hF1⟩
            have e50 : T1.2.1 55 50 = S.2.1 55 50 := hF1.2.2 55 50 (by unfold W_p W_sc W_q; omega)
            have hT1 : frw W_t S T1 := hFt.trans (hF1.mono (fun _ _ h => Or.inl h))
            obtain ⟨e, he⟩ := sumR c3
            rw [he] at hP
            have hB : QB b E e.1 e.2 1680 T1 := hP
            have hd : cdF b E S wh pl i = .inr e := by unfold cdF; rw [if_pos c1, he]
            refine am_st (st2 := []) rfl ?_
            refine am_aload_n (q := 61) rfl (am_tab tk_X10_codesTold 34 rfl) rfl ?_
            refine am_getI (q := 64) (a := 55) (k := 10) (n := 108) (j := 5) (x := e.1) (Ls_55 hB.1.1) (by decide) rfl hB.1.2.2.2.1 (by decide) (Or.inl kf_X10_248) (am_tab tk_X10_codesTold 35 rfl) rfl ?_
            refine am_if_eq (q := 67) (t := 68) (am_tab tk_X10_codesTold 36 rfl) (by decide) rfl (fun h64 => ?_) (fun h64 => ?_)
            · exact absurd h64 hB.1.2.2.2.2.1
            · refine am_vret rfl (Nat.le_of_ble_eq_true rfl) (Nat.le_of_ble_eq_true rfl) (am_tab tk_X10_codesTold 37 rfl) ?_
              refine hQ _ _ ?_
              rw [hd, if_neg (by simp)]
              exact ⟨rfl, hB.1, trivial, fun h => absurd (show false = true from h) (by decide), hT1⟩
        · exact absurd h27 (by decide)
      · exact absurd c1 h14
    · refine am_aload_n (q := 8) rfl (am_tab tk_X10_codesTold 3 rfl) rfl ?_
      refine am_getR (q := 11) (a := 55) (k := 10) (n := 108) (j := 47) (r := some (93)) (Ls_55 hL) (by decide) rfl (Lr_55_47 hL) (by decide) (Or.inl kf_X10_127) (am_tab tk_X10_codesTold 4 rfl) rfl ?_
      refine am_iload_n (q := 12) rfl (am_tab tk_X10_codesTold 5 rfl) rfl ?_
      refine am_iald (q := 13) (a := 93) (n := 4) (x := (S.2.1 93 (Int.toNat wh))) (Ls_93 hL) (by omega) (by omega) rfl (am_tab tk_X10_codesTold 6 rfl) rfl ?_
      refine am_iconst (q := 14) (n := (-1)) (by decide) (am_tab tk_X10_codesTold 7 rfl) rfl ?_
      refine am_icmp_eq (q := 17) (t := 23) (am_tab tk_X10_codesTold 8 rfl) (by decide) rfl (fun h14 => ?_) (fun h14 => ?_)
      · exact absurd h14 c1
      · refine am_aload_n (q := 18) rfl (am_tab tk_X10_codesTold 9 rfl) rfl ?_
        refine am_iconst (q := 19) (n := 5) (by decide) (am_tab tk_X10_codesTold 10 rfl) rfl ?_
        refine am_iload_n (q := 20) rfl (am_tab tk_X10_codesTold 11 rfl) rfl ?_
        refine am_callV0 (q := 23) (me2 := M_X10_fail) (b := 55) (kb := 10) (nb := 108) (As := [am_i 5, am_i pl]) (rest := []) (out := []) (c_fail0 S hL 5 pl hZ.2.2.2.1) ⟨rfl, rfl⟩ (Ls_55 hL) (by decide) ⟨Or.inl km_X10_278, kc_X10_fail, kn_X10, kd_X10_fail, ⟨(Nat.le_of_ble_eq_true rfl), (Nat.le_of_ble_eq_true rfl)⟩, ⟨(Nat.le_of_ble_eq_true rfl), (Nat.le_of_ble_eq_true rfl)⟩, (Nat.le_of_ble_eq_true rfl)⟩ ki_X10_fail ks_X10_fail rfl rfl (am_tab tk_X10_codesTold 12 rfl) rfl ?_
        refine am_aload_n (q := 24) rfl (am_tab tk_X10_codesTold 13 rfl) rfl ?_
        refine am_getI (q := 27) (a := 55) (k := 10) (n := 108) (j := 5) (x := 5) (Ls_55 hL) (by decide) rfl rfl (by decide) (Or.inl kf_X10_248) (am_tab tk_X10_codesTold 14 rfl) rfl ?_
        refine am_if_eq (q := 30) (t := 31) (am_tab tk_X10_codesTold 15 rfl) (by decide) rfl (fun h27 => ?_) (fun h27 => ?_)
        · exact absurd h27 (by decide)
        · refine am_vret rfl (Nat.le_of_ble_eq_true rfl) (Nat.le_of_ble_eq_true rfl) (am_tab tk_X10_codesTold 16 rfl) ?_
          refine hQ _ _ ?_
          have hd : cdF b E S wh pl i = .inr (5, pl) := by unfold cdF; rw [if_neg c1]
          have hF : frw W_sc S (am_setN (am_setN S 55 5 5) 55 6 pl) := ((frw.refl W_sc S).setN (by unfold W_sc; omega)).setN (by unfold W_sc; omega)
          rw [hd, if_neg (by simp)]
          exact ⟨rfl, ZB_of hZ.1 hZ.2.1 hF hZ.2.2.1 rfl (show ¬ (5 : Int) = 0 by decide) rfl (by have := hZ.2.2.2.2.2.1; show 0 ≤ S.2.1 55 2 ∧ S.2.1 55 2 ≤ _; omega), trivial, fun h => absurd (show false = true from h) (by decide), hF.mono (fun _ _ h => Or.inl (Or.inl h))⟩
