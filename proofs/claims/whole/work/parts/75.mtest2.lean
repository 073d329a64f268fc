/-- a test: where it ends, the codes then -/
def tsF (b : Nat → Int) (E : Nat) (tk : Int) : Nat → Nat → List Int → List Int → Int → (Nat × List Int) ⊕ (Int × Int)
  | 0, _, _, _, _ => .inr (0, 0)
  | f + 1, i, rc, ws, o => if zK b E i = 91 then (if o = 6 then .inr (4, (zP b E i : Int)) else tsF b E tk f (i + 1) rc (25 :: ws) (o + 1))
    else if zK b E i = 151 then (if o = 6 then .inr (4, (zP b E i : Int)) else tsF b E tk f (i + 1) rc (12 :: ws) (o + 1))
    else match facF b E tk i rc o with
    | .inr e => .inr e
    | .inl q => match ggF b E 2000 q.1 (dnF q.2 ws o).1 (dnF q.2 ws o).2.1 (dnF q.2 ws o).2.2 with
      | .inr e => .inr e
      | .inl g => if g.1 = 0 then .inl (g.2.1, daF g.2.2.1 g.2.2.2.1) else tsF b E tk f g.2.1 g.2.2.1 g.2.2.2.1 g.2.2.2.2
theorem tsF_bad1 {b : Nat → Int} {E : Nat} {tk : Int} {f i : Nat} {rc ws : List Int} {o : Int} {e : Int × Int} (h1 : ¬ zK b E i = 91) (h2 : ¬ zK b E i = 151) (h : facF b E tk i rc o = .inr e) : tsF b E tk (f + 1) i rc ws o = .inr e := by
  conv => lhs; unfold tsF
  rw [if_neg h1, if_neg h2, h]
theorem tsF_bad2 {b : Nat → Int} {E : Nat} {tk : Int} {f i : Nat} {rc ws : List Int} {o : Int} {q : Nat × List Int} {e : Int × Int} (h1 : ¬ zK b E i = 91) (h2 : ¬ zK b E i = 151) (h : facF b E tk i rc o = .inl q) (h3 : ggF b E 2000 q.1 (dnF q.2 ws o).1 (dnF q.2 ws o).2.1 (dnF q.2 ws o).2.2 = .inr e) : tsF b E tk (f + 1) i rc ws o = .inr e := by
  conv => lhs; unfold tsF
  rw [if_neg h1, if_neg h2, h]
  simp only
  rw [h3]
theorem tsF_on {b : Nat → Int} {E : Nat} {tk : Int} {f i : Nat} {rc ws : List Int} {o : Int} {q : Nat × List Int} {g : Int × QZ} (h1 : ¬ zK b E i = 91) (h2 : ¬ zK b E i = 151) (h : facF b E tk i rc o = .inl q) (h3 : ggF b E 2000 q.1 (dnF q.2 ws o).1 (dnF q.2 ws o).2.1 (dnF q.2 ws o).2.2 = .inl g) : tsF b E tk (f + 1) i rc ws o = if g.1 = 0 then .inl (g.2.1, daF g.2.2.1 g.2.2.2.1) else tsF b E tk f g.2.1 g.2.2.1 g.2.2.2.1 g.2.2.2.2 := by
  conv => lhs; unfold tsF
  rw [if_neg h1, if_neg h2, h]
  simp only
  rw [h3]
theorem facF_i {b : Nat → Int} {E : Nat} {tk : Int} {i : Nat} {rc : List Int} {o : Int} {q : Nat × List Int} (h : facF b E tk i rc o = .inl q) : i + 1 ≤ q.1 := by
  unfold facF at h
  split at h
  · rw [← Sum.inl.inj h]; exact Nat.le_refl _
  · rcases hs : smF b E tk 2000 i rc [] o with p | e
    · rw [hs] at h
      simp only at h
      have h1 := smF_i _ _ _ _ _ _ hs
      split at h
      · rcases ht : smF b E tk 2000 (p.1 + 1) p.2 [] o with z | e
        · rw [ht] at h
          simp only at h
          have h2 := smF_i _ _ _ _ _ _ ht
          rw [← Sum.inl.inj h]
          show i + 1 ≤ z.1
          omega
        · rw [ht] at h; exact absurd h (by simp)
      · exact absurd h (by simp)
    · rw [hs] at h; exact absurd h (by simp)
theorem gcF_i (b : Nat → Int) (E : Nat) : ∀ (f i : Nat) (rc ws : List Int) (o : Int), i ≤ (gcF b E f i rc ws o).1
  | 0, _, _, _, _ => Nat.le_refl _
  | f + 1, i, rc, ws, o => by
    unfold gcF
    split
    · have := gcF_i b E f (i + 1) (gcE rc ws o).1 (gcE rc ws o).2.1 (gcE rc ws o).2.2
      omega
    · exact Nat.le_refl _
theorem ggF_get {b : Nat → Int} {E f i : Nat} {rc ws : List Int} {o : Int} {g : Int × QZ} (h : ggF b E f i rc ws o = .inl g) : i ≤ g.2.1 ∧ (g.1 = 0 → hsq g.2.2.2.1 = false) := by
  have h2 := gcF_i b E f i rc ws o
  unfold ggF gxF at h
  split at h
  · rw [← Sum.inl.inj h]; exact ⟨by show i ≤ (gcF b E f i rc ws o).1 + 1; omega, fun h => absurd h (show ¬ (1 : Int) = 0 by decide)⟩
  · split at h
    · rw [← Sum.inl.inj h]; exact ⟨by show i ≤ (gcF b E f i rc ws o).1 + 1; omega, fun h => absurd h (show ¬ (1 : Int) = 0 by decide)⟩
    · split at h
      · exact absurd h (by simp)
      · rename_i h9
        rw [← Sum.inl.inj h]; exact ⟨h2, fun _ => Bool.eq_false_iff.mpr h9⟩
theorem okX_nosq : ∀ ws, okX false ws = true → hsq ws = false → opn ws = 0
  | [], _, _ => rfl
  | w :: t, h, hb => by
    unfold hsq at hb
    unfold okX at h
    simp only [Bool.or_eq_false_iff, decide_eq_false_iff_not] at hb
    by_cases h1 : w = 10 ∨ w = 11
    · rw [if_pos h1] at h
      have ih := okX_nosq t h hb.2
      show (if w = 12 ∨ 20 ≤ w then 1 else 0) + opn t = 0
      rw [if_neg (by omega)]
      omega
    · rw [if_neg h1, if_neg hb.1] at h
      simp at h
theorem okX_mono : ∀ ws, okX false ws = true → okX true ws = true
  | [], _ => rfl
  | w :: t, h => by
    unfold okX at h ⊢
    split
    · rename_i h1; rw [if_pos h1] at h; exact h
    · rename_i h1
      rw [if_neg h1] at h
      split
      · rename_i h2; rw [if_pos h2] at h; exact h
      · rename_i h2
        rw [if_neg h2] at h
        simp at h
def PT (b : Nat → Int) (E : Nat) (tk : Int) (S : am_H) : (Nat × List Int) ⊕ (Int × Int) → Prop
  | .inl q => QX b E tk q.1 q.2 [] 0 0 S
  | .inr e => QB b E e.1 e.2 1680 S
set_option maxRecDepth 100000 in
theorem c_X10_qTest (b : Nat → Int) (E : Nat) (tk : Int) (htk : 0 ≤ tk ∧ tk ≤ 2) (i0 : Nat) (rc0 ws0 : List Int) (o0 : Int) (S : am_H) (hQ0 : QX b E tk i0 rc0 ws0 o0 0 S)  (f0 : Nat) (hf0 : 1700 ≤ f0 + i0) (hok0 : okX true ws0 = true) : am_met M_X10_qTest [am_r 55] S (fun r σ' => r = none ∧ PT b E tk σ' (tsF b E tk f0 i0 rc0 ws0 o0) ∧ frw W_p S σ') := by
  refine am_qq (fun Q hQ => ?_)
  refine am_enter (show plainFor yX10_qTest = true by decide +kernel) rfl (Nat.le_of_ble_eq_true rfl) (fun _ _ _ => trivial) ?_
  have hL := hQ0.1.1
  refine am_iconst (q := 1) (n := 1) (by decide) (am_tab tk_X10_qTest 0 rfl) rfl ?_
  refine am_istore_n (q := 2) (by decide) (ls2 := [(1, am_i 1), (0, am_r 55)]) rfl (am_tab tk_X10_qTest 1 rfl) rfl ?_
  have L2 : ∀ (n2 : Nat) (f : Nat) (i : Nat) (rc : List Int) (ws : List Int) (o : Int) (T : am_H), 1700 - i < n2 → QX b E tk i rc ws o 0 T → okX true ws = true → frw W_p S T → 1700 ≤ f + i → tsF b E tk f0 i0 rc0 ws0 o0 = tsF b E tk f i rc ws o → am_wp M_X10_qTest Q 0 0 2 [(1, am_i 1), (0, am_r 55)] [] T := by
    intro n2
    induction n2 with
    | zero => intro f i rc ws o T hn2; exact absurd hn2 (Nat.not_lt_zero _)
    | succ n2 ih2 =>
      intro f i rc ws o T hn2 hQT hok hF hfi hres
      have hZ := hQT.1
      have hV := hQT.2.1
      have h53 := hQT.2.2.1
      have hon := hQT.2.2.2.1
      have hlen := hQT.2.2.2.2.1
      have hiz := hQT.2.2.2.2.2
      have hzp := zP_rng b E i
      have hE := hZ.2.2.1.2.2.1
      have hop := opn_nn ws
      have ho2 : 0 ≤ o ∧ o ≤ 6 := by omega
      obtain ⟨f, rfl⟩ : ∃ g, f = g + 1 := ⟨f - 1, by omega⟩
      refine am_iload_n (q := 3) rfl (am_tab tk_X10_qTest 2 rfl) rfl ?_
      refine am_if_eq (q := 6) (t := 110) (am_tab tk_X10_qTest 3 rfl) (by decide) rfl (fun h3 => ?_) (fun h3 => ?_)
      · exact absurd h3 (by decide)
      · refine am_aload_n (q := 7) rfl (am_tab tk_X10_qTest 4 rfl) rfl ?_
        refine am_getI (q := 10) (a := 55) (k := 10) (n := 108) (j := 5) (x := 0) (Ls_55 hZ.1) (by decide) rfl hZ.2.2.2.1 (by decide) (Or.inl kf_X10_248) (am_tab tk_X10_qTest 5 rfl) rfl ?_
        refine am_if_ne (q := 13) (t := 110) (am_tab tk_X10_qTest 6 rfl) (by decide) rfl (fun h10 => ?_) (fun h10 => ?_)
        · exact absurd h10 (by decide)
        · by_cases c1 : zK b E i = 91
          · by_cases o6 : o = 6
            · refine am_aload_n (q := 14) rfl (am_tab tk_X10_qTest 7 rfl) rfl ?_
              refine am_callV0 (q := 17) (me2 := M_X10_look) (b := 55) (kb := 10) (nb := 108) (As := []) (rest := []) (out := [am_i (byt b E i)]) (c_X10_look b E i T hZ.1 hZ.2.2) ⟨rfl, rfl⟩ (Ls_55 hZ.1) (by decide) ⟨Or.inl km_X10_260, kc_X10_look, kn_X10, kd_X10_look, ⟨(Nat.le_of_ble_eq_true rfl), (Nat.le_of_ble_eq_true rfl)⟩, ⟨(Nat.le_of_ble_eq_true rfl), (Nat.le_of_ble_eq_true rfl)⟩, (Nat.le_of_ble_eq_true rfl)⟩ ki_X10_look ks_X10_look rfl rfl (am_tab tk_X10_qTest 8 rfl) rfl ?_
              refine am_istore_n (q := 18) (by decide) (ls2 := [(2, am_i (byt b E i)), (1, am_i 1), (0, am_r 55)]) rfl (am_tab tk_X10_qTest 9 rfl) rfl ?_
              refine am_iload_n (q := 19) rfl (am_tab tk_X10_qTest 10 rfl) rfl ?_
              refine am_bipush (q := 21) (n := 91) (by decide) rfl (am_tab tk_X10_qTest 11 rfl) rfl ?_
              refine am_icmp_ne (q := 24) (t := 47) (am_tab tk_X10_qTest 12 rfl) (by decide) rfl (fun h21 => ?_) (fun h21 => ?_)
              · exact absurd ((sg_iff (by decide)).mpr c1) h21
              · refine am_aload_n (q := 25) rfl (am_tab tk_X10_qTest 13 rfl) rfl ?_
                refine am_bipush (q := 27) (n := 25) (by decide) rfl (am_tab tk_X10_qTest 14 rfl) rfl ?_
                refine am_aload_n (q := 28) rfl (am_tab tk_X10_qTest 15 rfl) rfl ?_
                refine am_getI (q := 31) (a := 55) (k := 10) (n := 108) (j := 2) (x := (zP b E i : Int)) (Ls_55 hZ.1) (by decide) rfl rfl (by decide) (Or.inl kf_X10_254) (am_tab tk_X10_qTest 16 rfl) rfl ?_
                refine am_callV0 (q := 34) (me2 := M_X10_qOpens) (b := 55) (kb := 10) (nb := 108) (As := [am_i 25, am_i ((zP b E i : Int))]) (rest := []) (out := []) (c_qOpensN rc ws o 0 (am_setN T 55 2 (zP b E i : Int)) hZ.1 (hV.sc ((frw.refl W_sc T).setN (by unfold W_sc; omega))) 25 (zP b E i : Int) hZ.2.2.2.1 o6) ⟨rfl, rfl⟩ (Ls_55 hZ.1) (by decide) ⟨Or.inl km_X10_603, kc_X10_qOpens, kn_X10, kd_X10_qOpens, ⟨(Nat.le_of_ble_eq_true rfl), (Nat.le_of_ble_eq_true rfl)⟩, ⟨(Nat.le_of_ble_eq_true rfl), (Nat.le_of_ble_eq_true rfl)⟩, (Nat.le_of_ble_eq_true rfl)⟩ ki_X10_qOpens ks_X10_qOpens rfl rfl (am_tab tk_X10_qTest 17 rfl) rfl ?_
                refine am_aload_n (q := 35) rfl (am_tab tk_X10_qTest 18 rfl) rfl ?_
                refine am_dup (q := 36) rfl (am_tab tk_X10_qTest 19 rfl) rfl ?_
                refine am_getI (q := 39) (a := 55) (k := 10) (n := 108) (j := 2) (x := (zP b E i : Int)) (Ls_55 hZ.1) (by decide) rfl rfl (by decide) (Or.inl kf_X10_254) (am_tab tk_X10_qTest 20 rfl) rfl ?_
                refine am_iconst (q := 40) (n := 1) (by decide) (am_tab tk_X10_qTest 21 rfl) rfl ?_
                refine am_iadd (q := 41) (by omega) (am_tab tk_X10_qTest 22 rfl) rfl ?_
                refine am_putI (q := 44) (k := 10) (n := 108) (j := 2) (Ls_55 hZ.1) (by decide) rfl (by decide) (Or.inl ⟨kf_X10_254, rfl⟩) (am_tab tk_X10_qTest 23 rfl) rfl ?_
                refine am_goto (t := 2) (am_tab tk_X10_qTest 24 rfl) (by decide) ?_
                refine am_iload_n (q := 3) rfl (am_tab tk_X10_qTest 2 rfl) rfl ?_
                refine am_if_eq (q := 6) (t := 110) (am_tab tk_X10_qTest 3 rfl) (by decide) rfl (fun h3 => ?_) (fun h3 => ?_)
                · exact absurd h3 (by decide)
                · refine am_aload_n (q := 7) rfl (am_tab tk_X10_qTest 4 rfl) rfl ?_
                  refine am_getI (q := 10) (a := 55) (k := 10) (n := 108) (j := 5) (x := 4) (Ls_55 hZ.1) (by decide) rfl rfl (by decide) (Or.inl kf_X10_248) (am_tab tk_X10_qTest 5 rfl) rfl ?_
                  refine am_if_ne (q := 13) (t := 110) (am_tab tk_X10_qTest 6 rfl) (by decide) rfl (fun h10 => ?_) (fun h10 => ?_)
                  · refine am_aload_n (q := 111) rfl (am_tab tk_X10_qTest 55 rfl) rfl ?_
                    refine am_getI (q := 114) (a := 55) (k := 10) (n := 108) (j := 5) (x := 4) (Ls_55 hZ.1) (by decide) rfl rfl (by decide) (Or.inl kf_X10_248) (am_tab tk_X10_qTest 56 rfl) rfl ?_
                    refine am_if_ne (q := 117) (t := 131) (am_tab tk_X10_qTest 57 rfl) (by decide) rfl (fun h114 => ?_) (fun h114 => ?_)
                    · refine am_vret rfl (Nat.le_of_ble_eq_true rfl) (Nat.le_of_ble_eq_true rfl) (am_tab tk_X10_qTest 64 rfl) ?_
                      refine hQ _ _ ?_
                      have hev : tsF b E tk (f + 1) i rc ws o = .inr (4, (zP b E i : Int)) := by
                        conv => lhs; unfold tsF
                        rw [if_pos c1, if_pos o6]
                      have hFb2 : frw W_sc T (am_setN (am_setN (am_setN (am_setN T 55 2 (zP b E i : Int)) 55 5 4) 55 6 (zP b E i : Int)) 55 2 ((zP b E i : Int) + 1)) := by repeat (first | exact frw.refl _ T | refine frw.setN ?_ (by unfold W_sc; omega))
                      have hZbd2 : ZB b E 4 (zP b E i : Int) (am_setN (am_setN (am_setN (am_setN T 55 2 (zP b E i : Int)) 55 5 4) 55 6 (zP b E i : Int)) 55 2 ((zP b E i : Int) + 1)) := ZB_of hZ.1 hZ.2.1 hFb2 hZ.2.2.1 rfl (by decide) rfl (by first | (show 0 ≤ (zP b E i : Int) ∧ (zP b E i : Int) ≤ _; omega) | (show 0 ≤ (zP b E i : Int) + 1 ∧ (zP b E i : Int) + 1 ≤ _; omega))
                      rw [hres, hev]
                      exact ⟨rfl, QB_of hZbd2 (hV.sc hFb2) (by omega) (by omega), hF.trans (W_sc_p hFb2)⟩
                    · exact absurd h114 (by decide)
                  · exact absurd h10 (by decide)
            · refine am_aload_n (q := 14) rfl (am_tab tk_X10_qTest 7 rfl) rfl ?_
              refine am_callV0 (q := 17) (me2 := M_X10_look) (b := 55) (kb := 10) (nb := 108) (As := []) (rest := []) (out := [am_i (byt b E i)]) (c_X10_look b E i T hZ.1 hZ.2.2) ⟨rfl, rfl⟩ (Ls_55 hZ.1) (by decide) ⟨Or.inl km_X10_260, kc_X10_look, kn_X10, kd_X10_look, ⟨(Nat.le_of_ble_eq_true rfl), (Nat.le_of_ble_eq_true rfl)⟩, ⟨(Nat.le_of_ble_eq_true rfl), (Nat.le_of_ble_eq_true rfl)⟩, (Nat.le_of_ble_eq_true rfl)⟩ ki_X10_look ks_X10_look rfl rfl (am_tab tk_X10_qTest 8 rfl) rfl ?_
              refine am_istore_n (q := 18) (by decide) (ls2 := [(2, am_i (byt b E i)), (1, am_i 1), (0, am_r 55)]) rfl (am_tab tk_X10_qTest 9 rfl) rfl ?_
              refine am_iload_n (q := 19) rfl (am_tab tk_X10_qTest 10 rfl) rfl ?_
              refine am_bipush (q := 21) (n := 91) (by decide) rfl (am_tab tk_X10_qTest 11 rfl) rfl ?_
              refine am_icmp_ne (q := 24) (t := 47) (am_tab tk_X10_qTest 12 rfl) (by decide) rfl (fun h21 => ?_) (fun h21 => ?_)
              · exact absurd ((sg_iff (by decide)).mpr c1) h21
              · refine am_aload_n (q := 25) rfl (am_tab tk_X10_qTest 13 rfl) rfl ?_
                refine am_bipush (q := 27) (n := 25) (by decide) rfl (am_tab tk_X10_qTest 14 rfl) rfl ?_
                refine am_aload_n (q := 28) rfl (am_tab tk_X10_qTest 15 rfl) rfl ?_
                refine am_getI (q := 31) (a := 55) (k := 10) (n := 108) (j := 2) (x := (zP b E i : Int)) (Ls_55 hZ.1) (by decide) rfl rfl (by decide) (Or.inl kf_X10_254) (am_tab tk_X10_qTest 16 rfl) rfl ?_
                refine am_callVr (q := 34) (me2 := M_X10_qOpens) (b := 55) (kb := 10) (nb := 108) (As := [am_i 25, am_i ((zP b E i : Int))]) (rest := []) (c_qOpensY rc ws o 0 (am_setN T 55 2 (zP b E i : Int)) hZ.1 (hV.sc ((frw.refl W_sc T).setN (by unfold W_sc; omega))) 25 (zP b E i : Int) hZ.2.2.2.1 (by omega) o6 ho2) ⟨rfl, rfl⟩ (Ls_55 hZ.1) (by decide) ⟨Or.inl km_X10_603, kc_X10_qOpens, kn_X10, kd_X10_qOpens, ⟨(Nat.le_of_ble_eq_true rfl), (Nat.le_of_ble_eq_true rfl)⟩, ⟨(Nat.le_of_ble_eq_true rfl), (Nat.le_of_ble_eq_true rfl)⟩, (Nat.le_of_ble_eq_true rfl)⟩ ki_X10_qOpens ks_X10_qOpens rfl (am_tab tk_X10_qTest 17 rfl) rfl ?_
                rintro r T5 ⟨rfl, hV5, hF5⟩
                have hZ5 : ZS b E i T5 := hZ.look.q hF5
                refine am_st (st2 := []) rfl ?_
                refine am_aload_n (q := 35) rfl (am_tab tk_X10_qTest 18 rfl) rfl ?_
                refine am_dup (q := 36) rfl (am_tab tk_X10_qTest 19 rfl) rfl ?_
                refine am_getI (q := 39) (a := 55) (k := 10) (n := 108) (j := 2) (x := (zP b E i : Int)) (Ls_55 hZ5.1) (by decide) rfl (hF5.2.2 55 2 (by unfold W_q; omega)) (by decide) (Or.inl kf_X10_254) (am_tab tk_X10_qTest 20 rfl) rfl ?_
                refine am_iconst (q := 40) (n := 1) (by decide) (am_tab tk_X10_qTest 21 rfl) rfl ?_
                refine am_iadd (q := 41) (by omega) (am_tab tk_X10_qTest 22 rfl) rfl ?_
                refine am_putI (q := 44) (k := 10) (n := 108) (j := 2) (Ls_55 hZ5.1) (by decide) rfl (by decide) (Or.inl ⟨kf_X10_254, rfl⟩) (am_tab tk_X10_qTest 23 rfl) rfl ?_
                refine am_goto (t := 2) (am_tab tk_X10_qTest 24 rfl) (by decide) ?_
                have hFn : frw W_sc T5 (am_setN T5 55 2 ((zP b E i : Int) + 1)) := (frw.refl W_sc T5).setN (by unfold W_sc; omega)
                have hZn : ZS b E (i + 1) (am_setN T5 55 2 ((zP b E i : Int) + 1)) := ZS_of hZ5.1 hZ5.2.1 hFn (TS_sign hZ5.2.2 (by decide) c1 (hZ5.2.2.1.fr hFn) hZ5.2.2.2.1 hZ5.2.2.2.2.1 rfl rfl)
                have hQn : QX b E tk (i + 1) rc (25 :: ws) (o + 1) 0 (am_setN T5 55 2 ((zP b E i : Int) + 1)) := ⟨hZn, hV5.sc hFn, (hF5.2.2 55 53 (by unfold W_q; omega)).trans h53, ⟨by show _ = (if _ then _ else _) + opn ws; rw [if_pos (by omega)]; omega, by omega⟩, by rw [List.length_cons]; omega, zP_on (by omega) hiz⟩
                exact am_less (by intro q hq; simp only [List.mem_cons, List.not_mem_nil, or_false] at hq; rcases hq with rfl | rfl <;> simp) (ih2 f (i + 1) rc (25 :: ws) (o + 1) (am_setN T5 55 2 ((zP b E i : Int) + 1)) (by omega) hQn (by unfold okX; rw [if_neg (by omega), if_pos rfl]; exact hok) (hF.trans ((W_sc_p ((frw.refl W_sc T).setN (by unfold W_sc; omega))).trans ((W_q_p hF5).trans (W_sc_p hFn)))) (by omega) (by rw [hres]; conv => lhs; unfold tsF; rw [if_pos c1, if_neg o6]))
          · by_cases c2 : zK b E i = 151
            · by_cases o6 : o = 6
              · refine am_aload_n (q := 14) rfl (am_tab tk_X10_qTest 7 rfl) rfl ?_
                refine am_callV0 (q := 17) (me2 := M_X10_look) (b := 55) (kb := 10) (nb := 108) (As := []) (rest := []) (out := [am_i (byt b E i)]) (c_X10_look b E i T hZ.1 hZ.2.2) ⟨rfl, rfl⟩ (Ls_55 hZ.1) (by decide) ⟨Or.inl km_X10_260, kc_X10_look, kn_X10, kd_X10_look, ⟨(Nat.le_of_ble_eq_true rfl), (Nat.le_of_ble_eq_true rfl)⟩, ⟨(Nat.le_of_ble_eq_true rfl), (Nat.le_of_ble_eq_true rfl)⟩, (Nat.le_of_ble_eq_true rfl)⟩ ki_X10_look ks_X10_look rfl rfl (am_tab tk_X10_qTest 8 rfl) rfl ?_
                refine am_istore_n (q := 18) (by decide) (ls2 := [(2, am_i (byt b E i)), (1, am_i 1), (0, am_r 55)]) rfl (am_tab tk_X10_qTest 9 rfl) rfl ?_
                refine am_iload_n (q := 19) rfl (am_tab tk_X10_qTest 10 rfl) rfl ?_
                refine am_bipush (q := 21) (n := 91) (by decide) rfl (am_tab tk_X10_qTest 11 rfl) rfl ?_
                refine am_icmp_ne (q := 24) (t := 47) (am_tab tk_X10_qTest 12 rfl) (by decide) rfl (fun h21 => ?_) (fun h21 => ?_)
                · refine am_aload_n (q := 48) rfl (am_tab tk_X10_qTest 25 rfl) rfl ?_
                  refine am_aload_n (q := 49) rfl (am_tab tk_X10_qTest 26 rfl) rfl ?_
                  refine am_getR (q := 52) (a := 55) (k := 10) (n := 108) (j := 78) (r := some (109)) (Ls_55 hZ.1) (by decide) rfl (Lr_55_78 hZ.1) (by decide) (Or.inl kf_X10_179) (am_tab tk_X10_qTest 27 rfl) rfl ?_
                  refine am_callVr (q := 55) (me2 := M_X10_isHere) (b := 55) (kb := 10) (nb := 108) (As := [am_r 109]) (rest := []) (c_hereX b E i (am_setN T 55 2 (zP b E i : Int)) hZ.look 109 23 (by decide)) ⟨rfl, rfl⟩ (Ls_55 hZ.1) (by decide) ⟨Or.inl km_X10_271, kc_X10_isHere, kn_X10, kd_X10_isHere, ⟨(Nat.le_of_ble_eq_true rfl), (Nat.le_of_ble_eq_true rfl)⟩, ⟨(Nat.le_of_ble_eq_true rfl), (Nat.le_of_ble_eq_true rfl)⟩, (Nat.le_of_ble_eq_true rfl)⟩ ki_X10_isHere ks_X10_isHere rfl (am_tab tk_X10_qTest 28 rfl) rfl ?_
                  rintro r τ ⟨hr, hτ⟩
                  rw [decide_eq_true (show zK b E i = 128 + ((23 : Nat) : Int) from by omega)] at hr
                  rw [am_setN_N] at hτ
                  subst hτ
                  subst hr
                  refine am_st (st2 := [am_i 1]) rfl ?_
                  refine am_if_eq (q := 58) (t := 79) (am_tab tk_X10_qTest 29 rfl) (by decide) rfl (fun h55 => ?_) (fun h55 => ?_)
                  · exact absurd h55 (by decide)
                  · refine am_aload_n (q := 59) rfl (am_tab tk_X10_qTest 30 rfl) rfl ?_
                    refine am_bipush (q := 61) (n := 12) (by decide) rfl (am_tab tk_X10_qTest 31 rfl) rfl ?_
                    refine am_aload_n (q := 62) rfl (am_tab tk_X10_qTest 32 rfl) rfl ?_
                    refine am_getI (q := 65) (a := 55) (k := 10) (n := 108) (j := 2) (x := (zP b E i : Int)) (Ls_55 hZ.1) (by decide) rfl rfl (by decide) (Or.inl kf_X10_254) (am_tab tk_X10_qTest 33 rfl) rfl ?_
                    refine am_callV0 (q := 68) (me2 := M_X10_qOpens) (b := 55) (kb := 10) (nb := 108) (As := [am_i 12, am_i ((zP b E i : Int))]) (rest := []) (out := []) (c_qOpensN rc ws o 0 (am_setN T 55 2 (zP b E i : Int)) hZ.1 (hV.sc ((frw.refl W_sc T).setN (by unfold W_sc; omega))) 12 (zP b E i : Int) hZ.2.2.2.1 o6) ⟨rfl, rfl⟩ (Ls_55 hZ.1) (by decide) ⟨Or.inl km_X10_603, kc_X10_qOpens, kn_X10, kd_X10_qOpens, ⟨(Nat.le_of_ble_eq_true rfl), (Nat.le_of_ble_eq_true rfl)⟩, ⟨(Nat.le_of_ble_eq_true rfl), (Nat.le_of_ble_eq_true rfl)⟩, (Nat.le_of_ble_eq_true rfl)⟩ ki_X10_qOpens ks_X10_qOpens rfl rfl (am_tab tk_X10_qTest 34 rfl) rfl ?_
                    refine am_aload_n (q := 69) rfl (am_tab tk_X10_qTest 35 rfl) rfl ?_
                    have hFb : frw W_sc T (am_setN (am_setN (am_setN T 55 2 (zP b E i : Int)) 55 5 4) 55 6 (zP b E i : Int)) := by repeat (first | exact frw.refl _ T | refine frw.setN ?_ (by unfold W_sc; omega))
                    have hZbad : ZB b E 4 (zP b E i : Int) (am_setN (am_setN (am_setN T 55 2 (zP b E i : Int)) 55 5 4) 55 6 (zP b E i : Int)) := ZB_of hZ.1 hZ.2.1 hFb hZ.2.2.1 rfl (by decide) rfl (by first | (show 0 ≤ (zP b E i : Int) ∧ (zP b E i : Int) ≤ _; omega) | (show 0 ≤ (zP b E i : Int) + 1 ∧ (zP b E i : Int) + 1 ≤ _; omega))
                    refine am_aload_n (q := 70) rfl (am_tab tk_X10_qTest 36 rfl) rfl ?_
                    refine am_getR (q := 73) (a := 55) (k := 10) (n := 108) (j := 78) (r := some (109)) (Ls_55 hZ.1) (by decide) rfl (Lr_55_78 hZ.1) (by decide) (Or.inl kf_X10_179) (am_tab tk_X10_qTest 37 rfl) rfl ?_
                    refine am_callV0 (q := 76) (me2 := M_X10_asks) (b := 55) (kb := 10) (nb := 108) (As := [am_r 109]) (rest := []) (out := []) (c_asks0 b E 4 (zP b E i : Int) (am_setN (am_setN (am_setN T 55 2 (zP b E i : Int)) 55 5 4) 55 6 (zP b E i : Int)) hZbad 109) ⟨rfl, rfl⟩ (Ls_55 hZ.1) (by decide) ⟨Or.inl km_X10_317, kc_X10_asks, kn_X10, kd_X10_asks, ⟨(Nat.le_of_ble_eq_true rfl), (Nat.le_of_ble_eq_true rfl)⟩, ⟨(Nat.le_of_ble_eq_true rfl), (Nat.le_of_ble_eq_true rfl)⟩, (Nat.le_of_ble_eq_true rfl)⟩ ki_X10_asks ks_X10_asks rfl rfl (am_tab tk_X10_qTest 38 rfl) rfl ?_
                    refine am_goto (t := 2) (am_tab tk_X10_qTest 39 rfl) (by decide) ?_
                    refine am_iload_n (q := 3) rfl (am_tab tk_X10_qTest 2 rfl) rfl ?_
                    refine am_if_eq (q := 6) (t := 110) (am_tab tk_X10_qTest 3 rfl) (by decide) rfl (fun h3 => ?_) (fun h3 => ?_)
                    · exact absurd h3 (by decide)
                    · refine am_aload_n (q := 7) rfl (am_tab tk_X10_qTest 4 rfl) rfl ?_
                      refine am_getI (q := 10) (a := 55) (k := 10) (n := 108) (j := 5) (x := 4) (Ls_55 hZ.1) (by decide) rfl rfl (by decide) (Or.inl kf_X10_248) (am_tab tk_X10_qTest 5 rfl) rfl ?_
                      refine am_if_ne (q := 13) (t := 110) (am_tab tk_X10_qTest 6 rfl) (by decide) rfl (fun h10 => ?_) (fun h10 => ?_)
                      · refine am_aload_n (q := 111) rfl (am_tab tk_X10_qTest 55 rfl) rfl ?_
                        refine am_getI (q := 114) (a := 55) (k := 10) (n := 108) (j := 5) (x := 4) (Ls_55 hZ.1) (by decide) rfl rfl (by decide) (Or.inl kf_X10_248) (am_tab tk_X10_qTest 56 rfl) rfl ?_
                        refine am_if_ne (q := 117) (t := 131) (am_tab tk_X10_qTest 57 rfl) (by decide) rfl (fun h114 => ?_) (fun h114 => ?_)
                        · refine am_vret rfl (Nat.le_of_ble_eq_true rfl) (Nat.le_of_ble_eq_true rfl) (am_tab tk_X10_qTest 64 rfl) ?_
                          refine hQ _ _ ?_
                          have hev : tsF b E tk (f + 1) i rc ws o = .inr (4, (zP b E i : Int)) := by
                            conv => lhs; unfold tsF
                            rw [if_neg c1, if_pos c2, if_pos o6]
                          have hFb2 : frw W_sc T (am_setN (am_setN (am_setN T 55 2 (zP b E i : Int)) 55 5 4) 55 6 (zP b E i : Int)) := by repeat (first | exact frw.refl _ T | refine frw.setN ?_ (by unfold W_sc; omega))
                          have hZbd2 : ZB b E 4 (zP b E i : Int) (am_setN (am_setN (am_setN T 55 2 (zP b E i : Int)) 55 5 4) 55 6 (zP b E i : Int)) := ZB_of hZ.1 hZ.2.1 hFb2 hZ.2.2.1 rfl (by decide) rfl (by first | (show 0 ≤ (zP b E i : Int) ∧ (zP b E i : Int) ≤ _; omega) | (show 0 ≤ (zP b E i : Int) + 1 ∧ (zP b E i : Int) + 1 ≤ _; omega))
                          rw [hres, hev]
                          exact ⟨rfl, QB_of hZbd2 (hV.sc hFb2) (by omega) (by omega), hF.trans (W_sc_p hFb2)⟩
                        · exact absurd h114 (by decide)
                      · exact absurd h10 (by decide)
                · exact absurd ((sg_iff (by decide)).mp h21) c1
              · refine am_aload_n (q := 14) rfl (am_tab tk_X10_qTest 7 rfl) rfl ?_
                refine am_callV0 (q := 17) (me2 := M_X10_look) (b := 55) (kb := 10) (nb := 108) (As := []) (rest := []) (out := [am_i (byt b E i)]) (c_X10_look b E i T hZ.1 hZ.2.2) ⟨rfl, rfl⟩ (Ls_55 hZ.1) (by decide) ⟨Or.inl km_X10_260, kc_X10_look, kn_X10, kd_X10_look, ⟨(Nat.le_of_ble_eq_true rfl), (Nat.le_of_ble_eq_true rfl)⟩, ⟨(Nat.le_of_ble_eq_true rfl), (Nat.le_of_ble_eq_true rfl)⟩, (Nat.le_of_ble_eq_true rfl)⟩ ki_X10_look ks_X10_look rfl rfl (am_tab tk_X10_qTest 8 rfl) rfl ?_
                refine am_istore_n (q := 18) (by decide) (ls2 := [(2, am_i (byt b E i)), (1, am_i 1), (0, am_r 55)]) rfl (am_tab tk_X10_qTest 9 rfl) rfl ?_
                refine am_iload_n (q := 19) rfl (am_tab tk_X10_qTest 10 rfl) rfl ?_
                refine am_bipush (q := 21) (n := 91) (by decide) rfl (am_tab tk_X10_qTest 11 rfl) rfl ?_
                refine am_icmp_ne (q := 24) (t := 47) (am_tab tk_X10_qTest 12 rfl) (by decide) rfl (fun h21 => ?_) (fun h21 => ?_)
                · refine am_aload_n (q := 48) rfl (am_tab tk_X10_qTest 25 rfl) rfl ?_
                  refine am_aload_n (q := 49) rfl (am_tab tk_X10_qTest 26 rfl) rfl ?_
                  refine am_getR (q := 52) (a := 55) (k := 10) (n := 108) (j := 78) (r := some (109)) (Ls_55 hZ.1) (by decide) rfl (Lr_55_78 hZ.1) (by decide) (Or.inl kf_X10_179) (am_tab tk_X10_qTest 27 rfl) rfl ?_
                  refine am_callVr (q := 55) (me2 := M_X10_isHere) (b := 55) (kb := 10) (nb := 108) (As := [am_r 109]) (rest := []) (c_hereX b E i (am_setN T 55 2 (zP b E i : Int)) hZ.look 109 23 (by decide)) ⟨rfl, rfl⟩ (Ls_55 hZ.1) (by decide) ⟨Or.inl km_X10_271, kc_X10_isHere, kn_X10, kd_X10_isHere, ⟨(Nat.le_of_ble_eq_true rfl), (Nat.le_of_ble_eq_true rfl)⟩, ⟨(Nat.le_of_ble_eq_true rfl), (Nat.le_of_ble_eq_true rfl)⟩, (Nat.le_of_ble_eq_true rfl)⟩ ki_X10_isHere ks_X10_isHere rfl (am_tab tk_X10_qTest 28 rfl) rfl ?_
                  rintro r τ ⟨hr, hτ⟩
                  rw [decide_eq_true (show zK b E i = 128 + ((23 : Nat) : Int) from by omega)] at hr
                  rw [am_setN_N] at hτ
                  subst hτ
                  subst hr
                  refine am_st (st2 := [am_i 1]) rfl ?_
                  refine am_if_eq (q := 58) (t := 79) (am_tab tk_X10_qTest 29 rfl) (by decide) rfl (fun h55 => ?_) (fun h55 => ?_)
                  · exact absurd h55 (by decide)
                  · refine am_aload_n (q := 59) rfl (am_tab tk_X10_qTest 30 rfl) rfl ?_
                    refine am_bipush (q := 61) (n := 12) (by decide) rfl (am_tab tk_X10_qTest 31 rfl) rfl ?_
                    refine am_aload_n (q := 62) rfl (am_tab tk_X10_qTest 32 rfl) rfl ?_
                    refine am_getI (q := 65) (a := 55) (k := 10) (n := 108) (j := 2) (x := (zP b E i : Int)) (Ls_55 hZ.1) (by decide) rfl rfl (by decide) (Or.inl kf_X10_254) (am_tab tk_X10_qTest 33 rfl) rfl ?_
                    refine am_callVr (q := 68) (me2 := M_X10_qOpens) (b := 55) (kb := 10) (nb := 108) (As := [am_i 12, am_i ((zP b E i : Int))]) (rest := []) (c_qOpensY rc ws o 0 (am_setN T 55 2 (zP b E i : Int)) hZ.1 (hV.sc ((frw.refl W_sc T).setN (by unfold W_sc; omega))) 12 (zP b E i : Int) hZ.2.2.2.1 (by omega) o6 ho2) ⟨rfl, rfl⟩ (Ls_55 hZ.1) (by decide) ⟨Or.inl km_X10_603, kc_X10_qOpens, kn_X10, kd_X10_qOpens, ⟨(Nat.le_of_ble_eq_true rfl), (Nat.le_of_ble_eq_true rfl)⟩, ⟨(Nat.le_of_ble_eq_true rfl), (Nat.le_of_ble_eq_true rfl)⟩, (Nat.le_of_ble_eq_true rfl)⟩ ki_X10_qOpens ks_X10_qOpens rfl (am_tab tk_X10_qTest 34 rfl) rfl ?_
                    rintro r T5 ⟨rfl, hV5, hF5⟩
                    have hZ5 : ZS b E i T5 := hZ.look.q hF5
                    refine am_st (st2 := []) rfl ?_
                    refine am_aload_n (q := 69) rfl (am_tab tk_X10_qTest 35 rfl) rfl ?_
                    refine am_aload_n (q := 70) rfl (am_tab tk_X10_qTest 36 rfl) rfl ?_
                    refine am_getR (q := 73) (a := 55) (k := 10) (n := 108) (j := 78) (r := some (109)) (Ls_55 hZ5.1) (by decide) rfl (Lr_55_78 hZ5.1) (by decide) (Or.inl kf_X10_179) (am_tab tk_X10_qTest 37 rfl) rfl ?_
                    refine am_callVr (q := 76) (me2 := M_X10_asks) (b := 55) (kb := 10) (nb := 108) (As := [am_r 109]) (rest := []) (c_asksY b E i T5 hZ5 109 23 (by decide) (by omega)) ⟨rfl, rfl⟩ (Ls_55 hZ5.1) (by decide) ⟨Or.inl km_X10_317, kc_X10_asks, kn_X10, kd_X10_asks, ⟨(Nat.le_of_ble_eq_true rfl), (Nat.le_of_ble_eq_true rfl)⟩, ⟨(Nat.le_of_ble_eq_true rfl), (Nat.le_of_ble_eq_true rfl)⟩, (Nat.le_of_ble_eq_true rfl)⟩ ki_X10_asks ks_X10_asks rfl (am_tab tk_X10_qTest 38 rfl) rfl ?_
                    rintro r T6 ⟨rfl, hZ6, hF6⟩
                    refine am_st (st2 := []) rfl ?_
                    refine am_goto (t := 2) (am_tab tk_X10_qTest 39 rfl) (by decide) ?_
                    have hQn : QX b E tk (i + 1) rc (12 :: ws) (o + 1) 0 T6 := ⟨hZ6, hV5.sc hF6, (hF6.2.2 55 53 (by unfold W_sc; omega)).trans ((hF5.2.2 55 53 (by unfold W_q; omega)).trans h53), ⟨by show _ = (if _ then _ else _) + opn ws; rw [if_pos (by omega)]; omega, by omega⟩, by rw [List.length_cons]; omega, zP_on (by omega) hiz⟩
                    have htsn : tsF b E tk (f + 1) i rc ws o = tsF b E tk f (i + 1) rc (12 :: ws) (o + 1) := by
                      conv => lhs; unfold tsF
                      rw [if_neg c1, if_pos c2, if_neg o6]
                    exact am_less (by intro q hq; simp only [List.mem_cons, List.not_mem_nil, or_false] at hq; rcases hq with rfl | rfl <;> simp) (ih2 f (i + 1) rc (12 :: ws) (o + 1) T6 (by omega) hQn (by unfold okX; rw [if_neg (by omega), if_neg (by omega), if_pos rfl]; exact hok) (hF.trans ((W_sc_p ((frw.refl W_sc T).setN (by unfold W_sc; omega))).trans ((W_q_p hF5).trans (W_sc_p hF6)))) (by omega) (by rw [hres]; exact htsn))
                · exact absurd ((sg_iff (by decide)).mp h21) c1
            · by_cases c3 : (facF b E tk i rc o).isLeft = true
              · refine am_aload_n (q := 14) rfl (am_tab tk_X10_qTest 7 rfl) rfl ?_
                refine am_callV0 (q := 17) (me2 := M_X10_look) (b := 55) (kb := 10) (nb := 108) (As := []) (rest := []) (out := [am_i (byt b E i)]) (c_X10_look b E i T hZ.1 hZ.2.2) ⟨rfl, rfl⟩ (Ls_55 hZ.1) (by decide) ⟨Or.inl km_X10_260, kc_X10_look, kn_X10, kd_X10_look, ⟨(Nat.le_of_ble_eq_true rfl), (Nat.le_of_ble_eq_true rfl)⟩, ⟨(Nat.le_of_ble_eq_true rfl), (Nat.le_of_ble_eq_true rfl)⟩, (Nat.le_of_ble_eq_true rfl)⟩ ki_X10_look ks_X10_look rfl rfl (am_tab tk_X10_qTest 8 rfl) rfl ?_
                refine am_istore_n (q := 18) (by decide) (ls2 := [(2, am_i (byt b E i)), (1, am_i 1), (0, am_r 55)]) rfl (am_tab tk_X10_qTest 9 rfl) rfl ?_
                refine am_iload_n (q := 19) rfl (am_tab tk_X10_qTest 10 rfl) rfl ?_
                refine am_bipush (q := 21) (n := 91) (by decide) rfl (am_tab tk_X10_qTest 11 rfl) rfl ?_
                refine am_icmp_ne (q := 24) (t := 47) (am_tab tk_X10_qTest 12 rfl) (by decide) rfl (fun h21 => ?_) (fun h21 => ?_)
                · refine am_aload_n (q := 48) rfl (am_tab tk_X10_qTest 25 rfl) rfl ?_
                  refine am_aload_n (q := 49) rfl (am_tab tk_X10_qTest 26 rfl) rfl ?_
                  refine am_getR (q := 52) (a := 55) (k := 10) (n := 108) (j := 78) (r := some (109)) (Ls_55 hZ.1) (by decide) rfl (Lr_55_78 hZ.1) (by decide) (Or.inl kf_X10_179) (am_tab tk_X10_qTest 27 rfl) rfl ?_
                  refine am_callVr (q := 55) (me2 := M_X10_isHere) (b := 55) (kb := 10) (nb := 108) (As := [am_r 109]) (rest := []) (c_hereX b E i (am_setN T 55 2 (zP b E i : Int)) hZ.look 109 23 (by decide)) ⟨rfl, rfl⟩ (Ls_55 hZ.1) (by decide) ⟨Or.inl km_X10_271, kc_X10_isHere, kn_X10, kd_X10_isHere, ⟨(Nat.le_of_ble_eq_true rfl), (Nat.le_of_ble_eq_true rfl)⟩, ⟨(Nat.le_of_ble_eq_true rfl), (Nat.le_of_ble_eq_true rfl)⟩, (Nat.le_of_ble_eq_true rfl)⟩ ki_X10_isHere ks_X10_isHere rfl (am_tab tk_X10_qTest 28 rfl) rfl ?_
                  rintro r τ ⟨hr, hτ⟩
                  rw [decide_eq_false (show ¬ zK b E i = 128 + ((23 : Nat) : Int) from by omega)] at hr
                  rw [am_setN_N] at hτ
                  subst hτ
                  subst hr
                  refine am_st (st2 := [am_i 0]) rfl ?_
                  refine am_if_eq (q := 58) (t := 79) (am_tab tk_X10_qTest 29 rfl) (by decide) rfl (fun h55 => ?_) (fun h55 => ?_)
                  · have hQz : QX b E tk i rc ws o 0 (am_setN T 55 2 (zP b E i : Int)) := ⟨hZ.look, (hV.sc ((frw.refl W_sc T).setN (by unfold W_sc; omega))), h53, hon, hlen, hiz⟩
                    refine am_aload_n (q := 80) rfl (am_tab tk_X10_qTest 40 rfl) rfl ?_
                    refine am_callVr (q := 83) (me2 := M_X10_qFact) (b := 55) (kb := 10) (nb := 108) (As := []) (rest := []) (c_X10_qFact b E tk htk i rc ws o 0 (am_setN T 55 2 (zP b E i : Int)) hQz (okX_out hok) (by omega)) ⟨rfl, rfl⟩ (Ls_55 hZ.1) (by decide) ⟨Or.inl km_X10_630, kc_X10_qFact, kn_X10, kd_X10_qFact, ⟨(Nat.le_of_ble_eq_true rfl), (Nat.le_of_ble_eq_true rfl)⟩, ⟨(Nat.le_of_ble_eq_true rfl), (Nat.le_of_ble_eq_true rfl)⟩, (Nat.le_of_ble_eq_true rfl)⟩ ki_X10_qFact ks_X10_qFact rfl (am_tab tk_X10_qTest 41 rfl) rfl ?_
                    rintro r T1 ⟨rfl, hPF, hF1⟩
                    obtain ⟨q, hq⟩ := sumL c3
                    rw [hq] at hPF
                    have hX1 : QX b E tk q.1 q.2 ws o 0 T1 := hPF
                    have hqi := facF_i hq
                    have hz1 := zP_rng b E q.1
                    have hw1 := hX1.2.2.2.2
                    have hdn := dnF_len ws q.2 o
                    have hdk := dnF_ok ws q.2 o hok
                    refine am_st (st2 := []) rfl ?_
                    refine am_aload_n (q := 84) rfl (am_tab tk_X10_qTest 42 rfl) rfl ?_
                    refine am_callVr (q := 87) (me2 := M_X10_qDropsNots) (b := 55) (kb := 10) (nb := 108) (As := []) (rest := []) (c_X10_qDropsNots q.2 ws o 0 T1 hX1.1.1 hX1.2.1 (by omega) (by omega) hX1.1.2.2.2.1) ⟨rfl, rfl⟩ (Ls_55 hX1.1.1) (by decide) ⟨Or.inl km_X10_633, kc_X10_qDropsNots, kn_X10, kd_X10_qDropsNots, ⟨(Nat.le_of_ble_eq_true rfl), (Nat.le_of_ble_eq_true rfl)⟩, ⟨(Nat.le_of_ble_eq_true rfl), (Nat.le_of_ble_eq_true rfl)⟩, (Nat.le_of_ble_eq_true rfl)⟩ ki_X10_qDropsNots ks_X10_qDropsNots rfl (am_tab tk_X10_qTest 43 rfl) rfl ?_
                    rintro r T2 ⟨rfl, hV2, hF2⟩
                    have hX2 : QX b E tk q.1 (dnF q.2 ws o).1 (dnF q.2 ws o).2.1 (dnF q.2 ws o).2.2 0 T2 := ⟨hX1.1.q hF2, hV2, (hF2.2.2 55 53 (by unfold W_q; omega)).trans hX1.2.2.1, ⟨by omega, by omega⟩, by omega, hw1.2⟩
                    refine am_st (st2 := []) rfl ?_
                    refine am_aload_n (q := 88) rfl (am_tab tk_X10_qTest 44 rfl) rfl ?_
                    refine am_getI (q := 91) (a := 55) (k := 10) (n := 108) (j := 5) (x := 0) (Ls_55 hX2.1.1) (by decide) rfl hX2.1.2.2.2.1 (by decide) (Or.inl kf_X10_248) (am_tab tk_X10_qTest 45 rfl) rfl ?_
                    refine am_if_ne (q := 94) (t := 105) (am_tab tk_X10_qTest 46 rfl) (by decide) rfl (fun h91 => ?_) (fun h91 => ?_)
                    · exact absurd h91 (by decide)
                    · by_cases c4 : (ggF b E 2000 q.1 (dnF q.2 ws o).1 (dnF q.2 ws o).2.1 (dnF q.2 ws o).2.2).isLeft = true
                      · refine am_aload_n (q := 95) rfl (am_tab tk_X10_qTest 47 rfl) rfl ?_
                        refine am_callVr (q := 98) (me2 := M_X10_qGoesOnTest) (b := 55) (kb := 10) (nb := 108) (As := []) (rest := []) (c_X10_qGoesOnTest b E tk q.1 (dnF q.2 ws o).1 (dnF q.2 ws o).2.1 (dnF q.2 ws o).2.2 T2 hX2 2000 (by omega) hdk) ⟨rfl, rfl⟩ (Ls_55 hX2.1.1) (by decide) ⟨Or.inl km_X10_636, kc_X10_qGoesOnTest, kn_X10, kd_X10_qGoesOnTest, ⟨(Nat.le_of_ble_eq_true rfl), (Nat.le_of_ble_eq_true rfl)⟩, ⟨(Nat.le_of_ble_eq_true rfl), (Nat.le_of_ble_eq_true rfl)⟩, (Nat.le_of_ble_eq_true rfl)⟩ ki_X10_qGoesOnTest ks_X10_qGoesOnTest rfl (am_tab tk_X10_qTest 48 rfl) rfl ?_
                        rintro r T3 ⟨hPG, hF3⟩
                        obtain ⟨g, hg⟩ := sumL c4
                        rw [hg] at hPG
                        obtain ⟨rfl, hX3, hok3⟩ := hPG
                        have hgg := ggF_get hg
                        have hz3 := zP_rng b E g.2.1
                        have hw3 := hX3.2.2.2.2
                        refine am_st (st2 := [am_i (g.1)]) rfl ?_
                        refine am_if_eq (q := 101) (t := 105) (am_tab tk_X10_qTest 49 rfl) (by decide) rfl (fun h98 => ?_) (fun h98 => ?_)
                        · refine am_iconst (q := 106) (n := 0) (by decide) (am_tab tk_X10_qTest 52 rfl) rfl ?_
                          refine am_istore_n (q := 107) (by decide) (ls2 := [(1, am_i 0), (2, am_i (byt b E i)), (0, am_r 55)]) rfl (am_tab tk_X10_qTest 53 rfl) rfl ?_
                          refine am_goto (t := 2) (am_tab tk_X10_qTest 54 rfl) (by decide) ?_
                          refine am_iload_n (q := 3) rfl (am_tab tk_X10_qTest 2 rfl) rfl ?_
                          refine am_if_eq (q := 6) (t := 110) (am_tab tk_X10_qTest 3 rfl) (by decide) rfl (fun h3 => ?_) (fun h3 => ?_)
                          · have hm0 : g.1 = 0 := h98
                            have L110 : ∀ (n110 : Nat) (t : List Int) (c : List Int) (T8 : am_H), t.length < n110 → QV c t g.2.2.2.2 0 T8 → frw W_q T3 T8 → c.length + t.length = g.2.2.1.length + g.2.2.2.1.length → daF g.2.2.1 g.2.2.2.1 = daF c t → am_wp M_X10_qTest Q 0 0 110 [(0, am_r 55)] [] T8 := by
                              intro n110
                              induction n110 with
                              | zero => intro t c T8 hn110; exact absurd hn110 (Nat.not_lt_zero _)
                              | succ n110 ih110 =>
                                intro t c T8 hn110 hV8 hF8 hlc hda
                                have hL8 : lay T8 := hF8.L hX3.1.1
                                have h85 : T8.2.1 55 5 = 0 := (hF8.2.2 55 5 (by unfold W_q; omega)).trans hX3.1.2.2.2.1
                                refine am_aload_n (q := 111) rfl (am_tab tk_X10_qTest 55 rfl) rfl ?_
                                refine am_getI (q := 114) (a := 55) (k := 10) (n := 108) (j := 5) (x := 0) (Ls_55 hL8) (by decide) rfl h85 (by decide) (Or.inl kf_X10_248) (am_tab tk_X10_qTest 56 rfl) rfl ?_
                                refine am_if_ne (q := 117) (t := 131) (am_tab tk_X10_qTest 57 rfl) (by decide) rfl (fun h114 => ?_) (fun h114 => ?_)
                                · exact absurd h114 (by decide)
                                · refine am_aload_n (q := 118) rfl (am_tab tk_X10_qTest 58 rfl) rfl ?_
                                  refine am_getI (q := 121) (a := 55) (k := 10) (n := 108) (j := 99) (x := (t.length : Int)) (Ls_55 hL8) (by decide) rfl hV8.2.2.1 (by decide) (Or.inl kf_X10_339) (am_tab tk_X10_qTest 59 rfl) rfl ?_
                                  refine am_if_le (q := 124) (t := 131) (am_tab tk_X10_qTest 60 rfl) (by decide) rfl (fun h121 => ?_) (fun h121 => ?_)
                                  · refine am_vret rfl (Nat.le_of_ble_eq_true rfl) (Nat.le_of_ble_eq_true rfl) (am_tab tk_X10_qTest 64 rfl) ?_
                                    refine hQ _ _ ?_
                                    have ht0 : t = [] := List.eq_nil_of_length_eq_zero (by omega)
                                    rw [hres, tsF_on c1 c2 hq hg, if_pos hm0, hda]
                                    rw [ht0] at hV8 ⊢
                                    have hoo : g.2.2.2.2 = 0 := by
                                      have h9 := okX_nosq _ hok3 (hgg.2 hm0)
                                      have h7 := hX3.2.2.2.1
                                      omega
                                    rw [hoo] at hV8
                                    refine ⟨rfl, ⟨hX3.1.q hF8, hV8, (hF8.2.2 55 53 (by unfold W_q; omega)).trans hX3.2.2.1, ⟨rfl, by omega⟩, ?_, hw3.2⟩, hF.trans ((W_sc_p ((frw.refl W_sc T).setN (by unfold W_sc; omega))).trans (hF1.trans ((W_q_p hF2).trans (hF3.trans (W_q_p hF8)))))⟩
                                    show c.length + ([] : List Int).length ≤ g.2.1
                                    rw [ht0] at hlc
                                    simp only [List.length_nil] at hlc ⊢
                                    omega
                                  · refine am_aload_n (q := 125) rfl (am_tab tk_X10_qTest 61 rfl) rfl ?_
                                    refine am_callVr (q := 128) (me2 := M_X10_qDrops) (b := 55) (kb := 10) (nb := 108) (As := []) (rest := []) (c_dropW c t g.2.2.2.2 0 T8 hL8 hV8 (by omega) (by omega) (by omega)) ⟨rfl, rfl⟩ (Ls_55 hL8) (by decide) ⟨Or.inl km_X10_591, kc_X10_qDrops, kn_X10, kd_X10_qDrops, ⟨(Nat.le_of_ble_eq_true rfl), (Nat.le_of_ble_eq_true rfl)⟩, ⟨(Nat.le_of_ble_eq_true rfl), (Nat.le_of_ble_eq_true rfl)⟩, (Nat.le_of_ble_eq_true rfl)⟩ ki_X10_qDrops ks_X10_qDrops rfl (am_tab tk_X10_qTest 62 rfl) rfl ?_
                                    rintro r T9 ⟨rfl, hV9, hF9⟩
                                    refine am_st (st2 := []) rfl ?_
                                    refine am_goto (t := 110) (am_tab tk_X10_qTest 63 rfl) (by decide) ?_
                                    exact am_less (by intro q hq; simp only [List.mem_cons, List.not_mem_nil, or_false] at hq; rcases hq with rfl <;> simp) (ih110 (t.tail) (t.headD 0 :: c) T9 (by rw [List.length_tail]; omega) hV9 (hF8.trans hF9) (by rw [List.length_cons, List.length_tail]; omega) (by rw [hda]; cases t with | nil => exact absurd h121 (by simp) | cons x t => rfl))
                            refine am_less (by intro q hq; simp only [List.mem_cons, List.not_mem_nil, or_false] at hq; rcases hq with rfl <;> simp) (L110 (_ + 1) (g.2.2.2.1) (g.2.2.1) T3 (by exact Nat.lt_succ_self _) hX3.2.1 (frw.refl _ T3) rfl rfl)
                          · exact absurd h3 (by decide)
                        · refine am_iconst (q := 102) (n := 1) (by decide) (am_tab tk_X10_qTest 50 rfl) rfl ?_
                          refine am_goto (t := 106) (am_tab tk_X10_qTest 51 rfl) (by decide) ?_
                          refine am_istore_n (q := 107) (by decide) (ls2 := [(1, am_i 1), (2, am_i (byt b E i)), (0, am_r 55)]) rfl (am_tab tk_X10_qTest 53 rfl) rfl ?_
                          refine am_goto (t := 2) (am_tab tk_X10_qTest 54 rfl) (by decide) ?_
                          exact am_less (by intro q hq; simp only [List.mem_cons, List.not_mem_nil, or_false] at hq; rcases hq with rfl | rfl <;> simp) (ih2 f (g.2.1) (g.2.2.1) (g.2.2.2.1) (g.2.2.2.2) T3 (by omega) hX3 (okX_mono _ hok3) (hF.trans ((W_sc_p ((frw.refl W_sc T).setN (by unfold W_sc; omega))).trans (hF1.trans ((W_q_p hF2).trans hF3)))) (by omega) (by rw [hres, tsF_on c1 c2 hq hg, if_neg h98]))
                      · refine am_aload_n (q := 95) rfl (am_tab tk_X10_qTest 47 rfl) rfl ?_
                        refine am_callVr (q := 98) (me2 := M_X10_qGoesOnTest) (b := 55) (kb := 10) (nb := 108) (As := []) (rest := []) (c_X10_qGoesOnTest b E tk q.1 (dnF q.2 ws o).1 (dnF q.2 ws o).2.1 (dnF q.2 ws o).2.2 T2 hX2 2000 (by omega) hdk) ⟨rfl, rfl⟩ (Ls_55 hX2.1.1) (by decide) ⟨Or.inl km_X10_636, kc_X10_qGoesOnTest, kn_X10, kd_X10_qGoesOnTest, ⟨(Nat.le_of_ble_eq_true rfl), (Nat.le_of_ble_eq_true rfl)⟩, ⟨(Nat.le_of_ble_eq_true rfl), (Nat.le_of_ble_eq_true rfl)⟩, (Nat.le_of_ble_eq_true rfl)⟩ ki_X10_qGoesOnTest ks_X10_qGoesOnTest rfl (am_tab tk_X10_qTest 48 rfl) rfl ?_
                        rintro r T3 ⟨hPG, hF3⟩
                        obtain ⟨e, he⟩ := sumR c4
                        rw [he] at hPG
                        obtain ⟨rfl, hB⟩ := hPG
                        refine am_st (st2 := [am_i 0]) rfl ?_
                        refine am_if_eq (q := 101) (t := 105) (am_tab tk_X10_qTest 49 rfl) (by decide) rfl (fun h98 => ?_) (fun h98 => ?_)
                        · refine am_iconst (q := 106) (n := 0) (by decide) (am_tab tk_X10_qTest 52 rfl) rfl ?_
                          refine am_istore_n (q := 107) (by decide) (ls2 := [(1, am_i 0), (2, am_i (byt b E i)), (0, am_r 55)]) rfl (am_tab tk_X10_qTest 53 rfl) rfl ?_
                          refine am_goto (t := 2) (am_tab tk_X10_qTest 54 rfl) (by decide) ?_
                          refine am_iload_n (q := 3) rfl (am_tab tk_X10_qTest 2 rfl) rfl ?_
                          refine am_if_eq (q := 6) (t := 110) (am_tab tk_X10_qTest 3 rfl) (by decide) rfl (fun h3 => ?_) (fun h3 => ?_)
                          · refine am_aload_n (q := 111) rfl (am_tab tk_X10_qTest 55 rfl) rfl ?_
                            refine am_getI (q := 114) (a := 55) (k := 10) (n := 108) (j := 5) (x := e.1) (Ls_55 hB.1.1) (by decide) rfl hB.1.2.2.2.1 (by decide) (Or.inl kf_X10_248) (am_tab tk_X10_qTest 56 rfl) rfl ?_
                            refine am_if_ne (q := 117) (t := 131) (am_tab tk_X10_qTest 57 rfl) (by decide) rfl (fun h114 => ?_) (fun h114 => ?_)
                            · refine am_vret rfl (Nat.le_of_ble_eq_true rfl) (Nat.le_of_ble_eq_true rfl) (am_tab tk_X10_qTest 64 rfl) ?_
                              refine hQ _ _ ?_
                              rw [hres, tsF_bad2 c1 c2 hq he]
                              exact ⟨rfl, ⟨hB.1, by have := hB.2.1; omega, by have := hB.2.2; omega⟩, hF.trans ((W_sc_p ((frw.refl W_sc T).setN (by unfold W_sc; omega))).trans (hF1.trans ((W_q_p hF2).trans hF3)))⟩
                            · exact absurd h114 hB.1.2.2.2.2.1
                          · exact absurd h3 (by decide)
                        · exact absurd h98 (by decide)
                  · exact absurd h55 (by decide)
                · exact absurd ((sg_iff (by decide)).mp h21) c1
              · refine am_aload_n (q := 14) rfl (am_tab tk_X10_qTest 7 rfl) rfl ?_
                refine am_callV0 (q := 17) (me2 := M_X10_look) (b := 55) (kb := 10) (nb := 108) (As := []) (rest := []) (out := [am_i (byt b E i)]) (c_X10_look b E i T hZ.1 hZ.2.2) ⟨rfl, rfl⟩ (Ls_55 hZ.1) (by decide) ⟨Or.inl km_X10_260, kc_X10_look, kn_X10, kd_X10_look, ⟨(Nat.le_of_ble_eq_true rfl), (Nat.le_of_ble_eq_true rfl)⟩, ⟨(Nat.le_of_ble_eq_true rfl), (Nat.le_of_ble_eq_true rfl)⟩, (Nat.le_of_ble_eq_true rfl)⟩ ki_X10_look ks_X10_look rfl rfl (am_tab tk_X10_qTest 8 rfl) rfl ?_
                refine am_istore_n (q := 18) (by decide) (ls2 := [(2, am_i (byt b E i)), (1, am_i 1), (0, am_r 55)]) rfl (am_tab tk_X10_qTest 9 rfl) rfl ?_
                refine am_iload_n (q := 19) rfl (am_tab tk_X10_qTest 10 rfl) rfl ?_
                refine am_bipush (q := 21) (n := 91) (by decide) rfl (am_tab tk_X10_qTest 11 rfl) rfl ?_
                refine am_icmp_ne (q := 24) (t := 47) (am_tab tk_X10_qTest 12 rfl) (by decide) rfl (fun h21 => ?_) (fun h21 => ?_)
                · refine am_aload_n (q := 48) rfl (am_tab tk_X10_qTest 25 rfl) rfl ?_
                  refine am_aload_n (q := 49) rfl (am_tab tk_X10_qTest 26 rfl) rfl ?_
                  refine am_getR (q := 52) (a := 55) (k := 10) (n := 108) (j := 78) (r := some (109)) (Ls_55 hZ.1) (by decide) rfl (Lr_55_78 hZ.1) (by decide) (Or.inl kf_X10_179) (am_tab tk_X10_qTest 27 rfl) rfl ?_
                  refine am_callVr (q := 55) (me2 := M_X10_isHere) (b := 55) (kb := 10) (nb := 108) (As := [am_r 109]) (rest := []) (c_hereX b E i (am_setN T 55 2 (zP b E i : Int)) hZ.look 109 23 (by decide)) ⟨rfl, rfl⟩ (Ls_55 hZ.1) (by decide) ⟨Or.inl km_X10_271, kc_X10_isHere, kn_X10, kd_X10_isHere, ⟨(Nat.le_of_ble_eq_true rfl), (Nat.le_of_ble_eq_true rfl)⟩, ⟨(Nat.le_of_ble_eq_true rfl), (Nat.le_of_ble_eq_true rfl)⟩, (Nat.le_of_ble_eq_true rfl)⟩ ki_X10_isHere ks_X10_isHere rfl (am_tab tk_X10_qTest 28 rfl) rfl ?_
                  rintro r τ ⟨hr, hτ⟩
                  rw [decide_eq_false (show ¬ zK b E i = 128 + ((23 : Nat) : Int) from by omega)] at hr
                  rw [am_setN_N] at hτ
                  subst hτ
                  subst hr
                  refine am_st (st2 := [am_i 0]) rfl ?_
                  refine am_if_eq (q := 58) (t := 79) (am_tab tk_X10_qTest 29 rfl) (by decide) rfl (fun h55 => ?_) (fun h55 => ?_)
                  · have hQz : QX b E tk i rc ws o 0 (am_setN T 55 2 (zP b E i : Int)) := ⟨hZ.look, (hV.sc ((frw.refl W_sc T).setN (by unfold W_sc; omega))), h53, hon, hlen, hiz⟩
                    refine am_aload_n (q := 80) rfl (am_tab tk_X10_qTest 40 rfl) rfl ?_
                    refine am_callVr (q := 83) (me2 := M_X10_qFact) (b := 55) (kb := 10) (nb := 108) (As := []) (rest := []) (c_X10_qFact b E tk htk i rc ws o 0 (am_setN T 55 2 (zP b E i : Int)) hQz (okX_out hok) (by omega)) ⟨rfl, rfl⟩ (Ls_55 hZ.1) (by decide) ⟨Or.inl km_X10_630, kc_X10_qFact, kn_X10, kd_X10_qFact, ⟨(Nat.le_of_ble_eq_true rfl), (Nat.le_of_ble_eq_true rfl)⟩, ⟨(Nat.le_of_ble_eq_true rfl), (Nat.le_of_ble_eq_true rfl)⟩, (Nat.le_of_ble_eq_true rfl)⟩ ki_X10_qFact ks_X10_qFact rfl (am_tab tk_X10_qTest 41 rfl) rfl ?_
                    rintro r T1 ⟨rfl, hPF, hF1⟩
                    obtain ⟨e, he⟩ := sumR c3
                    rw [he] at hPF
                    have hB : QB b E e.1 e.2 1670 T1 := hPF
                    refine am_st (st2 := []) rfl ?_
                    refine am_aload_n (q := 84) rfl (am_tab tk_X10_qTest 42 rfl) rfl ?_
                    refine am_callV0 (q := 87) (me2 := M_X10_qDropsNots) (b := 55) (kb := 10) (nb := 108) (As := []) (rest := []) (out := []) (c_qDropsNots0 T1 hB.1.1 (by rw [hB.1.2.2.2.1]; exact hB.1.2.2.2.2.1)) ⟨rfl, rfl⟩ (Ls_55 hB.1.1) (by decide) ⟨Or.inl km_X10_633, kc_X10_qDropsNots, kn_X10, kd_X10_qDropsNots, ⟨(Nat.le_of_ble_eq_true rfl), (Nat.le_of_ble_eq_true rfl)⟩, ⟨(Nat.le_of_ble_eq_true rfl), (Nat.le_of_ble_eq_true rfl)⟩, (Nat.le_of_ble_eq_true rfl)⟩ ki_X10_qDropsNots ks_X10_qDropsNots rfl rfl (am_tab tk_X10_qTest 43 rfl) rfl ?_
                    refine am_aload_n (q := 88) rfl (am_tab tk_X10_qTest 44 rfl) rfl ?_
                    refine am_getI (q := 91) (a := 55) (k := 10) (n := 108) (j := 5) (x := e.1) (Ls_55 hB.1.1) (by decide) rfl hB.1.2.2.2.1 (by decide) (Or.inl kf_X10_248) (am_tab tk_X10_qTest 45 rfl) rfl ?_
                    refine am_if_ne (q := 94) (t := 105) (am_tab tk_X10_qTest 46 rfl) (by decide) rfl (fun h91 => ?_) (fun h91 => ?_)
                    · refine am_iconst (q := 106) (n := 0) (by decide) (am_tab tk_X10_qTest 52 rfl) rfl ?_
                      refine am_istore_n (q := 107) (by decide) (ls2 := [(1, am_i 0), (2, am_i (byt b E i)), (0, am_r 55)]) rfl (am_tab tk_X10_qTest 53 rfl) rfl ?_
                      refine am_goto (t := 2) (am_tab tk_X10_qTest 54 rfl) (by decide) ?_
                      refine am_iload_n (q := 3) rfl (am_tab tk_X10_qTest 2 rfl) rfl ?_
                      refine am_if_eq (q := 6) (t := 110) (am_tab tk_X10_qTest 3 rfl) (by decide) rfl (fun h3 => ?_) (fun h3 => ?_)
                      · refine am_aload_n (q := 111) rfl (am_tab tk_X10_qTest 55 rfl) rfl ?_
                        refine am_getI (q := 114) (a := 55) (k := 10) (n := 108) (j := 5) (x := e.1) (Ls_55 hB.1.1) (by decide) rfl hB.1.2.2.2.1 (by decide) (Or.inl kf_X10_248) (am_tab tk_X10_qTest 56 rfl) rfl ?_
                        refine am_if_ne (q := 117) (t := 131) (am_tab tk_X10_qTest 57 rfl) (by decide) rfl (fun h114 => ?_) (fun h114 => ?_)
                        · refine am_vret rfl (Nat.le_of_ble_eq_true rfl) (Nat.le_of_ble_eq_true rfl) (am_tab tk_X10_qTest 64 rfl) ?_
                          refine hQ _ _ ?_
                          rw [hres, tsF_bad1 c1 c2 he]
                          exact ⟨rfl, ⟨hB.1, by have := hB.2.1; omega, by have := hB.2.2; omega⟩, hF.trans ((W_sc_p ((frw.refl W_sc T).setN (by unfold W_sc; omega))).trans hF1)⟩
                        · exact absurd h114 hB.1.2.2.2.2.1
                      · exact absurd h3 (by decide)
                    · exact absurd h91 hB.1.2.2.2.2.1
                  · exact absurd h55 (by decide)
                · exact absurd ((sg_iff (by decide)).mp h21) c1
  refine am_less (by intro q hq; simp only [List.mem_cons, List.not_mem_nil, or_false] at hq; rcases hq with rfl | rfl <;> simp) (L2 (_ + 1) f0 i0 rc0 ws0 o0 S (by exact Nat.lt_succ_self _) hQ0 hok0 (frw.refl _ S) hf0 rfl)
