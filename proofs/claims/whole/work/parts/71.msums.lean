theorem sumL {α β : Type} {x : α ⊕ β} (h : x.isLeft = true) : ∃ y, x = .inl y := by
  cases x with
  | inl y => exact ⟨y, rfl⟩
  | inr y => exact absurd h (by simp)
theorem sumR {α β : Type} {x : α ⊕ β} (h : ¬ x.isLeft = true) : ∃ y, x = .inr y := by
  cases x with
  | inl y => exact absurd rfl h
  | inr y => exact ⟨y, rfl⟩
def daF : List Int → List Int → List Int
  | rc, [] => rc
  | rc, w :: t => daF (w :: rc) t
/-- a sum: where it ends, the codes then -/
def smF (b : Nat → Int) (E : Nat) (tk : Int) : Nat → Nat → List Int → List Int → Int → (Nat × List Int) ⊕ (Int × Int)
  | 0, _, _, _, _ => .inr (0, 0)
  | f + 1, i, rc, ws, o => match partF b E tk 2000 i rc ws o with
    | .inr e => .inr e
    | .inl q => match goesF b E 2000 q.1 q.2.1 q.2.2.1 q.2.2.2 with
      | .inr e => .inr e
      | .inl g => if g.1 = 0 then .inl (g.2.1, daF g.2.2.1 g.2.2.2.1) else smF b E tk f g.2.1 g.2.2.1 g.2.2.2.1 g.2.2.2.2
theorem smF_bad1 {b : Nat → Int} {E : Nat} {tk : Int} {f i : Nat} {rc ws : List Int} {o : Int} {e : Int × Int} (h : partF b E tk 2000 i rc ws o = .inr e) : smF b E tk (f + 1) i rc ws o = .inr e := by
  unfold smF
  rw [h]
theorem smF_bad2 {b : Nat → Int} {E : Nat} {tk : Int} {f i : Nat} {rc ws : List Int} {o : Int} {q : QZ} {e : Int × Int} (h : partF b E tk 2000 i rc ws o = .inl q) (h2 : goesF b E 2000 q.1 q.2.1 q.2.2.1 q.2.2.2 = .inr e) : smF b E tk (f + 1) i rc ws o = .inr e := by
  unfold smF
  rw [h]
  simp only
  rw [h2]
theorem smF_on {b : Nat → Int} {E : Nat} {tk : Int} {f i : Nat} {rc ws : List Int} {o : Int} {q : QZ} {g : Int × QZ} (h : partF b E tk 2000 i rc ws o = .inl q) (h2 : goesF b E 2000 q.1 q.2.1 q.2.2.1 q.2.2.2 = .inl g) : smF b E tk (f + 1) i rc ws o = if g.1 = 0 then .inl (g.2.1, daF g.2.2.1 g.2.2.2.1) else smF b E tk f g.2.1 g.2.2.1 g.2.2.2.1 g.2.2.2.2 := by
  conv => lhs; unfold smF
  rw [h]
  simp only
  rw [h2]
theorem partF_i {b : Nat → Int} {E : Nat} {tk : Int} : ∀ (f i : Nat) (rc ws : List Int) (o : Int) (q : QZ), partF b E tk f i rc ws o = .inl q → i + 1 ≤ q.1
  | 0, _, _, _, _, q, h => by unfold partF at h; exact absurd h (by simp)
  | f + 1, i, rc, ws, o, q, h => by
    unfold partF at h
    split at h
    · split at h
      · exact absurd h (by simp)
      · have := partF_i f _ _ _ _ q h; omega
    · split at h
      · split at h
        · split at h
          · exact absurd h (by simp)
          · have := partF_i f _ _ _ _ q h; omega
        · exact absurd h (by simp)
      · split at h
        · split at h
          · exact absurd h (by simp)
          · have := partF_i f _ _ _ _ q h; omega
        · unfold leafF at h
          split at h
          · rw [← Sum.inl.inj h]; exact Nat.le_refl _
          · split at h
            · rw [← Sum.inl.inj h]; exact Nat.le_refl _
            · exact absurd h (by simp)
theorem clsF_i (b : Nat → Int) (E : Nat) : ∀ (f i : Nat) (rc ws : List Int) (o : Int), i ≤ (clsF b E f i rc ws o).1
  | 0, _, _, _, _ => Nat.le_refl _
  | f + 1, i, rc, ws, o => by
    unfold clsF
    split
    · have := clsF_i b E f (i + 1) (clE rc ws o).1 (clE rc ws o).2.1 (clE rc ws o).2.2
      omega
    · exact Nat.le_refl _
theorem gtF_get {b : Nat → Int} {E i : Nat} {rc ws : List Int} {o : Int} {g : Int × QZ} (h : gtF b E i rc ws o = .inl g) : i ≤ g.2.1 ∧ (g.1 = 0 → brF g.2.2.2.1 = -1) := by
  unfold gtF at h
  split at h
  · rw [← Sum.inl.inj h]; exact ⟨Nat.le_succ _, fun h => absurd h (show ¬ (1 : Int) = 0 by decide)⟩
  · split at h
    · rw [← Sum.inl.inj h]; exact ⟨Nat.le_succ _, fun h => absurd h (show ¬ (1 : Int) = 0 by decide)⟩
    · split at h
      · split at h
        · rw [← Sum.inl.inj h]; exact ⟨Nat.le_succ _, fun h => absurd h (show ¬ (1 : Int) = 0 by decide)⟩
        · exact absurd h (by simp)
      · split at h
        · exact absurd h (by simp)
        · rename_i h9
          rw [← Sum.inl.inj h]; exact ⟨Nat.le_refl _, fun _ => Classical.not_not.mp h9⟩
theorem goesF_get {b : Nat → Int} {E f i : Nat} {rc ws : List Int} {o : Int} {g : Int × QZ} (h : goesF b E f i rc ws o = .inl g) : i ≤ g.2.1 ∧ (g.1 = 0 → brF g.2.2.2.1 = -1) := by
  have h1 := gtF_get h
  have h2 := clsF_i b E f i rc ws o
  exact ⟨by omega, h1.2⟩
theorem okS_nobr : ∀ ws, okS false ws = true → brF ws = -1 → opn ws = 0
  | [], _, _ => rfl
  | w :: t, h, hb => by
    unfold brF at hb
    unfold okS at h
    by_cases h1 : 1 ≤ w ∧ w ≤ 4
    · rw [if_pos h1] at h
      rw [if_neg (by unfold isBr; simp only [decide_eq_true_eq]; omega)] at hb
      have ih := okS_nobr t h hb
      show (if w = 12 ∨ 20 ≤ w then 1 else 0) + opn t = 0
      rw [if_neg (by omega)]
      omega
    · rw [if_neg h1] at h
      by_cases h2 : 20 ≤ w ∧ w ≤ 24
      · rw [if_pos (by unfold isBr; simp only [decide_eq_true_eq]; omega)] at hb
        omega
      · rw [if_neg h2] at h
        simp at h
theorem okS_mono : ∀ ws, okS false ws = true → okS true ws = true
  | [], _ => rfl
  | w :: t, h => by
    unfold okS at h ⊢
    split
    · rename_i h1; rw [if_pos h1] at h; exact h
    · rename_i h1
      rw [if_neg h1] at h
      split
      · rename_i h2; rw [if_pos h2] at h; exact h
      · rename_i h2
        rw [if_neg h2] at h
        simp at h
def QX (b : Nat → Int) (E : Nat) (tk : Int) (i : Nat) (rc out : List Int) (o bs : Int) (S : am_H) : Prop := ZS b E i S ∧ QV rc out o bs S ∧ S.2.1 55 53 = tk ∧ (o = opn out ∧ o ≤ 6) ∧ rc.length + out.length ≤ i ∧ i ≤ zP b E i
def PX (b : Nat → Int) (E : Nat) (tk : Int) (out : List Int) (o bs : Int) (S : am_H) : (Nat × List Int) ⊕ (Int × Int) → Prop
  | .inl q => QX b E tk q.1 q.2 out o bs S
  | .inr e => QB b E e.1 e.2 1660 S
theorem c_X10_qSums (b : Nat → Int) (E : Nat) (tk : Int) (htk : 0 ≤ tk ∧ tk ≤ 2) (i0 : Nat) (rc0 out : List Int) (o0 bs0 : Int) (S : am_H) (hQ0 : QX b E tk i0 rc0 out o0 bs0 S)  (f0 : Nat) (hf0 : 1700 ≤ f0 + i0) (hout : ∀ x, 1 ≤ x → x ≤ 4 → onT out x = false) : am_met M_X10_qSums [am_r 55] S (fun r σ' => r = none ∧ PX b E tk out o0 bs0 σ' (smF b E tk f0 i0 rc0 [] o0) ∧ frw W_p S σ') := by
  refine am_qq (fun Q hQ => ?_)
  refine am_enter (show plainFor yX10_qSums = true by decide +kernel) rfl (Nat.le_of_ble_eq_true rfl) (fun _ _ _ => trivial) ?_
  have hL := hQ0.1.1
  refine am_aload_n (q := 1) rfl (am_tab tk_X10_qSums 0 rfl) rfl ?_
  refine am_getI (q := 4) (a := 55) (k := 10) (n := 108) (j := 101) (x := bs0) (Ls_55 hL) (by decide) rfl hQ0.2.1.2.2.2.2.2 (by decide) (Or.inl kf_X10_345) (am_tab tk_X10_qSums 1 rfl) rfl ?_
  refine am_istore_n (q := 5) (by decide) (ls2 := [(1, am_i bs0), (0, am_r 55)]) rfl (am_tab tk_X10_qSums 2 rfl) rfl ?_
  refine am_aload_n (q := 6) rfl (am_tab tk_X10_qSums 3 rfl) rfl ?_
  refine am_aload_n (q := 7) rfl (am_tab tk_X10_qSums 4 rfl) rfl ?_
  refine am_getI (q := 10) (a := 55) (k := 10) (n := 108) (j := 99) (x := (out.length : Int)) (Ls_55 hL) (by decide) rfl hQ0.2.1.2.2.1 (by decide) (Or.inl kf_X10_339) (am_tab tk_X10_qSums 5 rfl) rfl ?_
  refine am_putI (q := 13) (k := 10) (n := 108) (j := 101) (Ls_55 hL) (by decide) rfl (by decide) (Or.inl ⟨kf_X10_345, rfl⟩) (am_tab tk_X10_qSums 6 rfl) rfl ?_
  refine am_iconst (q := 14) (n := 1) (by decide) (am_tab tk_X10_qSums 7 rfl) rfl ?_
  refine am_istore_n (q := 15) (by decide) (ls2 := [(2, am_i 1), (1, am_i bs0), (0, am_r 55)]) rfl (am_tab tk_X10_qSums 8 rfl) rfl ?_
  have L15 : ∀ (n15 : Nat) (f : Nat) (i : Nat) (rc : List Int) (ws : List Int) (o : Int) (T : am_H), 1700 - i < n15 → QT b E tk i rc ws out o T → okS true ws = true → frw W_p S T → 1700 ≤ f + i → smF b E tk f0 i0 rc0 [] o0 = smF b E tk f i rc ws o → am_wp M_X10_qSums Q 0 0 15 [(2, am_i 1), (1, am_i bs0), (0, am_r 55)] [] T := by
    intro n15
    induction n15 with
    | zero => intro f i rc ws o T hn15; exact absurd hn15 (Nat.not_lt_zero _)
    | succ n15 ih15 =>
      intro f i rc ws o T hn15 hQT hok hF hfi hres
      have hlen := hQT.2.2.2.2.1
      have hiz := hQT.2.2.2.2.2
      have hzp := zP_rng b E i
      have hE := hQT.1.2.2.1.2.2.1
      obtain ⟨f, rfl⟩ : ∃ g, f = g + 1 := ⟨f - 1, by omega⟩
      refine am_iload_n (q := 16) rfl (am_tab tk_X10_qSums 9 rfl) rfl ?_
      refine am_if_eq (q := 19) (t := 53) (am_tab tk_X10_qSums 10 rfl) (by decide) rfl (fun h16 => ?_) (fun h16 => ?_)
      · exact absurd h16 (by decide)
      · refine am_aload_n (q := 20) rfl (am_tab tk_X10_qSums 11 rfl) rfl ?_
        refine am_getI (q := 23) (a := 55) (k := 10) (n := 108) (j := 5) (x := 0) (Ls_55 hQT.1.1) (by decide) rfl hQT.1.2.2.2.1 (by decide) (Or.inl kf_X10_248) (am_tab tk_X10_qSums 12 rfl) rfl ?_
        refine am_if_ne (q := 26) (t := 53) (am_tab tk_X10_qSums 13 rfl) (by decide) rfl (fun h23 => ?_) (fun h23 => ?_)
        · exact absurd h23 (by decide)
        · by_cases c1 : (partF b E tk 2000 i rc ws o).isLeft = true
          · refine am_aload_n (q := 27) rfl (am_tab tk_X10_qSums 14 rfl) rfl ?_
            refine am_callVr (q := 30) (me2 := M_X10_qPartTold) (b := 55) (kb := 10) (nb := 108) (As := []) (rest := []) (c_X10_qPartTold b E tk htk i rc ws out o T hQT 2000 (by omega)) ⟨rfl, rfl⟩ (Ls_55 hQT.1.1) (by decide) ⟨Or.inl km_X10_621, kc_X10_qPartTold, kn_X10, kd_X10_qPartTold, ⟨(Nat.le_of_ble_eq_true rfl), (Nat.le_of_ble_eq_true rfl)⟩, ⟨(Nat.le_of_ble_eq_true rfl), (Nat.le_of_ble_eq_true rfl)⟩, (Nat.le_of_ble_eq_true rfl)⟩ ki_X10_qPartTold ks_X10_qPartTold rfl (am_tab tk_X10_qSums 15 rfl) rfl ?_
            rintro r T1 ⟨rfl, hPR, hF1⟩
            obtain ⟨q, hq⟩ := sumL c1
            rw [hq] at hPR
            have hQ1 : QT b E tk q.1 q.2.1 q.2.2.1 out q.2.2.2 T1 := hPR
            have hqi := partF_i _ _ _ _ _ _ hq
            have hok1 := partF_ok _ _ _ _ _ _ hok hq
            have hz1 := zP_rng b E q.1
            have hq5 := hQ1.2.2.2.2.2
            refine am_st (st2 := []) rfl ?_
            refine am_aload_n (q := 31) rfl (am_tab tk_X10_qSums 16 rfl) rfl ?_
            refine am_getI (q := 34) (a := 55) (k := 10) (n := 108) (j := 5) (x := 0) (Ls_55 hQ1.1.1) (by decide) rfl hQ1.1.2.2.2.1 (by decide) (Or.inl kf_X10_248) (am_tab tk_X10_qSums 17 rfl) rfl ?_
            refine am_if_ne (q := 37) (t := 48) (am_tab tk_X10_qSums 18 rfl) (by decide) rfl (fun h34 => ?_) (fun h34 => ?_)
            · exact absurd h34 (by decide)
            · by_cases c2 : (goesF b E 2000 q.1 q.2.1 q.2.2.1 q.2.2.2).isLeft = true
              · refine am_aload_n (q := 38) rfl (am_tab tk_X10_qSums 19 rfl) rfl ?_
                refine am_callVr (q := 41) (me2 := M_X10_qGoesOn) (b := 55) (kb := 10) (nb := 108) (As := []) (rest := []) (c_X10_qGoesOn b E tk htk q.1 q.2.1 q.2.2.1 out q.2.2.2 T1 hQ1 2000 (by omega) hok1 hout) ⟨rfl, rfl⟩ (Ls_55 hQ1.1.1) (by decide) ⟨Or.inl km_X10_624, kc_X10_qGoesOn, kn_X10, kd_X10_qGoesOn, ⟨(Nat.le_of_ble_eq_true rfl), (Nat.le_of_ble_eq_true rfl)⟩, ⟨(Nat.le_of_ble_eq_true rfl), (Nat.le_of_ble_eq_true rfl)⟩, (Nat.le_of_ble_eq_true rfl)⟩ ki_X10_qGoesOn ks_X10_qGoesOn rfl (am_tab tk_X10_qSums 20 rfl) rfl ?_
                rintro r T2 ⟨hPG, hF2⟩
                obtain ⟨g, hg⟩ := sumL c2
                rw [hg] at hPG
                obtain ⟨rfl, hQ2, hok2⟩ := hPG
                have hgg := goesF_get hg
                have hz2 := zP_rng b E g.2.1
                have hq6 := hQ2.2.2.2.2.2
                refine am_st (st2 := [am_i (g.1)]) rfl ?_
                refine am_if_eq (q := 44) (t := 48) (am_tab tk_X10_qSums 21 rfl) (by decide) rfl (fun h41 => ?_) (fun h41 => ?_)
                · refine am_iconst (q := 49) (n := 0) (by decide) (am_tab tk_X10_qSums 24 rfl) rfl ?_
                  refine am_istore_n (q := 50) (by decide) (ls2 := [(2, am_i 0), (1, am_i bs0), (0, am_r 55)]) rfl (am_tab tk_X10_qSums 25 rfl) rfl ?_
                  refine am_goto (t := 15) (am_tab tk_X10_qSums 26 rfl) (by decide) ?_
                  refine am_iload_n (q := 16) rfl (am_tab tk_X10_qSums 9 rfl) rfl ?_
                  refine am_if_eq (q := 19) (t := 53) (am_tab tk_X10_qSums 10 rfl) (by decide) rfl (fun h16 => ?_) (fun h16 => ?_)
                  · have hm0 : g.1 = 0 := h41
                    have hoo : g.2.2.2.2 = o0 := by
                      have h9 := okS_nobr _ hok2 (hgg.2 hm0)
                      have h8 := opn_app g.2.2.2.1 out
                      have h7 := hQ2.2.2.2.1
                      have h6 := hQ0.2.2.2.1
                      omega
                    have hlg := hQ2.2.2.2.2.1
                    have L53 : ∀ (n53 : Nat) (t : List Int) (c : List Int) (T5 : am_H), t.length < n53 → QV c (t ++ out) g.2.2.2.2 (out.length : Int) T5 → frw W_q T2 T5 → c.length + t.length = g.2.2.1.length + g.2.2.2.1.length → daF g.2.2.1 g.2.2.2.1 = daF c t → am_wp M_X10_qSums Q 0 0 53 [(1, am_i bs0), (0, am_r 55)] [] T5 := by
                      intro n53
                      induction n53 with
                      | zero => intro t c T5 hn53; exact absurd hn53 (Nat.not_lt_zero _)
                      | succ n53 ih53 =>
                        intro t c T5 hn53 hV5 hF5 hlc hda
                        have hL5 : lay T5 := hF5.L hQ2.1.1
                        have h55 : T5.2.1 55 5 = 0 := (hF5.2.2 55 5 (by unfold W_q; omega)).trans hQ2.1.2.2.2.1
                        have htl : (t ++ out).length = t.length + out.length := List.length_append
                        refine am_aload_n (q := 54) rfl (am_tab tk_X10_qSums 27 rfl) rfl ?_
                        refine am_getI (q := 57) (a := 55) (k := 10) (n := 108) (j := 5) (x := 0) (Ls_55 hL5) (by decide) rfl h55 (by decide) (Or.inl kf_X10_248) (am_tab tk_X10_qSums 28 rfl) rfl ?_
                        refine am_if_ne (q := 60) (t := 78) (am_tab tk_X10_qSums 29 rfl) (by decide) rfl (fun h57 => ?_) (fun h57 => ?_)
                        · exact absurd h57 (by decide)
                        · refine am_aload_n (q := 61) rfl (am_tab tk_X10_qSums 30 rfl) rfl ?_
                          refine am_getI (q := 64) (a := 55) (k := 10) (n := 108) (j := 99) (x := ((t.length : Int) + (out.length : Int))) (Ls_55 hL5) (by decide) rfl (by rw [hV5.2.2.1, List.length_append]; omega) (by decide) (Or.inl kf_X10_339) (am_tab tk_X10_qSums 31 rfl) rfl ?_
                          refine am_aload_n (q := 65) rfl (am_tab tk_X10_qSums 32 rfl) rfl ?_
                          refine am_getI (q := 68) (a := 55) (k := 10) (n := 108) (j := 101) (x := (out.length : Int)) (Ls_55 hL5) (by decide) rfl hV5.2.2.2.2.2 (by decide) (Or.inl kf_X10_345) (am_tab tk_X10_qSums 33 rfl) rfl ?_
                          refine am_icmp_le (q := 71) (t := 78) (am_tab tk_X10_qSums 34 rfl) (by decide) rfl (fun h68 => ?_) (fun h68 => ?_)
                          · refine am_aload_n (q := 79) rfl (am_tab tk_X10_qSums 38 rfl) rfl ?_
                            refine am_iload_n (q := 80) rfl (am_tab tk_X10_qSums 39 rfl) rfl ?_
                            refine am_putI (q := 83) (k := 10) (n := 108) (j := 101) (Ls_55 hL5) (by decide) rfl (by decide) (Or.inl ⟨kf_X10_345, rfl⟩) (am_tab tk_X10_qSums 40 rfl) rfl ?_
                            refine am_vret rfl (Nat.le_of_ble_eq_true rfl) (Nat.le_of_ble_eq_true rfl) (am_tab tk_X10_qSums 41 rfl) ?_
                            refine hQ _ _ ?_
                            have ht0 : t = [] := List.eq_nil_of_length_eq_zero (by omega)
                            rw [hres, smF_on hq hg, if_pos hm0, hda]
                            rw [ht0] at hV5 ⊢
                            have hFz : frw W_q T2 (am_setN T5 55 101 bs0) := hF5.setN (by unfold W_q; omega)
                            have hVn : QV c out o0 bs0 (am_setN T5 55 101 bs0) := ⟨hV5.1, hV5.2.1, hV5.2.2.1, hV5.2.2.2.1, by rw [← hoo]; exact hV5.2.2.2.2.1, rfl⟩
                            refine ⟨rfl, ⟨hQ2.1.q hFz, hVn, ?_, hQ0.2.2.2.1, ?_, hQ2.2.2.2.2.2⟩, hF.trans ((hF1.trans hF2).trans (W_q_p hFz))⟩
                            · rw [hFz.2.2 55 53 (by unfold W_q; omega)]; exact hQ2.2.2.1
                            · show c.length + out.length ≤ g.2.1; have := hQ2.2.2.2.2.1; rw [ht0] at hlc; simp only [List.length_nil] at hlc; omega
                          · have hge : 0 < t.length := by omega
                            refine am_aload_n (q := 72) rfl (am_tab tk_X10_qSums 35 rfl) rfl ?_
                            refine am_callVr (q := 75) (me2 := M_X10_qDrops) (b := 55) (kb := 10) (nb := 108) (As := []) (rest := []) (c_dropI c t out g.2.2.2.2 T5 hL5 hV5 hge (by omega) (by omega)) ⟨rfl, rfl⟩ (Ls_55 hL5) (by decide) ⟨Or.inl km_X10_591, kc_X10_qDrops, kn_X10, kd_X10_qDrops, ⟨(Nat.le_of_ble_eq_true rfl), (Nat.le_of_ble_eq_true rfl)⟩, ⟨(Nat.le_of_ble_eq_true rfl), (Nat.le_of_ble_eq_true rfl)⟩, (Nat.le_of_ble_eq_true rfl)⟩ ki_X10_qDrops ks_X10_qDrops rfl (am_tab tk_X10_qSums 36 rfl) rfl ?_
                            rintro r T6 ⟨rfl, hV6, hF6⟩
                            refine am_st (st2 := []) rfl ?_
                            refine am_goto (t := 53) (am_tab tk_X10_qSums 37 rfl) (by decide) ?_
                            exact am_less (by intro q hq; simp only [List.mem_cons, List.not_mem_nil, or_false] at hq; rcases hq with rfl | rfl <;> simp) (ih53 (t.tail) (t.headD 0 :: c) T6 (by rw [List.length_tail]; omega) hV6 (hF5.trans hF6) (by rw [List.length_cons, List.length_tail]; omega) (by rw [hda]; cases t with | nil => exact absurd hge (by simp) | cons x t => rfl))
                    refine am_less (by intro q hq; simp only [List.mem_cons, List.not_mem_nil, or_false] at hq; rcases hq with rfl | rfl <;> simp) (L53 (_ + 1) (g.2.2.2.1) (g.2.2.1) T2 (by exact Nat.lt_succ_self _) hQ2.2.1 (frw.refl _ T2) rfl rfl)
                  · exact absurd h16 (by decide)
                · refine am_iconst (q := 45) (n := 1) (by decide) (am_tab tk_X10_qSums 22 rfl) rfl ?_
                  refine am_goto (t := 49) (am_tab tk_X10_qSums 23 rfl) (by decide) ?_
                  refine am_istore_n (q := 50) (by decide) (ls2 := [(2, am_i 1), (1, am_i bs0), (0, am_r 55)]) rfl (am_tab tk_X10_qSums 25 rfl) rfl ?_
                  refine am_goto (t := 15) (am_tab tk_X10_qSums 26 rfl) (by decide) ?_
                  exact am_less (by intro q hq; simp only [List.mem_cons, List.not_mem_nil, or_false] at hq; rcases hq with rfl | rfl | rfl <;> simp) (ih15 f (g.2.1) (g.2.2.1) (g.2.2.2.1) (g.2.2.2.2) T2 (by omega) hQ2 (okS_mono _ hok2) (hF.trans (hF1.trans hF2)) (by omega) (by rw [hres, smF_on hq hg, if_neg h41]))
              · refine am_aload_n (q := 38) rfl (am_tab tk_X10_qSums 19 rfl) rfl ?_
                refine am_callVr (q := 41) (me2 := M_X10_qGoesOn) (b := 55) (kb := 10) (nb := 108) (As := []) (rest := []) (c_X10_qGoesOn b E tk htk q.1 q.2.1 q.2.2.1 out q.2.2.2 T1 hQ1 2000 (by omega) hok1 hout) ⟨rfl, rfl⟩ (Ls_55 hQ1.1.1) (by decide) ⟨Or.inl km_X10_624, kc_X10_qGoesOn, kn_X10, kd_X10_qGoesOn, ⟨(Nat.le_of_ble_eq_true rfl), (Nat.le_of_ble_eq_true rfl)⟩, ⟨(Nat.le_of_ble_eq_true rfl), (Nat.le_of_ble_eq_true rfl)⟩, (Nat.le_of_ble_eq_true rfl)⟩ ki_X10_qGoesOn ks_X10_qGoesOn rfl (am_tab tk_X10_qSums 20 rfl) rfl ?_
                rintro r T2 ⟨hPG, hF2⟩
                obtain ⟨e, he⟩ := sumR c2
                rw [he] at hPG
                obtain ⟨rfl, hB2⟩ := hPG
                refine am_st (st2 := [am_i 0]) rfl ?_
                refine am_if_eq (q := 44) (t := 48) (am_tab tk_X10_qSums 21 rfl) (by decide) rfl (fun h41 => ?_) (fun h41 => ?_)
                · refine am_iconst (q := 49) (n := 0) (by decide) (am_tab tk_X10_qSums 24 rfl) rfl ?_
                  refine am_istore_n (q := 50) (by decide) (ls2 := [(2, am_i 0), (1, am_i bs0), (0, am_r 55)]) rfl (am_tab tk_X10_qSums 25 rfl) rfl ?_
                  refine am_goto (t := 15) (am_tab tk_X10_qSums 26 rfl) (by decide) ?_
                  refine am_iload_n (q := 16) rfl (am_tab tk_X10_qSums 9 rfl) rfl ?_
                  refine am_if_eq (q := 19) (t := 53) (am_tab tk_X10_qSums 10 rfl) (by decide) rfl (fun h16 => ?_) (fun h16 => ?_)
                  · refine am_aload_n (q := 54) rfl (am_tab tk_X10_qSums 27 rfl) rfl ?_
                    refine am_getI (q := 57) (a := 55) (k := 10) (n := 108) (j := 5) (x := e.1) (Ls_55 hB2.1.1) (by decide) rfl hB2.1.2.2.2.1 (by decide) (Or.inl kf_X10_248) (am_tab tk_X10_qSums 28 rfl) rfl ?_
                    refine am_if_ne (q := 60) (t := 78) (am_tab tk_X10_qSums 29 rfl) (by decide) rfl (fun h57 => ?_) (fun h57 => ?_)
                    · refine am_aload_n (q := 79) rfl (am_tab tk_X10_qSums 38 rfl) rfl ?_
                      refine am_iload_n (q := 80) rfl (am_tab tk_X10_qSums 39 rfl) rfl ?_
                      refine am_putI (q := 83) (k := 10) (n := 108) (j := 101) (Ls_55 hB2.1.1) (by decide) rfl (by decide) (Or.inl ⟨kf_X10_345, rfl⟩) (am_tab tk_X10_qSums 40 rfl) rfl ?_
                      refine am_vret rfl (Nat.le_of_ble_eq_true rfl) (Nat.le_of_ble_eq_true rfl) (am_tab tk_X10_qSums 41 rfl) ?_
                      refine hQ _ _ ?_
                      rw [hres, smF_bad2 hq he]
                      have hFz : frw W_q T2 (am_setN T2 55 101 bs0) := (frw.refl W_q T2).setN (by unfold W_q; omega)
                      refine ⟨rfl, ⟨hB2.1.q hFz, ?_, ?_⟩, hF.trans ((hF1.trans hF2).trans (W_q_p hFz))⟩
                      · have := hB2.2.1; show 0 ≤ T2.2.1 55 97 ∧ T2.2.1 55 97 ≤ 1660; omega
                      · have := hB2.2.2; show 0 ≤ T2.2.1 55 99 ∧ T2.2.1 55 99 ≤ 1660; omega
                    · exact absurd h57 hB2.1.2.2.2.2.1
                  · exact absurd h16 (by decide)
                · exact absurd h41 (by decide)
          · refine am_aload_n (q := 27) rfl (am_tab tk_X10_qSums 14 rfl) rfl ?_
            refine am_callVr (q := 30) (me2 := M_X10_qPartTold) (b := 55) (kb := 10) (nb := 108) (As := []) (rest := []) (c_X10_qPartTold b E tk htk i rc ws out o T hQT 2000 (by omega)) ⟨rfl, rfl⟩ (Ls_55 hQT.1.1) (by decide) ⟨Or.inl km_X10_621, kc_X10_qPartTold, kn_X10, kd_X10_qPartTold, ⟨(Nat.le_of_ble_eq_true rfl), (Nat.le_of_ble_eq_true rfl)⟩, ⟨(Nat.le_of_ble_eq_true rfl), (Nat.le_of_ble_eq_true rfl)⟩, (Nat.le_of_ble_eq_true rfl)⟩ ki_X10_qPartTold ks_X10_qPartTold rfl (am_tab tk_X10_qSums 15 rfl) rfl ?_
            rintro r T1 ⟨rfl, hPR, hF1⟩
            obtain ⟨e, he⟩ := sumR c1
            rw [he] at hPR
            have hB1 : QB b E e.1 e.2 1650 T1 := hPR
            refine am_st (st2 := []) rfl ?_
            refine am_aload_n (q := 31) rfl (am_tab tk_X10_qSums 16 rfl) rfl ?_
            refine am_getI (q := 34) (a := 55) (k := 10) (n := 108) (j := 5) (x := e.1) (Ls_55 hB1.1.1) (by decide) rfl hB1.1.2.2.2.1 (by decide) (Or.inl kf_X10_248) (am_tab tk_X10_qSums 17 rfl) rfl ?_
            refine am_if_ne (q := 37) (t := 48) (am_tab tk_X10_qSums 18 rfl) (by decide) rfl (fun h34 => ?_) (fun h34 => ?_)
            · refine am_iconst (q := 49) (n := 0) (by decide) (am_tab tk_X10_qSums 24 rfl) rfl ?_
              refine am_istore_n (q := 50) (by decide) (ls2 := [(2, am_i 0), (1, am_i bs0), (0, am_r 55)]) rfl (am_tab tk_X10_qSums 25 rfl) rfl ?_
              refine am_goto (t := 15) (am_tab tk_X10_qSums 26 rfl) (by decide) ?_
              refine am_iload_n (q := 16) rfl (am_tab tk_X10_qSums 9 rfl) rfl ?_
              refine am_if_eq (q := 19) (t := 53) (am_tab tk_X10_qSums 10 rfl) (by decide) rfl (fun h16 => ?_) (fun h16 => ?_)
              · refine am_aload_n (q := 54) rfl (am_tab tk_X10_qSums 27 rfl) rfl ?_
                refine am_getI (q := 57) (a := 55) (k := 10) (n := 108) (j := 5) (x := e.1) (Ls_55 hB1.1.1) (by decide) rfl hB1.1.2.2.2.1 (by decide) (Or.inl kf_X10_248) (am_tab tk_X10_qSums 28 rfl) rfl ?_
                refine am_if_ne (q := 60) (t := 78) (am_tab tk_X10_qSums 29 rfl) (by decide) rfl (fun h57 => ?_) (fun h57 => ?_)
                · refine am_aload_n (q := 79) rfl (am_tab tk_X10_qSums 38 rfl) rfl ?_
                  refine am_iload_n (q := 80) rfl (am_tab tk_X10_qSums 39 rfl) rfl ?_
                  refine am_putI (q := 83) (k := 10) (n := 108) (j := 101) (Ls_55 hB1.1.1) (by decide) rfl (by decide) (Or.inl ⟨kf_X10_345, rfl⟩) (am_tab tk_X10_qSums 40 rfl) rfl ?_
                  refine am_vret rfl (Nat.le_of_ble_eq_true rfl) (Nat.le_of_ble_eq_true rfl) (am_tab tk_X10_qSums 41 rfl) ?_
                  refine hQ _ _ ?_
                  rw [hres, smF_bad1 he]
                  have hFz : frw W_q T1 (am_setN T1 55 101 bs0) := (frw.refl W_q T1).setN (by unfold W_q; omega)
                  refine ⟨rfl, ⟨hB1.1.q hFz, ?_, ?_⟩, hF.trans (hF1.trans (W_q_p hFz))⟩
                  · have := hB1.2.1; show 0 ≤ T1.2.1 55 97 ∧ T1.2.1 55 97 ≤ 1660; omega
                  · have := hB1.2.2; show 0 ≤ T1.2.1 55 99 ∧ T1.2.1 55 99 ≤ 1660; omega
                · exact absurd h57 hB1.1.2.2.2.2.1
              · exact absurd h16 (by decide)
            · exact absurd h34 hB1.1.2.2.2.2.1
  have hFi : frw W_q S (am_setN S 55 101 (out.length : Int)) := (frw.refl W_q S).setN (by unfold W_q; omega)
  have hvi := hQ0.2.1
  have hQi : QT b E tk i0 rc0 [] out o0 (am_setN S 55 101 (out.length : Int)) := ⟨hQ0.1.q hFi, ⟨hvi.1, hvi.2.1, hvi.2.2.1, hvi.2.2.2.1, hvi.2.2.2.2.1, rfl⟩, hQ0.2.2.1, hQ0.2.2.2.1, by have := hQ0.2.2.2.2.1; simp only [List.length_nil]; omega, hQ0.2.2.2.2.2⟩
  refine am_less (by intro q hq; simp only [List.mem_cons, List.not_mem_nil, or_false] at hq; rcases hq with rfl | rfl | rfl <;> simp) (L15 (_ + 1) f0 i0 rc0 ([]) o0 (am_setN S 55 101 (out.length : Int)) (by exact Nat.lt_succ_self _) hQi rfl (W_q_p ((frw.refl W_q S).setN (by unfold W_q; omega))) hf0 rfl)
