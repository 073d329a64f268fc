/-- the codes so far (the last one first), what waits (the top first), how many are open, the base -/
def QV (rc ws : List Int) (o bs : Int) (S : am_H) : Prop := S.2.1 55 97 = (rc.length : Int) ∧ pl (fun k => S.2.1 127 k) rc.length = rc ∧ S.2.1 55 99 = (ws.length : Int) ∧ pl (fun k => S.2.1 128 k) ws.length = ws ∧ S.2.1 55 100 = o ∧ S.2.1 55 101 = bs
def W_q (a j : Nat) : Prop := a = 127 ∨ a = 128 ∨ (a = 55 ∧ (j = 97 ∨ j = 99 ∨ j = 100 ∨ j = 101))
theorem pl_eq {f g : Nat → Int} : ∀ n, (∀ i, i < n → f i = g i) → pl f n = pl g n
  | 0, _ => rfl
  | n + 1, h => by
    unfold pl
    rw [h n (by omega), pl_eq n (fun i hi => h i (by omega))]
theorem QV.code {rc ws : List Int} {o bs v : Int} {S : am_H} (h : QV rc ws o bs S) : QV (v :: rc) ws o bs (am_setN (am_setN S 127 rc.length v) 55 97 ((rc.length : Int) + 1)) := by
  refine ⟨?_, ?_, h.2.2.1, h.2.2.2.1, h.2.2.2.2.1, h.2.2.2.2.2⟩
  · show (rc.length : Int) + 1 = _; simp
  · show pl (fun k => if 127 = 127 ∧ k = rc.length then v else S.2.1 127 k) (rc.length + 1) = _
    have h2 := pl_push (fun k => S.2.1 127 k) rc.length v
    rw [h.2.1] at h2
    rw [← h2]
    exact pl_eq _ (fun i _ => by simp)
theorem QV.push {rc ws : List Int} {o bs v : Int} {S : am_H} (h : QV rc ws o bs S) : QV rc (v :: ws) o bs (am_setN (am_setN S 128 ws.length v) 55 99 ((ws.length : Int) + 1)) := by
  refine ⟨h.1, h.2.1, ?_, ?_, h.2.2.2.2.1, h.2.2.2.2.2⟩
  · show (ws.length : Int) + 1 = _; simp
  · show pl (fun k => if 128 = 128 ∧ k = ws.length then v else S.2.1 128 k) (ws.length + 1) = _
    have h2 := pl_push (fun k => S.2.1 128 k) ws.length v
    rw [h.2.2.2.1] at h2
    rw [← h2]
    exact pl_eq _ (fun i _ => by simp)
theorem QV.top {rc ws : List Int} {w o bs : Int} {S : am_H} (h : QV rc (w :: ws) o bs S) : S.2.1 128 ws.length = w ∧ pl (fun k => S.2.1 128 k) ws.length = ws := by
  have h1 := h.2.2.2.1
  rw [List.length_cons] at h1
  unfold pl at h1
  exact ⟨(List.cons.inj h1).1, (List.cons.inj h1).2⟩
theorem QV.pop {rc ws : List Int} {w o bs : Int} {S : am_H} (h : QV rc (w :: ws) o bs S) : QV rc ws o bs (am_setN S 55 99 (ws.length : Int)) := ⟨h.1, h.2.1, rfl, h.top.2, h.2.2.2.2.1, h.2.2.2.2.2⟩
theorem QV.fr {W : Nat → Nat → Prop} {rc ws : List Int} {o bs : Int} {S T : am_H} (h : QV rc ws o bs S) (hF : frw W S T) (hW : ∀ a j, W_q a j → ¬ W a j) : QV rc ws o bs T := by
  refine ⟨?_, ?_, ?_, ?_, ?_, ?_⟩
  · rw [hF.2.2 55 97 (hW _ _ (by unfold W_q; omega))]; exact h.1
  · rw [← pl_eq (f := fun k => S.2.1 127 k) (g := fun k => T.2.1 127 k) _ (fun i _ => (hF.2.2 127 i (hW _ _ (by unfold W_q; omega))).symm)]; exact h.2.1
  · rw [hF.2.2 55 99 (hW _ _ (by unfold W_q; omega))]; exact h.2.2.1
  · rw [← pl_eq (f := fun k => S.2.1 128 k) (g := fun k => T.2.1 128 k) _ (fun i _ => (hF.2.2 128 i (hW _ _ (by unfold W_q; omega))).symm)]; exact h.2.2.2.1
  · rw [hF.2.2 55 100 (hW _ _ (by unfold W_q; omega))]; exact h.2.2.2.2.1
  · rw [hF.2.2 55 101 (hW _ _ (by unfold W_q; omega))]; exact h.2.2.2.2.2
def onT : List Int → Int → Bool
  | [], _ => false
  | w :: _, c => decide (w = c)
def isBr (v : Int) : Bool := decide (20 ≤ v ∧ v ≤ 24)
def brF : List Int → Int
  | [] => -1
  | w :: t => if isBr w = true then w else brF t
def dtb : List Int → List Int → List Int × List Int
  | rc, [] => (rc, [])
  | rc, w :: t => if isBr w = true then (rc, w :: t) else dtb (w :: rc) t
def endF : List Int → List Int → Int → List Int × List Int × Int
  | rc, [], o => (rc, [], o)
  | rc, w :: t, o => if 60 ≤ w then endF (w :: rc) t (o - 1) else (rc, w :: t, o)
theorem c_X10_qCode (rc ws : List Int) (o bs : Int) (S : am_H) (hL : lay S) (hQv : QV rc ws o bs S) (v : Int) (hl : rc.length < 1700) : am_met M_X10_qCode [am_r 55, am_i v] S (fun r σ' => r = none ∧ QV (v :: rc) ws o bs σ' ∧ frw W_q S σ') := by
  refine am_qq (fun Q hQ => ?_)
  refine am_enter (show plainFor yX10_qCode = true by decide +kernel) rfl (Nat.le_of_ble_eq_true rfl) (fun _ _ _ => trivial) ?_
  refine am_aload_n (q := 1) rfl (am_tab tk_X10_qCode 0 rfl) rfl ?_
  refine am_getR (q := 4) (a := 55) (k := 10) (n := 108) (j := 96) (r := some (127)) (Ls_55 hL) (by decide) rfl (Lr_55_96 hL) (by decide) (Or.inl kf_X10_233) (am_tab tk_X10_qCode 1 rfl) rfl ?_
  refine am_aload_n (q := 5) rfl (am_tab tk_X10_qCode 2 rfl) rfl ?_
  refine am_getI (q := 8) (a := 55) (k := 10) (n := 108) (j := 97) (x := (rc.length : Int)) (Ls_55 hL) (by decide) rfl hQv.1 (by decide) (Or.inl kf_X10_336) (am_tab tk_X10_qCode 3 rfl) rfl ?_
  refine am_iload_n (q := 9) rfl (am_tab tk_X10_qCode 4 rfl) rfl ?_
  refine am_iast (q := 10) (a := 127) (n := 1700) (Ls_127 hL) (by omega) (by omega) (am_tab tk_X10_qCode 5 rfl) rfl ?_
  refine am_aload_n (q := 11) rfl (am_tab tk_X10_qCode 6 rfl) rfl ?_
  refine am_dup (q := 12) rfl (am_tab tk_X10_qCode 7 rfl) rfl ?_
  refine am_getI (q := 15) (a := 55) (k := 10) (n := 108) (j := 97) (x := (rc.length : Int)) (Ls_55 hL) (by decide) rfl hQv.1 (by decide) (Or.inl kf_X10_336) (am_tab tk_X10_qCode 8 rfl) rfl ?_
  refine am_iconst (q := 16) (n := 1) (by decide) (am_tab tk_X10_qCode 9 rfl) rfl ?_
  refine am_iadd (q := 17) (by omega) (am_tab tk_X10_qCode 10 rfl) rfl ?_
  refine am_putI (q := 20) (k := 10) (n := 108) (j := 97) (Ls_55 hL) (by decide) rfl (by decide) (Or.inl ⟨kf_X10_336, rfl⟩) (am_tab tk_X10_qCode 11 rfl) rfl ?_
  refine am_vret rfl (Nat.le_of_ble_eq_true rfl) (Nat.le_of_ble_eq_true rfl) (am_tab tk_X10_qCode 12 rfl) ?_
  refine hQ _ _ ?_
  have hC := hQv.code (v := v)
  rw [show Int.toNat (rc.length : Int) = rc.length by omega]
  exact ⟨rfl, hC, by repeat (first | exact frw.refl _ S | refine frw.setN ?_ (by unfold W_q; omega))⟩
theorem c_X10_qIsOn (rc ws : List Int) (o bs : Int) (S : am_H) (hL : lay S) (hQv : QV rc ws o bs S) (c : Int) (hl : ws.length ≤ 1700) : am_met M_X10_qIsOn [am_r 55, am_i c] S (fun r σ' => r = some (am_i (b2i (onT ws c))) ∧ σ' = S) := by
  refine am_qq (fun Q hQ => ?_)
  refine am_enter (show plainFor yX10_qIsOn = true by decide +kernel) rfl (Nat.le_of_ble_eq_true rfl) (fun _ _ _ => trivial) ?_
  obtain ⟨tp, htp⟩ : ∃ tp : Int, 0 < ws.length → S.2.1 128 (ws.length - 1) = tp ∧ onT ws c = decide (tp = c) := by
    cases ws with
    | nil => exact ⟨0, fun h => absurd h (by simp)⟩
    | cons w t => exact ⟨w, fun _ => ⟨hQv.top.1, rfl⟩⟩
  refine am_aload_n (q := 1) rfl (am_tab tk_X10_qIsOn 0 rfl) rfl ?_
  refine am_getI (q := 4) (a := 55) (k := 10) (n := 108) (j := 99) (x := (ws.length : Int)) (Ls_55 hL) (by decide) rfl hQv.2.2.1 (by decide) (Or.inl kf_X10_339) (am_tab tk_X10_qIsOn 1 rfl) rfl ?_
  refine am_if_le (q := 7) (t := 26) (am_tab tk_X10_qIsOn 2 rfl) (by decide) rfl (fun h4 => ?_) (fun h4 => ?_)
  · refine am_iconst (q := 27) (n := 0) (by decide) (am_tab tk_X10_qIsOn 14 rfl) rfl ?_
    refine am_iret (Or.inr ⟨rfl, by first | exact Or.inl rfl | exact Or.inr rfl | omega⟩) (Nat.le_of_ble_eq_true rfl) (Nat.le_of_ble_eq_true rfl) (am_tab tk_X10_qIsOn 15 rfl) ?_
    refine hQ _ _ ?_
    refine ⟨congrArg (fun z => some (am_i z)) ?_, rfl⟩
    have h9 : ws = [] := List.eq_nil_of_length_eq_zero (by omega)
    rw [h9]; rfl
  · refine am_aload_n (q := 8) rfl (am_tab tk_X10_qIsOn 3 rfl) rfl ?_
    refine am_getR (q := 11) (a := 55) (k := 10) (n := 108) (j := 98) (r := some (128)) (Ls_55 hL) (by decide) rfl (Lr_55_98 hL) (by decide) (Or.inl kf_X10_236) (am_tab tk_X10_qIsOn 4 rfl) rfl ?_
    refine am_aload_n (q := 12) rfl (am_tab tk_X10_qIsOn 5 rfl) rfl ?_
    refine am_getI (q := 15) (a := 55) (k := 10) (n := 108) (j := 99) (x := (ws.length : Int)) (Ls_55 hL) (by decide) rfl hQv.2.2.1 (by decide) (Or.inl kf_X10_339) (am_tab tk_X10_qIsOn 6 rfl) rfl ?_
    refine am_iconst (q := 16) (n := 1) (by decide) (am_tab tk_X10_qIsOn 7 rfl) rfl ?_
    refine am_isub (q := 17) (by omega) (am_tab tk_X10_qIsOn 8 rfl) rfl ?_
    refine am_iald (q := 18) (a := 128) (n := 1700) (x := tp) (Ls_128 hL) (by omega) (by omega) (by rw [show Int.toNat ((ws.length : Int) - 1) = ws.length - 1 by omega]; exact (htp (by omega)).1) (am_tab tk_X10_qIsOn 9 rfl) rfl ?_
    refine am_iload_n (q := 19) rfl (am_tab tk_X10_qIsOn 10 rfl) rfl ?_
    refine am_icmp_ne (q := 22) (t := 26) (am_tab tk_X10_qIsOn 11 rfl) (by decide) rfl (fun h19 => ?_) (fun h19 => ?_)
    · refine am_iconst (q := 27) (n := 0) (by decide) (am_tab tk_X10_qIsOn 14 rfl) rfl ?_
      refine am_iret (Or.inr ⟨rfl, by first | exact Or.inl rfl | exact Or.inr rfl | omega⟩) (Nat.le_of_ble_eq_true rfl) (Nat.le_of_ble_eq_true rfl) (am_tab tk_X10_qIsOn 15 rfl) ?_
      refine hQ _ _ ?_
      refine ⟨congrArg (fun z => some (am_i z)) ?_, rfl⟩
      rw [(htp (by omega)).2, decide_eq_false h19]; rfl
    · refine am_iconst (q := 23) (n := 1) (by decide) (am_tab tk_X10_qIsOn 12 rfl) rfl ?_
      refine am_goto (t := 27) (am_tab tk_X10_qIsOn 13 rfl) (by decide) ?_
      refine am_iret (Or.inr ⟨rfl, by first | exact Or.inl rfl | exact Or.inr rfl | omega⟩) (Nat.le_of_ble_eq_true rfl) (Nat.le_of_ble_eq_true rfl) (am_tab tk_X10_qIsOn 15 rfl) ?_
      refine hQ _ _ ?_
      refine ⟨congrArg (fun z => some (am_i z)) ?_, rfl⟩
      rw [(htp (by omega)).2, decide_eq_true h19]; rfl
theorem c_X10_qDrops (rc t : List Int) (w o bs : Int) (S : am_H) (hL : lay S) (hQv : QV rc (w :: t) o bs S)  (hl : rc.length < 1700) (hl2 : t.length < 1700) : am_met M_X10_qDrops [am_r 55] S (fun r σ' => r = none ∧ QV (w :: rc) t o bs σ' ∧ frw W_q S σ') := by
  refine am_qq (fun Q hQ => ?_)
  refine am_enter (show plainFor yX10_qDrops = true by decide +kernel) rfl (Nat.le_of_ble_eq_true rfl) (fun _ _ _ => trivial) ?_
  have h99 : S.2.1 55 99 = (t.length : Int) + 1 := by rw [hQv.2.2.1]; simp
  refine am_aload_n (q := 1) rfl (am_tab tk_X10_qDrops 0 rfl) rfl ?_
  refine am_dup (q := 2) rfl (am_tab tk_X10_qDrops 1 rfl) rfl ?_
  refine am_getI (q := 5) (a := 55) (k := 10) (n := 108) (j := 99) (x := ((t.length : Int) + 1)) (Ls_55 hL) (by decide) rfl h99 (by decide) (Or.inl kf_X10_339) (am_tab tk_X10_qDrops 2 rfl) rfl ?_
  refine am_iconst (q := 6) (n := 1) (by decide) (am_tab tk_X10_qDrops 3 rfl) rfl ?_
  refine am_isub (q := 7) (by omega) (am_tab tk_X10_qDrops 4 rfl) rfl ?_
  refine am_putI (q := 10) (k := 10) (n := 108) (j := 99) (Ls_55 hL) (by decide) rfl (by decide) (Or.inl ⟨kf_X10_339, rfl⟩) (am_tab tk_X10_qDrops 5 rfl) rfl ?_
  refine am_aload_n (q := 11) rfl (am_tab tk_X10_qDrops 6 rfl) rfl ?_
  refine am_aload_n (q := 12) rfl (am_tab tk_X10_qDrops 7 rfl) rfl ?_
  refine am_getR (q := 15) (a := 55) (k := 10) (n := 108) (j := 98) (r := some (128)) (Ls_55 hL) (by decide) rfl (Lr_55_98 hL) (by decide) (Or.inl kf_X10_236) (am_tab tk_X10_qDrops 8 rfl) rfl ?_
  refine am_aload_n (q := 16) rfl (am_tab tk_X10_qDrops 9 rfl) rfl ?_
  refine am_getI (q := 19) (a := 55) (k := 10) (n := 108) (j := 99) (x := (((t.length : Int) + 1) - 1)) (Ls_55 hL) (by decide) rfl rfl (by decide) (Or.inl kf_X10_339) (am_tab tk_X10_qDrops 10 rfl) rfl ?_
  refine am_iald (q := 20) (a := 128) (n := 1700) (x := w) (Ls_128 hL) (by omega) (by omega) (by rw [show Int.toNat (((t.length : Int) + 1) - 1) = t.length by omega]; exact hQv.top.1) (am_tab tk_X10_qDrops 11 rfl) rfl ?_
  have hQp : QV rc t o bs (am_setN S 55 99 (((t.length : Int) + 1) - 1)) := by rw [show ((t.length : Int) + 1) - 1 = (t.length : Int) by omega]; exact hQv.pop
  refine am_callVr (q := 23) (me2 := M_X10_qCode) (b := 55) (kb := 10) (nb := 108) (As := [am_i w]) (rest := []) (c_X10_qCode rc t o bs (am_setN S 55 99 (((t.length : Int) + 1) - 1)) hL hQp w hl) ⟨rfl, rfl⟩ (Ls_55 hL) (by decide) ⟨Or.inl km_X10_585, kc_X10_qCode, kn_X10, kd_X10_qCode, ⟨(Nat.le_of_ble_eq_true rfl), (Nat.le_of_ble_eq_true rfl)⟩, ⟨(Nat.le_of_ble_eq_true rfl), (Nat.le_of_ble_eq_true rfl)⟩, (Nat.le_of_ble_eq_true rfl)⟩ ki_X10_qCode ks_X10_qCode rfl (am_tab tk_X10_qDrops 12 rfl) rfl ?_
  rintro r T1 ⟨rfl, hQ1, hF1⟩
  refine am_st (st2 := []) rfl ?_
  refine am_vret rfl (Nat.le_of_ble_eq_true rfl) (Nat.le_of_ble_eq_true rfl) (am_tab tk_X10_qDrops 13 rfl) ?_
  refine hQ _ _ ?_
  exact ⟨rfl, hQ1, ((frw.refl W_q S).setN (by unfold W_q; omega)).trans hF1⟩
theorem c_X10_qIsBracket (σ : am_H) (hL : lay σ) (v : Int)  : am_met M_X10_qIsBracket [am_i v] σ (fun r σ' => r = some (am_i (b2i (isBr v))) ∧ σ' = σ) := by
  refine am_qq (fun Q hQ => ?_)
  refine am_enter (show plainFor yX10_qIsBracket = true by decide +kernel) rfl (Nat.le_of_ble_eq_true rfl) (fun _ _ _ => trivial) ?_
  refine am_iload_n (q := 1) rfl (am_tab tk_X10_qIsBracket 0 rfl) rfl ?_
  refine am_bipush (q := 3) (n := 20) (by decide) rfl (am_tab tk_X10_qIsBracket 1 rfl) rfl ?_
  refine am_icmp_lt (q := 6) (t := 16) (am_tab tk_X10_qIsBracket 2 rfl) (by decide) rfl (fun h3 => ?_) (fun h3 => ?_)
  · refine am_iconst (q := 17) (n := 0) (by decide) (am_tab tk_X10_qIsBracket 8 rfl) rfl ?_
    refine am_iret (Or.inr ⟨rfl, by first | exact Or.inl rfl | exact Or.inr rfl | omega⟩) (Nat.le_of_ble_eq_true rfl) (Nat.le_of_ble_eq_true rfl) (am_tab tk_X10_qIsBracket 9 rfl) ?_
    refine hQ _ _ ?_
    refine ⟨congrArg (fun z => some (am_i z)) ?_, rfl⟩
    unfold b2i isBr
    rw [decide_eq_false (by omega)]; rfl
  · refine am_iload_n (q := 7) rfl (am_tab tk_X10_qIsBracket 3 rfl) rfl ?_
    refine am_bipush (q := 9) (n := 24) (by decide) rfl (am_tab tk_X10_qIsBracket 4 rfl) rfl ?_
    refine am_icmp_gt (q := 12) (t := 16) (am_tab tk_X10_qIsBracket 5 rfl) (by decide) rfl (fun h9 => ?_) (fun h9 => ?_)
    · refine am_iconst (q := 17) (n := 0) (by decide) (am_tab tk_X10_qIsBracket 8 rfl) rfl ?_
      refine am_iret (Or.inr ⟨rfl, by first | exact Or.inl rfl | exact Or.inr rfl | omega⟩) (Nat.le_of_ble_eq_true rfl) (Nat.le_of_ble_eq_true rfl) (am_tab tk_X10_qIsBracket 9 rfl) ?_
      refine hQ _ _ ?_
      refine ⟨congrArg (fun z => some (am_i z)) ?_, rfl⟩
      unfold b2i isBr
      rw [decide_eq_false (by omega)]; rfl
    · refine am_iconst (q := 13) (n := 1) (by decide) (am_tab tk_X10_qIsBracket 6 rfl) rfl ?_
      refine am_goto (t := 17) (am_tab tk_X10_qIsBracket 7 rfl) (by decide) ?_
      refine am_iret (Or.inr ⟨rfl, by first | exact Or.inl rfl | exact Or.inr rfl | omega⟩) (Nat.le_of_ble_eq_true rfl) (Nat.le_of_ble_eq_true rfl) (am_tab tk_X10_qIsBracket 9 rfl) ?_
      refine hQ _ _ ?_
      refine ⟨congrArg (fun z => some (am_i z)) ?_, rfl⟩
      unfold b2i isBr
      rw [decide_eq_true (by omega)]; rfl
theorem QV.at {rc : List Int} {o bs : Int} {S : am_H} : ∀ {pre t : List Int} {w : Int}, QV rc (pre ++ w :: t) o bs S → S.2.1 128 t.length = w := by
  intro pre t w h
  have h1 : ∀ (p : List Int), pl (fun k => S.2.1 128 k) (p ++ w :: t).length = p ++ w :: t → S.2.1 128 t.length = w := by
    intro p
    induction p with
    | nil =>
      intro h2
      rw [List.nil_append, List.length_cons] at h2
      unfold pl at h2
      exact (List.cons.inj h2).1
    | cons x p ih =>
      intro h2
      rw [List.cons_append, List.length_cons] at h2
      unfold pl at h2
      exact ih (List.cons.inj h2).2
  exact h1 pre h.2.2.2.1
theorem c_X10_qBracket (rc inn out : List Int) (o : Int) (S : am_H) (hL : lay S) (hQv : QV rc (inn ++ out) o (out.length : Int) S)  (hl : inn.length + out.length ≤ 1700) : am_met M_X10_qBracket [am_r 55] S (fun r σ' => r = some (am_i (brF inn)) ∧ σ' = S) := by
  refine am_qq (fun Q hQ => ?_)
  refine am_enter (show plainFor yX10_qBracket = true by decide +kernel) rfl (Nat.le_of_ble_eq_true rfl) (fun _ _ _ => trivial) ?_
  refine am_aload_n (q := 1) rfl (am_tab tk_X10_qBracket 0 rfl) rfl ?_
  refine am_getI (q := 4) (a := 55) (k := 10) (n := 108) (j := 99) (x := ((inn.length : Int) + (out.length : Int))) (Ls_55 hL) (by decide) rfl (by rw [hQv.2.2.1, List.length_append]; omega) (by decide) (Or.inl kf_X10_339) (am_tab tk_X10_qBracket 1 rfl) rfl ?_
  refine am_iconst (q := 5) (n := 1) (by decide) (am_tab tk_X10_qBracket 2 rfl) rfl ?_
  refine am_isub (q := 6) (by omega) (am_tab tk_X10_qBracket 3 rfl) rfl ?_
  refine am_istore_n (q := 7) (by decide) (ls2 := [(1, am_i ((((inn.length : Int) + (out.length : Int)) - 1))), (0, am_r 55)]) rfl (am_tab tk_X10_qBracket 4 rfl) rfl ?_
  have L7 : ∀ (n7 : Nat) (t : List Int), t.length < n7 → (∃ p, inn = p ++ t) → brF inn = brF t → am_wp M_X10_qBracket Q 0 0 7 [(1, am_i (((t.length : Int) + (out.length : Int) - 1))), (0, am_r 55)] [] S := by
    intro n7
    induction n7 with
    | zero => intro t hn7; exact absurd hn7 (Nat.not_lt_zero _)
    | succ n7 ih7 =>
      intro t hn7 hpt hbr
      have htl : t.length ≤ inn.length := by obtain ⟨p, hp⟩ := hpt; rw [hp, List.length_append]; omega
      refine am_iload_n (q := 8) rfl (am_tab tk_X10_qBracket 5 rfl) rfl ?_
      refine am_aload_n (q := 9) rfl (am_tab tk_X10_qBracket 6 rfl) rfl ?_
      refine am_getI (q := 12) (a := 55) (k := 10) (n := 108) (j := 101) (x := (out.length : Int)) (Ls_55 hL) (by decide) rfl hQv.2.2.2.2.2 (by decide) (Or.inl kf_X10_345) (am_tab tk_X10_qBracket 7 rfl) rfl ?_
      refine am_icmp_lt (q := 15) (t := 33) (am_tab tk_X10_qBracket 8 rfl) (by decide) rfl (fun h12 => ?_) (fun h12 => ?_)
      · refine am_iload_n (q := 34) rfl (am_tab tk_X10_qBracket 17 rfl) rfl ?_
        refine am_aload_n (q := 35) rfl (am_tab tk_X10_qBracket 18 rfl) rfl ?_
        refine am_getI (q := 38) (a := 55) (k := 10) (n := 108) (j := 101) (x := (out.length : Int)) (Ls_55 hL) (by decide) rfl hQv.2.2.2.2.2 (by decide) (Or.inl kf_X10_345) (am_tab tk_X10_qBracket 19 rfl) rfl ?_
        refine am_icmp_lt (q := 41) (t := 50) (am_tab tk_X10_qBracket 20 rfl) (by decide) rfl (fun h38 => ?_) (fun h38 => ?_)
        · refine am_iconst (q := 51) (n := (-1)) (by decide) (am_tab tk_X10_qBracket 26 rfl) rfl ?_
          refine am_iret (Or.inl rfl) (Nat.le_of_ble_eq_true rfl) (Nat.le_of_ble_eq_true rfl) (am_tab tk_X10_qBracket 27 rfl) ?_
          refine hQ _ _ ?_
          refine ⟨congrArg (fun z => some (am_i z)) ?_, rfl⟩
          rw [hbr]
          have h9 : t = [] := List.eq_nil_of_length_eq_zero (by omega)
          rw [h9]; rfl
        · exact absurd h38 (by omega)
      · have hge : 0 < t.length := by omega
        refine am_aload_n (q := 16) rfl (am_tab tk_X10_qBracket 9 rfl) rfl ?_
        refine am_getR (q := 19) (a := 55) (k := 10) (n := 108) (j := 98) (r := some (128)) (Ls_55 hL) (by decide) rfl (Lr_55_98 hL) (by decide) (Or.inl kf_X10_236) (am_tab tk_X10_qBracket 10 rfl) rfl ?_
        refine am_iload_n (q := 20) rfl (am_tab tk_X10_qBracket 11 rfl) rfl ?_
        refine am_iald (q := 21) (a := 128) (n := 1700) (x := (t.headD 0)) (Ls_128 hL) (by omega) (by omega) (by obtain ⟨p, hp⟩ := hpt; cases t with | nil => exact absurd hge (by simp) | cons x t => (rw [hp, List.append_assoc, List.cons_append] at hQv; rw [show Int.toNat _ = (t ++ out).length by simp; omega]; exact hQv.at)) (am_tab tk_X10_qBracket 12 rfl) rfl ?_
        refine am_callS0 (q := 24) (me2 := M_X10_qIsBracket) (As := [am_i ((t.headD 0))]) (rest := []) (out := [am_i (b2i (isBr (t.headD 0)))]) (c_X10_qIsBracket S hL (t.headD 0)) ⟨rfl, rfl⟩ ⟨Or.inl km_X10_588, kc_X10_qIsBracket, kn_X10, kd_X10_qIsBracket, ⟨(Nat.le_of_ble_eq_true rfl), (Nat.le_of_ble_eq_true rfl)⟩, ⟨(Nat.le_of_ble_eq_true rfl), (Nat.le_of_ble_eq_true rfl)⟩, (Nat.le_of_ble_eq_true rfl)⟩ ki_X10_qIsBracket rfl rfl (am_tab tk_X10_qBracket 13 rfl) rfl ?_
        refine am_if_ne (q := 27) (t := 33) (am_tab tk_X10_qBracket 14 rfl) (by decide) rfl (fun h24 => ?_) (fun h24 => ?_)
        · refine am_iload_n (q := 34) rfl (am_tab tk_X10_qBracket 17 rfl) rfl ?_
          refine am_aload_n (q := 35) rfl (am_tab tk_X10_qBracket 18 rfl) rfl ?_
          refine am_getI (q := 38) (a := 55) (k := 10) (n := 108) (j := 101) (x := (out.length : Int)) (Ls_55 hL) (by decide) rfl hQv.2.2.2.2.2 (by decide) (Or.inl kf_X10_345) (am_tab tk_X10_qBracket 19 rfl) rfl ?_
          refine am_icmp_lt (q := 41) (t := 50) (am_tab tk_X10_qBracket 20 rfl) (by decide) rfl (fun h38 => ?_) (fun h38 => ?_)
          · exact absurd h38 (by omega)
          · have hge : 0 < t.length := by omega
            refine am_aload_n (q := 42) rfl (am_tab tk_X10_qBracket 21 rfl) rfl ?_
            refine am_getR (q := 45) (a := 55) (k := 10) (n := 108) (j := 98) (r := some (128)) (Ls_55 hL) (by decide) rfl (Lr_55_98 hL) (by decide) (Or.inl kf_X10_236) (am_tab tk_X10_qBracket 22 rfl) rfl ?_
            refine am_iload_n (q := 46) rfl (am_tab tk_X10_qBracket 23 rfl) rfl ?_
            refine am_iald (q := 47) (a := 128) (n := 1700) (x := (t.headD 0)) (Ls_128 hL) (by omega) (by omega) (by obtain ⟨p, hp⟩ := hpt; cases t with | nil => exact absurd hge (by simp) | cons x t => (rw [hp, List.append_assoc, List.cons_append] at hQv; rw [show Int.toNat _ = (t ++ out).length by simp; omega]; exact hQv.at)) (am_tab tk_X10_qBracket 24 rfl) rfl ?_
            refine am_goto (t := 51) (am_tab tk_X10_qBracket 25 rfl) (by decide) ?_
            refine am_iret (Or.inl rfl) (Nat.le_of_ble_eq_true rfl) (Nat.le_of_ble_eq_true rfl) (am_tab tk_X10_qBracket 27 rfl) ?_
            refine hQ _ _ ?_
            refine ⟨congrArg (fun z => some (am_i z)) ?_, rfl⟩
            rw [hbr]
            cases t with
            | nil => exact absurd hge (by simp)
            | cons x t =>
              show _ = (if isBr x = true then x else brF t)
              rw [if_pos (by have h9 := b2t h24; simpa only [List.headD_cons] using h9)]; rfl
        · refine am_iinc (q := 30) rfl (by omega) (by decide) (ls2 := [(1, am_i ((((t.length : Int) + (out.length : Int) - 1) + (-1)))), (0, am_r 55)]) rfl (am_tab tk_X10_qBracket 15 rfl) rfl ?_
          refine am_goto (t := 7) (am_tab tk_X10_qBracket 16 rfl) (by decide) ?_
          rw [show ((t.length : Int) + (out.length : Int) - 1) + (-1) = (t.tail.length : Int) + (out.length : Int) - 1 by rw [List.length_tail]; omega]
          exact am_less (by intro q hq; simp only [List.mem_cons, List.not_mem_nil, or_false] at hq; rcases hq with rfl | rfl <;> simp) (ih7 (t.tail) (by rw [List.length_tail]; omega) (by obtain ⟨p, hp⟩ := hpt; cases t with | nil => exact absurd hge (by simp) | cons x t => exact ⟨p ++ [x], by rw [hp]; simp⟩) (by rw [hbr]; cases t with | nil => exact absurd hge (by simp) | cons x t => (show (if isBr x = true then x else brF t) = _; rw [if_neg (by have h9 := b2f h24; simp only [List.headD_cons] at h9; rw [h9]; simp)]; rfl)))
  refine am_less (by intro q hq; simp only [List.mem_cons, List.not_mem_nil, or_false] at hq; rcases hq with rfl | rfl <;> simp) (L7 (_ + 1) inn (by exact Nat.lt_succ_self _) ⟨[], rfl⟩ rfl)
