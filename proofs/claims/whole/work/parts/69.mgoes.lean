/-- how what waits may stand: signs, brackets, 'of' only below a bracket (or where fl) -/
def okS : Bool → List Int → Bool
  | _, [] => true
  | fl, w :: t => if 1 ≤ w ∧ w ≤ 4 then okS false t else if 20 ≤ w ∧ w ≤ 24 then okS true t else if w = 60 then fl && okS true t else false
def drF (p : Int → Bool) : List Int → List Int → List Int × List Int
  | rc, [] => (rc, [])
  | rc, w :: t => if p w = true then drF p (w :: rc) t else (rc, w :: t)
def p34 (w : Int) : Bool := decide (w = 3 ∨ w = 4)
def p14 (w : Int) : Bool := decide (1 ≤ w ∧ w ≤ 4)
/-- the part that is closed: what its bracket was for, then all 'of' that wait for it -/
def clR (rc ws : List Int) : List Int := if brF ws = 20 then (dtb rc ws).1 else (if brF ws = 23 then 5 else 6) :: (dtb rc ws).1
def clE (rc ws : List Int) (o : Int) : List Int × List Int × Int := endF (clR rc ws) (dtb rc ws).2.tail (o - 1)
def clC (ws : List Int) : Prop := brF ws = 20 ∨ brF ws = 23 ∨ brF ws = 24
def clsF (b : Nat → Int) (E : Nat) : Nat → Nat → List Int → List Int → Int → QZ
  | 0, i, rc, ws, o => (i, rc, ws, o)
  | f + 1, i, rc, ws, o => if zK b E i = 41 ∧ (brF ws = 20 ∨ brF ws = 23 ∨ brF ws = 24) then clsF b E f (i + 1) (clE rc ws o).1 (clE rc ws o).2.1 (clE rc ws o).2.2 else (i, rc, ws, o)
def gtF (b : Nat → Int) (E : Nat) (i : Nat) (rc ws : List Int) (o : Int) : (Int × QZ) ⊕ (Int × Int) :=
  if zK b E i = 42 ∨ zK b E i = 47 then .inl (1, i + 1, (drF p34 rc ws).1, (if zK b E i = 42 then 3 else 4) :: (drF p34 rc ws).2, o)
  else if zK b E i = 43 ∨ zK b E i = 45 then .inl (1, i + 1, (drF p14 rc ws).1, (if zK b E i = 43 then 1 else 2) :: (drF p14 rc ws).2, o)
  else if brF ws = 21 ∨ brF ws = 22 then (if zK b E i = 44 then .inl (1, i + 1, (dtb rc ws).1, (brF ws + 2) :: (dtb rc ws).2.tail, o) else .inr (1, (zP b E i : Int)))
  else if ¬ brF ws = -1 then .inr (1, (zP b E i : Int)) else .inl (0, i, rc, ws, o)
def goesF (b : Nat → Int) (E f i : Nat) (rc ws : List Int) (o : Int) : (Int × QZ) ⊕ (Int × Int) := gtF b E (clsF b E f i rc ws o).1 (clsF b E f i rc ws o).2.1 (clsF b E f i rc ws o).2.2.1 (clsF b E f i rc ws o).2.2.2
def PG (b : Nat → Int) (E : Nat) (tk : Int) (out : List Int) (r : Option am_V) (S : am_H) : (Int × QZ) ⊕ (Int × Int) → Prop
  | .inl q => r = some (am_i q.1) ∧ QT b E tk q.2.1 q.2.2.1 q.2.2.2.1 out q.2.2.2.2 S ∧ okS false q.2.2.2.1 = true
  | .inr e => r = some (am_i 0) ∧ QB b E e.1 e.2 1650 S
theorem brF_at : ∀ (ws rc : List Int), ¬ brF ws = -1 → (dtb rc ws).2 = brF ws :: (dtb rc ws).2.tail ∧ isBr (brF ws) = true
  | [], _, h => absurd rfl h
  | w :: t, rc, h => by
    unfold brF at h ⊢
    unfold dtb
    by_cases hb : isBr w = true
    · rw [if_pos hb, if_pos hb]; exact ⟨rfl, hb⟩
    · rw [if_neg hb] at h
      rw [if_neg hb, if_neg hb]; exact brF_at t (w :: rc) h
theorem dtb_len : ∀ (ws rc : List Int), (dtb rc ws).1.length + (dtb rc ws).2.length = rc.length + ws.length
  | [], _ => rfl
  | w :: t, rc => by
    unfold dtb
    split
    · rfl
    · have := dtb_len t (w :: rc)
      simp only [List.length_cons] at *
      omega
theorem dtb_ok : ∀ (ws rc : List Int), okS false ws = true → opn (dtb rc ws).2 = opn ws ∧ okS false (dtb rc ws).2 = true
  | [], _, h => ⟨rfl, h⟩
  | w :: t, rc, h => by
    unfold dtb
    by_cases hb : isBr w = true
    · rw [if_pos hb]; exact ⟨rfl, h⟩
    · rw [if_neg hb]
      unfold okS at h
      unfold isBr at hb
      simp only [decide_eq_true_eq] at hb
      by_cases h1 : 1 ≤ w ∧ w ≤ 4
      · rw [if_pos h1] at h
        have ih := dtb_ok t (w :: rc) h
        refine ⟨?_, ih.2⟩
        rw [ih.1]
        show _ = (if w = 12 ∨ 20 ≤ w then 1 else 0) + opn t
        rw [if_neg (by omega)]
        omega
      · rw [if_neg h1, if_neg (by omega)] at h
        simp at h
theorem endF_ok : ∀ (ws rc : List Int) (o : Int), okS true ws = true → okS false (endF rc ws o).2.1 = true
  | [], _, _, _ => rfl
  | w :: t, rc, o, h => by
    unfold endF
    unfold okS at h
    by_cases h1 : 1 ≤ w ∧ w ≤ 4
    · rw [if_pos h1] at h
      rw [if_neg (by omega)]
      show okS false (w :: t) = true
      unfold okS
      rw [if_pos h1]; exact h
    · rw [if_neg h1] at h
      by_cases h2 : 20 ≤ w ∧ w ≤ 24
      · rw [if_pos h2] at h
        rw [if_neg (by omega)]
        show okS false (w :: t) = true
        unfold okS
        rw [if_neg h1, if_pos h2]; exact h
      · rw [if_neg h2] at h
        by_cases h3 : w = 60
        · rw [if_pos h3] at h
          simp only [Bool.true_and] at h
          rw [if_pos (by omega)]
          exact endF_ok t (w :: rc) (o - 1) h
        · rw [if_neg h3] at h; exact absurd h (by simp)
theorem drF_len (p : Int → Bool) : ∀ (ws rc : List Int), (drF p rc ws).1.length + (drF p rc ws).2.length = rc.length + ws.length
  | [], _ => rfl
  | w :: t, rc => by
    unfold drF
    split
    · have := drF_len p t (w :: rc)
      simp only [List.length_cons] at *
      omega
    · rfl
theorem drF_ok {p : Int → Bool} (hp : ∀ w, p w = true → 1 ≤ w ∧ w ≤ 4) : ∀ (ws rc : List Int), okS false ws = true → opn (drF p rc ws).2 = opn ws ∧ okS false (drF p rc ws).2 = true
  | [], _, h => ⟨rfl, h⟩
  | w :: t, rc, h => by
    unfold drF
    by_cases hb : p w = true
    · have h1 := hp w hb
      rw [if_pos hb]
      unfold okS at h
      rw [if_pos h1] at h
      have ih := drF_ok hp t (w :: rc) h
      refine ⟨?_, ih.2⟩
      rw [ih.1]
      show _ = (if w = 12 ∨ 20 ≤ w then 1 else 0) + opn t
      rw [if_neg (by omega)]
      omega
    · rw [if_neg hb]; exact ⟨rfl, h⟩
theorem okS_br {w : Int} {t : List Int} (hb : isBr w = true) (h : okS false (w :: t) = true) : okS true t = true := by
  unfold isBr at hb
  simp only [decide_eq_true_eq] at hb
  unfold okS at h
  rw [if_neg (by omega), if_pos hb] at h
  exact h
theorem opn_br {w : Int} {t : List Int} (hb : isBr w = true) : opn (w :: t) = 1 + opn t := by
  unfold isBr at hb
  simp only [decide_eq_true_eq] at hb
  show (if w = 12 ∨ 20 ≤ w then 1 else 0) + opn t = _
  rw [if_pos (by omega)]
/-- what a closed part leaves: fewer open, the stack still well made, no more than before -/
theorem clE_ok {rc ws : List Int} {o : Int} (h : okS false ws = true) (hb : ¬ brF ws = -1) : okS false (clE rc ws o).2.1 = true ∧ (clE rc ws o).2.2 - opn (clE rc ws o).2.1 = o - opn ws ∧ (clE rc ws o).1.length + (clE rc ws o).2.1.length ≤ rc.length + ws.length := by
  obtain ⟨h1, h2⟩ := brF_at ws rc hb
  have h3 := dtb_ok ws rc h
  have h4 := dtb_len ws rc
  rw [h1] at h3
  have h5 := okS_br h2 h3.2
  have h6 := opn_br (t := (dtb rc ws).2.tail) h2
  have h7 := endF_opn (dtb rc ws).2.tail (clR rc ws) (o - 1)
  have h8 := endF_len (dtb rc ws).2.tail (clR rc ws) (o - 1)
  have h9 : (clR rc ws).length ≤ (dtb rc ws).1.length + 1 := by
    unfold clR
    split
    · omega
    · exact Nat.le_refl _
  have h10 : (dtb rc ws).2.length = (dtb rc ws).2.tail.length + 1 := by
    have := congrArg List.length h1
    simpa using this
  unfold clE
  exact ⟨endF_ok _ _ _ h5, by omega, by omega⟩
theorem QV.settop {rc ws : List Int} {w o bs v : Int} {S : am_H} (h : QV rc (w :: ws) o bs S) : QV rc (v :: ws) o bs (am_setN S 128 ws.length v) := by
  refine ⟨h.1, h.2.1, h.2.2.1, ?_, h.2.2.2.2.1, h.2.2.2.2.2⟩
  have h2 := pl_push (fun k => S.2.1 128 k) ws.length v
  rw [h.top.2] at h2
  show pl (fun k => if 128 = 128 ∧ k = ws.length then v else S.2.1 128 k) (ws.length + 1) = _
  rw [← h2]
  exact pl_eq _ (fun i _ => by simp)
/-- a part well told leaves the stack well made -/
theorem partF_ok {b : Nat → Int} {E : Nat} {tk : Int} : ∀ (f i : Nat) (rc ws : List Int) (o : Int) (q : QZ), okS true ws = true → partF b E tk f i rc ws o = .inl q → okS false q.2.2.1 = true
  | 0, _, _, _, _, q, _, h => by unfold partF at h; exact absurd h (by simp)
  | f + 1, i, rc, ws, o, q, hw, h => by
    have hb : ∀ w, 20 ≤ w ∧ w ≤ 24 → okS true (w :: ws) = true := fun w h1 => by
      unfold okS
      rw [if_neg (by omega), if_pos h1]; exact hw
    unfold partF at h
    split at h
    · split at h
      · exact absurd h (by simp)
      · exact partF_ok f (i + 1) rc (20 :: ws) (o + 1) q (hb 20 (by omega)) h
    · split at h
      · split at h
        · split at h
          · exact absurd h (by simp)
          · refine partF_ok f (i + 2) rc _ (o + 1) q (hb _ ?_) h
            split <;> omega
        · exact absurd h (by simp)
      · split at h
        · rename_i h4
          split at h
          · exact absurd h (by simp)
          · refine partF_ok f (i + 1) rc _ (o + 1) q ?_ h
            have h5 := wof_pw h4
            unfold okS
            rw [if_neg (by omega), if_neg (by omega), if_pos (by omega)]
            exact hw
        · unfold leafF at h
          split at h
          · rw [← Sum.inl.inj h]; exact endF_ok _ _ _ hw
          · split at h
            · rw [← Sum.inl.inj h]; exact endF_ok _ _ _ hw
            · exact absurd h (by simp)
