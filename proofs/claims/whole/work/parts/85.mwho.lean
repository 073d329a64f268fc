theorem c_personHere0 (b : Nat → Int) (E : Nat) (k pl : Int) (S : am_H) (hZ : ZB b E k pl S)  (hN : 0 ≤ S.2.1 85 0 ∧ S.2.1 85 0 ≤ 8) : am_met M_X10_personHere [am_r 55] S (fun r σ' => r = some (am_i 0) ∧ σ' = S) := by
  refine am_qq (fun Q hQ => ?_)
  refine am_enter (show plainFor yX10_personHere = true by decide +kernel) rfl (Nat.le_of_ble_eq_true rfl) (fun _ _ _ => trivial) ?_
  have hL := hZ.1
  have hk0 := hZ.2.2.2.2.1
  refine am_aload_n (q := 1) rfl (am_tab tk_X10_personHere 0 rfl) rfl ?_
  refine am_callV0 (q := 4) (me2 := M_X10_name) (b := 55) (kb := 10) (nb := 108) (As := []) (rest := []) (out := [am_l 0]) (c_name0 b E k pl S hZ) ⟨rfl, rfl⟩ (Ls_55 hL) (by decide) ⟨Or.inl km_X10_309, kc_X10_name, kn_X10, kd_X10_name, ⟨(Nat.le_of_ble_eq_true rfl), (Nat.le_of_ble_eq_true rfl)⟩, ⟨(Nat.le_of_ble_eq_true rfl), (Nat.le_of_ble_eq_true rfl)⟩, (Nat.le_of_ble_eq_true rfl)⟩ ki_X10_name ks_X10_name rfl rfl (am_tab tk_X10_personHere 1 rfl) rfl ?_
  refine am_lstore_n (q := 5) (by decide) (ls2 := [(1, am_l 0), (0, am_r 55)]) rfl (am_tab tk_X10_personHere 2 rfl) rfl ?_
  refine am_aload_n (q := 6) rfl (am_tab tk_X10_personHere 3 rfl) rfl ?_
  refine am_lload_n (q := 7) rfl (am_tab tk_X10_personHere 4 rfl) rfl ?_
  refine am_callV0 (q := 10) (me2 := M_X10_personOf) (b := 55) (kb := 10) (nb := 108) (As := [am_l 0]) (rest := []) (out := [am_i (pOf S 0)]) (c_X10_personOf S hL 0 hN) ⟨rfl, rfl⟩ (Ls_55 hL) (by decide) ⟨Or.inl km_X10_313, kc_X10_personOf, kn_X10, kd_X10_personOf, ⟨(Nat.le_of_ble_eq_true rfl), (Nat.le_of_ble_eq_true rfl)⟩, ⟨(Nat.le_of_ble_eq_true rfl), (Nat.le_of_ble_eq_true rfl)⟩, (Nat.le_of_ble_eq_true rfl)⟩ ki_X10_personOf ks_X10_personOf rfl rfl (am_tab tk_X10_personHere 5 rfl) rfl ?_
  refine am_istore_n (q := 11) (by decide) (ls2 := [(3, am_i (pOf S 0)), (1, am_l 0), (0, am_r 55)]) rfl (am_tab tk_X10_personHere 6 rfl) rfl ?_
  refine am_aload_n (q := 12) rfl (am_tab tk_X10_personHere 7 rfl) rfl ?_
  refine am_getI (q := 15) (a := 55) (k := 10) (n := 108) (j := 5) (x := k) (Ls_55 hL) (by decide) rfl hZ.2.2.2.1 (by decide) (Or.inl kf_X10_248) (am_tab tk_X10_personHere 8 rfl) rfl ?_
  refine am_if_ne (q := 18) (t := 32) (am_tab tk_X10_personHere 9 rfl) (by decide) rfl (fun h15 => ?_) (fun h15 => ?_)
  · refine am_aload_n (q := 33) rfl (am_tab tk_X10_personHere 18 rfl) rfl ?_
    refine am_getI (q := 36) (a := 55) (k := 10) (n := 108) (j := 5) (x := k) (Ls_55 hL) (by decide) rfl hZ.2.2.2.1 (by decide) (Or.inl kf_X10_248) (am_tab tk_X10_personHere 19 rfl) rfl ?_
    refine am_if_ne (q := 39) (t := 43) (am_tab tk_X10_personHere 20 rfl) (by decide) rfl (fun h36 => ?_) (fun h36 => ?_)
    · refine am_iconst (q := 44) (n := 0) (by decide) (am_tab tk_X10_personHere 23 rfl) rfl ?_
      refine am_iret (Or.inl rfl) (Nat.le_of_ble_eq_true rfl) (Nat.le_of_ble_eq_true rfl) (am_tab tk_X10_personHere 24 rfl) ?_
      refine hQ _ _ ?_
      exact ⟨rfl, rfl⟩
    · exact absurd h36 hk0
  · exact absurd h15 hk0
/-- a person who is known -/
def phF (b : Nat → Int) (E : Nat) (S : am_H) : Nat ⊕ (Int × Int) → Nat ⊕ (Int × Int)
  | .inl i => if zK b E i = 3 ∨ 155 ≤ zK b E i then (if pOf S (zN b E i) = -1 then .inr (3, (zP b E i : Int)) else .inl (i + 1)) else .inr (1, mfP b E i)
  | .inr e => .inr e
theorem phF_l {b : Nat → Int} {E : Nat} {S : am_H} {p : Nat ⊕ (Int × Int)} (h : (phF b E S p).isLeft = true) : p.isLeft = true := by
  cases p with
  | inl i => rfl
  | inr e => exact h
theorem c_personHereZ {b : Nat → Int} {E : Nat} {S : am_H} {p : Nat ⊕ (Int × Int)} (hZ : ZZ b E S p) (hN : 0 ≤ S.2.1 85 0 ∧ S.2.1 85 0 ≤ 8) : am_met M_X10_personHere [am_r 55] S (fun r τ => ∃ v : Int, r = some (am_i v) ∧ (0 ≤ v ∧ v < 8) ∧ ZZ b E τ (phF b E S p) ∧ frw W_sc S τ ∧ ((phF b E S p).isLeft = true → v = pOf S (nZ b E p) ∧ v < S.2.1 85 0 ∧ τ.2.1 55 38 = pZ b E p)) := by
  cases p with
  | inl i =>
    have hd : phF b E S (.inl i) = if zK b E i = 3 ∨ 155 ≤ zK b E i then (if pOf S (zN b E i) = -1 then .inr (3, (zP b E i : Int)) else .inl (i + 1)) else .inr (1, mfP b E i) := rfl
    refine am_mono (c_X10_personHere b E i S hZ hN) (fun r τ h => ?_)
    rcases h with ⟨⟨h1, h2⟩, h3, h4, h5, h6⟩ | ⟨h1, h2, h3, h4⟩
    · have hr : pOf S (zN b E i) = -1 ∨ (0 ≤ pOf S (zN b E i) ∧ pOf S (zN b E i) < ((S.2.1 85 0).toNat : Int)) := firstQ_rng _
      rw [hd, if_pos (show zK b E i = 3 ∨ 155 ≤ zK b E i from h1), if_neg h2]
      exact ⟨_, h3, ⟨by omega, by omega⟩, h4, h5, fun _ => ⟨rfl, by omega, h6⟩⟩
    · rcases h3 with ⟨h5, h6⟩ | ⟨h5, h6⟩
      · have h7 : pOf S (zN b E i) = -1 := Classical.byContradiction (fun h => h1 ⟨h5, h⟩)
        rw [hd, if_pos (show zK b E i = 3 ∨ 155 ≤ zK b E i from h5), if_pos h7]
        exact ⟨0, h2, ⟨by decide, by decide⟩, h6, h4, fun h => absurd h (by simp)⟩
      · rw [hd, if_neg (show ¬ (zK b E i = 3 ∨ 155 ≤ zK b E i) from h5)]
        exact ⟨0, h2, ⟨by decide, by decide⟩, h6, h4, fun h => absurd h (by simp)⟩
  | inr e =>
    refine am_mono (c_personHere0 b E e.1 e.2 S hZ hN) (fun r τ h => ⟨0, h.1, ⟨by decide, by decide⟩, ?_, ?_, fun h5 => absurd h5 (by simp [phF])⟩)
    · rw [h.2]; exact hZ
    · rw [h.2]; exact frw.refl _ _
