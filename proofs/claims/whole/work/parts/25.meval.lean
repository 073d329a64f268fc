theorem ao_cmp_ge {x y : Int} : 0 ≤ ao_cmp x y ↔ y ≤ x := by unfold ao_cmp; split <;> (try split) <;> omega
theorem ao_cmp_le {x y : Int} : ao_cmp x y ≤ 0 ↔ x ≤ y := by unfold ao_cmp; split <;> (try split) <;> omega
def clp (v : Int) : Int := if 1000000 < v then 1000000 else if v < -1000000 then -1000000 else v
theorem clp_rng (v : Int) : -1000000 ≤ clp v ∧ clp v ≤ 1000000 := by unfold clp; split <;> (try split) <;> omega
def flr (v b : Int) : Int := if b = 0 then 0 else if ¬ v.tmod b = 0 ∧ ¬ (v < 0 ↔ b < 0) then v.tdiv b - 1 else v.tdiv b
theorem flr_rng {v b : Int} (h : -1000000 ≤ v ∧ v ≤ 1000000) : -1000000 ≤ flr v b ∧ flr v b ≤ 1000000 := by
  have h1 := Int.natAbs_tdiv v b
  have h2 : (v.tdiv b).natAbs ≤ v.natAbs := by rw [h1]; exact Nat.div_le_self _ _
  unfold flr
  split
  · omega
  · split
    · rename_i hb hc
      by_cases hv : v.natAbs ≤ 999999
      · omega
      · by_cases hb1 : b.natAbs = 1
        · exfalso
          apply hc.1
          rcases (show b = 1 ∨ b = -1 by omega) with rfl | rfl
          · exact Int.tmod_one v
          · rw [Int.tmod_neg]; exact Int.tmod_one v
        · have h3 : v.natAbs / b.natAbs ≤ v.natAbs / 2 := Nat.div_le_div_left (by omega) (by omega)
          have h4 : (v.tdiv b).natAbs ≤ v.natAbs / 2 := by rw [h1]; exact h3
          omega
    · omega
/-- two values joined -/
def jn (v a b : Int) : Int := if v = 1 then clp (a + b) else if v = 2 then clp (a - b) else if v = 3 then clp (a * b) else if v = 4 then flr a b else if v = 5 then (if a < b then a else b) else if v = 6 then (if b < a then a else b) else if v = 7 then (if a < b then 1 else 0) else if v = 8 then (if b < a then 1 else 0) else if v = 9 then (if a = b then 1 else 0) else if v = 10 then a * b else (if 0 < a + b then 1 else 0)
theorem c_X10_qClip (σ : am_H) (hL : lay σ) (v : Int)  : am_met M_X10_qClip [am_l v] σ (fun r σ' => r = some (am_l (clp v)) ∧ σ' = σ) := by
  refine am_enter (show plainFor yX10_qClip = true by decide +kernel) rfl (Nat.le_of_ble_eq_true rfl) (fun _ _ _ => trivial) ?_
  refine am_lload_n (q := 1) rfl (am_tab tk_X10_qClip 0 rfl) rfl ?_
  refine am_ldc2 (q := 4) (n := 1000000) (by decide) kk_X10_642 (am_tab tk_X10_qClip 1 rfl) rfl ?_
  refine am_lcmp (q := 5) (am_tab tk_X10_qClip 2 rfl) rfl ?_
  refine am_if_le (q := 8) (t := 14) (am_tab tk_X10_qClip 3 rfl) (by decide) rfl (fun h5 => ?_) (fun h5 => ?_)
  · rw [ao_cmp_le] at h5
    refine am_lload_n (q := 15) rfl (am_tab tk_X10_qClip 6 rfl) rfl ?_
    refine am_ldc2 (q := 18) (n := (-1000000)) (by decide) kk_X10_644 (am_tab tk_X10_qClip 7 rfl) rfl ?_
    refine am_lcmp (q := 19) (am_tab tk_X10_qClip 8 rfl) rfl ?_
    refine am_if_ge (q := 22) (t := 28) (am_tab tk_X10_qClip 9 rfl) (by decide) rfl (fun h19 => ?_) (fun h19 => ?_)
    · rw [ao_cmp_ge] at h19
      refine am_lload_n (q := 29) rfl (am_tab tk_X10_qClip 12 rfl) rfl ?_
      refine am_lret rfl (Nat.le_of_ble_eq_true rfl) (Nat.le_of_ble_eq_true rfl) (am_tab tk_X10_qClip 13 rfl) ?_
      refine ⟨congrArg (fun z => some (am_l z)) ?_, rfl⟩
      unfold clp
      first | rw [if_pos (by omega)] | rw [if_neg (by omega), if_pos (by omega)] | rw [if_neg (by omega), if_neg (by omega)]
    · rw [ao_cmp_ge] at h19
      refine am_ldc2 (q := 25) (n := (-1000000)) (by decide) kk_X10_644 (am_tab tk_X10_qClip 10 rfl) rfl ?_
      refine am_goto (t := 29) (am_tab tk_X10_qClip 11 rfl) (by decide) ?_
      refine am_lret rfl (Nat.le_of_ble_eq_true rfl) (Nat.le_of_ble_eq_true rfl) (am_tab tk_X10_qClip 13 rfl) ?_
      refine ⟨congrArg (fun z => some (am_l z)) ?_, rfl⟩
      unfold clp
      first | rw [if_pos (by omega)] | rw [if_neg (by omega), if_pos (by omega)] | rw [if_neg (by omega), if_neg (by omega)]
  · rw [ao_cmp_le] at h5
    refine am_ldc2 (q := 11) (n := 1000000) (by decide) kk_X10_642 (am_tab tk_X10_qClip 4 rfl) rfl ?_
    refine am_goto (t := 29) (am_tab tk_X10_qClip 5 rfl) (by decide) ?_
    refine am_lret rfl (Nat.le_of_ble_eq_true rfl) (Nat.le_of_ble_eq_true rfl) (am_tab tk_X10_qClip 13 rfl) ?_
    refine ⟨congrArg (fun z => some (am_l z)) ?_, rfl⟩
    unfold clp
    first | rw [if_pos (by omega)] | rw [if_neg (by omega), if_pos (by omega)] | rw [if_neg (by omega), if_neg (by omega)]
theorem c_X10_qFloor (σ : am_H) (hL : lay σ) (v : Int) (b : Int) (hv : -1000000 ≤ v ∧ v ≤ 1000000) (hb : -1000000 ≤ b ∧ b ≤ 1000000) : am_met M_X10_qFloor [am_l v, am_l b] σ (fun r σ' => r = some (am_l (flr v b)) ∧ σ' = σ) := by
  refine am_enter (show plainFor yX10_qFloor = true by decide +kernel) rfl (Nat.le_of_ble_eq_true rfl) (fun _ _ _ => trivial) ?_
  have hab := Int.natAbs_tdiv v b
  have hab2 : (v.tdiv b).natAbs ≤ v.natAbs := by rw [hab]; exact Nat.div_le_self _ _
  refine am_lload_n (q := 1) rfl (am_tab tk_X10_qFloor 0 rfl) rfl ?_
  refine am_lconst0 (q := 2) (am_tab tk_X10_qFloor 1 rfl) rfl ?_
  refine am_lcmp (q := 3) (am_tab tk_X10_qFloor 2 rfl) rfl ?_
  refine am_if_ne (q := 6) (t := 8) (am_tab tk_X10_qFloor 3 rfl) (by decide) rfl (fun h3 => ?_) (fun h3 => ?_)
  · rw [ao_cmp_eq] at h3
    refine am_lload_n (q := 9) rfl (am_tab tk_X10_qFloor 6 rfl) rfl ?_
    refine am_lload_n (q := 10) rfl (am_tab tk_X10_qFloor 7 rfl) rfl ?_
    refine am_ldiv (q := 11) (by omega) (by omega) (am_tab tk_X10_qFloor 8 rfl) rfl ?_
    refine am_lstore (q := 13) (by decide) (ls2 := [(4, am_l ((Int.tdiv v b))), (0, am_l v), (2, am_l b)]) rfl (am_tab tk_X10_qFloor 9 rfl) rfl ?_
    refine am_lload_n (q := 14) rfl (am_tab tk_X10_qFloor 10 rfl) rfl ?_
    refine am_lload_n (q := 15) rfl (am_tab tk_X10_qFloor 11 rfl) rfl ?_
    refine am_lrem (q := 16) (by omega) (by omega) (am_tab tk_X10_qFloor 12 rfl) rfl ?_
    refine am_lconst0 (q := 17) (am_tab tk_X10_qFloor 13 rfl) rfl ?_
    refine am_lcmp (q := 18) (am_tab tk_X10_qFloor 14 rfl) rfl ?_
    refine am_if_eq (q := 21) (t := 53) (am_tab tk_X10_qFloor 15 rfl) (by decide) rfl (fun h18 => ?_) (fun h18 => ?_)
    · rw [ao_cmp_eq] at h18
      refine am_lload (q := 55) rfl (am_tab tk_X10_qFloor 35 rfl) rfl ?_
      refine am_lret rfl (Nat.le_of_ble_eq_true rfl) (Nat.le_of_ble_eq_true rfl) (am_tab tk_X10_qFloor 36 rfl) ?_
      refine ⟨congrArg (fun z => some (am_l z)) ?_, rfl⟩
      unfold flr
      first | (exfalso; omega) | rw [if_pos (by assumption)] | (rw [if_neg (by assumption)]; first | rw [if_pos ⟨by assumption, by omega⟩] | rw [if_neg (by omega)])
    · rw [ao_cmp_eq] at h18
      refine am_lload_n (q := 22) rfl (am_tab tk_X10_qFloor 16 rfl) rfl ?_
      refine am_lconst0 (q := 23) (am_tab tk_X10_qFloor 17 rfl) rfl ?_
      refine am_lcmp (q := 24) (am_tab tk_X10_qFloor 18 rfl) rfl ?_
      refine am_if_ge (q := 27) (t := 31) (am_tab tk_X10_qFloor 19 rfl) (by decide) rfl (fun h24 => ?_) (fun h24 => ?_)
      · rw [ao_cmp_ge] at h24
        refine am_iconst (q := 32) (n := 0) (by decide) (am_tab tk_X10_qFloor 22 rfl) rfl ?_
        refine am_lload_n (q := 33) rfl (am_tab tk_X10_qFloor 23 rfl) rfl ?_
        refine am_lconst0 (q := 34) (am_tab tk_X10_qFloor 24 rfl) rfl ?_
        refine am_lcmp (q := 35) (am_tab tk_X10_qFloor 25 rfl) rfl ?_
        refine am_if_ge (q := 38) (t := 42) (am_tab tk_X10_qFloor 26 rfl) (by decide) rfl (fun h35 => ?_) (fun h35 => ?_)
        · rw [ao_cmp_ge] at h35
          refine am_iconst (q := 43) (n := 0) (by decide) (am_tab tk_X10_qFloor 29 rfl) rfl ?_
          refine am_icmp_eq (q := 46) (t := 53) (am_tab tk_X10_qFloor 30 rfl) (by decide) rfl (fun h43 => ?_) (fun h43 => ?_)
          · refine am_lload (q := 55) rfl (am_tab tk_X10_qFloor 35 rfl) rfl ?_
            refine am_lret rfl (Nat.le_of_ble_eq_true rfl) (Nat.le_of_ble_eq_true rfl) (am_tab tk_X10_qFloor 36 rfl) ?_
            refine ⟨congrArg (fun z => some (am_l z)) ?_, rfl⟩
            unfold flr
            first | (exfalso; omega) | rw [if_pos (by assumption)] | (rw [if_neg (by assumption)]; first | rw [if_pos ⟨by assumption, by omega⟩] | rw [if_neg (by omega)])
          · refine am_lload (q := 48) rfl (am_tab tk_X10_qFloor 31 rfl) rfl ?_
            refine am_lconst1 (q := 49) (am_tab tk_X10_qFloor 32 rfl) rfl ?_
            refine am_lsub (q := 50) (by omega) (am_tab tk_X10_qFloor 33 rfl) rfl ?_
            refine am_goto (t := 55) (am_tab tk_X10_qFloor 34 rfl) (by decide) ?_
            refine am_lret rfl (Nat.le_of_ble_eq_true rfl) (Nat.le_of_ble_eq_true rfl) (am_tab tk_X10_qFloor 36 rfl) ?_
            refine ⟨congrArg (fun z => some (am_l z)) ?_, rfl⟩
            unfold flr
            first | (exfalso; omega) | rw [if_pos (by assumption)] | (rw [if_neg (by assumption)]; first | rw [if_pos ⟨by assumption, by omega⟩] | rw [if_neg (by omega)])
        · rw [ao_cmp_ge] at h35
          refine am_iconst (q := 39) (n := 1) (by decide) (am_tab tk_X10_qFloor 27 rfl) rfl ?_
          refine am_goto (t := 43) (am_tab tk_X10_qFloor 28 rfl) (by decide) ?_
          refine am_icmp_eq (q := 46) (t := 53) (am_tab tk_X10_qFloor 30 rfl) (by decide) rfl (fun h43 => ?_) (fun h43 => ?_)
          · refine am_lload (q := 55) rfl (am_tab tk_X10_qFloor 35 rfl) rfl ?_
            refine am_lret rfl (Nat.le_of_ble_eq_true rfl) (Nat.le_of_ble_eq_true rfl) (am_tab tk_X10_qFloor 36 rfl) ?_
            refine ⟨congrArg (fun z => some (am_l z)) ?_, rfl⟩
            unfold flr
            first | (exfalso; omega) | rw [if_pos (by assumption)] | (rw [if_neg (by assumption)]; first | rw [if_pos ⟨by assumption, by omega⟩] | rw [if_neg (by omega)])
          · refine am_lload (q := 48) rfl (am_tab tk_X10_qFloor 31 rfl) rfl ?_
            refine am_lconst1 (q := 49) (am_tab tk_X10_qFloor 32 rfl) rfl ?_
            refine am_lsub (q := 50) (by omega) (am_tab tk_X10_qFloor 33 rfl) rfl ?_
            refine am_goto (t := 55) (am_tab tk_X10_qFloor 34 rfl) (by decide) ?_
            refine am_lret rfl (Nat.le_of_ble_eq_true rfl) (Nat.le_of_ble_eq_true rfl) (am_tab tk_X10_qFloor 36 rfl) ?_
            refine ⟨congrArg (fun z => some (am_l z)) ?_, rfl⟩
            unfold flr
            first | (exfalso; omega) | rw [if_pos (by assumption)] | (rw [if_neg (by assumption)]; first | rw [if_pos ⟨by assumption, by omega⟩] | rw [if_neg (by omega)])
      · rw [ao_cmp_ge] at h24
        refine am_iconst (q := 28) (n := 1) (by decide) (am_tab tk_X10_qFloor 20 rfl) rfl ?_
        refine am_goto (t := 32) (am_tab tk_X10_qFloor 21 rfl) (by decide) ?_
        refine am_lload_n (q := 33) rfl (am_tab tk_X10_qFloor 23 rfl) rfl ?_
        refine am_lconst0 (q := 34) (am_tab tk_X10_qFloor 24 rfl) rfl ?_
        refine am_lcmp (q := 35) (am_tab tk_X10_qFloor 25 rfl) rfl ?_
        refine am_if_ge (q := 38) (t := 42) (am_tab tk_X10_qFloor 26 rfl) (by decide) rfl (fun h35 => ?_) (fun h35 => ?_)
        · rw [ao_cmp_ge] at h35
          refine am_iconst (q := 43) (n := 0) (by decide) (am_tab tk_X10_qFloor 29 rfl) rfl ?_
          refine am_icmp_eq (q := 46) (t := 53) (am_tab tk_X10_qFloor 30 rfl) (by decide) rfl (fun h43 => ?_) (fun h43 => ?_)
          · refine am_lload (q := 55) rfl (am_tab tk_X10_qFloor 35 rfl) rfl ?_
            refine am_lret rfl (Nat.le_of_ble_eq_true rfl) (Nat.le_of_ble_eq_true rfl) (am_tab tk_X10_qFloor 36 rfl) ?_
            refine ⟨congrArg (fun z => some (am_l z)) ?_, rfl⟩
            unfold flr
            first | (exfalso; omega) | rw [if_pos (by assumption)] | (rw [if_neg (by assumption)]; first | rw [if_pos ⟨by assumption, by omega⟩] | rw [if_neg (by omega)])
          · refine am_lload (q := 48) rfl (am_tab tk_X10_qFloor 31 rfl) rfl ?_
            refine am_lconst1 (q := 49) (am_tab tk_X10_qFloor 32 rfl) rfl ?_
            refine am_lsub (q := 50) (by omega) (am_tab tk_X10_qFloor 33 rfl) rfl ?_
            refine am_goto (t := 55) (am_tab tk_X10_qFloor 34 rfl) (by decide) ?_
            refine am_lret rfl (Nat.le_of_ble_eq_true rfl) (Nat.le_of_ble_eq_true rfl) (am_tab tk_X10_qFloor 36 rfl) ?_
            refine ⟨congrArg (fun z => some (am_l z)) ?_, rfl⟩
            unfold flr
            first | (exfalso; omega) | rw [if_pos (by assumption)] | (rw [if_neg (by assumption)]; first | rw [if_pos ⟨by assumption, by omega⟩] | rw [if_neg (by omega)])
        · rw [ao_cmp_ge] at h35
          refine am_iconst (q := 39) (n := 1) (by decide) (am_tab tk_X10_qFloor 27 rfl) rfl ?_
          refine am_goto (t := 43) (am_tab tk_X10_qFloor 28 rfl) (by decide) ?_
          refine am_icmp_eq (q := 46) (t := 53) (am_tab tk_X10_qFloor 30 rfl) (by decide) rfl (fun h43 => ?_) (fun h43 => ?_)
          · refine am_lload (q := 55) rfl (am_tab tk_X10_qFloor 35 rfl) rfl ?_
            refine am_lret rfl (Nat.le_of_ble_eq_true rfl) (Nat.le_of_ble_eq_true rfl) (am_tab tk_X10_qFloor 36 rfl) ?_
            refine ⟨congrArg (fun z => some (am_l z)) ?_, rfl⟩
            unfold flr
            first | (exfalso; omega) | rw [if_pos (by assumption)] | (rw [if_neg (by assumption)]; first | rw [if_pos ⟨by assumption, by omega⟩] | rw [if_neg (by omega)])
          · refine am_lload (q := 48) rfl (am_tab tk_X10_qFloor 31 rfl) rfl ?_
            refine am_lconst1 (q := 49) (am_tab tk_X10_qFloor 32 rfl) rfl ?_
            refine am_lsub (q := 50) (by omega) (am_tab tk_X10_qFloor 33 rfl) rfl ?_
            refine am_goto (t := 55) (am_tab tk_X10_qFloor 34 rfl) (by decide) ?_
            refine am_lret rfl (Nat.le_of_ble_eq_true rfl) (Nat.le_of_ble_eq_true rfl) (am_tab tk_X10_qFloor 36 rfl) ?_
            refine ⟨congrArg (fun z => some (am_l z)) ?_, rfl⟩
            unfold flr
            first | (exfalso; omega) | rw [if_pos (by assumption)] | (rw [if_neg (by assumption)]; first | rw [if_pos ⟨by assumption, by omega⟩] | rw [if_neg (by omega)])
  · rw [ao_cmp_eq] at h3
    refine am_lconst0 (q := 7) (am_tab tk_X10_qFloor 4 rfl) rfl ?_
    refine am_lret rfl (Nat.le_of_ble_eq_true rfl) (Nat.le_of_ble_eq_true rfl) (am_tab tk_X10_qFloor 5 rfl) ?_
    refine ⟨congrArg (fun z => some (am_l z)) ?_, rfl⟩
    unfold flr
    first | (exfalso; omega) | rw [if_pos (by assumption)] | (rw [if_neg (by assumption)]; first | rw [if_pos ⟨by assumption, by omega⟩] | rw [if_neg (by omega)])
theorem c_X10_qPuts (σ : am_H) (hL : lay σ) (v : Int) (n : Nat) (hn : σ.2.1 55 103 = n) (hn2 : n < 1700) : am_met M_X10_qPuts [am_r 55, am_l v] σ (fun r σ' => r = none ∧ σ' = am_setN (am_setN σ 129 n v) 55 103 ((n : Int) + 1)) := by
  refine am_enter (show plainFor yX10_qPuts = true by decide +kernel) rfl (Nat.le_of_ble_eq_true rfl) (fun _ _ _ => trivial) ?_
  refine am_aload_n (q := 1) rfl (am_tab tk_X10_qPuts 0 rfl) rfl ?_
  refine am_getR (q := 4) (a := 55) (k := 10) (n := 108) (j := 102) (r := some (129)) (Ls_55 hL) (by decide) rfl (Lr_55_102 hL) (by decide) (Or.inl kf_X10_239) (am_tab tk_X10_qPuts 1 rfl) rfl ?_
  refine am_aload_n (q := 5) rfl (am_tab tk_X10_qPuts 2 rfl) rfl ?_
  refine am_getI (q := 8) (a := 55) (k := 10) (n := 108) (j := 103) (x := (n : Int)) (Ls_55 hL) (by decide) rfl hn (by decide) (Or.inl kf_X10_403) (am_tab tk_X10_qPuts 3 rfl) rfl ?_
  refine am_lload_n (q := 9) rfl (am_tab tk_X10_qPuts 4 rfl) rfl ?_
  refine am_last (q := 10) (a := 129) (n := 1700) (Ls_129 hL) (by omega) (by omega) (am_tab tk_X10_qPuts 5 rfl) rfl ?_
  refine am_aload_n (q := 11) rfl (am_tab tk_X10_qPuts 6 rfl) rfl ?_
  refine am_dup (q := 12) rfl (am_tab tk_X10_qPuts 7 rfl) rfl ?_
  refine am_getI (q := 15) (a := 55) (k := 10) (n := 108) (j := 103) (x := (n : Int)) (Ls_55 hL) (by decide) rfl hn (by decide) (Or.inl kf_X10_403) (am_tab tk_X10_qPuts 8 rfl) rfl ?_
  refine am_iconst (q := 16) (n := 1) (by decide) (am_tab tk_X10_qPuts 9 rfl) rfl ?_
  refine am_iadd (q := 17) (by omega) (am_tab tk_X10_qPuts 10 rfl) rfl ?_
  refine am_putI (q := 20) (k := 10) (n := 108) (j := 103) (Ls_55 hL) (by decide) rfl (by decide) (Or.inl ⟨kf_X10_403, rfl⟩) (am_tab tk_X10_qPuts 11 rfl) rfl ?_
  refine am_vret rfl (Nat.le_of_ble_eq_true rfl) (Nat.le_of_ble_eq_true rfl) (am_tab tk_X10_qPuts 12 rfl) ?_
  exact ⟨rfl, rfl⟩
theorem sw129 (σ : am_H) (k : Nat) (x y z : Int) : am_setN (am_setN (am_setN σ 55 103 x) 129 k y) 55 103 z = am_setN (am_setN σ 129 k y) 55 103 z := by
  refine am_Hext rfl (fun b i => ?_) (fun _ _ => rfl)
  simp only [am_setN]
  by_cases h1 : b = 55 ∧ i = 103
  · simp [h1]
  · simp [h1]
theorem jn_rng {v a b : Int} (ha : -1000000 ≤ a ∧ a ≤ 1000000) (hb : -1000000 ≤ b ∧ b ≤ 1000000) (h10 : v = 10 → (a = 0 ∨ a = 1) ∧ (b = 0 ∨ b = 1)) : -1000000 ≤ jn v a b ∧ jn v a b ≤ 1000000 := by
  unfold jn
  have c1 := clp_rng (a + b)
  have c2 := clp_rng (a - b)
  have c3 := clp_rng (a * b)
  have c4 := flr_rng (b := b) ha
  by_cases h : v = 10
  · obtain ⟨h1, h2⟩ := h10 h
    subst h
    rcases h1 with rfl | rfl <;> rcases h2 with rfl | rfl <;> decide
  · repeat' split
    all_goals omega
theorem mul_b {a b : Int} (ha : -1000000 ≤ a ∧ a ≤ 1000000) (hb : -1000000 ≤ b ∧ b ≤ 1000000) : -1000000000000 ≤ a * b ∧ a * b ≤ 1000000000000 := by
  have h1 : (a * b).natAbs = a.natAbs * b.natAbs := Int.natAbs_mul a b
  have h2 : a.natAbs * b.natAbs ≤ 1000000 * 1000000 := Nat.mul_le_mul (by omega) (by omega)
  omega
theorem c_X10_qJoins (σ : am_H) (hL : lay σ) (v : Int) (k : Nat) (a b : Int) (hk : k + 2 < 1700) (hn : σ.2.1 55 103 = (k : Int) + 2) (ha : σ.2.1 129 k = a) (hb : σ.2.1 129 (k + 1) = b) (har : -1000000 ≤ a ∧ a ≤ 1000000) (hbr : -1000000 ≤ b ∧ b ≤ 1000000) : am_met M_X10_qJoins [am_r 55, am_i v] σ (fun r σ' => r = none ∧ σ' = am_setN (am_setN σ 129 k (jn v a b)) 55 103 ((k : Int) + 1)) := by
  refine am_enter (show plainFor yX10_qJoins = true by decide +kernel) rfl (Nat.le_of_ble_eq_true rfl) (fun _ _ _ => trivial) ?_
  have hm := mul_b har hbr
  refine am_aload_n (q := 1) rfl (am_tab tk_X10_qJoins 0 rfl) rfl ?_
  refine am_getR (q := 4) (a := 55) (k := 10) (n := 108) (j := 102) (r := some (129)) (Ls_55 hL) (by decide) rfl (Lr_55_102 hL) (by decide) (Or.inl kf_X10_239) (am_tab tk_X10_qJoins 1 rfl) rfl ?_
  refine am_aload_n (q := 5) rfl (am_tab tk_X10_qJoins 2 rfl) rfl ?_
  refine am_getI (q := 8) (a := 55) (k := 10) (n := 108) (j := 103) (x := ((k : Int) + 2)) (Ls_55 hL) (by decide) rfl hn (by decide) (Or.inl kf_X10_403) (am_tab tk_X10_qJoins 3 rfl) rfl ?_
  refine am_iconst (q := 9) (n := 1) (by decide) (am_tab tk_X10_qJoins 4 rfl) rfl ?_
  refine am_isub (q := 10) (by omega) (am_tab tk_X10_qJoins 5 rfl) rfl ?_
  refine am_lald (q := 11) (a := 129) (n := 1700) (x := b) (Ls_129 hL) (by omega) (by omega) (by rw [show (((k : Int) + 2) - 1).toNat = k + 1 by omega]; exact hb) (am_tab tk_X10_qJoins 6 rfl) rfl ?_
  refine am_lstore_n (q := 12) (by decide) (ls2 := [(2, am_l b), (0, am_r 55), (1, am_i v)]) rfl (am_tab tk_X10_qJoins 7 rfl) rfl ?_
  refine am_aload_n (q := 13) rfl (am_tab tk_X10_qJoins 8 rfl) rfl ?_
  refine am_getR (q := 16) (a := 55) (k := 10) (n := 108) (j := 102) (r := some (129)) (Ls_55 hL) (by decide) rfl (Lr_55_102 hL) (by decide) (Or.inl kf_X10_239) (am_tab tk_X10_qJoins 9 rfl) rfl ?_
  refine am_aload_n (q := 17) rfl (am_tab tk_X10_qJoins 10 rfl) rfl ?_
  refine am_getI (q := 20) (a := 55) (k := 10) (n := 108) (j := 103) (x := ((k : Int) + 2)) (Ls_55 hL) (by decide) rfl hn (by decide) (Or.inl kf_X10_403) (am_tab tk_X10_qJoins 11 rfl) rfl ?_
  refine am_iconst (q := 21) (n := 2) (by decide) (am_tab tk_X10_qJoins 12 rfl) rfl ?_
  refine am_isub (q := 22) (by omega) (am_tab tk_X10_qJoins 13 rfl) rfl ?_
  refine am_lald (q := 23) (a := 129) (n := 1700) (x := a) (Ls_129 hL) (by omega) (by omega) (by rw [show (((k : Int) + 2) - 2).toNat = k by omega]; exact ha) (am_tab tk_X10_qJoins 14 rfl) rfl ?_
  refine am_lstore (q := 25) (by decide) (ls2 := [(4, am_l a), (2, am_l b), (0, am_r 55), (1, am_i v)]) rfl (am_tab tk_X10_qJoins 15 rfl) rfl ?_
  refine am_aload_n (q := 26) rfl (am_tab tk_X10_qJoins 16 rfl) rfl ?_
  refine am_dup (q := 27) rfl (am_tab tk_X10_qJoins 17 rfl) rfl ?_
  refine am_getI (q := 30) (a := 55) (k := 10) (n := 108) (j := 103) (x := ((k : Int) + 2)) (Ls_55 hL) (by decide) rfl hn (by decide) (Or.inl kf_X10_403) (am_tab tk_X10_qJoins 18 rfl) rfl ?_
  refine am_iconst (q := 31) (n := 2) (by decide) (am_tab tk_X10_qJoins 19 rfl) rfl ?_
  refine am_isub (q := 32) (by omega) (am_tab tk_X10_qJoins 20 rfl) rfl ?_
  refine am_putI (q := 35) (k := 10) (n := 108) (j := 103) (Ls_55 hL) (by decide) rfl (by decide) (Or.inl ⟨kf_X10_403, rfl⟩) (am_tab tk_X10_qJoins 21 rfl) rfl ?_
  refine am_iload_n (q := 36) rfl (am_tab tk_X10_qJoins 22 rfl) rfl ?_
  rcases (show v = 1 ∨ v = 2 ∨ v = 3 ∨ v = 4 ∨ v = 5 ∨ v = 6 ∨ v = 7 ∨ v = 8 ∨ v = 9 ∨ v = 10 ∨ (v < 1 ∨ 10 < v) by omega) with e36 | e36 | e36 | e36 | e36 | e36 | e36 | e36 | e36 | e36 | e36
  · refine am_tableIn (t := 92) (off := 56) (by omega) (by omega) (by rw [e36]; rfl) dsw_X10_qJoins_36 (by decide) ?_
    refine am_aload_n (q := 93) rfl (am_tab tk_X10_qJoins 24 rfl) rfl ?_
    refine am_lload (q := 95) rfl (am_tab tk_X10_qJoins 25 rfl) rfl ?_
    refine am_lload_n (q := 96) rfl (am_tab tk_X10_qJoins 26 rfl) rfl ?_
    refine am_ladd (q := 97) (by omega) (am_tab tk_X10_qJoins 27 rfl) rfl ?_
    refine am_callS0 (q := 100) (me2 := M_X10_qClip) (As := [am_l ((a + b))]) (rest := [am_r 55]) (out := [am_l (clp (a + b)), am_r 55]) (c_X10_qClip ((am_setN σ 55 103 (((((k : Int) + 2)) - 2)))) hL (a + b)) ⟨rfl, rfl⟩ ⟨Or.inl km_X10_646, kc_X10_qClip, kn_X10, kd_X10_qClip, ⟨(Nat.le_of_ble_eq_true rfl), (Nat.le_of_ble_eq_true rfl)⟩, ⟨(Nat.le_of_ble_eq_true rfl), (Nat.le_of_ble_eq_true rfl)⟩, (Nat.le_of_ble_eq_true rfl)⟩ ki_X10_qClip rfl rfl (am_tab tk_X10_qJoins 28 rfl) rfl ?_
    refine am_callV0 (q := 103) (me2 := M_X10_qPuts) (b := 55) (kb := 10) (nb := 108) (As := [am_l (clp (a + b))]) (rest := []) (out := []) (c_X10_qPuts ((am_setN σ 55 103 (((((k : Int) + 2)) - 2)))) hL (clp (a + b)) k (by show ((k : Int) + 2) - 2 = (k : Int); omega) (by omega)) ⟨rfl, rfl⟩ (Ls_55 hL) (by decide) ⟨Or.inl km_X10_406, kc_X10_qPuts, kn_X10, kd_X10_qPuts, ⟨(Nat.le_of_ble_eq_true rfl), (Nat.le_of_ble_eq_true rfl)⟩, ⟨(Nat.le_of_ble_eq_true rfl), (Nat.le_of_ble_eq_true rfl)⟩, (Nat.le_of_ble_eq_true rfl)⟩ ki_X10_qPuts ks_X10_qPuts rfl rfl (am_tab tk_X10_qJoins 29 rfl) rfl ?_
    refine am_goto (t := 273) (am_tab tk_X10_qJoins 30 rfl) (by decide) ?_
    refine am_vret rfl (Nat.le_of_ble_eq_true rfl) (Nat.le_of_ble_eq_true rfl) (am_tab tk_X10_qJoins 118 rfl) ?_
    refine ⟨rfl, ?_⟩
    rw [sw129, show jn v a b = clp (a + b) from ?_]
    unfold jn
    first
      | rw [if_pos (by omega)]
      | rw [if_neg (by omega), if_pos (by omega)]
      | rw [if_neg (by omega), if_neg (by omega), if_pos (by omega)]
      | rw [if_neg (by omega), if_neg (by omega), if_neg (by omega), if_pos (by omega)]
      | (rw [if_neg (by omega), if_neg (by omega), if_neg (by omega), if_neg (by omega), if_pos (by omega)]; first | rw [if_pos (by omega)] | rw [if_neg (by omega)])
      | (rw [if_neg (by omega), if_neg (by omega), if_neg (by omega), if_neg (by omega), if_neg (by omega), if_pos (by omega)]; first | rw [if_pos (by omega)] | rw [if_neg (by omega)])
      | (rw [if_neg (by omega), if_neg (by omega), if_neg (by omega), if_neg (by omega), if_neg (by omega), if_neg (by omega), if_pos (by omega)]; first | rw [if_pos (by omega)] | rw [if_neg (by omega)])
      | (rw [if_neg (by omega), if_neg (by omega), if_neg (by omega), if_neg (by omega), if_neg (by omega), if_neg (by omega), if_neg (by omega), if_pos (by omega)]; first | rw [if_pos (by omega)] | rw [if_neg (by omega)])
      | (rw [if_neg (by omega), if_neg (by omega), if_neg (by omega), if_neg (by omega), if_neg (by omega), if_neg (by omega), if_neg (by omega), if_neg (by omega), if_pos (by omega)]; first | rw [if_pos (by omega)] | rw [if_neg (by omega)])
      | rw [if_neg (by omega), if_neg (by omega), if_neg (by omega), if_neg (by omega), if_neg (by omega), if_neg (by omega), if_neg (by omega), if_neg (by omega), if_neg (by omega), if_pos (by omega)]
      | (rw [if_neg (by omega), if_neg (by omega), if_neg (by omega), if_neg (by omega), if_neg (by omega), if_neg (by omega), if_neg (by omega), if_neg (by omega), if_neg (by omega), if_neg (by omega)]; first | rw [if_pos (by omega)] | rw [if_neg (by omega)])
  · refine am_tableIn (t := 106) (off := 70) (by omega) (by omega) (by rw [e36]; rfl) dsw_X10_qJoins_36 (by decide) ?_
    refine am_aload_n (q := 107) rfl (am_tab tk_X10_qJoins 31 rfl) rfl ?_
    refine am_lload (q := 109) rfl (am_tab tk_X10_qJoins 32 rfl) rfl ?_
    refine am_lload_n (q := 110) rfl (am_tab tk_X10_qJoins 33 rfl) rfl ?_
    refine am_lsub (q := 111) (by omega) (am_tab tk_X10_qJoins 34 rfl) rfl ?_
    refine am_callS0 (q := 114) (me2 := M_X10_qClip) (As := [am_l ((a - b))]) (rest := [am_r 55]) (out := [am_l (clp (a - b)), am_r 55]) (c_X10_qClip ((am_setN σ 55 103 (((((k : Int) + 2)) - 2)))) hL (a - b)) ⟨rfl, rfl⟩ ⟨Or.inl km_X10_646, kc_X10_qClip, kn_X10, kd_X10_qClip, ⟨(Nat.le_of_ble_eq_true rfl), (Nat.le_of_ble_eq_true rfl)⟩, ⟨(Nat.le_of_ble_eq_true rfl), (Nat.le_of_ble_eq_true rfl)⟩, (Nat.le_of_ble_eq_true rfl)⟩ ki_X10_qClip rfl rfl (am_tab tk_X10_qJoins 35 rfl) rfl ?_
    refine am_callV0 (q := 117) (me2 := M_X10_qPuts) (b := 55) (kb := 10) (nb := 108) (As := [am_l (clp (a - b))]) (rest := []) (out := []) (c_X10_qPuts ((am_setN σ 55 103 (((((k : Int) + 2)) - 2)))) hL (clp (a - b)) k (by show ((k : Int) + 2) - 2 = (k : Int); omega) (by omega)) ⟨rfl, rfl⟩ (Ls_55 hL) (by decide) ⟨Or.inl km_X10_406, kc_X10_qPuts, kn_X10, kd_X10_qPuts, ⟨(Nat.le_of_ble_eq_true rfl), (Nat.le_of_ble_eq_true rfl)⟩, ⟨(Nat.le_of_ble_eq_true rfl), (Nat.le_of_ble_eq_true rfl)⟩, (Nat.le_of_ble_eq_true rfl)⟩ ki_X10_qPuts ks_X10_qPuts rfl rfl (am_tab tk_X10_qJoins 36 rfl) rfl ?_
    refine am_goto (t := 273) (am_tab tk_X10_qJoins 37 rfl) (by decide) ?_
    refine am_vret rfl (Nat.le_of_ble_eq_true rfl) (Nat.le_of_ble_eq_true rfl) (am_tab tk_X10_qJoins 118 rfl) ?_
    refine ⟨rfl, ?_⟩
    rw [sw129, show jn v a b = clp (a - b) from ?_]
    unfold jn
    first
      | rw [if_pos (by omega)]
      | rw [if_neg (by omega), if_pos (by omega)]
      | rw [if_neg (by omega), if_neg (by omega), if_pos (by omega)]
      | rw [if_neg (by omega), if_neg (by omega), if_neg (by omega), if_pos (by omega)]
      | (rw [if_neg (by omega), if_neg (by omega), if_neg (by omega), if_neg (by omega), if_pos (by omega)]; first | rw [if_pos (by omega)] | rw [if_neg (by omega)])
      | (rw [if_neg (by omega), if_neg (by omega), if_neg (by omega), if_neg (by omega), if_neg (by omega), if_pos (by omega)]; first | rw [if_pos (by omega)] | rw [if_neg (by omega)])
      | (rw [if_neg (by omega), if_neg (by omega), if_neg (by omega), if_neg (by omega), if_neg (by omega), if_neg (by omega), if_pos (by omega)]; first | rw [if_pos (by omega)] | rw [if_neg (by omega)])
      | (rw [if_neg (by omega), if_neg (by omega), if_neg (by omega), if_neg (by omega), if_neg (by omega), if_neg (by omega), if_neg (by omega), if_pos (by omega)]; first | rw [if_pos (by omega)] | rw [if_neg (by omega)])
      | (rw [if_neg (by omega), if_neg (by omega), if_neg (by omega), if_neg (by omega), if_neg (by omega), if_neg (by omega), if_neg (by omega), if_neg (by omega), if_pos (by omega)]; first | rw [if_pos (by omega)] | rw [if_neg (by omega)])
      | rw [if_neg (by omega), if_neg (by omega), if_neg (by omega), if_neg (by omega), if_neg (by omega), if_neg (by omega), if_neg (by omega), if_neg (by omega), if_neg (by omega), if_pos (by omega)]
      | (rw [if_neg (by omega), if_neg (by omega), if_neg (by omega), if_neg (by omega), if_neg (by omega), if_neg (by omega), if_neg (by omega), if_neg (by omega), if_neg (by omega), if_neg (by omega)]; first | rw [if_pos (by omega)] | rw [if_neg (by omega)])
  · refine am_tableIn (t := 120) (off := 84) (by omega) (by omega) (by rw [e36]; rfl) dsw_X10_qJoins_36 (by decide) ?_
    refine am_aload_n (q := 121) rfl (am_tab tk_X10_qJoins 38 rfl) rfl ?_
    refine am_lload (q := 123) rfl (am_tab tk_X10_qJoins 39 rfl) rfl ?_
    refine am_lload_n (q := 124) rfl (am_tab tk_X10_qJoins 40 rfl) rfl ?_
    refine am_lmul (q := 125) (by omega) (am_tab tk_X10_qJoins 41 rfl) rfl ?_
    refine am_callS0 (q := 128) (me2 := M_X10_qClip) (As := [am_l ((a * b))]) (rest := [am_r 55]) (out := [am_l (clp (a * b)), am_r 55]) (c_X10_qClip ((am_setN σ 55 103 (((((k : Int) + 2)) - 2)))) hL (a * b)) ⟨rfl, rfl⟩ ⟨Or.inl km_X10_646, kc_X10_qClip, kn_X10, kd_X10_qClip, ⟨(Nat.le_of_ble_eq_true rfl), (Nat.le_of_ble_eq_true rfl)⟩, ⟨(Nat.le_of_ble_eq_true rfl), (Nat.le_of_ble_eq_true rfl)⟩, (Nat.le_of_ble_eq_true rfl)⟩ ki_X10_qClip rfl rfl (am_tab tk_X10_qJoins 42 rfl) rfl ?_
    refine am_callV0 (q := 131) (me2 := M_X10_qPuts) (b := 55) (kb := 10) (nb := 108) (As := [am_l (clp (a * b))]) (rest := []) (out := []) (c_X10_qPuts ((am_setN σ 55 103 (((((k : Int) + 2)) - 2)))) hL (clp (a * b)) k (by show ((k : Int) + 2) - 2 = (k : Int); omega) (by omega)) ⟨rfl, rfl⟩ (Ls_55 hL) (by decide) ⟨Or.inl km_X10_406, kc_X10_qPuts, kn_X10, kd_X10_qPuts, ⟨(Nat.le_of_ble_eq_true rfl), (Nat.le_of_ble_eq_true rfl)⟩, ⟨(Nat.le_of_ble_eq_true rfl), (Nat.le_of_ble_eq_true rfl)⟩, (Nat.le_of_ble_eq_true rfl)⟩ ki_X10_qPuts ks_X10_qPuts rfl rfl (am_tab tk_X10_qJoins 43 rfl) rfl ?_
    refine am_goto (t := 273) (am_tab tk_X10_qJoins 44 rfl) (by decide) ?_
    refine am_vret rfl (Nat.le_of_ble_eq_true rfl) (Nat.le_of_ble_eq_true rfl) (am_tab tk_X10_qJoins 118 rfl) ?_
    refine ⟨rfl, ?_⟩
    rw [sw129, show jn v a b = clp (a * b) from ?_]
    unfold jn
    first
      | rw [if_pos (by omega)]
      | rw [if_neg (by omega), if_pos (by omega)]
      | rw [if_neg (by omega), if_neg (by omega), if_pos (by omega)]
      | rw [if_neg (by omega), if_neg (by omega), if_neg (by omega), if_pos (by omega)]
      | (rw [if_neg (by omega), if_neg (by omega), if_neg (by omega), if_neg (by omega), if_pos (by omega)]; first | rw [if_pos (by omega)] | rw [if_neg (by omega)])
      | (rw [if_neg (by omega), if_neg (by omega), if_neg (by omega), if_neg (by omega), if_neg (by omega), if_pos (by omega)]; first | rw [if_pos (by omega)] | rw [if_neg (by omega)])
      | (rw [if_neg (by omega), if_neg (by omega), if_neg (by omega), if_neg (by omega), if_neg (by omega), if_neg (by omega), if_pos (by omega)]; first | rw [if_pos (by omega)] | rw [if_neg (by omega)])
      | (rw [if_neg (by omega), if_neg (by omega), if_neg (by omega), if_neg (by omega), if_neg (by omega), if_neg (by omega), if_neg (by omega), if_pos (by omega)]; first | rw [if_pos (by omega)] | rw [if_neg (by omega)])
      | (rw [if_neg (by omega), if_neg (by omega), if_neg (by omega), if_neg (by omega), if_neg (by omega), if_neg (by omega), if_neg (by omega), if_neg (by omega), if_pos (by omega)]; first | rw [if_pos (by omega)] | rw [if_neg (by omega)])
      | rw [if_neg (by omega), if_neg (by omega), if_neg (by omega), if_neg (by omega), if_neg (by omega), if_neg (by omega), if_neg (by omega), if_neg (by omega), if_neg (by omega), if_pos (by omega)]
      | (rw [if_neg (by omega), if_neg (by omega), if_neg (by omega), if_neg (by omega), if_neg (by omega), if_neg (by omega), if_neg (by omega), if_neg (by omega), if_neg (by omega), if_neg (by omega)]; first | rw [if_pos (by omega)] | rw [if_neg (by omega)])
  · refine am_tableIn (t := 134) (off := 98) (by omega) (by omega) (by rw [e36]; rfl) dsw_X10_qJoins_36 (by decide) ?_
    refine am_aload_n (q := 135) rfl (am_tab tk_X10_qJoins 45 rfl) rfl ?_
    refine am_lload (q := 137) rfl (am_tab tk_X10_qJoins 46 rfl) rfl ?_
    refine am_lload_n (q := 138) rfl (am_tab tk_X10_qJoins 47 rfl) rfl ?_
    refine am_callS0 (q := 141) (me2 := M_X10_qFloor) (As := [am_l a, am_l b]) (rest := [am_r 55]) (out := [am_l (flr a b), am_r 55]) (c_X10_qFloor ((am_setN σ 55 103 (((((k : Int) + 2)) - 2)))) hL a b (by omega) (by omega)) ⟨rfl, rfl⟩ ⟨Or.inl km_X10_650, kc_X10_qFloor, kn_X10, kd_X10_qFloor, ⟨(Nat.le_of_ble_eq_true rfl), (Nat.le_of_ble_eq_true rfl)⟩, ⟨(Nat.le_of_ble_eq_true rfl), (Nat.le_of_ble_eq_true rfl)⟩, (Nat.le_of_ble_eq_true rfl)⟩ ki_X10_qFloor rfl rfl (am_tab tk_X10_qJoins 48 rfl) rfl ?_
    refine am_callV0 (q := 144) (me2 := M_X10_qPuts) (b := 55) (kb := 10) (nb := 108) (As := [am_l (flr a b)]) (rest := []) (out := []) (c_X10_qPuts ((am_setN σ 55 103 (((((k : Int) + 2)) - 2)))) hL (flr a b) k (by show ((k : Int) + 2) - 2 = (k : Int); omega) (by omega)) ⟨rfl, rfl⟩ (Ls_55 hL) (by decide) ⟨Or.inl km_X10_406, kc_X10_qPuts, kn_X10, kd_X10_qPuts, ⟨(Nat.le_of_ble_eq_true rfl), (Nat.le_of_ble_eq_true rfl)⟩, ⟨(Nat.le_of_ble_eq_true rfl), (Nat.le_of_ble_eq_true rfl)⟩, (Nat.le_of_ble_eq_true rfl)⟩ ki_X10_qPuts ks_X10_qPuts rfl rfl (am_tab tk_X10_qJoins 49 rfl) rfl ?_
    refine am_goto (t := 273) (am_tab tk_X10_qJoins 50 rfl) (by decide) ?_
    refine am_vret rfl (Nat.le_of_ble_eq_true rfl) (Nat.le_of_ble_eq_true rfl) (am_tab tk_X10_qJoins 118 rfl) ?_
    refine ⟨rfl, ?_⟩
    rw [sw129, show jn v a b = flr a b from ?_]
    unfold jn
    first
      | rw [if_pos (by omega)]
      | rw [if_neg (by omega), if_pos (by omega)]
      | rw [if_neg (by omega), if_neg (by omega), if_pos (by omega)]
      | rw [if_neg (by omega), if_neg (by omega), if_neg (by omega), if_pos (by omega)]
      | (rw [if_neg (by omega), if_neg (by omega), if_neg (by omega), if_neg (by omega), if_pos (by omega)]; first | rw [if_pos (by omega)] | rw [if_neg (by omega)])
      | (rw [if_neg (by omega), if_neg (by omega), if_neg (by omega), if_neg (by omega), if_neg (by omega), if_pos (by omega)]; first | rw [if_pos (by omega)] | rw [if_neg (by omega)])
      | (rw [if_neg (by omega), if_neg (by omega), if_neg (by omega), if_neg (by omega), if_neg (by omega), if_neg (by omega), if_pos (by omega)]; first | rw [if_pos (by omega)] | rw [if_neg (by omega)])
      | (rw [if_neg (by omega), if_neg (by omega), if_neg (by omega), if_neg (by omega), if_neg (by omega), if_neg (by omega), if_neg (by omega), if_pos (by omega)]; first | rw [if_pos (by omega)] | rw [if_neg (by omega)])
      | (rw [if_neg (by omega), if_neg (by omega), if_neg (by omega), if_neg (by omega), if_neg (by omega), if_neg (by omega), if_neg (by omega), if_neg (by omega), if_pos (by omega)]; first | rw [if_pos (by omega)] | rw [if_neg (by omega)])
      | rw [if_neg (by omega), if_neg (by omega), if_neg (by omega), if_neg (by omega), if_neg (by omega), if_neg (by omega), if_neg (by omega), if_neg (by omega), if_neg (by omega), if_pos (by omega)]
      | (rw [if_neg (by omega), if_neg (by omega), if_neg (by omega), if_neg (by omega), if_neg (by omega), if_neg (by omega), if_neg (by omega), if_neg (by omega), if_neg (by omega), if_neg (by omega)]; first | rw [if_pos (by omega)] | rw [if_neg (by omega)])
  · refine am_tableIn (t := 147) (off := 111) (by omega) (by omega) (by rw [e36]; rfl) dsw_X10_qJoins_36 (by decide) ?_
    refine am_aload_n (q := 148) rfl (am_tab tk_X10_qJoins 51 rfl) rfl ?_
    refine am_lload (q := 150) rfl (am_tab tk_X10_qJoins 52 rfl) rfl ?_
    refine am_lload_n (q := 151) rfl (am_tab tk_X10_qJoins 53 rfl) rfl ?_
    refine am_lcmp (q := 152) (am_tab tk_X10_qJoins 54 rfl) rfl ?_
    refine am_if_ge (q := 155) (t := 160) (am_tab tk_X10_qJoins 55 rfl) (by decide) rfl (fun h152 => ?_) (fun h152 => ?_)
    · rw [ao_cmp_ge] at h152
      refine am_lload_n (q := 161) rfl (am_tab tk_X10_qJoins 58 rfl) rfl ?_
      refine am_callV0 (q := 164) (me2 := M_X10_qPuts) (b := 55) (kb := 10) (nb := 108) (As := [am_l b]) (rest := []) (out := []) (c_X10_qPuts ((am_setN σ 55 103 (((((k : Int) + 2)) - 2)))) hL b k (by show ((k : Int) + 2) - 2 = (k : Int); omega) (by omega)) ⟨rfl, rfl⟩ (Ls_55 hL) (by decide) ⟨Or.inl km_X10_406, kc_X10_qPuts, kn_X10, kd_X10_qPuts, ⟨(Nat.le_of_ble_eq_true rfl), (Nat.le_of_ble_eq_true rfl)⟩, ⟨(Nat.le_of_ble_eq_true rfl), (Nat.le_of_ble_eq_true rfl)⟩, (Nat.le_of_ble_eq_true rfl)⟩ ki_X10_qPuts ks_X10_qPuts rfl rfl (am_tab tk_X10_qJoins 59 rfl) rfl ?_
      refine am_goto (t := 273) (am_tab tk_X10_qJoins 60 rfl) (by decide) ?_
      refine am_vret rfl (Nat.le_of_ble_eq_true rfl) (Nat.le_of_ble_eq_true rfl) (am_tab tk_X10_qJoins 118 rfl) ?_
      refine ⟨rfl, ?_⟩
      rw [sw129, show jn v a b = b from ?_]
      unfold jn
      first
        | rw [if_pos (by omega)]
        | rw [if_neg (by omega), if_pos (by omega)]
        | rw [if_neg (by omega), if_neg (by omega), if_pos (by omega)]
        | rw [if_neg (by omega), if_neg (by omega), if_neg (by omega), if_pos (by omega)]
        | (rw [if_neg (by omega), if_neg (by omega), if_neg (by omega), if_neg (by omega), if_pos (by omega)]; first | rw [if_pos (by omega)] | rw [if_neg (by omega)])
        | (rw [if_neg (by omega), if_neg (by omega), if_neg (by omega), if_neg (by omega), if_neg (by omega), if_pos (by omega)]; first | rw [if_pos (by omega)] | rw [if_neg (by omega)])
        | (rw [if_neg (by omega), if_neg (by omega), if_neg (by omega), if_neg (by omega), if_neg (by omega), if_neg (by omega), if_pos (by omega)]; first | rw [if_pos (by omega)] | rw [if_neg (by omega)])
        | (rw [if_neg (by omega), if_neg (by omega), if_neg (by omega), if_neg (by omega), if_neg (by omega), if_neg (by omega), if_neg (by omega), if_pos (by omega)]; first | rw [if_pos (by omega)] | rw [if_neg (by omega)])
        | (rw [if_neg (by omega), if_neg (by omega), if_neg (by omega), if_neg (by omega), if_neg (by omega), if_neg (by omega), if_neg (by omega), if_neg (by omega), if_pos (by omega)]; first | rw [if_pos (by omega)] | rw [if_neg (by omega)])
        | rw [if_neg (by omega), if_neg (by omega), if_neg (by omega), if_neg (by omega), if_neg (by omega), if_neg (by omega), if_neg (by omega), if_neg (by omega), if_neg (by omega), if_pos (by omega)]
        | (rw [if_neg (by omega), if_neg (by omega), if_neg (by omega), if_neg (by omega), if_neg (by omega), if_neg (by omega), if_neg (by omega), if_neg (by omega), if_neg (by omega), if_neg (by omega)]; first | rw [if_pos (by omega)] | rw [if_neg (by omega)])
    · rw [ao_cmp_ge] at h152
      refine am_lload (q := 157) rfl (am_tab tk_X10_qJoins 56 rfl) rfl ?_
      refine am_goto (t := 161) (am_tab tk_X10_qJoins 57 rfl) (by decide) ?_
      refine am_callV0 (q := 164) (me2 := M_X10_qPuts) (b := 55) (kb := 10) (nb := 108) (As := [am_l a]) (rest := []) (out := []) (c_X10_qPuts ((am_setN σ 55 103 (((((k : Int) + 2)) - 2)))) hL a k (by show ((k : Int) + 2) - 2 = (k : Int); omega) (by omega)) ⟨rfl, rfl⟩ (Ls_55 hL) (by decide) ⟨Or.inl km_X10_406, kc_X10_qPuts, kn_X10, kd_X10_qPuts, ⟨(Nat.le_of_ble_eq_true rfl), (Nat.le_of_ble_eq_true rfl)⟩, ⟨(Nat.le_of_ble_eq_true rfl), (Nat.le_of_ble_eq_true rfl)⟩, (Nat.le_of_ble_eq_true rfl)⟩ ki_X10_qPuts ks_X10_qPuts rfl rfl (am_tab tk_X10_qJoins 59 rfl) rfl ?_
      refine am_goto (t := 273) (am_tab tk_X10_qJoins 60 rfl) (by decide) ?_
      refine am_vret rfl (Nat.le_of_ble_eq_true rfl) (Nat.le_of_ble_eq_true rfl) (am_tab tk_X10_qJoins 118 rfl) ?_
      refine ⟨rfl, ?_⟩
      rw [sw129, show jn v a b = a from ?_]
      unfold jn
      first
        | rw [if_pos (by omega)]
        | rw [if_neg (by omega), if_pos (by omega)]
        | rw [if_neg (by omega), if_neg (by omega), if_pos (by omega)]
        | rw [if_neg (by omega), if_neg (by omega), if_neg (by omega), if_pos (by omega)]
        | (rw [if_neg (by omega), if_neg (by omega), if_neg (by omega), if_neg (by omega), if_pos (by omega)]; first | rw [if_pos (by omega)] | rw [if_neg (by omega)])
        | (rw [if_neg (by omega), if_neg (by omega), if_neg (by omega), if_neg (by omega), if_neg (by omega), if_pos (by omega)]; first | rw [if_pos (by omega)] | rw [if_neg (by omega)])
        | (rw [if_neg (by omega), if_neg (by omega), if_neg (by omega), if_neg (by omega), if_neg (by omega), if_neg (by omega), if_pos (by omega)]; first | rw [if_pos (by omega)] | rw [if_neg (by omega)])
        | (rw [if_neg (by omega), if_neg (by omega), if_neg (by omega), if_neg (by omega), if_neg (by omega), if_neg (by omega), if_neg (by omega), if_pos (by omega)]; first | rw [if_pos (by omega)] | rw [if_neg (by omega)])
        | (rw [if_neg (by omega), if_neg (by omega), if_neg (by omega), if_neg (by omega), if_neg (by omega), if_neg (by omega), if_neg (by omega), if_neg (by omega), if_pos (by omega)]; first | rw [if_pos (by omega)] | rw [if_neg (by omega)])
        | rw [if_neg (by omega), if_neg (by omega), if_neg (by omega), if_neg (by omega), if_neg (by omega), if_neg (by omega), if_neg (by omega), if_neg (by omega), if_neg (by omega), if_pos (by omega)]
        | (rw [if_neg (by omega), if_neg (by omega), if_neg (by omega), if_neg (by omega), if_neg (by omega), if_neg (by omega), if_neg (by omega), if_neg (by omega), if_neg (by omega), if_neg (by omega)]; first | rw [if_pos (by omega)] | rw [if_neg (by omega)])
  · refine am_tableIn (t := 167) (off := 131) (by omega) (by omega) (by rw [e36]; rfl) dsw_X10_qJoins_36 (by decide) ?_
    refine am_aload_n (q := 168) rfl (am_tab tk_X10_qJoins 61 rfl) rfl ?_
    refine am_lload (q := 170) rfl (am_tab tk_X10_qJoins 62 rfl) rfl ?_
    refine am_lload_n (q := 171) rfl (am_tab tk_X10_qJoins 63 rfl) rfl ?_
    refine am_lcmp (q := 172) (am_tab tk_X10_qJoins 64 rfl) rfl ?_
    refine am_if_le (q := 175) (t := 180) (am_tab tk_X10_qJoins 65 rfl) (by decide) rfl (fun h172 => ?_) (fun h172 => ?_)
    · rw [ao_cmp_le] at h172
      refine am_lload_n (q := 181) rfl (am_tab tk_X10_qJoins 68 rfl) rfl ?_
      refine am_callV0 (q := 184) (me2 := M_X10_qPuts) (b := 55) (kb := 10) (nb := 108) (As := [am_l b]) (rest := []) (out := []) (c_X10_qPuts ((am_setN σ 55 103 (((((k : Int) + 2)) - 2)))) hL b k (by show ((k : Int) + 2) - 2 = (k : Int); omega) (by omega)) ⟨rfl, rfl⟩ (Ls_55 hL) (by decide) ⟨Or.inl km_X10_406, kc_X10_qPuts, kn_X10, kd_X10_qPuts, ⟨(Nat.le_of_ble_eq_true rfl), (Nat.le_of_ble_eq_true rfl)⟩, ⟨(Nat.le_of_ble_eq_true rfl), (Nat.le_of_ble_eq_true rfl)⟩, (Nat.le_of_ble_eq_true rfl)⟩ ki_X10_qPuts ks_X10_qPuts rfl rfl (am_tab tk_X10_qJoins 69 rfl) rfl ?_
      refine am_goto (t := 273) (am_tab tk_X10_qJoins 70 rfl) (by decide) ?_
      refine am_vret rfl (Nat.le_of_ble_eq_true rfl) (Nat.le_of_ble_eq_true rfl) (am_tab tk_X10_qJoins 118 rfl) ?_
      refine ⟨rfl, ?_⟩
      rw [sw129, show jn v a b = b from ?_]
      unfold jn
      first
        | rw [if_pos (by omega)]
        | rw [if_neg (by omega), if_pos (by omega)]
        | rw [if_neg (by omega), if_neg (by omega), if_pos (by omega)]
        | rw [if_neg (by omega), if_neg (by omega), if_neg (by omega), if_pos (by omega)]
        | (rw [if_neg (by omega), if_neg (by omega), if_neg (by omega), if_neg (by omega), if_pos (by omega)]; first | rw [if_pos (by omega)] | rw [if_neg (by omega)])
        | (rw [if_neg (by omega), if_neg (by omega), if_neg (by omega), if_neg (by omega), if_neg (by omega), if_pos (by omega)]; first | rw [if_pos (by omega)] | rw [if_neg (by omega)])
        | (rw [if_neg (by omega), if_neg (by omega), if_neg (by omega), if_neg (by omega), if_neg (by omega), if_neg (by omega), if_pos (by omega)]; first | rw [if_pos (by omega)] | rw [if_neg (by omega)])
        | (rw [if_neg (by omega), if_neg (by omega), if_neg (by omega), if_neg (by omega), if_neg (by omega), if_neg (by omega), if_neg (by omega), if_pos (by omega)]; first | rw [if_pos (by omega)] | rw [if_neg (by omega)])
        | (rw [if_neg (by omega), if_neg (by omega), if_neg (by omega), if_neg (by omega), if_neg (by omega), if_neg (by omega), if_neg (by omega), if_neg (by omega), if_pos (by omega)]; first | rw [if_pos (by omega)] | rw [if_neg (by omega)])
        | rw [if_neg (by omega), if_neg (by omega), if_neg (by omega), if_neg (by omega), if_neg (by omega), if_neg (by omega), if_neg (by omega), if_neg (by omega), if_neg (by omega), if_pos (by omega)]
        | (rw [if_neg (by omega), if_neg (by omega), if_neg (by omega), if_neg (by omega), if_neg (by omega), if_neg (by omega), if_neg (by omega), if_neg (by omega), if_neg (by omega), if_neg (by omega)]; first | rw [if_pos (by omega)] | rw [if_neg (by omega)])
    · rw [ao_cmp_le] at h172
      refine am_lload (q := 177) rfl (am_tab tk_X10_qJoins 66 rfl) rfl ?_
      refine am_goto (t := 181) (am_tab tk_X10_qJoins 67 rfl) (by decide) ?_
      refine am_callV0 (q := 184) (me2 := M_X10_qPuts) (b := 55) (kb := 10) (nb := 108) (As := [am_l a]) (rest := []) (out := []) (c_X10_qPuts ((am_setN σ 55 103 (((((k : Int) + 2)) - 2)))) hL a k (by show ((k : Int) + 2) - 2 = (k : Int); omega) (by omega)) ⟨rfl, rfl⟩ (Ls_55 hL) (by decide) ⟨Or.inl km_X10_406, kc_X10_qPuts, kn_X10, kd_X10_qPuts, ⟨(Nat.le_of_ble_eq_true rfl), (Nat.le_of_ble_eq_true rfl)⟩, ⟨(Nat.le_of_ble_eq_true rfl), (Nat.le_of_ble_eq_true rfl)⟩, (Nat.le_of_ble_eq_true rfl)⟩ ki_X10_qPuts ks_X10_qPuts rfl rfl (am_tab tk_X10_qJoins 69 rfl) rfl ?_
      refine am_goto (t := 273) (am_tab tk_X10_qJoins 70 rfl) (by decide) ?_
      refine am_vret rfl (Nat.le_of_ble_eq_true rfl) (Nat.le_of_ble_eq_true rfl) (am_tab tk_X10_qJoins 118 rfl) ?_
      refine ⟨rfl, ?_⟩
      rw [sw129, show jn v a b = a from ?_]
      unfold jn
      first
        | rw [if_pos (by omega)]
        | rw [if_neg (by omega), if_pos (by omega)]
        | rw [if_neg (by omega), if_neg (by omega), if_pos (by omega)]
        | rw [if_neg (by omega), if_neg (by omega), if_neg (by omega), if_pos (by omega)]
        | (rw [if_neg (by omega), if_neg (by omega), if_neg (by omega), if_neg (by omega), if_pos (by omega)]; first | rw [if_pos (by omega)] | rw [if_neg (by omega)])
        | (rw [if_neg (by omega), if_neg (by omega), if_neg (by omega), if_neg (by omega), if_neg (by omega), if_pos (by omega)]; first | rw [if_pos (by omega)] | rw [if_neg (by omega)])
        | (rw [if_neg (by omega), if_neg (by omega), if_neg (by omega), if_neg (by omega), if_neg (by omega), if_neg (by omega), if_pos (by omega)]; first | rw [if_pos (by omega)] | rw [if_neg (by omega)])
        | (rw [if_neg (by omega), if_neg (by omega), if_neg (by omega), if_neg (by omega), if_neg (by omega), if_neg (by omega), if_neg (by omega), if_pos (by omega)]; first | rw [if_pos (by omega)] | rw [if_neg (by omega)])
        | (rw [if_neg (by omega), if_neg (by omega), if_neg (by omega), if_neg (by omega), if_neg (by omega), if_neg (by omega), if_neg (by omega), if_neg (by omega), if_pos (by omega)]; first | rw [if_pos (by omega)] | rw [if_neg (by omega)])
        | rw [if_neg (by omega), if_neg (by omega), if_neg (by omega), if_neg (by omega), if_neg (by omega), if_neg (by omega), if_neg (by omega), if_neg (by omega), if_neg (by omega), if_pos (by omega)]
        | (rw [if_neg (by omega), if_neg (by omega), if_neg (by omega), if_neg (by omega), if_neg (by omega), if_neg (by omega), if_neg (by omega), if_neg (by omega), if_neg (by omega), if_neg (by omega)]; first | rw [if_pos (by omega)] | rw [if_neg (by omega)])
  · refine am_tableIn (t := 187) (off := 151) (by omega) (by omega) (by rw [e36]; rfl) dsw_X10_qJoins_36 (by decide) ?_
    refine am_aload_n (q := 188) rfl (am_tab tk_X10_qJoins 71 rfl) rfl ?_
    refine am_lload (q := 190) rfl (am_tab tk_X10_qJoins 72 rfl) rfl ?_
    refine am_lload_n (q := 191) rfl (am_tab tk_X10_qJoins 73 rfl) rfl ?_
    refine am_lcmp (q := 192) (am_tab tk_X10_qJoins 74 rfl) rfl ?_
    refine am_if_ge (q := 195) (t := 199) (am_tab tk_X10_qJoins 75 rfl) (by decide) rfl (fun h192 => ?_) (fun h192 => ?_)
    · rw [ao_cmp_ge] at h192
      refine am_lconst0 (q := 200) (am_tab tk_X10_qJoins 78 rfl) rfl ?_
      refine am_callV0 (q := 203) (me2 := M_X10_qPuts) (b := 55) (kb := 10) (nb := 108) (As := [am_l 0]) (rest := []) (out := []) (c_X10_qPuts ((am_setN σ 55 103 (((((k : Int) + 2)) - 2)))) hL 0 k (by show ((k : Int) + 2) - 2 = (k : Int); omega) (by omega)) ⟨rfl, rfl⟩ (Ls_55 hL) (by decide) ⟨Or.inl km_X10_406, kc_X10_qPuts, kn_X10, kd_X10_qPuts, ⟨(Nat.le_of_ble_eq_true rfl), (Nat.le_of_ble_eq_true rfl)⟩, ⟨(Nat.le_of_ble_eq_true rfl), (Nat.le_of_ble_eq_true rfl)⟩, (Nat.le_of_ble_eq_true rfl)⟩ ki_X10_qPuts ks_X10_qPuts rfl rfl (am_tab tk_X10_qJoins 79 rfl) rfl ?_
      refine am_goto (t := 273) (am_tab tk_X10_qJoins 80 rfl) (by decide) ?_
      refine am_vret rfl (Nat.le_of_ble_eq_true rfl) (Nat.le_of_ble_eq_true rfl) (am_tab tk_X10_qJoins 118 rfl) ?_
      refine ⟨rfl, ?_⟩
      rw [sw129, show jn v a b = 0 from ?_]
      unfold jn
      first
        | rw [if_pos (by omega)]
        | rw [if_neg (by omega), if_pos (by omega)]
        | rw [if_neg (by omega), if_neg (by omega), if_pos (by omega)]
        | rw [if_neg (by omega), if_neg (by omega), if_neg (by omega), if_pos (by omega)]
        | (rw [if_neg (by omega), if_neg (by omega), if_neg (by omega), if_neg (by omega), if_pos (by omega)]; first | rw [if_pos (by omega)] | rw [if_neg (by omega)])
        | (rw [if_neg (by omega), if_neg (by omega), if_neg (by omega), if_neg (by omega), if_neg (by omega), if_pos (by omega)]; first | rw [if_pos (by omega)] | rw [if_neg (by omega)])
        | (rw [if_neg (by omega), if_neg (by omega), if_neg (by omega), if_neg (by omega), if_neg (by omega), if_neg (by omega), if_pos (by omega)]; first | rw [if_pos (by omega)] | rw [if_neg (by omega)])
        | (rw [if_neg (by omega), if_neg (by omega), if_neg (by omega), if_neg (by omega), if_neg (by omega), if_neg (by omega), if_neg (by omega), if_pos (by omega)]; first | rw [if_pos (by omega)] | rw [if_neg (by omega)])
        | (rw [if_neg (by omega), if_neg (by omega), if_neg (by omega), if_neg (by omega), if_neg (by omega), if_neg (by omega), if_neg (by omega), if_neg (by omega), if_pos (by omega)]; first | rw [if_pos (by omega)] | rw [if_neg (by omega)])
        | rw [if_neg (by omega), if_neg (by omega), if_neg (by omega), if_neg (by omega), if_neg (by omega), if_neg (by omega), if_neg (by omega), if_neg (by omega), if_neg (by omega), if_pos (by omega)]
        | (rw [if_neg (by omega), if_neg (by omega), if_neg (by omega), if_neg (by omega), if_neg (by omega), if_neg (by omega), if_neg (by omega), if_neg (by omega), if_neg (by omega), if_neg (by omega)]; first | rw [if_pos (by omega)] | rw [if_neg (by omega)])
    · rw [ao_cmp_ge] at h192
      refine am_lconst1 (q := 196) (am_tab tk_X10_qJoins 76 rfl) rfl ?_
      refine am_goto (t := 200) (am_tab tk_X10_qJoins 77 rfl) (by decide) ?_
      refine am_callV0 (q := 203) (me2 := M_X10_qPuts) (b := 55) (kb := 10) (nb := 108) (As := [am_l 1]) (rest := []) (out := []) (c_X10_qPuts ((am_setN σ 55 103 (((((k : Int) + 2)) - 2)))) hL 1 k (by show ((k : Int) + 2) - 2 = (k : Int); omega) (by omega)) ⟨rfl, rfl⟩ (Ls_55 hL) (by decide) ⟨Or.inl km_X10_406, kc_X10_qPuts, kn_X10, kd_X10_qPuts, ⟨(Nat.le_of_ble_eq_true rfl), (Nat.le_of_ble_eq_true rfl)⟩, ⟨(Nat.le_of_ble_eq_true rfl), (Nat.le_of_ble_eq_true rfl)⟩, (Nat.le_of_ble_eq_true rfl)⟩ ki_X10_qPuts ks_X10_qPuts rfl rfl (am_tab tk_X10_qJoins 79 rfl) rfl ?_
      refine am_goto (t := 273) (am_tab tk_X10_qJoins 80 rfl) (by decide) ?_
      refine am_vret rfl (Nat.le_of_ble_eq_true rfl) (Nat.le_of_ble_eq_true rfl) (am_tab tk_X10_qJoins 118 rfl) ?_
      refine ⟨rfl, ?_⟩
      rw [sw129, show jn v a b = 1 from ?_]
      unfold jn
      first
        | rw [if_pos (by omega)]
        | rw [if_neg (by omega), if_pos (by omega)]
        | rw [if_neg (by omega), if_neg (by omega), if_pos (by omega)]
        | rw [if_neg (by omega), if_neg (by omega), if_neg (by omega), if_pos (by omega)]
        | (rw [if_neg (by omega), if_neg (by omega), if_neg (by omega), if_neg (by omega), if_pos (by omega)]; first | rw [if_pos (by omega)] | rw [if_neg (by omega)])
        | (rw [if_neg (by omega), if_neg (by omega), if_neg (by omega), if_neg (by omega), if_neg (by omega), if_pos (by omega)]; first | rw [if_pos (by omega)] | rw [if_neg (by omega)])
        | (rw [if_neg (by omega), if_neg (by omega), if_neg (by omega), if_neg (by omega), if_neg (by omega), if_neg (by omega), if_pos (by omega)]; first | rw [if_pos (by omega)] | rw [if_neg (by omega)])
        | (rw [if_neg (by omega), if_neg (by omega), if_neg (by omega), if_neg (by omega), if_neg (by omega), if_neg (by omega), if_neg (by omega), if_pos (by omega)]; first | rw [if_pos (by omega)] | rw [if_neg (by omega)])
        | (rw [if_neg (by omega), if_neg (by omega), if_neg (by omega), if_neg (by omega), if_neg (by omega), if_neg (by omega), if_neg (by omega), if_neg (by omega), if_pos (by omega)]; first | rw [if_pos (by omega)] | rw [if_neg (by omega)])
        | rw [if_neg (by omega), if_neg (by omega), if_neg (by omega), if_neg (by omega), if_neg (by omega), if_neg (by omega), if_neg (by omega), if_neg (by omega), if_neg (by omega), if_pos (by omega)]
        | (rw [if_neg (by omega), if_neg (by omega), if_neg (by omega), if_neg (by omega), if_neg (by omega), if_neg (by omega), if_neg (by omega), if_neg (by omega), if_neg (by omega), if_neg (by omega)]; first | rw [if_pos (by omega)] | rw [if_neg (by omega)])
  · refine am_tableIn (t := 206) (off := 170) (by omega) (by omega) (by rw [e36]; rfl) dsw_X10_qJoins_36 (by decide) ?_
    refine am_aload_n (q := 207) rfl (am_tab tk_X10_qJoins 81 rfl) rfl ?_
    refine am_lload (q := 209) rfl (am_tab tk_X10_qJoins 82 rfl) rfl ?_
    refine am_lload_n (q := 210) rfl (am_tab tk_X10_qJoins 83 rfl) rfl ?_
    refine am_lcmp (q := 211) (am_tab tk_X10_qJoins 84 rfl) rfl ?_
    refine am_if_le (q := 214) (t := 218) (am_tab tk_X10_qJoins 85 rfl) (by decide) rfl (fun h211 => ?_) (fun h211 => ?_)
    · rw [ao_cmp_le] at h211
      refine am_lconst0 (q := 219) (am_tab tk_X10_qJoins 88 rfl) rfl ?_
      refine am_callV0 (q := 222) (me2 := M_X10_qPuts) (b := 55) (kb := 10) (nb := 108) (As := [am_l 0]) (rest := []) (out := []) (c_X10_qPuts ((am_setN σ 55 103 (((((k : Int) + 2)) - 2)))) hL 0 k (by show ((k : Int) + 2) - 2 = (k : Int); omega) (by omega)) ⟨rfl, rfl⟩ (Ls_55 hL) (by decide) ⟨Or.inl km_X10_406, kc_X10_qPuts, kn_X10, kd_X10_qPuts, ⟨(Nat.le_of_ble_eq_true rfl), (Nat.le_of_ble_eq_true rfl)⟩, ⟨(Nat.le_of_ble_eq_true rfl), (Nat.le_of_ble_eq_true rfl)⟩, (Nat.le_of_ble_eq_true rfl)⟩ ki_X10_qPuts ks_X10_qPuts rfl rfl (am_tab tk_X10_qJoins 89 rfl) rfl ?_
      refine am_goto (t := 273) (am_tab tk_X10_qJoins 90 rfl) (by decide) ?_
      refine am_vret rfl (Nat.le_of_ble_eq_true rfl) (Nat.le_of_ble_eq_true rfl) (am_tab tk_X10_qJoins 118 rfl) ?_
      refine ⟨rfl, ?_⟩
      rw [sw129, show jn v a b = 0 from ?_]
      unfold jn
      first
        | rw [if_pos (by omega)]
        | rw [if_neg (by omega), if_pos (by omega)]
        | rw [if_neg (by omega), if_neg (by omega), if_pos (by omega)]
        | rw [if_neg (by omega), if_neg (by omega), if_neg (by omega), if_pos (by omega)]
        | (rw [if_neg (by omega), if_neg (by omega), if_neg (by omega), if_neg (by omega), if_pos (by omega)]; first | rw [if_pos (by omega)] | rw [if_neg (by omega)])
        | (rw [if_neg (by omega), if_neg (by omega), if_neg (by omega), if_neg (by omega), if_neg (by omega), if_pos (by omega)]; first | rw [if_pos (by omega)] | rw [if_neg (by omega)])
        | (rw [if_neg (by omega), if_neg (by omega), if_neg (by omega), if_neg (by omega), if_neg (by omega), if_neg (by omega), if_pos (by omega)]; first | rw [if_pos (by omega)] | rw [if_neg (by omega)])
        | (rw [if_neg (by omega), if_neg (by omega), if_neg (by omega), if_neg (by omega), if_neg (by omega), if_neg (by omega), if_neg (by omega), if_pos (by omega)]; first | rw [if_pos (by omega)] | rw [if_neg (by omega)])
        | (rw [if_neg (by omega), if_neg (by omega), if_neg (by omega), if_neg (by omega), if_neg (by omega), if_neg (by omega), if_neg (by omega), if_neg (by omega), if_pos (by omega)]; first | rw [if_pos (by omega)] | rw [if_neg (by omega)])
        | rw [if_neg (by omega), if_neg (by omega), if_neg (by omega), if_neg (by omega), if_neg (by omega), if_neg (by omega), if_neg (by omega), if_neg (by omega), if_neg (by omega), if_pos (by omega)]
        | (rw [if_neg (by omega), if_neg (by omega), if_neg (by omega), if_neg (by omega), if_neg (by omega), if_neg (by omega), if_neg (by omega), if_neg (by omega), if_neg (by omega), if_neg (by omega)]; first | rw [if_pos (by omega)] | rw [if_neg (by omega)])
    · rw [ao_cmp_le] at h211
      refine am_lconst1 (q := 215) (am_tab tk_X10_qJoins 86 rfl) rfl ?_
      refine am_goto (t := 219) (am_tab tk_X10_qJoins 87 rfl) (by decide) ?_
      refine am_callV0 (q := 222) (me2 := M_X10_qPuts) (b := 55) (kb := 10) (nb := 108) (As := [am_l 1]) (rest := []) (out := []) (c_X10_qPuts ((am_setN σ 55 103 (((((k : Int) + 2)) - 2)))) hL 1 k (by show ((k : Int) + 2) - 2 = (k : Int); omega) (by omega)) ⟨rfl, rfl⟩ (Ls_55 hL) (by decide) ⟨Or.inl km_X10_406, kc_X10_qPuts, kn_X10, kd_X10_qPuts, ⟨(Nat.le_of_ble_eq_true rfl), (Nat.le_of_ble_eq_true rfl)⟩, ⟨(Nat.le_of_ble_eq_true rfl), (Nat.le_of_ble_eq_true rfl)⟩, (Nat.le_of_ble_eq_true rfl)⟩ ki_X10_qPuts ks_X10_qPuts rfl rfl (am_tab tk_X10_qJoins 89 rfl) rfl ?_
      refine am_goto (t := 273) (am_tab tk_X10_qJoins 90 rfl) (by decide) ?_
      refine am_vret rfl (Nat.le_of_ble_eq_true rfl) (Nat.le_of_ble_eq_true rfl) (am_tab tk_X10_qJoins 118 rfl) ?_
      refine ⟨rfl, ?_⟩
      rw [sw129, show jn v a b = 1 from ?_]
      unfold jn
      first
        | rw [if_pos (by omega)]
        | rw [if_neg (by omega), if_pos (by omega)]
        | rw [if_neg (by omega), if_neg (by omega), if_pos (by omega)]
        | rw [if_neg (by omega), if_neg (by omega), if_neg (by omega), if_pos (by omega)]
        | (rw [if_neg (by omega), if_neg (by omega), if_neg (by omega), if_neg (by omega), if_pos (by omega)]; first | rw [if_pos (by omega)] | rw [if_neg (by omega)])
        | (rw [if_neg (by omega), if_neg (by omega), if_neg (by omega), if_neg (by omega), if_neg (by omega), if_pos (by omega)]; first | rw [if_pos (by omega)] | rw [if_neg (by omega)])
        | (rw [if_neg (by omega), if_neg (by omega), if_neg (by omega), if_neg (by omega), if_neg (by omega), if_neg (by omega), if_pos (by omega)]; first | rw [if_pos (by omega)] | rw [if_neg (by omega)])
        | (rw [if_neg (by omega), if_neg (by omega), if_neg (by omega), if_neg (by omega), if_neg (by omega), if_neg (by omega), if_neg (by omega), if_pos (by omega)]; first | rw [if_pos (by omega)] | rw [if_neg (by omega)])
        | (rw [if_neg (by omega), if_neg (by omega), if_neg (by omega), if_neg (by omega), if_neg (by omega), if_neg (by omega), if_neg (by omega), if_neg (by omega), if_pos (by omega)]; first | rw [if_pos (by omega)] | rw [if_neg (by omega)])
        | rw [if_neg (by omega), if_neg (by omega), if_neg (by omega), if_neg (by omega), if_neg (by omega), if_neg (by omega), if_neg (by omega), if_neg (by omega), if_neg (by omega), if_pos (by omega)]
        | (rw [if_neg (by omega), if_neg (by omega), if_neg (by omega), if_neg (by omega), if_neg (by omega), if_neg (by omega), if_neg (by omega), if_neg (by omega), if_neg (by omega), if_neg (by omega)]; first | rw [if_pos (by omega)] | rw [if_neg (by omega)])
  · refine am_tableIn (t := 225) (off := 189) (by omega) (by omega) (by rw [e36]; rfl) dsw_X10_qJoins_36 (by decide) ?_
    refine am_aload_n (q := 226) rfl (am_tab tk_X10_qJoins 91 rfl) rfl ?_
    refine am_lload (q := 228) rfl (am_tab tk_X10_qJoins 92 rfl) rfl ?_
    refine am_lload_n (q := 229) rfl (am_tab tk_X10_qJoins 93 rfl) rfl ?_
    refine am_lcmp (q := 230) (am_tab tk_X10_qJoins 94 rfl) rfl ?_
    refine am_if_ne (q := 233) (t := 237) (am_tab tk_X10_qJoins 95 rfl) (by decide) rfl (fun h230 => ?_) (fun h230 => ?_)
    · rw [ao_cmp_eq] at h230
      refine am_lconst0 (q := 238) (am_tab tk_X10_qJoins 98 rfl) rfl ?_
      refine am_callV0 (q := 241) (me2 := M_X10_qPuts) (b := 55) (kb := 10) (nb := 108) (As := [am_l 0]) (rest := []) (out := []) (c_X10_qPuts ((am_setN σ 55 103 (((((k : Int) + 2)) - 2)))) hL 0 k (by show ((k : Int) + 2) - 2 = (k : Int); omega) (by omega)) ⟨rfl, rfl⟩ (Ls_55 hL) (by decide) ⟨Or.inl km_X10_406, kc_X10_qPuts, kn_X10, kd_X10_qPuts, ⟨(Nat.le_of_ble_eq_true rfl), (Nat.le_of_ble_eq_true rfl)⟩, ⟨(Nat.le_of_ble_eq_true rfl), (Nat.le_of_ble_eq_true rfl)⟩, (Nat.le_of_ble_eq_true rfl)⟩ ki_X10_qPuts ks_X10_qPuts rfl rfl (am_tab tk_X10_qJoins 99 rfl) rfl ?_
      refine am_goto (t := 273) (am_tab tk_X10_qJoins 100 rfl) (by decide) ?_
      refine am_vret rfl (Nat.le_of_ble_eq_true rfl) (Nat.le_of_ble_eq_true rfl) (am_tab tk_X10_qJoins 118 rfl) ?_
      refine ⟨rfl, ?_⟩
      rw [sw129, show jn v a b = 0 from ?_]
      unfold jn
      first
        | rw [if_pos (by omega)]
        | rw [if_neg (by omega), if_pos (by omega)]
        | rw [if_neg (by omega), if_neg (by omega), if_pos (by omega)]
        | rw [if_neg (by omega), if_neg (by omega), if_neg (by omega), if_pos (by omega)]
        | (rw [if_neg (by omega), if_neg (by omega), if_neg (by omega), if_neg (by omega), if_pos (by omega)]; first | rw [if_pos (by omega)] | rw [if_neg (by omega)])
        | (rw [if_neg (by omega), if_neg (by omega), if_neg (by omega), if_neg (by omega), if_neg (by omega), if_pos (by omega)]; first | rw [if_pos (by omega)] | rw [if_neg (by omega)])
        | (rw [if_neg (by omega), if_neg (by omega), if_neg (by omega), if_neg (by omega), if_neg (by omega), if_neg (by omega), if_pos (by omega)]; first | rw [if_pos (by omega)] | rw [if_neg (by omega)])
        | (rw [if_neg (by omega), if_neg (by omega), if_neg (by omega), if_neg (by omega), if_neg (by omega), if_neg (by omega), if_neg (by omega), if_pos (by omega)]; first | rw [if_pos (by omega)] | rw [if_neg (by omega)])
        | (rw [if_neg (by omega), if_neg (by omega), if_neg (by omega), if_neg (by omega), if_neg (by omega), if_neg (by omega), if_neg (by omega), if_neg (by omega), if_pos (by omega)]; first | rw [if_pos (by omega)] | rw [if_neg (by omega)])
        | rw [if_neg (by omega), if_neg (by omega), if_neg (by omega), if_neg (by omega), if_neg (by omega), if_neg (by omega), if_neg (by omega), if_neg (by omega), if_neg (by omega), if_pos (by omega)]
        | (rw [if_neg (by omega), if_neg (by omega), if_neg (by omega), if_neg (by omega), if_neg (by omega), if_neg (by omega), if_neg (by omega), if_neg (by omega), if_neg (by omega), if_neg (by omega)]; first | rw [if_pos (by omega)] | rw [if_neg (by omega)])
    · rw [ao_cmp_eq] at h230
      refine am_lconst1 (q := 234) (am_tab tk_X10_qJoins 96 rfl) rfl ?_
      refine am_goto (t := 238) (am_tab tk_X10_qJoins 97 rfl) (by decide) ?_
      refine am_callV0 (q := 241) (me2 := M_X10_qPuts) (b := 55) (kb := 10) (nb := 108) (As := [am_l 1]) (rest := []) (out := []) (c_X10_qPuts ((am_setN σ 55 103 (((((k : Int) + 2)) - 2)))) hL 1 k (by show ((k : Int) + 2) - 2 = (k : Int); omega) (by omega)) ⟨rfl, rfl⟩ (Ls_55 hL) (by decide) ⟨Or.inl km_X10_406, kc_X10_qPuts, kn_X10, kd_X10_qPuts, ⟨(Nat.le_of_ble_eq_true rfl), (Nat.le_of_ble_eq_true rfl)⟩, ⟨(Nat.le_of_ble_eq_true rfl), (Nat.le_of_ble_eq_true rfl)⟩, (Nat.le_of_ble_eq_true rfl)⟩ ki_X10_qPuts ks_X10_qPuts rfl rfl (am_tab tk_X10_qJoins 99 rfl) rfl ?_
      refine am_goto (t := 273) (am_tab tk_X10_qJoins 100 rfl) (by decide) ?_
      refine am_vret rfl (Nat.le_of_ble_eq_true rfl) (Nat.le_of_ble_eq_true rfl) (am_tab tk_X10_qJoins 118 rfl) ?_
      refine ⟨rfl, ?_⟩
      rw [sw129, show jn v a b = 1 from ?_]
      unfold jn
      first
        | rw [if_pos (by omega)]
        | rw [if_neg (by omega), if_pos (by omega)]
        | rw [if_neg (by omega), if_neg (by omega), if_pos (by omega)]
        | rw [if_neg (by omega), if_neg (by omega), if_neg (by omega), if_pos (by omega)]
        | (rw [if_neg (by omega), if_neg (by omega), if_neg (by omega), if_neg (by omega), if_pos (by omega)]; first | rw [if_pos (by omega)] | rw [if_neg (by omega)])
        | (rw [if_neg (by omega), if_neg (by omega), if_neg (by omega), if_neg (by omega), if_neg (by omega), if_pos (by omega)]; first | rw [if_pos (by omega)] | rw [if_neg (by omega)])
        | (rw [if_neg (by omega), if_neg (by omega), if_neg (by omega), if_neg (by omega), if_neg (by omega), if_neg (by omega), if_pos (by omega)]; first | rw [if_pos (by omega)] | rw [if_neg (by omega)])
        | (rw [if_neg (by omega), if_neg (by omega), if_neg (by omega), if_neg (by omega), if_neg (by omega), if_neg (by omega), if_neg (by omega), if_pos (by omega)]; first | rw [if_pos (by omega)] | rw [if_neg (by omega)])
        | (rw [if_neg (by omega), if_neg (by omega), if_neg (by omega), if_neg (by omega), if_neg (by omega), if_neg (by omega), if_neg (by omega), if_neg (by omega), if_pos (by omega)]; first | rw [if_pos (by omega)] | rw [if_neg (by omega)])
        | rw [if_neg (by omega), if_neg (by omega), if_neg (by omega), if_neg (by omega), if_neg (by omega), if_neg (by omega), if_neg (by omega), if_neg (by omega), if_neg (by omega), if_pos (by omega)]
        | (rw [if_neg (by omega), if_neg (by omega), if_neg (by omega), if_neg (by omega), if_neg (by omega), if_neg (by omega), if_neg (by omega), if_neg (by omega), if_neg (by omega), if_neg (by omega)]; first | rw [if_pos (by omega)] | rw [if_neg (by omega)])
  · refine am_tableIn (t := 244) (off := 208) (by omega) (by omega) (by rw [e36]; rfl) dsw_X10_qJoins_36 (by decide) ?_
    refine am_aload_n (q := 245) rfl (am_tab tk_X10_qJoins 101 rfl) rfl ?_
    refine am_lload (q := 247) rfl (am_tab tk_X10_qJoins 102 rfl) rfl ?_
    refine am_lload_n (q := 248) rfl (am_tab tk_X10_qJoins 103 rfl) rfl ?_
    refine am_lmul (q := 249) (by omega) (am_tab tk_X10_qJoins 104 rfl) rfl ?_
    refine am_callV0 (q := 252) (me2 := M_X10_qPuts) (b := 55) (kb := 10) (nb := 108) (As := [am_l ((a * b))]) (rest := []) (out := []) (c_X10_qPuts ((am_setN σ 55 103 (((((k : Int) + 2)) - 2)))) hL (a * b) k (by show ((k : Int) + 2) - 2 = (k : Int); omega) (by omega)) ⟨rfl, rfl⟩ (Ls_55 hL) (by decide) ⟨Or.inl km_X10_406, kc_X10_qPuts, kn_X10, kd_X10_qPuts, ⟨(Nat.le_of_ble_eq_true rfl), (Nat.le_of_ble_eq_true rfl)⟩, ⟨(Nat.le_of_ble_eq_true rfl), (Nat.le_of_ble_eq_true rfl)⟩, (Nat.le_of_ble_eq_true rfl)⟩ ki_X10_qPuts ks_X10_qPuts rfl rfl (am_tab tk_X10_qJoins 105 rfl) rfl ?_
    refine am_goto (t := 273) (am_tab tk_X10_qJoins 106 rfl) (by decide) ?_
    refine am_vret rfl (Nat.le_of_ble_eq_true rfl) (Nat.le_of_ble_eq_true rfl) (am_tab tk_X10_qJoins 118 rfl) ?_
    refine ⟨rfl, ?_⟩
    rw [sw129, show jn v a b = (a * b) from ?_]
    unfold jn
    first
      | rw [if_pos (by omega)]
      | rw [if_neg (by omega), if_pos (by omega)]
      | rw [if_neg (by omega), if_neg (by omega), if_pos (by omega)]
      | rw [if_neg (by omega), if_neg (by omega), if_neg (by omega), if_pos (by omega)]
      | (rw [if_neg (by omega), if_neg (by omega), if_neg (by omega), if_neg (by omega), if_pos (by omega)]; first | rw [if_pos (by omega)] | rw [if_neg (by omega)])
      | (rw [if_neg (by omega), if_neg (by omega), if_neg (by omega), if_neg (by omega), if_neg (by omega), if_pos (by omega)]; first | rw [if_pos (by omega)] | rw [if_neg (by omega)])
      | (rw [if_neg (by omega), if_neg (by omega), if_neg (by omega), if_neg (by omega), if_neg (by omega), if_neg (by omega), if_pos (by omega)]; first | rw [if_pos (by omega)] | rw [if_neg (by omega)])
      | (rw [if_neg (by omega), if_neg (by omega), if_neg (by omega), if_neg (by omega), if_neg (by omega), if_neg (by omega), if_neg (by omega), if_pos (by omega)]; first | rw [if_pos (by omega)] | rw [if_neg (by omega)])
      | (rw [if_neg (by omega), if_neg (by omega), if_neg (by omega), if_neg (by omega), if_neg (by omega), if_neg (by omega), if_neg (by omega), if_neg (by omega), if_pos (by omega)]; first | rw [if_pos (by omega)] | rw [if_neg (by omega)])
      | rw [if_neg (by omega), if_neg (by omega), if_neg (by omega), if_neg (by omega), if_neg (by omega), if_neg (by omega), if_neg (by omega), if_neg (by omega), if_neg (by omega), if_pos (by omega)]
      | (rw [if_neg (by omega), if_neg (by omega), if_neg (by omega), if_neg (by omega), if_neg (by omega), if_neg (by omega), if_neg (by omega), if_neg (by omega), if_neg (by omega), if_neg (by omega)]; first | rw [if_pos (by omega)] | rw [if_neg (by omega)])
  · refine am_tableOut (t := 255) e36 dsw_X10_qJoins_36 (by decide) ?_
    refine am_aload_n (q := 256) rfl (am_tab tk_X10_qJoins 107 rfl) rfl ?_
    refine am_lload (q := 258) rfl (am_tab tk_X10_qJoins 108 rfl) rfl ?_
    refine am_lload_n (q := 259) rfl (am_tab tk_X10_qJoins 109 rfl) rfl ?_
    refine am_ladd (q := 260) (by omega) (am_tab tk_X10_qJoins 110 rfl) rfl ?_
    refine am_lconst0 (q := 261) (am_tab tk_X10_qJoins 111 rfl) rfl ?_
    refine am_lcmp (q := 262) (am_tab tk_X10_qJoins 112 rfl) rfl ?_
    refine am_if_le (q := 265) (t := 269) (am_tab tk_X10_qJoins 113 rfl) (by decide) rfl (fun h262 => ?_) (fun h262 => ?_)
    · rw [ao_cmp_le] at h262
      refine am_lconst0 (q := 270) (am_tab tk_X10_qJoins 116 rfl) rfl ?_
      refine am_callV0 (q := 273) (me2 := M_X10_qPuts) (b := 55) (kb := 10) (nb := 108) (As := [am_l 0]) (rest := []) (out := []) (c_X10_qPuts ((am_setN σ 55 103 (((((k : Int) + 2)) - 2)))) hL 0 k (by show ((k : Int) + 2) - 2 = (k : Int); omega) (by omega)) ⟨rfl, rfl⟩ (Ls_55 hL) (by decide) ⟨Or.inl km_X10_406, kc_X10_qPuts, kn_X10, kd_X10_qPuts, ⟨(Nat.le_of_ble_eq_true rfl), (Nat.le_of_ble_eq_true rfl)⟩, ⟨(Nat.le_of_ble_eq_true rfl), (Nat.le_of_ble_eq_true rfl)⟩, (Nat.le_of_ble_eq_true rfl)⟩ ki_X10_qPuts ks_X10_qPuts rfl rfl (am_tab tk_X10_qJoins 117 rfl) rfl ?_
      refine am_vret rfl (Nat.le_of_ble_eq_true rfl) (Nat.le_of_ble_eq_true rfl) (am_tab tk_X10_qJoins 118 rfl) ?_
      refine ⟨rfl, ?_⟩
      rw [sw129, show jn v a b = 0 from ?_]
      unfold jn
      first
        | rw [if_pos (by omega)]
        | rw [if_neg (by omega), if_pos (by omega)]
        | rw [if_neg (by omega), if_neg (by omega), if_pos (by omega)]
        | rw [if_neg (by omega), if_neg (by omega), if_neg (by omega), if_pos (by omega)]
        | (rw [if_neg (by omega), if_neg (by omega), if_neg (by omega), if_neg (by omega), if_pos (by omega)]; first | rw [if_pos (by omega)] | rw [if_neg (by omega)])
        | (rw [if_neg (by omega), if_neg (by omega), if_neg (by omega), if_neg (by omega), if_neg (by omega), if_pos (by omega)]; first | rw [if_pos (by omega)] | rw [if_neg (by omega)])
        | (rw [if_neg (by omega), if_neg (by omega), if_neg (by omega), if_neg (by omega), if_neg (by omega), if_neg (by omega), if_pos (by omega)]; first | rw [if_pos (by omega)] | rw [if_neg (by omega)])
        | (rw [if_neg (by omega), if_neg (by omega), if_neg (by omega), if_neg (by omega), if_neg (by omega), if_neg (by omega), if_neg (by omega), if_pos (by omega)]; first | rw [if_pos (by omega)] | rw [if_neg (by omega)])
        | (rw [if_neg (by omega), if_neg (by omega), if_neg (by omega), if_neg (by omega), if_neg (by omega), if_neg (by omega), if_neg (by omega), if_neg (by omega), if_pos (by omega)]; first | rw [if_pos (by omega)] | rw [if_neg (by omega)])
        | rw [if_neg (by omega), if_neg (by omega), if_neg (by omega), if_neg (by omega), if_neg (by omega), if_neg (by omega), if_neg (by omega), if_neg (by omega), if_neg (by omega), if_pos (by omega)]
        | (rw [if_neg (by omega), if_neg (by omega), if_neg (by omega), if_neg (by omega), if_neg (by omega), if_neg (by omega), if_neg (by omega), if_neg (by omega), if_neg (by omega), if_neg (by omega)]; first | rw [if_pos (by omega)] | rw [if_neg (by omega)])
    · rw [ao_cmp_le] at h262
      refine am_lconst1 (q := 266) (am_tab tk_X10_qJoins 114 rfl) rfl ?_
      refine am_goto (t := 270) (am_tab tk_X10_qJoins 115 rfl) (by decide) ?_
      refine am_callV0 (q := 273) (me2 := M_X10_qPuts) (b := 55) (kb := 10) (nb := 108) (As := [am_l 1]) (rest := []) (out := []) (c_X10_qPuts ((am_setN σ 55 103 (((((k : Int) + 2)) - 2)))) hL 1 k (by show ((k : Int) + 2) - 2 = (k : Int); omega) (by omega)) ⟨rfl, rfl⟩ (Ls_55 hL) (by decide) ⟨Or.inl km_X10_406, kc_X10_qPuts, kn_X10, kd_X10_qPuts, ⟨(Nat.le_of_ble_eq_true rfl), (Nat.le_of_ble_eq_true rfl)⟩, ⟨(Nat.le_of_ble_eq_true rfl), (Nat.le_of_ble_eq_true rfl)⟩, (Nat.le_of_ble_eq_true rfl)⟩ ki_X10_qPuts ks_X10_qPuts rfl rfl (am_tab tk_X10_qJoins 117 rfl) rfl ?_
      refine am_vret rfl (Nat.le_of_ble_eq_true rfl) (Nat.le_of_ble_eq_true rfl) (am_tab tk_X10_qJoins 118 rfl) ?_
      refine ⟨rfl, ?_⟩
      rw [sw129, show jn v a b = 1 from ?_]
      unfold jn
      first
        | rw [if_pos (by omega)]
        | rw [if_neg (by omega), if_pos (by omega)]
        | rw [if_neg (by omega), if_neg (by omega), if_pos (by omega)]
        | rw [if_neg (by omega), if_neg (by omega), if_neg (by omega), if_pos (by omega)]
        | (rw [if_neg (by omega), if_neg (by omega), if_neg (by omega), if_neg (by omega), if_pos (by omega)]; first | rw [if_pos (by omega)] | rw [if_neg (by omega)])
        | (rw [if_neg (by omega), if_neg (by omega), if_neg (by omega), if_neg (by omega), if_neg (by omega), if_pos (by omega)]; first | rw [if_pos (by omega)] | rw [if_neg (by omega)])
        | (rw [if_neg (by omega), if_neg (by omega), if_neg (by omega), if_neg (by omega), if_neg (by omega), if_neg (by omega), if_pos (by omega)]; first | rw [if_pos (by omega)] | rw [if_neg (by omega)])
        | (rw [if_neg (by omega), if_neg (by omega), if_neg (by omega), if_neg (by omega), if_neg (by omega), if_neg (by omega), if_neg (by omega), if_pos (by omega)]; first | rw [if_pos (by omega)] | rw [if_neg (by omega)])
        | (rw [if_neg (by omega), if_neg (by omega), if_neg (by omega), if_neg (by omega), if_neg (by omega), if_neg (by omega), if_neg (by omega), if_neg (by omega), if_pos (by omega)]; first | rw [if_pos (by omega)] | rw [if_neg (by omega)])
        | rw [if_neg (by omega), if_neg (by omega), if_neg (by omega), if_neg (by omega), if_neg (by omega), if_neg (by omega), if_neg (by omega), if_neg (by omega), if_neg (by omega), if_pos (by omega)]
        | (rw [if_neg (by omega), if_neg (by omega), if_neg (by omega), if_neg (by omega), if_neg (by omega), if_neg (by omega), if_neg (by omega), if_neg (by omega), if_neg (by omega), if_neg (by omega)]; first | rw [if_pos (by omega)] | rw [if_neg (by omega)])
