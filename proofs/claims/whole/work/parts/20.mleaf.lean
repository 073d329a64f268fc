theorem b01z {c : Prop} [Decidable c] (h : (if c then (1 : Int) else 0) = 0) : ¬ c := by intro hc; rw [if_pos hc] at h; omega
theorem b01n {c : Prop} [Decidable c] (h : ¬ (if c then (1 : Int) else 0) = 0) : c := by
  apply Classical.byContradiction
  intro hc
  rw [if_neg hc] at h
  exact h rfl
def tb (s q : Int) : Int := s / 2 ^ q.toNat % 2
theorem tb_all : (List.range 256).all (fun s => (List.range 8).all (fun q => decide (ao_and (ao_shr (s : Nat) (q : Nat)) 1 = tb (s : Nat) (q : Nat)))) = true := by decide +kernel
theorem tb_eq {s q : Int} (hs : 0 ≤ s ∧ s < 256) (hq : 0 ≤ q ∧ q < 8) : ao_and (ao_shr s q) 1 = tb s q := by
  obtain ⟨a, rfl⟩ : ∃ n : Nat, s = n := ⟨s.toNat, by omega⟩
  obtain ⟨b, rfl⟩ : ∃ n : Nat, q = n := ⟨q.toNat, by omega⟩
  exact of_decide_eq_true (List.all_eq_true.mp (List.all_eq_true.mp tb_all a (List.mem_range.mpr (by omega))) b (List.mem_range.mpr (by omega)))
theorem tb_01 (s q : Int) : tb s q = 0 ∨ tb s q = 1 := by unfold tb; omega
theorem or_all : (List.range 8).all (fun p => (List.range 256).all (fun s => decide (s < 2 ^ p → ao_or (s : Nat) (ao_shl 1 (p : Nat)) = s + 2 ^ p ∧ (List.range 8).all (fun q => decide (tb ((s : Int) + 2 ^ p) (q : Nat) = if q = p then 1 else tb (s : Nat) (q : Nat))) = true))) = true := by decide +kernel
theorem or_eq {s p : Int} (hp : 0 ≤ p ∧ p < 8) (hs : 0 ≤ s ∧ s < 2 ^ p.toNat) : ao_or s (ao_shl 1 p) = s + 2 ^ p.toNat ∧ ∀ q : Int, 0 ≤ q → q < 8 → tb (s + 2 ^ p.toNat) q = if q = p then 1 else tb s q := by
  obtain ⟨b, rfl⟩ : ∃ n : Nat, p = n := ⟨p.toNat, by omega⟩
  obtain ⟨a, rfl⟩ : ∃ n : Nat, s = n := ⟨s.toNat, by omega⟩
  have hb : b < 8 := by omega
  have hpow : (2 : Nat) ^ b ≤ 128 := by
    rcases (show b = 0 ∨ b = 1 ∨ b = 2 ∨ b = 3 ∨ b = 4 ∨ b = 5 ∨ b = 6 ∨ b = 7 by omega) with rfl | rfl | rfl | rfl | rfl | rfl | rfl | rfl <;> decide
  have ha : a < 2 ^ b := by
    have h2 := hs.2
    simp only [Int.toNat_natCast] at h2
    exact_mod_cast h2
  have h1 := of_decide_eq_true (List.all_eq_true.mp (List.all_eq_true.mp or_all b (List.mem_range.mpr hb)) a (List.mem_range.mpr (by omega))) ha
  refine ⟨by simpa using h1.1, fun q hq0 hq8 => ?_⟩
  obtain ⟨c, rfl⟩ : ∃ n : Nat, q = n := ⟨q.toNat, by omega⟩
  have h3 := of_decide_eq_true (List.all_eq_true.mp h1.2 c (List.mem_range.mpr (by omega)))
  simp only [Int.toNat_natCast]
  rw [h3]
  by_cases hcb : c = b
  · simp [hcb]
  · have : ¬ ((c : Int) = (b : Int)) := by omega
    simp [hcb, this]
theorem c_X10_isIn (σ : am_H) (hL : lay σ) (v : Int) (a : Int) (b : Int)  : am_met M_X10_isIn [am_l v, am_l a, am_l b] σ (fun r σ' => r = some (am_i (if a ≤ v ∧ v ≤ b then 1 else 0)) ∧ σ' = σ) := by
  refine am_enter (show plainFor yX10_isIn = true by decide +kernel) rfl (Nat.le_of_ble_eq_true rfl) (fun _ _ _ => trivial) ?_
  refine am_lload_n (q := 1) rfl (am_tab tk_X10_isIn 0 rfl) rfl ?_
  refine am_lload_n (q := 2) rfl (am_tab tk_X10_isIn 1 rfl) rfl ?_
  refine am_lcmp (q := 3) (am_tab tk_X10_isIn 2 rfl) rfl ?_
  refine am_if_lt (q := 6) (t := 17) (am_tab tk_X10_isIn 3 rfl) (by decide) rfl (fun h3 => ?_) (fun h3 => ?_)
  · refine am_iconst (q := 18) (n := 0) (by decide) (am_tab tk_X10_isIn 10 rfl) rfl ?_
    refine am_iret (Or.inr ⟨rfl, by first | exact Or.inl rfl | exact Or.inr rfl | omega⟩) (Nat.le_of_ble_eq_true rfl) (Nat.le_of_ble_eq_true rfl) (am_tab tk_X10_isIn 11 rfl) ?_
    refine ⟨?_, rfl⟩
    simp only [ao_cmp_lt, ao_cmp_gt, Int.not_lt, Int.not_le] at *
    congr 2
    first | rw [if_pos (by omega)] | rw [if_neg (by omega)]
  · refine am_lload_n (q := 7) rfl (am_tab tk_X10_isIn 4 rfl) rfl ?_
    refine am_lload (q := 9) rfl (am_tab tk_X10_isIn 5 rfl) rfl ?_
    refine am_lcmp (q := 10) (am_tab tk_X10_isIn 6 rfl) rfl ?_
    refine am_if_gt (q := 13) (t := 17) (am_tab tk_X10_isIn 7 rfl) (by decide) rfl (fun h10 => ?_) (fun h10 => ?_)
    · refine am_iconst (q := 18) (n := 0) (by decide) (am_tab tk_X10_isIn 10 rfl) rfl ?_
      refine am_iret (Or.inr ⟨rfl, by first | exact Or.inl rfl | exact Or.inr rfl | omega⟩) (Nat.le_of_ble_eq_true rfl) (Nat.le_of_ble_eq_true rfl) (am_tab tk_X10_isIn 11 rfl) ?_
      refine ⟨?_, rfl⟩
      simp only [ao_cmp_lt, ao_cmp_gt, Int.not_lt, Int.not_le] at *
      congr 2
      first | rw [if_pos (by omega)] | rw [if_neg (by omega)]
    · refine am_iconst (q := 14) (n := 1) (by decide) (am_tab tk_X10_isIn 8 rfl) rfl ?_
      refine am_goto (t := 18) (am_tab tk_X10_isIn 9 rfl) (by decide) ?_
      refine am_iret (Or.inr ⟨rfl, by first | exact Or.inl rfl | exact Or.inr rfl | omega⟩) (Nat.le_of_ble_eq_true rfl) (Nat.le_of_ble_eq_true rfl) (am_tab tk_X10_isIn 11 rfl) ?_
      refine ⟨?_, rfl⟩
      simp only [ao_cmp_lt, ao_cmp_gt, Int.not_lt, Int.not_le] at *
      congr 2
      first | rw [if_pos (by omega)] | rw [if_neg (by omega)]
theorem c_X10_peopleMany (σ : am_H) (hL : lay σ)   : am_met M_X10_peopleMany [am_r 55] σ (fun r σ' => r = some (am_i (σ.2.1 85 5)) ∧ σ' = σ) := by
  refine am_enter (show plainFor yX10_peopleMany = true by decide +kernel) rfl (Nat.le_of_ble_eq_true rfl) (fun _ _ _ => trivial) ?_
  refine am_aload_n (q := 1) rfl (am_tab tk_X10_peopleMany 0 rfl) rfl ?_
  refine am_getR (q := 4) (a := 55) (k := 10) (n := 108) (j := 39) (r := some (85)) (Ls_55 hL) (by decide) rfl (Lr_55_39 hL) (by decide) (Or.inl kf_X10_102) (am_tab tk_X10_peopleMany 1 rfl) rfl ?_
  refine am_iconst (q := 5) (n := 5) (by decide) (am_tab tk_X10_peopleMany 2 rfl) rfl ?_
  refine am_iald (q := 6) (a := 85) (n := 10) (x := (σ.2.1 85 5)) (Ls_85 hL) (by omega) (by omega) rfl (am_tab tk_X10_peopleMany 3 rfl) rfl ?_
  refine am_iret (Or.inl rfl) (Nat.le_of_ble_eq_true rfl) (Nat.le_of_ble_eq_true rfl) (am_tab tk_X10_peopleMany 4 rfl) ?_
  exact ⟨rfl, rfl⟩
theorem c_X10_yearDays (σ : am_H) (hL : lay σ)   : am_met M_X10_yearDays [am_r 55] σ (fun r σ' => r = some (am_i (σ.2.1 85 9)) ∧ σ' = σ) := by
  refine am_enter (show plainFor yX10_yearDays = true by decide +kernel) rfl (Nat.le_of_ble_eq_true rfl) (fun _ _ _ => trivial) ?_
  refine am_aload_n (q := 1) rfl (am_tab tk_X10_yearDays 0 rfl) rfl ?_
  refine am_getR (q := 4) (a := 55) (k := 10) (n := 108) (j := 39) (r := some (85)) (Ls_55 hL) (by decide) rfl (Lr_55_39 hL) (by decide) (Or.inl kf_X10_102) (am_tab tk_X10_yearDays 1 rfl) rfl ?_
  refine am_bipush (q := 6) (n := 9) (by decide) rfl (am_tab tk_X10_yearDays 2 rfl) rfl ?_
  refine am_iald (q := 7) (a := 85) (n := 10) (x := (σ.2.1 85 9)) (Ls_85 hL) (by omega) (by omega) rfl (am_tab tk_X10_yearDays 3 rfl) rfl ?_
  refine am_iret (Or.inl rfl) (Nat.le_of_ble_eq_true rfl) (Nat.le_of_ble_eq_true rfl) (am_tab tk_X10_yearDays 4 rfl) ?_
  exact ⟨rfl, rfl⟩
theorem c_X10_mindOf (σ : am_H) (hL : lay σ) (p : Int) (hp : 0 ≤ p ∧ p < 8) : am_met M_X10_mindOf [am_r 55, am_i p] σ (fun r σ' => r = some (am_i (σ.2.1 87 (8 + p).toNat)) ∧ σ' = σ) := by
  refine am_enter (show plainFor yX10_mindOf = true by decide +kernel) rfl (Nat.le_of_ble_eq_true rfl) (fun _ _ _ => trivial) ?_
  refine am_aload_n (q := 1) rfl (am_tab tk_X10_mindOf 0 rfl) rfl ?_
  refine am_getR (q := 4) (a := 55) (k := 10) (n := 108) (j := 41) (r := some (87)) (Ls_55 hL) (by decide) rfl (Lr_55_41 hL) (by decide) (Or.inl kf_X10_109) (am_tab tk_X10_mindOf 1 rfl) rfl ?_
  refine am_bipush (q := 6) (n := 8) (by decide) rfl (am_tab tk_X10_mindOf 2 rfl) rfl ?_
  refine am_iload_n (q := 7) rfl (am_tab tk_X10_mindOf 3 rfl) rfl ?_
  refine am_iadd (q := 8) (by omega) (am_tab tk_X10_mindOf 4 rfl) rfl ?_
  refine am_iald (q := 9) (a := 87) (n := 16) (x := (σ.2.1 87 (Int.toNat (8 + p)))) (Ls_87 hL) (by omega) (by omega) rfl (am_tab tk_X10_mindOf 5 rfl) rfl ?_
  refine am_iret (Or.inl rfl) (Nat.le_of_ble_eq_true rfl) (Nat.le_of_ble_eq_true rfl) (am_tab tk_X10_mindOf 6 rfl) ?_
  exact ⟨rfl, rfl⟩
theorem c_X10_askedBy (σ : am_H) (hL : lay σ) (p : Int) (hp : 0 ≤ p ∧ p < 8) : am_met M_X10_askedBy [am_r 55, am_i p] σ (fun r σ' => r = some (am_i (σ.2.1 88 (8 + p).toNat)) ∧ σ' = σ) := by
  refine am_enter (show plainFor yX10_askedBy = true by decide +kernel) rfl (Nat.le_of_ble_eq_true rfl) (fun _ _ _ => trivial) ?_
  refine am_aload_n (q := 1) rfl (am_tab tk_X10_askedBy 0 rfl) rfl ?_
  refine am_getR (q := 4) (a := 55) (k := 10) (n := 108) (j := 42) (r := some (88)) (Ls_55 hL) (by decide) rfl (Lr_55_42 hL) (by decide) (Or.inl kf_X10_112) (am_tab tk_X10_askedBy 1 rfl) rfl ?_
  refine am_bipush (q := 6) (n := 8) (by decide) rfl (am_tab tk_X10_askedBy 2 rfl) rfl ?_
  refine am_iload_n (q := 7) rfl (am_tab tk_X10_askedBy 3 rfl) rfl ?_
  refine am_iadd (q := 8) (by omega) (am_tab tk_X10_askedBy 4 rfl) rfl ?_
  refine am_iald (q := 9) (a := 88) (n := 16) (x := (σ.2.1 88 (Int.toNat (8 + p)))) (Ls_88 hL) (by omega) (by omega) rfl (am_tab tk_X10_askedBy 5 rfl) rfl ?_
  refine am_iret (Or.inl rfl) (Nat.le_of_ble_eq_true rfl) (Nat.le_of_ble_eq_true rfl) (am_tab tk_X10_askedBy 6 rfl) ?_
  exact ⟨rfl, rfl⟩
theorem c_X10_agoOf (σ : am_H) (hL : lay σ) (p : Int) (hp : 0 ≤ p ∧ p < 8) : am_met M_X10_agoOf [am_r 55, am_i p] σ (fun r σ' => r = some (am_i (σ.2.1 96 (4 + p).toNat)) ∧ σ' = σ) := by
  refine am_enter (show plainFor yX10_agoOf = true by decide +kernel) rfl (Nat.le_of_ble_eq_true rfl) (fun _ _ _ => trivial) ?_
  refine am_aload_n (q := 1) rfl (am_tab tk_X10_agoOf 0 rfl) rfl ?_
  refine am_getR (q := 4) (a := 55) (k := 10) (n := 108) (j := 54) (r := some (96)) (Ls_55 hL) (by decide) rfl (Lr_55_54 hL) (by decide) (Or.inl kf_X10_136) (am_tab tk_X10_agoOf 1 rfl) rfl ?_
  refine am_iconst (q := 5) (n := 4) (by decide) (am_tab tk_X10_agoOf 2 rfl) rfl ?_
  refine am_iload_n (q := 6) rfl (am_tab tk_X10_agoOf 3 rfl) rfl ?_
  refine am_iadd (q := 7) (by omega) (am_tab tk_X10_agoOf 4 rfl) rfl ?_
  refine am_iald (q := 8) (a := 96) (n := 443) (x := (σ.2.1 96 (Int.toNat (4 + p)))) (Ls_96 hL) (by omega) (by omega) rfl (am_tab tk_X10_agoOf 5 rfl) rfl ?_
  refine am_iret (Or.inl rfl) (Nat.le_of_ble_eq_true rfl) (Nat.le_of_ble_eq_true rfl) (am_tab tk_X10_agoOf 6 rfl) ?_
  exact ⟨rfl, rfl⟩
theorem c_X10_isDead (σ : am_H) (hL : lay σ) (p : Int) (hp : 0 ≤ p ∧ p < 8) : am_met M_X10_isDead [am_r 55, am_i p] σ (fun r σ' => r = some (am_i (if σ.2.1 96 (12 + p).toNat = 1 then 1 else 0)) ∧ σ' = σ) := by
  refine am_enter (show plainFor yX10_isDead = true by decide +kernel) rfl (Nat.le_of_ble_eq_true rfl) (fun _ _ _ => trivial) ?_
  refine am_aload_n (q := 1) rfl (am_tab tk_X10_isDead 0 rfl) rfl ?_
  refine am_getR (q := 4) (a := 55) (k := 10) (n := 108) (j := 54) (r := some (96)) (Ls_55 hL) (by decide) rfl (Lr_55_54 hL) (by decide) (Or.inl kf_X10_136) (am_tab tk_X10_isDead 1 rfl) rfl ?_
  refine am_bipush (q := 6) (n := 12) (by decide) rfl (am_tab tk_X10_isDead 2 rfl) rfl ?_
  refine am_iload_n (q := 7) rfl (am_tab tk_X10_isDead 3 rfl) rfl ?_
  refine am_iadd (q := 8) (by omega) (am_tab tk_X10_isDead 4 rfl) rfl ?_
  refine am_iald (q := 9) (a := 96) (n := 443) (x := (σ.2.1 96 (Int.toNat (12 + p)))) (Ls_96 hL) (by omega) (by omega) rfl (am_tab tk_X10_isDead 5 rfl) rfl ?_
  refine am_iconst (q := 10) (n := 1) (by decide) (am_tab tk_X10_isDead 6 rfl) rfl ?_
  refine am_icmp_ne (q := 13) (t := 17) (am_tab tk_X10_isDead 7 rfl) (by decide) rfl (fun h10 => ?_) (fun h10 => ?_)
  · refine am_iconst (q := 18) (n := 0) (by decide) (am_tab tk_X10_isDead 10 rfl) rfl ?_
    refine am_iret (Or.inr ⟨rfl, by first | exact Or.inl rfl | exact Or.inr rfl | omega⟩) (Nat.le_of_ble_eq_true rfl) (Nat.le_of_ble_eq_true rfl) (am_tab tk_X10_isDead 11 rfl) ?_
    exact ⟨by first | rw [if_pos (by assumption)] | rw [if_neg (by assumption)], rfl⟩
  · refine am_iconst (q := 14) (n := 1) (by decide) (am_tab tk_X10_isDead 8 rfl) rfl ?_
    refine am_goto (t := 18) (am_tab tk_X10_isDead 9 rfl) (by decide) ?_
    refine am_iret (Or.inr ⟨rfl, by first | exact Or.inl rfl | exact Or.inr rfl | omega⟩) (Nat.le_of_ble_eq_true rfl) (Nat.le_of_ble_eq_true rfl) (am_tab tk_X10_isDead 11 rfl) ?_
    exact ⟨by first | rw [if_pos (by assumption)] | rw [if_neg (by assumption)], rfl⟩
theorem c_X10_isPerson (σ : am_H) (hL : lay σ) (p : Int) (hP : 0 ≤ σ.2.1 85 5 ∧ σ.2.1 85 5 ≤ 8) : am_met M_X10_isPerson [am_r 55, am_i p] σ (fun r σ' => r = some (am_i (if 0 ≤ p ∧ p ≤ σ.2.1 85 5 - 1 then 1 else 0)) ∧ σ' = σ) := by
  refine am_enter (show plainFor yX10_isPerson = true by decide +kernel) rfl (Nat.le_of_ble_eq_true rfl) (fun _ _ _ => trivial) ?_
  refine am_iload_n (q := 1) rfl (am_tab tk_X10_isPerson 0 rfl) rfl ?_
  refine am_i2l (q := 2) (am_tab tk_X10_isPerson 1 rfl) rfl ?_
  refine am_lconst0 (q := 3) (am_tab tk_X10_isPerson 2 rfl) rfl ?_
  refine am_aload_n (q := 4) rfl (am_tab tk_X10_isPerson 3 rfl) rfl ?_
  refine am_callV0 (q := 7) (me2 := M_X10_peopleMany) (b := 55) (kb := 10) (nb := 108) (As := []) (rest := [am_l 0, am_l p]) (out := [am_i (σ.2.1 85 5), am_l 0, am_l p]) (c_X10_peopleMany σ hL  ) ⟨rfl, rfl⟩ (Ls_55 hL) (by decide) ⟨Or.inl km_X10_394, kc_X10_peopleMany, kn_X10, kd_X10_peopleMany, ⟨(Nat.le_of_ble_eq_true rfl), (Nat.le_of_ble_eq_true rfl)⟩, ⟨(Nat.le_of_ble_eq_true rfl), (Nat.le_of_ble_eq_true rfl)⟩, (Nat.le_of_ble_eq_true rfl)⟩ ki_X10_peopleMany ks_X10_peopleMany rfl rfl (am_tab tk_X10_isPerson 4 rfl) rfl ?_
  refine am_iconst (q := 8) (n := 1) (by decide) (am_tab tk_X10_isPerson 5 rfl) rfl ?_
  refine am_isub (q := 9) (by omega) (am_tab tk_X10_isPerson 6 rfl) rfl ?_
  refine am_i2l (q := 10) (am_tab tk_X10_isPerson 7 rfl) rfl ?_
  refine am_callS0 (q := 13) (me2 := M_X10_isIn) (As := [am_l p, am_l 0, am_l (((σ.2.1 85 5) - 1))]) (rest := []) (out := [am_i (if 0 ≤ p ∧ p ≤ (((σ.2.1 85 5) - 1)) then 1 else 0)]) (c_X10_isIn σ hL p 0 (((σ.2.1 85 5) - 1)) ) ⟨rfl, rfl⟩ ⟨Or.inl km_X10_291, kc_X10_isIn, kn_X10, kd_X10_isIn, ⟨(Nat.le_of_ble_eq_true rfl), (Nat.le_of_ble_eq_true rfl)⟩, ⟨(Nat.le_of_ble_eq_true rfl), (Nat.le_of_ble_eq_true rfl)⟩, (Nat.le_of_ble_eq_true rfl)⟩ ki_X10_isIn rfl rfl (am_tab tk_X10_isPerson 8 rfl) rfl ?_
  refine am_iret (Or.inr ⟨rfl, by first | exact Or.inl rfl | exact Or.inr rfl | omega⟩) (Nat.le_of_ble_eq_true rfl) (Nat.le_of_ble_eq_true rfl) (am_tab tk_X10_isPerson 9 rfl) ?_
  exact ⟨rfl, rfl⟩
theorem c_X10_isDay (σ : am_H) (hL : lay σ) (d : Int)  : am_met M_X10_isDay [am_r 55, am_i d] σ (fun r σ' => r = some (am_i (if 1 ≤ d ∧ d ≤ σ.2.1 85 9 then 1 else 0)) ∧ σ' = σ) := by
  refine am_enter (show plainFor yX10_isDay = true by decide +kernel) rfl (Nat.le_of_ble_eq_true rfl) (fun _ _ _ => trivial) ?_
  refine am_iload_n (q := 1) rfl (am_tab tk_X10_isDay 0 rfl) rfl ?_
  refine am_i2l (q := 2) (am_tab tk_X10_isDay 1 rfl) rfl ?_
  refine am_lconst1 (q := 3) (am_tab tk_X10_isDay 2 rfl) rfl ?_
  refine am_aload_n (q := 4) rfl (am_tab tk_X10_isDay 3 rfl) rfl ?_
  refine am_callV0 (q := 7) (me2 := M_X10_yearDays) (b := 55) (kb := 10) (nb := 108) (As := []) (rest := [am_l 1, am_l d]) (out := [am_i (σ.2.1 85 9), am_l 1, am_l d]) (c_X10_yearDays σ hL  ) ⟨rfl, rfl⟩ (Ls_55 hL) (by decide) ⟨Or.inl km_X10_397, kc_X10_yearDays, kn_X10, kd_X10_yearDays, ⟨(Nat.le_of_ble_eq_true rfl), (Nat.le_of_ble_eq_true rfl)⟩, ⟨(Nat.le_of_ble_eq_true rfl), (Nat.le_of_ble_eq_true rfl)⟩, (Nat.le_of_ble_eq_true rfl)⟩ ki_X10_yearDays ks_X10_yearDays rfl rfl (am_tab tk_X10_isDay 4 rfl) rfl ?_
  refine am_i2l (q := 8) (am_tab tk_X10_isDay 5 rfl) rfl ?_
  refine am_callS0 (q := 11) (me2 := M_X10_isIn) (As := [am_l d, am_l 1, am_l (σ.2.1 85 9)]) (rest := []) (out := [am_i (if 1 ≤ d ∧ d ≤ (σ.2.1 85 9) then 1 else 0)]) (c_X10_isIn σ hL d 1 (σ.2.1 85 9) ) ⟨rfl, rfl⟩ ⟨Or.inl km_X10_291, kc_X10_isIn, kn_X10, kd_X10_isIn, ⟨(Nat.le_of_ble_eq_true rfl), (Nat.le_of_ble_eq_true rfl)⟩, ⟨(Nat.le_of_ble_eq_true rfl), (Nat.le_of_ble_eq_true rfl)⟩, (Nat.le_of_ble_eq_true rfl)⟩ ki_X10_isIn rfl rfl (am_tab tk_X10_isDay 6 rfl) rfl ?_
  refine am_iret (Or.inr ⟨rfl, by first | exact Or.inl rfl | exact Or.inr rfl | omega⟩) (Nat.le_of_ble_eq_true rfl) (Nat.le_of_ble_eq_true rfl) (am_tab tk_X10_isDay 7 rfl) ?_
  exact ⟨rfl, rfl⟩
