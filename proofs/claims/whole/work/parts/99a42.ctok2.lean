theorem wd_tab : ∀ w : Fin 33, ∀ i : Fin 8, sB 0 (8 * w.val + i.val) = (WL.getD w.val []).getD i.val 32 := by decide +kernel
theorem wd_let : ∀ w : Fin 33, (WL.getD w.val []).length ≤ 7 ∧ ∀ i : Fin 8, i.val < (WL.getD w.val []).length → 97 ≤ (WL.getD w.val []).getD i.val 32 := by decide +kernel
theorem mB_iff {b : Nat → Int} : ∀ (l : List Int) (x : Nat), mB b x l = true ↔ ∀ i, i < l.length → b (x + i) = l.getD i 32
  | [], x => ⟨fun _ i hi => absurd hi (Nat.not_lt_zero _), fun _ => rfl⟩
  | c :: l, x => by
    unfold mB
    rw [Bool.and_eq_true, mB_iff l (x + 1)]
    constructor
    · rintro ⟨h1, h2⟩ i hi
      cases i with
      | zero => exact of_decide_eq_true h1
      | succ i =>
        have := h2 i (by simpa using hi)
        rw [show x + (i + 1) = x + 1 + i by omega]; exact this
    · intro h
      refine ⟨decide_eq_true (h 0 (by simp)), fun i hi => ?_⟩
      have := h (i + 1) (by simpa using hi)
      rw [show x + 1 + i = x + (i + 1) by omega]; exact this
theorem word_iff {b : Nat → Int} {x y w : Nat} (hw : w < 33) (hy : x < y ∧ y < x + 8) (hl : ∀ j, x ≤ j → j < y → 97 ≤ b j) : (∀ i, i < 8 → sB 0 (8 * w + i) = if x + i < y then b (x + i) else 32) ↔ mW b x y (WL.getD w []) = true := by
  have ht : ∀ i, i < 8 → sB 0 (8 * w + i) = (WL.getD w []).getD i 32 := fun i hi => wd_tab ⟨w, hw⟩ ⟨i, hi⟩
  have hL := wd_let ⟨w, hw⟩
  simp only at hL
  obtain ⟨hL7, hLl⟩ := hL
  have hLo : ∀ i, (WL.getD w []).length ≤ i → (WL.getD w []).getD i 32 = 32 := fun i hi => by
    rw [List.getD_eq_getElem?_getD, List.getElem?_eq_none hi]; rfl
  generalize WL.getD w [] = l at ht hL7 hLl hLo
  unfold mW
  rw [Bool.and_eq_true, mB_iff]
  constructor
  · intro h
    have hlen : y = x + l.length := by
      have h1 := h (y - x) (by omega)
      rw [ht _ (by omega), if_neg (by omega)] at h1
      have h2 : l.length ≤ y - x := Decidable.byContradiction (fun hc => by
        have := hLl ⟨y - x, by omega⟩ (by simp only; omega)
        simp only at this
        omega)
      by_cases h3 : l.length < y - x
      · have h4 := h l.length (by omega)
        rw [ht _ (by omega), if_pos (by omega), hLo _ (Nat.le_refl _)] at h4
        have := hl (x + l.length) (by omega) (by omega)
        omega
      · omega
    refine ⟨decide_eq_true hlen, fun i hi => ?_⟩
    have h1 := h i (by omega)
    rw [ht i (by omega), if_pos (by omega)] at h1
    exact h1.symm
  · rintro ⟨h1, h2⟩ i hi
    have hlen : y = x + l.length := of_decide_eq_true h1
    rw [ht i hi]
    split
    · exact (h2 i (by omega)).symm
    · exact hLo i (by omega)
theorem word_long {b : Nat → Int} {x y w : Nat} (hw : w < 33) (hy : x + 8 ≤ y) : mW b x y (WL.getD w []) = false := by
  have hL := (wd_let ⟨w, hw⟩).1
  simp only at hL
  unfold mW
  rw [decide_eq_false (by omega), Bool.false_and]
theorem c_isWord (b : Nat → Int) (E : Nat) (σ : am_H) (hL : lay σ) (hT : TP b E σ) (x : Nat) (y : Nat) (w : Nat) (hw : w < 33) (hy : x < y ∧ y ≤ E) (hd : ∀ j, x ≤ j → j < y → 97 ≤ b j ∧ b j ≤ 122) : am_met M_X7_isWord [am_r 30, am_i ((x : Int)), am_i ((y : Int)), am_i ((w : Int))] σ (fun r σ' => r = some (am_i (b2i (mW b x y (WL.getD w [])))) ∧ σ' = σ) := by
  refine am_qq (fun Q hQ => ?_)
  refine am_enter (show plainFor yX7_isWord = true by decide +kernel) rfl (Nat.le_of_ble_eq_true rfl) (fun _ _ _ => trivial) ?_
  have hE := hT.2.2.1
  refine am_iload_n (q := 1) rfl (am_tab tk_X7_isWord 0 rfl) rfl ?_
  refine am_iload_n (q := 2) rfl (am_tab tk_X7_isWord 1 rfl) rfl ?_
  refine am_isub (q := 3) (by omega) (am_tab tk_X7_isWord 2 rfl) rfl ?_
  refine am_bipush (q := 5) (n := 8) (by decide) rfl (am_tab tk_X7_isWord 3 rfl) rfl ?_
  refine am_icmp_lt (q := 8) (t := 10) (am_tab tk_X7_isWord 4 rfl) (by decide) rfl (fun h5 => ?_) (fun h5 => ?_)
  · refine am_iconst (q := 11) (n := 0) (by decide) (am_tab tk_X7_isWord 7 rfl) rfl ?_
    refine am_istore (q := 13) (by decide) (ls2 := [(4, am_i 0), (0, am_r 30), (1, am_i ((x : Int))), (2, am_i ((y : Int))), (3, am_i ((w : Int)))]) rfl (am_tab tk_X7_isWord 8 rfl) rfl ?_
    have L13 : ∀ (n13 : Nat) (k : Nat), 8 - k < n13 → k ≤ 8 → (∀ i, i < k → sB 0 (8 * w + i) = if x + i < y then b (x + i) else 32) → am_wp M_X7_isWord Q 0 0 13 [(4, am_i ((k : Int))), (3, am_i ((w : Int))), (2, am_i ((y : Int))), (1, am_i ((x : Int))), (0, am_r 30)] [] σ := by
      intro n13
      induction n13 with
      | zero => intro k hn13; exact absurd hn13 (Nat.not_lt_zero _)
      | succ n13 ih13 =>
        intro k hn13 hk hm
        refine am_iload (q := 15) rfl (am_tab tk_X7_isWord 9 rfl) rfl ?_
        refine am_bipush (q := 17) (n := 8) (by decide) rfl (am_tab tk_X7_isWord 10 rfl) rfl ?_
        refine am_icmp_ge (q := 20) (t := 72) (am_tab tk_X7_isWord 11 rfl) (by decide) rfl (fun h17 => ?_) (fun h17 => ?_)
        · refine am_iconst (q := 73) (n := 1) (by decide) (am_tab tk_X7_isWord 40 rfl) rfl ?_
          refine am_iret (Or.inr ⟨rfl, by first | exact Or.inl rfl | exact Or.inr rfl | omega⟩) (Nat.le_of_ble_eq_true rfl) (Nat.le_of_ble_eq_true rfl) (am_tab tk_X7_isWord 41 rfl) ?_
          refine hQ _ _ ?_
          have e9 := (word_iff hw (by omega) (fun j h1 h2 => (hd j h1 h2).1)).mp (fun i hi => hm i (by omega))
          rw [e9]
          exact ⟨rfl, rfl⟩
        · refine am_iload_n (q := 21) rfl (am_tab tk_X7_isWord 12 rfl) rfl ?_
          refine am_iload (q := 23) rfl (am_tab tk_X7_isWord 13 rfl) rfl ?_
          refine am_iadd (q := 24) (by omega) (am_tab tk_X7_isWord 14 rfl) rfl ?_
          refine am_iload_n (q := 25) rfl (am_tab tk_X7_isWord 15 rfl) rfl ?_
          refine am_icmp_ge (q := 28) (t := 43) (am_tab tk_X7_isWord 16 rfl) (by decide) rfl (fun h25 => ?_) (fun h25 => ?_)
          · refine am_bipush (q := 45) (n := 32) (by decide) rfl (am_tab tk_X7_isWord 25 rfl) rfl ?_
            refine am_istore (q := 47) (by decide) (ls2 := [(5, am_i 32), (4, am_i ((k : Int))), (3, am_i ((w : Int))), (2, am_i ((y : Int))), (1, am_i ((x : Int))), (0, am_r 30)]) rfl (am_tab tk_X7_isWord 26 rfl) rfl ?_
            refine am_ldcS (q := 49) (i := 0) (by decide) rfl (am_tab tk_X7_isWord 27 rfl) rfl ?_
            refine am_iload_n (q := 50) rfl (am_tab tk_X7_isWord 28 rfl) rfl ?_
            refine am_bipush (q := 52) (n := 8) (by decide) rfl (am_tab tk_X7_isWord 29 rfl) rfl ?_
            refine am_imul (q := 53) (by omega) (am_tab tk_X7_isWord 30 rfl) rfl ?_
            refine am_iload (q := 55) rfl (am_tab tk_X7_isWord 31 rfl) rfl ?_
            refine am_iadd (q := 56) (by omega) (am_tab tk_X7_isWord 32 rfl) rfl ?_
            refine am_callVs (q := 59) (me2 := M_J0_charAt_5068e) (b := 0) (As := [am_i ((((w : Int) * 8) + (k : Int)))]) (rest := []) (c_charAt σ 0 (((w : Int) * 8) + (k : Int)) (by decide) (by omega) (by have hs0 : (sN 0 : Int) = 264 := rfl; omega)) ⟨rfl, rfl⟩ (by omega) ⟨Or.inl km_X7_75, kc_J0_charAt_5068e, kn_J0, kd_J0_charAt_5068e, ⟨(Nat.le_of_ble_eq_true rfl), (Nat.le_of_ble_eq_true rfl)⟩, ⟨(Nat.le_of_ble_eq_true rfl), (Nat.le_of_ble_eq_true rfl)⟩, (Nat.le_of_ble_eq_true rfl)⟩ ki_J0_charAt_5068e ks_J0_charAt_5068e rfl (am_tab tk_X7_isWord 33 rfl) rfl ?_
            rintro r τ ⟨rfl, hτ9⟩
            rw [hτ9]
            refine am_iload (q := 61) rfl (am_tab tk_X7_isWord 34 rfl) rfl ?_
            refine am_icmp_eq (q := 64) (t := 66) (am_tab tk_X7_isWord 35 rfl) (by decide) rfl (fun h61 => ?_) (fun h61 => ?_)
            · refine am_iinc (q := 69) rfl (by omega) (by decide) (ls2 := [(4, am_i (((k : Int) + 1))), (5, am_i 32), (3, am_i ((w : Int))), (2, am_i ((y : Int))), (1, am_i ((x : Int))), (0, am_r 30)]) rfl (am_tab tk_X7_isWord 38 rfl) rfl ?_
              refine am_goto (t := 13) (am_tab tk_X7_isWord 39 rfl) (by decide) ?_
              exact am_less (by intro q hq; simp only [List.mem_cons, List.not_mem_nil, or_false] at hq; rcases hq with rfl | rfl | rfl | rfl | rfl <;> simp) (ih13 (k + 1) (by omega) (by omega) (fun i hi => (show i < k ∨ i = k by omega).elim (hm i) (fun e => by rw [e, if_neg (by omega), show 8 * w + k = ((w : Int) * 8 + (k : Int)).toNat by omega]; exact h61)))
            · refine am_iconst (q := 65) (n := 0) (by decide) (am_tab tk_X7_isWord 36 rfl) rfl ?_
              refine am_iret (Or.inr ⟨rfl, by first | exact Or.inl rfl | exact Or.inr rfl | omega⟩) (Nat.le_of_ble_eq_true rfl) (Nat.le_of_ble_eq_true rfl) (am_tab tk_X7_isWord 37 rfl) ?_
              refine hQ _ _ ?_
              have e9 : mW b x y (WL.getD w []) = false := by
                cases hm9 : mW b x y (WL.getD w []) with
                | false => rfl
                | true =>
                  exfalso
                  have h9 := (word_iff hw (by omega) (fun j h1 h2 => (hd j h1 h2).1)).mpr hm9 k (by omega)
                  rw [show 8 * w + k = ((w : Int) * 8 + (k : Int)).toNat by omega, if_neg (by omega)] at h9
                  exact h61 h9
              rw [e9]
              exact ⟨rfl, rfl⟩
          · refine am_aload_n (q := 29) rfl (am_tab tk_X7_isWord 17 rfl) rfl ?_
            refine am_getR (q := 32) (a := 30) (k := 7) (n := 3) (j := 0) (r := some (1)) (Ls_30 hL) (by decide) rfl (Lr_30_0 hL) (by decide) (Or.inl kf_X7_15) (am_tab tk_X7_isWord 18 rfl) rfl ?_
            refine am_getR (q := 35) (a := 1) (k := 6) (n := 2) (j := 0) (r := some (2)) (Ls_1 hL) (by decide) rfl (Lr_1_0 hL) (by decide) (Or.inr kf_X7_28) (am_tab tk_X7_isWord 19 rfl) rfl ?_
            refine am_iload_n (q := 36) rfl (am_tab tk_X7_isWord 20 rfl) rfl ?_
            refine am_iload (q := 38) rfl (am_tab tk_X7_isWord 21 rfl) rfl ?_
            refine am_iadd (q := 39) (by omega) (am_tab tk_X7_isWord 22 rfl) rfl ?_
            refine am_iald (q := 40) (a := 2) (n := 1600) (x := (b (x + k))) (Ls_2 hL) (by omega) (by omega) ((congrArg (σ.2.1 2) (show Int.toNat ((x : Int) + (k : Int)) = x + k by omega)).trans (hT.1 (x + k) (by omega))) (am_tab tk_X7_isWord 23 rfl) rfl ?_
            refine am_goto (t := 45) (am_tab tk_X7_isWord 24 rfl) (by decide) ?_
            refine am_istore (q := 47) (by decide) (ls2 := [(5, am_i ((b (x + k)))), (4, am_i ((k : Int))), (3, am_i ((w : Int))), (2, am_i ((y : Int))), (1, am_i ((x : Int))), (0, am_r 30)]) rfl (am_tab tk_X7_isWord 26 rfl) rfl ?_
            refine am_ldcS (q := 49) (i := 0) (by decide) rfl (am_tab tk_X7_isWord 27 rfl) rfl ?_
            refine am_iload_n (q := 50) rfl (am_tab tk_X7_isWord 28 rfl) rfl ?_
            refine am_bipush (q := 52) (n := 8) (by decide) rfl (am_tab tk_X7_isWord 29 rfl) rfl ?_
            refine am_imul (q := 53) (by omega) (am_tab tk_X7_isWord 30 rfl) rfl ?_
            refine am_iload (q := 55) rfl (am_tab tk_X7_isWord 31 rfl) rfl ?_
            refine am_iadd (q := 56) (by omega) (am_tab tk_X7_isWord 32 rfl) rfl ?_
            refine am_callVs (q := 59) (me2 := M_J0_charAt_5068e) (b := 0) (As := [am_i ((((w : Int) * 8) + (k : Int)))]) (rest := []) (c_charAt σ 0 (((w : Int) * 8) + (k : Int)) (by decide) (by omega) (by have hs0 : (sN 0 : Int) = 264 := rfl; omega)) ⟨rfl, rfl⟩ (by omega) ⟨Or.inl km_X7_75, kc_J0_charAt_5068e, kn_J0, kd_J0_charAt_5068e, ⟨(Nat.le_of_ble_eq_true rfl), (Nat.le_of_ble_eq_true rfl)⟩, ⟨(Nat.le_of_ble_eq_true rfl), (Nat.le_of_ble_eq_true rfl)⟩, (Nat.le_of_ble_eq_true rfl)⟩ ki_J0_charAt_5068e ks_J0_charAt_5068e rfl (am_tab tk_X7_isWord 33 rfl) rfl ?_
            rintro r τ ⟨rfl, hτ9⟩
            rw [hτ9]
            refine am_iload (q := 61) rfl (am_tab tk_X7_isWord 34 rfl) rfl ?_
            refine am_icmp_eq (q := 64) (t := 66) (am_tab tk_X7_isWord 35 rfl) (by decide) rfl (fun h61 => ?_) (fun h61 => ?_)
            · refine am_iinc (q := 69) rfl (by omega) (by decide) (ls2 := [(4, am_i (((k : Int) + 1))), (5, am_i ((b (x + k)))), (3, am_i ((w : Int))), (2, am_i ((y : Int))), (1, am_i ((x : Int))), (0, am_r 30)]) rfl (am_tab tk_X7_isWord 38 rfl) rfl ?_
              refine am_goto (t := 13) (am_tab tk_X7_isWord 39 rfl) (by decide) ?_
              exact am_less (by intro q hq; simp only [List.mem_cons, List.not_mem_nil, or_false] at hq; rcases hq with rfl | rfl | rfl | rfl | rfl <;> simp) (ih13 (k + 1) (by omega) (by omega) (fun i hi => (show i < k ∨ i = k by omega).elim (hm i) (fun e => by rw [e, if_pos (by omega), show 8 * w + k = ((w : Int) * 8 + (k : Int)).toNat by omega]; exact h61)))
            · refine am_iconst (q := 65) (n := 0) (by decide) (am_tab tk_X7_isWord 36 rfl) rfl ?_
              refine am_iret (Or.inr ⟨rfl, by first | exact Or.inl rfl | exact Or.inr rfl | omega⟩) (Nat.le_of_ble_eq_true rfl) (Nat.le_of_ble_eq_true rfl) (am_tab tk_X7_isWord 37 rfl) ?_
              refine hQ _ _ ?_
              have e9 : mW b x y (WL.getD w []) = false := by
                cases hm9 : mW b x y (WL.getD w []) with
                | false => rfl
                | true =>
                  exfalso
                  have h9 := (word_iff hw (by omega) (fun j h1 h2 => (hd j h1 h2).1)).mpr hm9 k (by omega)
                  rw [show 8 * w + k = ((w : Int) * 8 + (k : Int)).toNat by omega, if_pos (by omega)] at h9
                  exact h61 h9
              rw [e9]
              exact ⟨rfl, rfl⟩
    refine am_less (by intro q hq; simp only [List.mem_cons, List.not_mem_nil, or_false] at hq; rcases hq with rfl | rfl | rfl | rfl | rfl <;> simp) (L13 (_ + 1) 0 (by exact Nat.lt_succ_self _) (by omega) (fun i hi => absurd hi (Nat.not_lt_zero i)))
  · refine am_iconst (q := 9) (n := 0) (by decide) (am_tab tk_X7_isWord 5 rfl) rfl ?_
    refine am_iret (Or.inr ⟨rfl, by first | exact Or.inl rfl | exact Or.inr rfl | omega⟩) (Nat.le_of_ble_eq_true rfl) (Nat.le_of_ble_eq_true rfl) (am_tab tk_X7_isWord 6 rfl) ?_
    refine hQ _ _ ?_
    rw [word_long (b := b) hw (by omega)]
    exact ⟨rfl, rfl⟩
theorem c_wordKind (b : Nat → Int) (E : Nat) (σ : am_H) (hL : lay σ) (hT : TP b E σ) (x : Nat) (y : Nat) (hy : x < y ∧ y ≤ E) (hd : ∀ j, x ≤ j → j < y → 97 ≤ b j ∧ b j ≤ 122) : am_met M_X7_wordKind [am_r 30, am_i ((x : Int)), am_i ((y : Int))] σ (fun r σ' => r = some (am_i (if wkI b x y = -1 then (if 6 < y - x then 4 else 3) else 128 + wkI b x y)) ∧ σ' = σ) := by
  refine am_qq (fun Q hQ => ?_)
  refine am_enter (show plainFor yX7_wordKind = true by decide +kernel) rfl (Nat.le_of_ble_eq_true rfl) (fun _ _ _ => trivial) ?_
  have hE := hT.2.2.1
  refine am_iconst (q := 1) (n := 0) (by decide) (am_tab tk_X7_wordKind 0 rfl) rfl ?_
  refine am_istore_n (q := 2) (by decide) (ls2 := [(3, am_i 0), (0, am_r 30), (1, am_i ((x : Int))), (2, am_i ((y : Int)))]) rfl (am_tab tk_X7_wordKind 1 rfl) rfl ?_
  have L2 : ∀ (n2 : Nat) (w : Nat), 33 - w < n2 → w ≤ 33 → anyB (fun w => mW b x y (WL.getD w [])) w = false → am_wp M_X7_wordKind Q 0 0 2 [(3, am_i ((w : Int))), (2, am_i ((y : Int))), (1, am_i ((x : Int))), (0, am_r 30)] [] σ := by
    intro n2
    induction n2 with
    | zero => intro w hn2; exact absurd hn2 (Nat.not_lt_zero _)
    | succ n2 ih2 =>
      intro w hn2 hw0 han
      refine am_iload_n (q := 3) rfl (am_tab tk_X7_wordKind 2 rfl) rfl ?_
      refine am_bipush (q := 5) (n := 33) (by decide) rfl (am_tab tk_X7_wordKind 3 rfl) rfl ?_
      refine am_icmp_ge (q := 8) (t := 30) (am_tab tk_X7_wordKind 4 rfl) (by decide) rfl (fun h5 => ?_) (fun h5 => ?_)
      · refine am_iload_n (q := 31) rfl (am_tab tk_X7_wordKind 17 rfl) rfl ?_
        refine am_iload_n (q := 32) rfl (am_tab tk_X7_wordKind 18 rfl) rfl ?_
        refine am_isub (q := 33) (by omega) (am_tab tk_X7_wordKind 19 rfl) rfl ?_
        refine am_bipush (q := 35) (n := 6) (by decide) rfl (am_tab tk_X7_wordKind 20 rfl) rfl ?_
        refine am_icmp_le (q := 38) (t := 42) (am_tab tk_X7_wordKind 21 rfl) (by decide) rfl (fun h35 => ?_) (fun h35 => ?_)
        · refine am_iconst (q := 43) (n := 3) (by decide) (am_tab tk_X7_wordKind 24 rfl) rfl ?_
          refine am_iret (Or.inl rfl) (Nat.le_of_ble_eq_true rfl) (Nat.le_of_ble_eq_true rfl) (am_tab tk_X7_wordKind 25 rfl) ?_
          refine hQ _ _ ?_
          have e9 : wkI b x y = -1 := firstQ_none (by rw [← show w = 33 by omega]; exact han)
          refine ⟨?_, rfl⟩
          rw [if_pos e9, if_neg (by omega)]
        · refine am_iconst (q := 39) (n := 4) (by decide) (am_tab tk_X7_wordKind 22 rfl) rfl ?_
          refine am_goto (t := 43) (am_tab tk_X7_wordKind 23 rfl) (by decide) ?_
          refine am_iret (Or.inl rfl) (Nat.le_of_ble_eq_true rfl) (Nat.le_of_ble_eq_true rfl) (am_tab tk_X7_wordKind 25 rfl) ?_
          refine hQ _ _ ?_
          have e9 : wkI b x y = -1 := firstQ_none (by rw [← show w = 33 by omega]; exact han)
          refine ⟨?_, rfl⟩
          rw [if_pos e9, if_pos (by omega)]
      · have hw : w < 33 := by omega
        refine am_aload_n (q := 9) rfl (am_tab tk_X7_wordKind 5 rfl) rfl ?_
        refine am_iload_n (q := 10) rfl (am_tab tk_X7_wordKind 6 rfl) rfl ?_
        refine am_iload_n (q := 11) rfl (am_tab tk_X7_wordKind 7 rfl) rfl ?_
        refine am_iload_n (q := 12) rfl (am_tab tk_X7_wordKind 8 rfl) rfl ?_
        refine am_callV0 (q := 15) (me2 := M_X7_isWord) (b := 30) (kb := 7) (nb := 3) (As := [am_i ((x : Int)), am_i ((y : Int)), am_i ((w : Int))]) (rest := []) (out := [am_i ((b2i (mW b x y (WL.getD w []))))]) (c_isWord b E σ hL hT x y w hw hy hd) ⟨rfl, rfl⟩ (Ls_30 hL) (by decide) ⟨Or.inl km_X7_69, kc_X7_isWord, kn_X7, kd_X7_isWord, ⟨(Nat.le_of_ble_eq_true rfl), (Nat.le_of_ble_eq_true rfl)⟩, ⟨(Nat.le_of_ble_eq_true rfl), (Nat.le_of_ble_eq_true rfl)⟩, (Nat.le_of_ble_eq_true rfl)⟩ ki_X7_isWord ks_X7_isWord rfl rfl (am_tab tk_X7_wordKind 9 rfl) rfl ?_
        refine am_if_eq (q := 18) (t := 24) (am_tab tk_X7_wordKind 10 rfl) (by decide) rfl (fun h15 => ?_) (fun h15 => ?_)
        · refine am_iinc (q := 27) rfl (by omega) (by decide) (ls2 := [(3, am_i (((w : Int) + 1))), (2, am_i ((y : Int))), (1, am_i ((x : Int))), (0, am_r 30)]) rfl (am_tab tk_X7_wordKind 15 rfl) rfl ?_
          refine am_goto (t := 2) (am_tab tk_X7_wordKind 16 rfl) (by decide) ?_
          have hg9 : mW b x y (WL.getD w []) = false := by cases hm9 : mW b x y (WL.getD w []) with | false => rfl | true => rw [hm9] at h15; exact absurd h15 (by decide)
          exact am_less (by intro q hq; simp only [List.mem_cons, List.not_mem_nil, or_false] at hq; rcases hq with rfl | rfl | rfl | rfl <;> simp) (ih2 (w + 1) (by omega) (by omega) (by unfold anyB; rw [han, hg9]; rfl))
        · have hg9 : mW b x y (WL.getD w []) = true := by cases hm9 : mW b x y (WL.getD w []) with | true => rfl | false => rw [hm9] at h15; exact absurd rfl h15
          refine am_sipush (q := 21) (n := 128) (by decide) rfl (am_tab tk_X7_wordKind 11 rfl) rfl ?_
          refine am_iload_n (q := 22) rfl (am_tab tk_X7_wordKind 12 rfl) rfl ?_
          refine am_iadd (q := 23) (by omega) (am_tab tk_X7_wordKind 13 rfl) rfl ?_
          refine am_iret (Or.inl rfl) (Nat.le_of_ble_eq_true rfl) (Nat.le_of_ble_eq_true rfl) (am_tab tk_X7_wordKind 14 rfl) ?_
          refine hQ _ _ ?_
          have e9 : wkI b x y = (w : Int) := firstQ_at hg9 han (by omega)
          refine ⟨?_, rfl⟩
          rw [e9, if_neg (by omega)]
  refine am_less (by intro q hq; simp only [List.mem_cons, List.not_mem_nil, or_false] at hq; rcases hq with rfl | rfl | rfl | rfl <;> simp) (L2 (_ + 1) 0 (by exact Nat.lt_succ_self _) (by omega) rfl)
theorem c_lettersOf (b : Nat → Int) (E : Nat) (σ : am_H) (hL : lay σ) (hT : TP b E σ) (x : Nat) (y : Nat) (hy : x < y ∧ y ≤ E) (hd : ∀ j, x ≤ j → j < y → 97 ≤ b j ∧ b j ≤ 122) : am_met M_X7_lettersOf [am_r 30, am_i ((x : Int)), am_i ((y : Int))] σ (fun r σ' => r = some (am_i (ltV b x (min (y - x) 6))) ∧ σ' = σ) := by
  refine am_qq (fun Q hQ => ?_)
  refine am_enter (show plainFor yX7_lettersOf = true by decide +kernel) rfl (Nat.le_of_ble_eq_true rfl) (fun _ _ _ => trivial) ?_
  have hE := hT.2.2.1
  refine am_iconst (q := 1) (n := 0) (by decide) (am_tab tk_X7_lettersOf 0 rfl) rfl ?_
  refine am_istore_n (q := 2) (by decide) (ls2 := [(3, am_i 0), (0, am_r 30), (1, am_i ((x : Int))), (2, am_i ((y : Int)))]) rfl (am_tab tk_X7_lettersOf 1 rfl) rfl ?_
  refine am_iload_n (q := 3) rfl (am_tab tk_X7_lettersOf 2 rfl) rfl ?_
  refine am_istore (q := 5) (by decide) (ls2 := [(4, am_i ((x : Int))), (3, am_i 0), (0, am_r 30), (1, am_i ((x : Int))), (2, am_i ((y : Int)))]) rfl (am_tab tk_X7_lettersOf 3 rfl) rfl ?_
  have L5 : ∀ (n5 : Nat) (k : Nat), 6 - k < n5 → k ≤ 6 ∧ x + k ≤ y → am_wp M_X7_lettersOf Q 0 0 5 [(4, am_i (((x + k : Nat) : Int))), (3, am_i ((ltV b x k))), (2, am_i ((y : Int))), (1, am_i ((x : Int))), (0, am_r 30)] [] σ := by
    intro n5
    induction n5 with
    | zero => intro k hn5; exact absurd hn5 (Nat.not_lt_zero _)
    | succ n5 ih5 =>
      intro k hn5 hk
      refine am_iload (q := 7) rfl (am_tab tk_X7_lettersOf 4 rfl) rfl ?_
      refine am_iload_n (q := 8) rfl (am_tab tk_X7_lettersOf 5 rfl) rfl ?_
      refine am_icmp_ge (q := 11) (t := 51) (am_tab tk_X7_lettersOf 6 rfl) (by decide) rfl (fun h8 => ?_) (fun h8 => ?_)
      · refine am_iload_n (q := 52) rfl (am_tab tk_X7_lettersOf 32 rfl) rfl ?_
        refine am_iret (Or.inl rfl) (Nat.le_of_ble_eq_true rfl) (Nat.le_of_ble_eq_true rfl) (am_tab tk_X7_lettersOf 33 rfl) ?_
        refine hQ _ _ ?_
        refine ⟨congrArg (fun z => some (am_i (ltV b x z))) (show k = min (y - x) 6 by omega), rfl⟩
      · refine am_iload (q := 13) rfl (am_tab tk_X7_lettersOf 7 rfl) rfl ?_
        refine am_iload_n (q := 14) rfl (am_tab tk_X7_lettersOf 8 rfl) rfl ?_
        refine am_bipush (q := 16) (n := 6) (by decide) rfl (am_tab tk_X7_lettersOf 9 rfl) rfl ?_
        refine am_iadd (q := 17) (by omega) (am_tab tk_X7_lettersOf 10 rfl) rfl ?_
        refine am_icmp_ge (q := 20) (t := 51) (am_tab tk_X7_lettersOf 11 rfl) (by decide) rfl (fun h17 => ?_) (fun h17 => ?_)
        · refine am_iload_n (q := 52) rfl (am_tab tk_X7_lettersOf 32 rfl) rfl ?_
          refine am_iret (Or.inl rfl) (Nat.le_of_ble_eq_true rfl) (Nat.le_of_ble_eq_true rfl) (am_tab tk_X7_lettersOf 33 rfl) ?_
          refine hQ _ _ ?_
          refine ⟨congrArg (fun z => some (am_i (ltV b x z))) (show k = min (y - x) 6 by omega), rfl⟩
        · refine am_iload_n (q := 21) rfl (am_tab tk_X7_lettersOf 12 rfl) rfl ?_
          refine am_aload_n (q := 22) rfl (am_tab tk_X7_lettersOf 13 rfl) rfl ?_
          refine am_getR (q := 25) (a := 30) (k := 7) (n := 3) (j := 0) (r := some (1)) (Ls_30 hL) (by decide) rfl (Lr_30_0 hL) (by decide) (Or.inl kf_X7_15) (am_tab tk_X7_lettersOf 14 rfl) rfl ?_
          refine am_getR (q := 28) (a := 1) (k := 6) (n := 2) (j := 0) (r := some (2)) (Ls_1 hL) (by decide) rfl (Lr_1_0 hL) (by decide) (Or.inr kf_X7_28) (am_tab tk_X7_lettersOf 15 rfl) rfl ?_
          refine am_iload (q := 30) rfl (am_tab tk_X7_lettersOf 16 rfl) rfl ?_
          have hdk := hd (x + k) (by omega) (by omega)
          refine am_iald (q := 31) (a := 2) (n := 1600) (x := (b (x + k))) (Ls_2 hL) (by omega) (by omega) (hT.1 (x + k) (by omega)) (am_tab tk_X7_lettersOf 17 rfl) rfl ?_
          refine am_bipush (q := 33) (n := 97) (by decide) rfl (am_tab tk_X7_lettersOf 18 rfl) rfl ?_
          refine am_isub (q := 34) (by omega) (am_tab tk_X7_lettersOf 19 rfl) rfl ?_
          refine am_iconst (q := 35) (n := 1) (by decide) (am_tab tk_X7_lettersOf 20 rfl) rfl ?_
          refine am_iadd (q := 36) (by omega) (am_tab tk_X7_lettersOf 21 rfl) rfl ?_
          refine am_iconst (q := 37) (n := 5) (by decide) (am_tab tk_X7_lettersOf 22 rfl) rfl ?_
          refine am_iload (q := 39) rfl (am_tab tk_X7_lettersOf 23 rfl) rfl ?_
          refine am_iload_n (q := 40) rfl (am_tab tk_X7_lettersOf 24 rfl) rfl ?_
          refine am_isub (q := 41) (by omega) (am_tab tk_X7_lettersOf 25 rfl) rfl ?_
          refine am_imul (q := 42) (by omega) (am_tab tk_X7_lettersOf 26 rfl) rfl ?_
          refine am_ishl (q := 43) (am_tab tk_X7_lettersOf 27 rfl) rfl ?_
          refine am_ior (q := 44) (am_tab tk_X7_lettersOf 28 rfl) rfl ?_
          refine am_istore_n (q := 45) (by decide) (ls2 := [(3, am_i ((ao_or (ltV b x k) (ao_shl (((b (x + k)) - 97) + 1) (5 * (((x + k : Nat) : Int) - (x : Int))))))), (4, am_i (((x + k : Nat) : Int))), (2, am_i ((y : Int))), (1, am_i ((x : Int))), (0, am_r 30)]) rfl (am_tab tk_X7_lettersOf 29 rfl) rfl ?_
          refine am_iinc (q := 48) rfl (by omega) (by decide) (ls2 := [(4, am_i ((((x + k : Nat) : Int) + 1))), (3, am_i ((ao_or (ltV b x k) (ao_shl (((b (x + k)) - 97) + 1) (5 * (((x + k : Nat) : Int) - (x : Int))))))), (2, am_i ((y : Int))), (1, am_i ((x : Int))), (0, am_r 30)]) rfl (am_tab tk_X7_lettersOf 30 rfl) rfl ?_
          refine am_goto (t := 5) (am_tab tk_X7_lettersOf 31 rfl) (by decide) ?_
          have hdk := hd (x + k) (by omega) (by omega)
          have hvr := ltV_r (b := b) (x := x) k (fun j hj => hd (x + j) (by omega) (by omega))
          have hP9 : 0 < ((2 ^ (5 * k) : Nat) : Int) ∧ ((2 ^ (5 * k) : Nat) : Int) ≤ 33554432 := by rcases (show k = 0 ∨ k = 1 ∨ k = 2 ∨ k = 3 ∨ k = 4 ∨ k = 5 by omega) with rfl | rfl | rfl | rfl | rfl | rfl <;> decide
          have hM9 : (b (x + k) - 96) * ((2 ^ (5 * k) : Nat) : Int) ≤ 26 * ((2 ^ (5 * k) : Nat) : Int) := Int.mul_le_mul_of_nonneg_right (by omega) (by omega)
          have e9 : (ao_or (ltV b x k) (ao_shl (((b (x + k)) - 97) + 1) (5 * (((x + k : Nat) : Int) - (x : Int))))) = ltV b x (k + 1) := by
            rw [show (5 : Int) * (((x + k : Nat) : Int) - (x : Int)) = ((5 * k : Nat) : Int) by omega, show (b (x + k) - 97) + 1 = b (x + k) - 96 by omega, shl_k (5 * k) (by omega) (by omega) (by omega), or_add (5 * k) (by omega) (by omega) hvr (by omega)]
            rfl
          rw [e9]
          exact am_less (by intro q hq; simp only [List.mem_cons, List.not_mem_nil, or_false] at hq; rcases hq with rfl | rfl | rfl | rfl | rfl <;> simp <;> omega) (ih5 (k + 1) (by omega) (by omega))
  refine am_less (by intro q hq; simp only [List.mem_cons, List.not_mem_nil, or_false] at hq; rcases hq with rfl | rfl | rfl | rfl | rfl <;> simp [ltV] <;> omega) (L5 (_ + 1) 0 (by exact Nat.lt_succ_self _) (by omega))
def W_tk (a j : Nat) : Prop := (a = 30 ∧ j = 2) ∨ a = 31
theorem c_tokAdd (σ : am_H) (hL : lay σ) (k : Int) (p : Int) (v : Int) (n : Nat) (hn : σ.2.1 30 2 = (n : Int) ∧ n ≤ 1600) (hk : 0 ≤ k ∧ k < 256) (hp : 0 ≤ p ∧ p ≤ 1600) (hv : 0 ≤ v ∧ v < 2147483648) : am_met M_X7_add [am_r 30, am_i k, am_i p, am_i v] σ (fun r σ' => r = none ∧ σ'.2.1 30 2 = (n : Int) + 1 ∧ σ'.2.1 31 n = v * 4294967296 + p * 256 + k ∧ (∀ j, j < n → σ'.2.1 31 j = σ.2.1 31 j) ∧ frw W_tk σ σ') := by
  refine am_qq (fun Q hQ => ?_)
  refine am_enter (show plainFor yX7_add = true by decide +kernel) rfl (Nat.le_of_ble_eq_true rfl) (fun _ _ _ => trivial) ?_
  refine am_aload_n (q := 1) rfl (am_tab tk_X7_add 0 rfl) rfl ?_
  refine am_getI (q := 4) (a := 30) (k := 7) (n := 3) (j := 2) (x := (n : Int)) (Ls_30 hL) (by decide) rfl hn.1 (by decide) (Or.inl kf_X7_19) (am_tab tk_X7_add 1 rfl) rfl ?_
  refine am_aload_n (q := 5) rfl (am_tab tk_X7_add 2 rfl) rfl ?_
  refine am_getR (q := 8) (a := 30) (k := 7) (n := 3) (j := 1) (r := some (31)) (Ls_30 hL) (by decide) rfl (Lr_30_1 hL) (by decide) (Or.inl kf_X7_9) (am_tab tk_X7_add 3 rfl) rfl ?_
  refine am_alen (q := 9) (a := 31) (k := 12) (n := 1601) (Ls_31 hL) (by decide) (by decide) (am_tab tk_X7_add 4 rfl) rfl ?_
  refine am_icmp_ge (q := 12) (t := 45) (am_tab tk_X7_add 5 rfl) (by decide) rfl (fun h9 => ?_) (fun h9 => ?_)
  · omega
  · refine am_aload_n (q := 13) rfl (am_tab tk_X7_add 6 rfl) rfl ?_
    refine am_getR (q := 16) (a := 30) (k := 7) (n := 3) (j := 1) (r := some (31)) (Ls_30 hL) (by decide) rfl (Lr_30_1 hL) (by decide) (Or.inl kf_X7_9) (am_tab tk_X7_add 7 rfl) rfl ?_
    refine am_aload_n (q := 17) rfl (am_tab tk_X7_add 8 rfl) rfl ?_
    refine am_getI (q := 20) (a := 30) (k := 7) (n := 3) (j := 2) (x := (n : Int)) (Ls_30 hL) (by decide) rfl hn.1 (by decide) (Or.inl kf_X7_19) (am_tab tk_X7_add 9 rfl) rfl ?_
    refine am_iload_n (q := 21) rfl (am_tab tk_X7_add 10 rfl) rfl ?_
    refine am_i2l (q := 22) (am_tab tk_X7_add 11 rfl) rfl ?_
    refine am_bipush (q := 24) (n := 32) (by decide) rfl (am_tab tk_X7_add 12 rfl) rfl ?_
    refine am_lshl (q := 25) (am_tab tk_X7_add 13 rfl) rfl ?_
    refine am_iload_n (q := 26) rfl (am_tab tk_X7_add 14 rfl) rfl ?_
    refine am_bipush (q := 28) (n := 8) (by decide) rfl (am_tab tk_X7_add 15 rfl) rfl ?_
    refine am_ishl (q := 29) (am_tab tk_X7_add 16 rfl) rfl ?_
    refine am_i2l (q := 30) (am_tab tk_X7_add 17 rfl) rfl ?_
    refine am_lor (q := 31) (am_tab tk_X7_add 18 rfl) rfl ?_
    refine am_iload_n (q := 32) rfl (am_tab tk_X7_add 19 rfl) rfl ?_
    refine am_i2l (q := 33) (am_tab tk_X7_add 20 rfl) rfl ?_
    refine am_lor (q := 34) (am_tab tk_X7_add 21 rfl) rfl ?_
    refine am_last (q := 35) (a := 31) (n := 1601) (Ls_31 hL) (by omega) (by omega) (am_tab tk_X7_add 22 rfl) rfl ?_
    refine am_aload_n (q := 36) rfl (am_tab tk_X7_add 23 rfl) rfl ?_
    refine am_dup (q := 37) rfl (am_tab tk_X7_add 24 rfl) rfl ?_
    refine am_getI (q := 40) (a := 30) (k := 7) (n := 3) (j := 2) (x := (n : Int)) (Ls_30 hL) (by decide) rfl hn.1 (by decide) (Or.inl kf_X7_19) (am_tab tk_X7_add 25 rfl) rfl ?_
    refine am_iconst (q := 41) (n := 1) (by decide) (am_tab tk_X7_add 26 rfl) rfl ?_
    refine am_iadd (q := 42) (by omega) (am_tab tk_X7_add 27 rfl) rfl ?_
    refine am_putI (q := 45) (k := 7) (n := 3) (j := 2) (Ls_30 hL) (by decide) rfl (by decide) (Or.inl ⟨kf_X7_19, rfl⟩) (am_tab tk_X7_add 28 rfl) rfl ?_
    refine am_vret rfl (Nat.le_of_ble_eq_true rfl) (Nat.le_of_ble_eq_true rfl) (am_tab tk_X7_add 29 rfl) ?_
    refine hQ _ _ ?_
    refine ⟨rfl, rfl, ?_, fun j hj => ?_, ((frw.refl W_tk σ).setN (Or.inr rfl)).setN (Or.inl ⟨rfl, rfl⟩)⟩
    · rw [← mk_eq hv hp hk]
      show (am_setN σ 31 (Int.toNat (n : Int)) _).2.1 31 n = _
      rw [show Int.toNat (n : Int) = n by omega]; exact set_eq
    · show (am_setN σ 31 (Int.toNat (n : Int)) _).2.1 31 j = _
      exact set_ne (by omega)
