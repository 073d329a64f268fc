theorem shr_bv (x : Int) (s : Nat) (hs : s = 0 ∨ s = 5 ∨ s = 10 ∨ s = 15 ∨ s = 20 ∨ s = 25) : ao_shr x (s : Int) = ((Int32.ofInt x).toBitVec.sshiftRight s).toInt := by
  unfold ao_shr
  rcases hs with rfl | rfl | rfl | rfl | rfl | rfl <;> rfl
theorem shr_n (a s : Nat) (ha : a < 2147483648) (hs : s = 0 ∨ s = 5 ∨ s = 10 ∨ s = 15 ∨ s = 20 ∨ s = 25) : ao_shr (a : Int) (s : Int) = ((a / 2 ^ s : Nat) : Int) := by
  rw [shr_bv _ _ hs, BitVec.toInt_sshiftRight]
  have h1 : (Int32.ofInt (a : Int)).toBitVec.toInt = (a : Int) := Int32.toInt_ofInt_of_le (show -2 ^ 31 ≤ (a : Int) by omega) (show (a : Int) < 2 ^ 31 by omega)
  rw [h1, Int.shiftRight_eq_div_pow]
  rfl
theorem let_n (a s : Nat) (ha : a < 2147483648) (hs : s = 0 ∨ s = 5 ∨ s = 10 ∨ s = 15 ∨ s = 20 ∨ s = 25) : ao_and (ao_shr (a : Int) (s : Int)) 31 = ((a / 2 ^ s % 32 : Nat) : Int) := by
  have h : a / 2 ^ s ≤ a := Nat.div_le_self _ _
  rw [shr_n a s ha hs, show (31 : Int) = ((31 : Nat) : Int) from rfl, and_nat _ _ (by omega) (by decide)]
  rw [show (31 : Nat) = 2 ^ 5 - 1 from rfl, Nat.and_two_pow_sub_one_eq_mod]
theorem dg1 {m d : Int} (hm : 0 ≤ m) (hd : 1 ≤ d ∧ d ≤ 26) : (27 * m + d).tdiv 27 = m ∧ (27 * m + d).tmod 27 = d := by
  rw [Int.tdiv_eq_ediv_of_nonneg (by omega), Int.tmod_eq_emod_of_nonneg (by omega)]
  omega
/-- digits, the last one first -/
def V27 : List Int → Int
  | [] => 0
  | d :: r => 27 * V27 r + d
theorem V27_nn : ∀ r : List Int, (∀ x ∈ r, 1 ≤ x ∧ x ≤ 26) → 0 ≤ V27 r
  | [], _ => Int.le_refl 0
  | d :: r, h => by
    have h1 := V27_nn r (fun x hx => h x (List.mem_cons_of_mem _ hx))
    have h2 := h d List.mem_cons_self
    show 0 ≤ 27 * V27 r + d
    omega
theorem V27_nz : ∀ (r : List Int) (f : Nat), (∀ x ∈ r, 1 ≤ x ∧ x ≤ 26) → r.length ≤ f → nzF f (V27 r) = (r.length : Int)
  | [], f, _, _ => by cases f <;> rfl
  | d :: r, 0, _, h => absurd h (by simp)
  | d :: r, f + 1, h, hl => by
    have h1 := V27_nn r (fun x hx => h x (List.mem_cons_of_mem _ hx))
    have h2 := h d List.mem_cons_self
    have h3 := V27_nz r f (fun x hx => h x (List.mem_cons_of_mem _ hx)) (by simpa using hl)
    show (if 0 < 27 * V27 r + d then nzF f ((27 * V27 r + d).tdiv 27) + 1 else 0) = _
    rw [if_pos (by omega), (dg1 h1 h2).1, h3]
    simp
theorem V27_dq : ∀ (j : Nat) (r : List Int), (∀ x ∈ r, 1 ≤ x ∧ x ≤ 26) → dq j (V27 r) = V27 (r.drop j)
  | 0, _, _ => rfl
  | j + 1, r, h => by
    show (dq j (V27 r)).tdiv 27 = _
    rw [V27_dq j r h]
    have hd : ∀ x ∈ r.drop j, 1 ≤ x ∧ x ≤ 26 := fun x hx => h x (List.mem_of_mem_drop hx)
    rw [← List.tail_drop]
    cases hr : r.drop j with
    | nil => rfl
    | cons d t =>
      rw [hr] at hd
      exact (dg1 (V27_nn t (fun x hx => hd x (List.mem_cons_of_mem _ hx))) (hd d List.mem_cons_self)).1
theorem V27_md (r : List Int) (h : ∀ x ∈ r, 1 ≤ x ∧ x ≤ 26) : (V27 r).tmod 27 = r.headD 0 := by
  cases r with
  | nil => rfl
  | cons d t => exact (dg1 (V27_nn t (fun x hx => h x (List.mem_cons_of_mem _ hx))) (h d List.mem_cons_self)).2
theorem V27_fold (ls : List Int) : ls.foldl (fun a x => 27 * a + x) 0 = V27 ls.reverse := by
  rw [← List.foldr_reverse]
  generalize ls.reverse = r
  induction r with
  | nil => rfl
  | cons d t ih => show 27 * _ + d = 27 * V27 t + d; rw [← ih]
theorem V27_mx : ∀ r : List Int, (∀ x ∈ r, 1 ≤ x ∧ x ≤ 26) → V27 r < 27 ^ r.length
  | [], _ => by decide
  | d :: r, h => by
    have h1 := V27_mx r (fun x hx => h x (List.mem_cons_of_mem _ hx))
    have h2 := h d List.mem_cons_self
    show 27 * V27 r + d < 27 ^ (r.length + 1)
    rw [Int.pow_succ]
    omega
theorem W32_r : ∀ l : List Int, (∀ x ∈ l, 1 ≤ x ∧ x ≤ 26) → 0 ≤ l.foldr (fun x a => 32 * a + x) 0 ∧ l.foldr (fun x a => 32 * a + x) 0 < 32 ^ l.length
  | [], _ => by decide
  | d :: l, h => by
    have h1 := W32_r l (fun x hx => h x (List.mem_cons_of_mem _ hx))
    have h2 := h d List.mem_cons_self
    show 0 ≤ 32 * l.foldr (fun x a => 32 * a + x) 0 + d ∧ 32 * l.foldr (fun x a => 32 * a + x) 0 + d < 32 ^ (l.length + 1)
    rw [Int.pow_succ]
    omega
theorem W32_d : ∀ (k : Nat) (l : List Int), (∀ x ∈ l, 1 ≤ x ∧ x ≤ 26) → l.foldr (fun x a => 32 * a + x) 0 / 32 ^ k % 32 = l.getD k 0
  | 0, [], _ => rfl
  | 0, d :: l, h => by
    have h2 := h d List.mem_cons_self
    show (32 * l.foldr (fun x a => 32 * a + x) 0 + d) / 1 % 32 = d
    omega
  | k + 1, [], _ => by
    show (0 : Int) / 32 ^ (k + 1) % 32 = 0
    rw [Int.zero_ediv]
    rfl
  | k + 1, d :: l, h => by
    have h2 := h d List.mem_cons_self
    have h1 := W32_d k l (fun x hx => h x (List.mem_cons_of_mem _ hx))
    show (32 * l.foldr (fun x a => 32 * a + x) 0 + d) / 32 ^ (k + 1) % 32 = l.getD k 0
    rw [← h1, Int.pow_succ, Int.mul_comm (32 ^ k) 32, ← Int.ediv_ediv_of_nonneg (show (0 : Int) ≤ 32 by decide), show (32 * l.foldr (fun x a => 32 * a + x) 0 + d) / 32 = l.foldr (fun x a => 32 * a + x) 0 by omega]
theorem nm_rng {c m : Int} (h : nmR c m) : 0 ≤ m ∧ m < 387420489 := by
  obtain ⟨ls, h1, h2, h3, _⟩ := h
  have hr : ∀ x ∈ ls.reverse, 1 ≤ x ∧ x ≤ 26 := fun x hx => h2 x (List.mem_reverse.mp hx)
  rw [h3, V27_fold]
  refine ⟨V27_nn _ hr, ?_⟩
  have h4 := V27_mx _ hr
  have h5 : (27 : Int) ^ ls.reverse.length ≤ 27 ^ 6 := by
    rw [List.length_reverse]
    rcases (show ls.length = 0 ∨ ls.length = 1 ∨ ls.length = 2 ∨ ls.length = 3 ∨ ls.length = 4 ∨ ls.length = 5 ∨ ls.length = 6 by omega) with h | h | h | h | h | h | h <;> rw [h] <;> decide
  have h6 : (27 : Int) ^ 6 = 387420489 := by decide
  omega
theorem nm_let {c m : Int} (h : nmR c m) {k : Nat} (hk : k ≤ 5) : ao_and (ao_shr c (5 * (k : Int))) 31 = ltM m k := by
  obtain ⟨ls, h1, h2, h3, h4⟩ := h
  have hr : ∀ x ∈ ls.reverse, 1 ≤ x ∧ x ≤ 26 := fun x hx => h2 x (List.mem_reverse.mp hx)
  have hW := W32_r ls h2
  rw [← h4] at hW
  have h5 : (32 : Int) ^ ls.length ≤ 32 ^ 6 := by
    rcases (show ls.length = 0 ∨ ls.length = 1 ∨ ls.length = 2 ∨ ls.length = 3 ∨ ls.length = 4 ∨ ls.length = 5 ∨ ls.length = 6 by omega) with h | h | h | h | h | h | h <;> rw [h] <;> decide
  have h6 : (32 : Int) ^ 6 = 1073741824 := by decide
  obtain ⟨a, ha⟩ := Int.eq_ofNat_of_zero_le hW.1
  have hd := W32_d k ls h2
  rw [← h4, ha] at hd
  have el : ao_and (ao_shr c (5 * (k : Int))) 31 = ls.getD k 0 := by
    rw [ha, show (5 * (k : Int)) = ((5 * k : Nat) : Int) by omega, let_n a (5 * k) (by omega) (by omega), ← hd, show 2 ^ (5 * k) = 32 ^ k from Nat.pow_mul 2 5 k]
    simp
  rw [el, h3, V27_fold]
  unfold ltM
  have hz := V27_nz ls.reverse 6 hr (by simpa using h1)
  rw [hz, List.length_reverse]
  by_cases g : ls.length ≤ k
  · rw [if_pos (by omega), List.getD_eq_getElem?_getD, List.getElem?_eq_none g]; rfl
  · rw [if_neg (by omega), show ((ls.length : Int) - 1 - (k : Int)).toNat = ls.length - 1 - k by omega, V27_dq _ _ hr, V27_md _ (fun x hx => hr x (List.mem_of_mem_drop hx))]
    rw [List.headD_eq_head?_getD, List.head?_drop, List.getElem?_reverse (by omega), List.getD_eq_getElem?_getD, show ls.length - 1 - (ls.length - 1 - k) = k by omega]
theorem c_bringBack {f c L : Nat} (σ : am_H) (hL : lay σ) (hf : σ.2.1 42 1 = (f : Int)) (hc : σ.2.1 42 2 = (c : Int)) (hf20 : f < 20) (hc20 : c ≤ 20) (hc1 : 1 ≤ c) (hr : σ.2.2 43 ((f + c - 1) % 20) = some L) (hB : BLK σ L) (h131 : 131 ≤ L) : am_met M_X2_bringBack [am_r 42, am_r 32] σ (fun r τ => r = none ∧ CPY 32 L σ τ ∧ frw (fun a j => W_li 32 a j ∨ (a = 42 ∧ j = 2)) σ τ ∧ τ.2.1 42 2 = (c : Int) - 1) := by
  refine am_qq (fun Q hQ => ?_)
  refine am_enter (show plainFor yX2_bringBack = true by decide +kernel) rfl (Nat.le_of_ble_eq_true rfl) (fun _ _ _ => trivial) ?_
  have hat : (f + c - 1) % 20 < 20 := Nat.mod_lt _ (by decide)
  refine am_aload_n (q := 1) rfl (am_tab tk_X2_bringBack 0 rfl) rfl ?_
  refine am_getI (q := 4) (a := 42) (k := 2) (n := 3) (j := 2) (x := (c : Int)) (Ls_42 hL) (by decide) rfl hc (by decide) (Or.inl kf_X2_17) (am_tab tk_X2_bringBack 1 rfl) rfl ?_
  refine am_if_ne (q := 7) (t := 8) (am_tab tk_X2_bringBack 2 rfl) (by decide) rfl (fun h4 => ?_) (fun h4 => ?_)
  · refine am_aload_n (q := 9) rfl (am_tab tk_X2_bringBack 4 rfl) rfl ?_
    refine am_dup (q := 10) rfl (am_tab tk_X2_bringBack 5 rfl) rfl ?_
    refine am_getI (q := 13) (a := 42) (k := 2) (n := 3) (j := 2) (x := (c : Int)) (Ls_42 hL) (by decide) rfl hc (by decide) (Or.inl kf_X2_17) (am_tab tk_X2_bringBack 6 rfl) rfl ?_
    refine am_iconst (q := 14) (n := 1) (by decide) (am_tab tk_X2_bringBack 7 rfl) rfl ?_
    refine am_isub (q := 15) (by omega) (am_tab tk_X2_bringBack 8 rfl) rfl ?_
    refine am_putI (q := 18) (k := 2) (n := 3) (j := 2) (Ls_42 hL) (by decide) rfl (by decide) (Or.inl ⟨kf_X2_17, rfl⟩) (am_tab tk_X2_bringBack 9 rfl) rfl ?_
    refine am_aload_n (q := 19) rfl (am_tab tk_X2_bringBack 10 rfl) rfl ?_
    refine am_getR (q := 22) (a := 42) (k := 2) (n := 3) (j := 0) (r := some 43) (Ls_42 hL) (by decide) rfl (Lr_42_0 hL) (by decide) (Or.inl kf_X2_11) (am_tab tk_X2_bringBack 11 rfl) rfl ?_
    refine am_aload_n (q := 23) rfl (am_tab tk_X2_bringBack 12 rfl) rfl ?_
    refine am_getI (q := 26) (a := 42) (k := 2) (n := 3) (j := 1) (x := (f : Int)) (Ls_42 hL) (by decide) rfl ((set_nn (by omega)).trans hf) (by decide) (Or.inl kf_X2_21) (am_tab tk_X2_bringBack 13 rfl) rfl ?_
    refine am_aload_n (q := 27) rfl (am_tab tk_X2_bringBack 14 rfl) rfl ?_
    refine am_getI (q := 30) (a := 42) (k := 2) (n := 3) (j := 2) (x := (c : Int) - 1) (Ls_42 hL) (by decide) rfl set_eq (by decide) (Or.inl kf_X2_17) (am_tab tk_X2_bringBack 15 rfl) rfl ?_
    refine am_iadd (q := 31) (by omega) (am_tab tk_X2_bringBack 16 rfl) rfl ?_
    refine am_bipush (q := 33) (n := 20) (by decide) rfl (am_tab tk_X2_bringBack 17 rfl) rfl ?_
    refine am_irem (q := 34) (by decide) (by omega) (am_tab tk_X2_bringBack 18 rfl) rfl ?_
    refine am_st (st2 := [am_i (((f + c - 1) % 20 : Nat) : Int), am_r 43]) (by rw [show (f : Int) + ((c : Int) - 1) = ((f + c - 1 : Nat) : Int) by omega]; rfl) ?_
    refine am_aald (q := 35) (a := 43) (n := 20) (r := some L) (Ls_43 hL) (by omega) (by omega) hr (am_tab tk_X2_bringBack 19 rfl) rfl ?_
    refine am_astore_n (q := 36) (by decide) (ls2 := [(2, am_r L), (0, am_r 42), (1, am_r 32)]) rfl (am_tab tk_X2_bringBack 20 rfl) rfl ?_
    refine am_aload_n (q := 37) rfl (am_tab tk_X2_bringBack 21 rfl) rfl ?_
    refine am_ifnull (q := 40) (t := 45) (am_tab tk_X2_bringBack 22 rfl) (by decide) rfl (fun h37 => ?_) (fun h37 => ?_)
    · exact absurd h37 (by simp)
    · refine am_aload_n (q := 41) rfl (am_tab tk_X2_bringBack 23 rfl) rfl ?_
      refine am_aload_n (q := 42) rfl (am_tab tk_X2_bringBack 24 rfl) rfl ?_
      have hF0 : frw (fun a j => W_li 32 a j ∨ (a = 42 ∧ j = 2)) σ (am_setN σ 42 2 ((c : Int) - 1)) := (frw.refl _ σ).setN (Or.inr ⟨rfl, rfl⟩)
      refine am_callVr (q := 45) (me2 := M_X1_copyFrom) (b := 32) (kb := 1) (nb := 11) (As := [am_r L]) (rest := []) (c_copyG (am_setN σ 42 2 ((c : Int) - 1)) ((blk_32 hL).fr hF0) (hB.fr hF0) (by omega)) ⟨rfl, rfl⟩ (Ls_32 hL) (by decide) ⟨Or.inr km_X2_25, kc_X1_copyFrom, kn_X1, kd_X1_copyFrom, ⟨(Nat.le_of_ble_eq_true rfl), (Nat.le_of_ble_eq_true rfl)⟩, ⟨(Nat.le_of_ble_eq_true rfl), (Nat.le_of_ble_eq_true rfl)⟩, (Nat.le_of_ble_eq_true rfl)⟩ ki_X1_copyFrom ks_X1_copyFrom rfl (am_tab tk_X2_bringBack 25 rfl) rfl ?_
      rintro r T ⟨rfl, hCP, hF⟩
      refine am_vret rfl (Nat.le_of_ble_eq_true rfl) (Nat.le_of_ble_eq_true rfl) (am_tab tk_X2_bringBack 26 rfl) ?_
      refine hQ _ _ ⟨rfl, ?_, hF0.trans (hF.mono (fun a j h => Or.inl h)), ?_⟩
      · obtain ⟨p1, p2, p3, p4, p5⟩ := hCP
        exact ⟨fun j hj => (p1 j hj).trans (set_nn (by omega)), fun j hj => (p2 j hj).trans (set_nn (by omega)), fun j hj => (p3 j hj).trans (set_nn (by omega)), fun j hj => (p4 j hj).trans (set_nn (by omega)), fun j hj => (p5 j hj).trans (set_nn (by omega))⟩
      · rw [hF.2.2 42 2 (by unfold W_li; omega)]
        exact set_eq
  · omega
set_option maxRecDepth 100000 in
theorem c_undo (σ : am_H) (f c L : Nat) (hL : lay σ)  (hf : σ.2.1 42 1 = (f : Int)) (hc : σ.2.1 42 2 = (c : Int)) (hf20 : f < 20) (hc20 : c ≤ 20) (hK : 1 ≤ c → σ.2.2 43 ((f + c - 1) % 20) = some L ∧ BLK σ L ∧ 131 ≤ L) (hr : 0 ≤ σ.2.1 54 4 ∧ σ.2.1 54 4 ≤ 100000) : am_met M_X9_undo [am_r 0] σ (fun r σ' => (1 ≤ c ∧ r = some (am_i 1) ∧ CPY 32 L σ σ' ∧ frw (fun a j => W_li 32 a j ∨ (a = 42 ∧ j = 2)) σ σ' ∧ σ'.2.1 42 2 = (c : Int) - 1) ∨ (c = 0 ∧ r = some (am_i 0) ∧ σ' = am_setN σ 54 4 (σ.2.1 54 4 + 1))) := by
  refine am_qq (fun Q hQ => ?_)
  refine am_enter (show plainFor yX9_undo = true by decide +kernel) rfl (Nat.le_of_ble_eq_true rfl) (fun _ _ _ => trivial) ?_
  refine am_aload_n (q := 1) rfl (am_tab tk_X9_undo 0 rfl) rfl ?_
  refine am_getR (q := 4) (a := 0) (k := 9) (n := 17) (j := 6) (r := some (42)) (Ls_0 hL) (by decide) rfl (Lr_0_6 hL) (by decide) (Or.inl kf_X9_48) (am_tab tk_X9_undo 1 rfl) rfl ?_
  refine am_getI (q := 7) (a := 42) (k := 2) (n := 3) (j := 2) (x := (c : Int)) (Ls_42 hL) (by decide) rfl hc (by decide) (Or.inr kf_X9_163) (am_tab tk_X9_undo 2 rfl) rfl ?_
  refine am_if_ne (q := 10) (t := 18) (am_tab tk_X9_undo 3 rfl) (by decide) rfl (fun h7 => ?_) (fun h7 => ?_)
  · refine am_aload_n (q := 19) rfl (am_tab tk_X9_undo 10 rfl) rfl ?_
    refine am_getR (q := 22) (a := 0) (k := 9) (n := 17) (j := 6) (r := some (42)) (Ls_0 hL) (by decide) rfl (Lr_0_6 hL) (by decide) (Or.inl kf_X9_48) (am_tab tk_X9_undo 11 rfl) rfl ?_
    refine am_aload_n (q := 23) rfl (am_tab tk_X9_undo 12 rfl) rfl ?_
    refine am_getR (q := 26) (a := 0) (k := 9) (n := 17) (j := 4) (r := some (32)) (Ls_0 hL) (by decide) rfl (Lr_0_4 hL) (by decide) (Or.inl kf_X9_38) (am_tab tk_X9_undo 13 rfl) rfl ?_
    refine am_callVr (q := 29) (me2 := M_X2_bringBack) (b := 42) (kb := 2) (nb := 3) (As := [am_r 32]) (rest := []) (c_bringBack σ hL hf hc hf20 hc20 (by omega) (hK (by omega)).1 (hK (by omega)).2.1 (hK (by omega)).2.2) ⟨rfl, rfl⟩ (Ls_42 hL) (by decide) ⟨Or.inr km_X9_307, kc_X2_bringBack, kn_X2, kd_X2_bringBack, ⟨(Nat.le_of_ble_eq_true rfl), (Nat.le_of_ble_eq_true rfl)⟩, ⟨(Nat.le_of_ble_eq_true rfl), (Nat.le_of_ble_eq_true rfl)⟩, (Nat.le_of_ble_eq_true rfl)⟩ ki_X2_bringBack ks_X2_bringBack rfl (am_tab tk_X9_undo 14 rfl) rfl ?_
    rintro r T1 ⟨rfl, hCP, hF1, h422⟩
    refine am_iconst (q := 30) (n := 1) (by decide) (am_tab tk_X9_undo 15 rfl) rfl ?_
    refine am_iret (Or.inr ⟨rfl, by first | exact Or.inl rfl | exact Or.inr rfl | omega⟩) (Nat.le_of_ble_eq_true rfl) (Nat.le_of_ble_eq_true rfl) (am_tab tk_X9_undo 16 rfl) ?_
    refine hQ _ _ ?_
    exact Or.inl ⟨by omega, rfl, hCP, hF1, h422⟩
  · refine am_aload_n (q := 11) rfl (am_tab tk_X9_undo 4 rfl) rfl ?_
    refine am_iconst (q := 12) (n := 4) (by decide) (am_tab tk_X9_undo 5 rfl) rfl ?_
    refine am_callV0 (q := 15) (me2 := M_X9_refuse) (b := 0) (kb := 9) (nb := 17) (As := [am_i 4]) (rest := []) (out := [am_i ((-1))]) (c_refuse σ hL 4 (by decide) hr) ⟨rfl, rfl⟩ (Ls_0 hL) (by decide) ⟨Or.inl km_X9_92, kc_X9_refuse, kn_X9, kd_X9_refuse, ⟨(Nat.le_of_ble_eq_true rfl), (Nat.le_of_ble_eq_true rfl)⟩, ⟨(Nat.le_of_ble_eq_true rfl), (Nat.le_of_ble_eq_true rfl)⟩, (Nat.le_of_ble_eq_true rfl)⟩ ki_X9_refuse ks_X9_refuse rfl rfl (am_tab tk_X9_undo 6 rfl) rfl ?_
    refine am_pop (q := 16) rfl (am_tab tk_X9_undo 7 rfl) rfl ?_
    refine am_iconst (q := 17) (n := 0) (by decide) (am_tab tk_X9_undo 8 rfl) rfl ?_
    refine am_iret (Or.inr ⟨rfl, by first | exact Or.inl rfl | exact Or.inr rfl | omega⟩) (Nat.le_of_ble_eq_true rfl) (Nat.le_of_ble_eq_true rfl) (am_tab tk_X9_undo 9 rfl) ?_
    refine hQ _ _ ?_
    exact Or.inr ⟨by omega, rfl, rfl⟩
set_option maxRecDepth 100000 in
theorem c_letter_3 (σ : am_H) (hC : CI 3 σ) (p : Int) (k : Int)  : am_met M_X9_letter [am_r 0, am_i p, am_i k] σ (fun r σ' => r = some (am_i (letM σ p k)) ∧ σ' = σ) := by
  refine am_qq (fun Q hQ => ?_)
  refine am_enter (show plainFor yX9_letter = true by decide +kernel) rfl (Nat.le_of_ble_eq_true rfl) (fun _ _ _ => trivial) ?_
  have hL := hC.G.L
  have hN := hC.G.R.P
  have hY := hC.G.R.Y
  refine am_aload_n (q := 1) rfl (am_tab tk_X9_letter 0 rfl) rfl ?_
  refine am_iload_n (q := 2) rfl (am_tab tk_X9_letter 1 rfl) rfl ?_
  refine am_callV0 (q := 5) (me2 := M_X9_isPerson) (b := 0) (kb := 9) (nb := 17) (As := [am_i p]) (rest := []) (out := [am_i (if 0 ≤ p ∧ p < σ.2.1 85 5 then 1 else 0)]) (c_isPerson_3 σ hC p) ⟨rfl, rfl⟩ (Ls_0 hL) (by decide) ⟨Or.inl km_X9_166, kc_X9_isPerson, kn_X9, kd_X9_isPerson, ⟨(Nat.le_of_ble_eq_true rfl), (Nat.le_of_ble_eq_true rfl)⟩, ⟨(Nat.le_of_ble_eq_true rfl), (Nat.le_of_ble_eq_true rfl)⟩, (Nat.le_of_ble_eq_true rfl)⟩ ki_X9_isPerson ks_X9_isPerson rfl rfl (am_tab tk_X9_letter 2 rfl) rfl ?_
  refine am_if_eq (q := 8) (t := 17) (am_tab tk_X9_letter 3 rfl) (by decide) rfl (fun h5 => ?_) (fun h5 => ?_)
  · replace h5 := b01z h5
    refine am_iconst (q := 18) (n := (-1)) (by decide) (am_tab tk_X9_letter 9 rfl) rfl ?_
    refine am_iret (Or.inl rfl) (Nat.le_of_ble_eq_true rfl) (Nat.le_of_ble_eq_true rfl) (am_tab tk_X9_letter 10 rfl) ?_
    refine hQ _ _ ?_
    refine ⟨congrArg (fun z => some (am_i z)) ?_, rfl⟩
    unfold letM
    rw [if_neg (by omega)]
  · replace h5 := b01n h5
    refine am_iload_n (q := 9) rfl (am_tab tk_X9_letter 4 rfl) rfl ?_
    refine am_if_lt (q := 12) (t := 17) (am_tab tk_X9_letter 5 rfl) (by decide) rfl (fun h9 => ?_) (fun h9 => ?_)
    · refine am_iconst (q := 18) (n := (-1)) (by decide) (am_tab tk_X9_letter 9 rfl) rfl ?_
      refine am_iret (Or.inl rfl) (Nat.le_of_ble_eq_true rfl) (Nat.le_of_ble_eq_true rfl) (am_tab tk_X9_letter 10 rfl) ?_
      refine hQ _ _ ?_
      refine ⟨congrArg (fun z => some (am_i z)) ?_, rfl⟩
      unfold letM
      rw [if_neg (by omega)]
    · refine am_iload_n (q := 13) rfl (am_tab tk_X9_letter 6 rfl) rfl ?_
      refine am_iconst (q := 14) (n := 5) (by decide) (am_tab tk_X9_letter 7 rfl) rfl ?_
      refine am_icmp_le (q := 17) (t := 19) (am_tab tk_X9_letter 8 rfl) (by decide) rfl (fun h14 => ?_) (fun h14 => ?_)
      · refine am_aload_n (q := 20) rfl (am_tab tk_X9_letter 11 rfl) rfl ?_
        refine am_getR (q := 23) (a := 0) (k := 9) (n := 17) (j := 2) (r := some (3)) (Ls_0 hL) (by decide) rfl hC.t (by decide) (Or.inl kf_X9_19) (am_tab tk_X9_letter 12 rfl) rfl ?_
        refine am_getR (q := 26) (a := 3) (k := 8) (n := 17) (j := 8) (r := some (4)) (Ls_3 hL) (by decide) rfl (Lr_3_8 hL) (by decide) (Or.inr kf_X9_170) (am_tab tk_X9_letter 13 rfl) rfl ?_
        refine am_iload_n (q := 27) rfl (am_tab tk_X9_letter 14 rfl) rfl ?_
        refine am_iald (q := 28) (a := 4) (n := 8) (x := (σ.2.1 4 (Int.toNat p))) (Ls_4 hL) (by omega) (by omega) rfl (am_tab tk_X9_letter 15 rfl) rfl ?_
        refine am_iconst (q := 29) (n := 5) (by decide) (am_tab tk_X9_letter 16 rfl) rfl ?_
        refine am_iload_n (q := 30) rfl (am_tab tk_X9_letter 17 rfl) rfl ?_
        refine am_imul (q := 31) (by omega) (am_tab tk_X9_letter 18 rfl) rfl ?_
        refine am_ishr (q := 32) (am_tab tk_X9_letter 19 rfl) rfl ?_
        refine am_bipush (q := 34) (n := 31) (by decide) rfl (am_tab tk_X9_letter 20 rfl) rfl ?_
        refine am_iand (q := 35) (am_tab tk_X9_letter 21 rfl) rfl ?_
        refine am_iret (Or.inl rfl) (Nat.le_of_ble_eq_true rfl) (Nat.le_of_ble_eq_true rfl) (am_tab tk_X9_letter 22 rfl) ?_
        refine hQ _ _ ?_
        refine ⟨congrArg (fun z => some (am_i z)) ?_, rfl⟩
        unfold letM
        rw [if_pos (by omega)]
        obtain ⟨q, rfl⟩ := Int.eq_ofNat_of_zero_le (show 0 ≤ p by omega)
        obtain ⟨j, rfl⟩ := Int.eq_ofNat_of_zero_le (show 0 ≤ k by omega)
        have hq : q < pN σ := by have := pN_eq hC.G.R; omega
        rw [show Int.toNat ((8 : Int) + (q : Int)) = 8 + q by omega, show Int.toNat (q : Int) = q by omega]
        exact nm_let (hC.W.2.1 q hq) (by omega)
      · refine am_iconst (q := 18) (n := (-1)) (by decide) (am_tab tk_X9_letter 9 rfl) rfl ?_
        refine am_iret (Or.inl rfl) (Nat.le_of_ble_eq_true rfl) (Nat.le_of_ble_eq_true rfl) (am_tab tk_X9_letter 10 rfl) ?_
        refine hQ _ _ ?_
        refine ⟨congrArg (fun z => some (am_i z)) ?_, rfl⟩
        unfold letM
        rw [if_neg (by omega)]
set_option maxRecDepth 100000 in
theorem c_letter_15 (σ : am_H) (hC : CI 15 σ) (p : Int) (k : Int)  : am_met M_X9_letter [am_r 0, am_i p, am_i k] σ (fun r σ' => r = some (am_i (letM σ p k)) ∧ σ' = σ) := by
  refine am_qq (fun Q hQ => ?_)
  refine am_enter (show plainFor yX9_letter = true by decide +kernel) rfl (Nat.le_of_ble_eq_true rfl) (fun _ _ _ => trivial) ?_
  have hL := hC.G.L
  have hN := hC.G.R.P
  have hY := hC.G.R.Y
  refine am_aload_n (q := 1) rfl (am_tab tk_X9_letter 0 rfl) rfl ?_
  refine am_iload_n (q := 2) rfl (am_tab tk_X9_letter 1 rfl) rfl ?_
  refine am_callV0 (q := 5) (me2 := M_X9_isPerson) (b := 0) (kb := 9) (nb := 17) (As := [am_i p]) (rest := []) (out := [am_i (if 0 ≤ p ∧ p < σ.2.1 85 5 then 1 else 0)]) (c_isPerson_15 σ hC p) ⟨rfl, rfl⟩ (Ls_0 hL) (by decide) ⟨Or.inl km_X9_166, kc_X9_isPerson, kn_X9, kd_X9_isPerson, ⟨(Nat.le_of_ble_eq_true rfl), (Nat.le_of_ble_eq_true rfl)⟩, ⟨(Nat.le_of_ble_eq_true rfl), (Nat.le_of_ble_eq_true rfl)⟩, (Nat.le_of_ble_eq_true rfl)⟩ ki_X9_isPerson ks_X9_isPerson rfl rfl (am_tab tk_X9_letter 2 rfl) rfl ?_
  refine am_if_eq (q := 8) (t := 17) (am_tab tk_X9_letter 3 rfl) (by decide) rfl (fun h5 => ?_) (fun h5 => ?_)
  · replace h5 := b01z h5
    refine am_iconst (q := 18) (n := (-1)) (by decide) (am_tab tk_X9_letter 9 rfl) rfl ?_
    refine am_iret (Or.inl rfl) (Nat.le_of_ble_eq_true rfl) (Nat.le_of_ble_eq_true rfl) (am_tab tk_X9_letter 10 rfl) ?_
    refine hQ _ _ ?_
    refine ⟨congrArg (fun z => some (am_i z)) ?_, rfl⟩
    unfold letM
    rw [if_neg (by omega)]
  · replace h5 := b01n h5
    refine am_iload_n (q := 9) rfl (am_tab tk_X9_letter 4 rfl) rfl ?_
    refine am_if_lt (q := 12) (t := 17) (am_tab tk_X9_letter 5 rfl) (by decide) rfl (fun h9 => ?_) (fun h9 => ?_)
    · refine am_iconst (q := 18) (n := (-1)) (by decide) (am_tab tk_X9_letter 9 rfl) rfl ?_
      refine am_iret (Or.inl rfl) (Nat.le_of_ble_eq_true rfl) (Nat.le_of_ble_eq_true rfl) (am_tab tk_X9_letter 10 rfl) ?_
      refine hQ _ _ ?_
      refine ⟨congrArg (fun z => some (am_i z)) ?_, rfl⟩
      unfold letM
      rw [if_neg (by omega)]
    · refine am_iload_n (q := 13) rfl (am_tab tk_X9_letter 6 rfl) rfl ?_
      refine am_iconst (q := 14) (n := 5) (by decide) (am_tab tk_X9_letter 7 rfl) rfl ?_
      refine am_icmp_le (q := 17) (t := 19) (am_tab tk_X9_letter 8 rfl) (by decide) rfl (fun h14 => ?_) (fun h14 => ?_)
      · refine am_aload_n (q := 20) rfl (am_tab tk_X9_letter 11 rfl) rfl ?_
        refine am_getR (q := 23) (a := 0) (k := 9) (n := 17) (j := 2) (r := some (15)) (Ls_0 hL) (by decide) rfl hC.t (by decide) (Or.inl kf_X9_19) (am_tab tk_X9_letter 12 rfl) rfl ?_
        refine am_getR (q := 26) (a := 15) (k := 8) (n := 17) (j := 8) (r := some (16)) (Ls_15 hL) (by decide) rfl (Lr_15_8 hL) (by decide) (Or.inr kf_X9_170) (am_tab tk_X9_letter 13 rfl) rfl ?_
        refine am_iload_n (q := 27) rfl (am_tab tk_X9_letter 14 rfl) rfl ?_
        refine am_iald (q := 28) (a := 16) (n := 8) (x := (σ.2.1 16 (Int.toNat p))) (Ls_16 hL) (by omega) (by omega) rfl (am_tab tk_X9_letter 15 rfl) rfl ?_
        refine am_iconst (q := 29) (n := 5) (by decide) (am_tab tk_X9_letter 16 rfl) rfl ?_
        refine am_iload_n (q := 30) rfl (am_tab tk_X9_letter 17 rfl) rfl ?_
        refine am_imul (q := 31) (by omega) (am_tab tk_X9_letter 18 rfl) rfl ?_
        refine am_ishr (q := 32) (am_tab tk_X9_letter 19 rfl) rfl ?_
        refine am_bipush (q := 34) (n := 31) (by decide) rfl (am_tab tk_X9_letter 20 rfl) rfl ?_
        refine am_iand (q := 35) (am_tab tk_X9_letter 21 rfl) rfl ?_
        refine am_iret (Or.inl rfl) (Nat.le_of_ble_eq_true rfl) (Nat.le_of_ble_eq_true rfl) (am_tab tk_X9_letter 22 rfl) ?_
        refine hQ _ _ ?_
        refine ⟨congrArg (fun z => some (am_i z)) ?_, rfl⟩
        unfold letM
        rw [if_pos (by omega)]
        obtain ⟨q, rfl⟩ := Int.eq_ofNat_of_zero_le (show 0 ≤ p by omega)
        obtain ⟨j, rfl⟩ := Int.eq_ofNat_of_zero_le (show 0 ≤ k by omega)
        have hq : q < pN σ := by have := pN_eq hC.G.R; omega
        rw [show Int.toNat ((8 : Int) + (q : Int)) = 8 + q by omega, show Int.toNat (q : Int) = q by omega]
        exact nm_let (hC.W.2.1 q hq) (by omega)
      · refine am_iconst (q := 18) (n := (-1)) (by decide) (am_tab tk_X9_letter 9 rfl) rfl ?_
        refine am_iret (Or.inl rfl) (Nat.le_of_ble_eq_true rfl) (Nat.le_of_ble_eq_true rfl) (am_tab tk_X9_letter 10 rfl) ?_
        refine hQ _ _ ?_
        refine ⟨congrArg (fun z => some (am_i z)) ?_, rfl⟩
        unfold letM
        rw [if_neg (by omega)]
