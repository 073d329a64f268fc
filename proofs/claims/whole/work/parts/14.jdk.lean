theorem am_Hext {σ τ : am_H} (h1 : σ.1 = τ.1) (h2 : ∀ a j, σ.2.1 a j = τ.2.1 a j) (h3 : ∀ a j, σ.2.2 a j = τ.2.2 a j) : σ = τ := by
  obtain ⟨s1, s2, s3⟩ := σ
  obtain ⟨t1, t2, t3⟩ := τ
  have e2 : s2 = t2 := funext fun a => funext fun j => h2 a j
  have e3 : s3 = t3 := funext fun a => funext fun j => h3 a j
  cases h1; cases e2; cases e3; rfl
theorem am_setA_N (σ : am_H) (a j : Nat) (f : Nat → Int) (x : Int) : am_setN (am_setA σ a f) a j x = am_setA σ a (fun k => if k = j then x else f k) := by
  refine am_Hext rfl (fun b k => ?_) (fun _ _ => rfl)
  simp only [am_setN, am_setA]
  by_cases hb : b = a <;> simp [hb]
theorem am_setN_A (σ : am_H) (a j : Nat) (x : Int) : am_setN σ a j x = am_setA σ a (fun k => if k = j then x else σ.2.1 a k) := by
  refine am_Hext rfl (fun b k => ?_) (fun _ _ => rfl)
  simp only [am_setN, am_setA]
  by_cases hb : b = a <;> simp [hb]
theorem am_setA_A (σ : am_H) (a : Nat) (f g : Nat → Int) : am_setA (am_setA σ a f) a g = am_setA σ a g := by
  refine am_Hext rfl (fun b k => ?_) (fun _ _ => rfl)
  simp only [am_setA]
  by_cases hb : b = a <;> simp [hb]
theorem am_setA_self (σ : am_H) (a : Nat) : am_setA σ a (fun k => σ.2.1 a k) = σ := by
  refine am_Hext rfl (fun b k => ?_) (fun _ _ => rfl)
  simp only [am_setA]
  by_cases hb : b = a <;> simp [hb]
theorem am_setN_self (σ : am_H) (a j : Nat) : am_setN σ a j (σ.2.1 a j) = σ := by
  refine am_Hext rfl (fun b k => ?_) (fun _ _ => rfl)
  simp only [am_setN]
  by_cases hb : b = a ∧ k = j
  · simp [hb.1, hb.2]
  · simp [hb]
theorem am_setN_N (σ : am_H) (a j : Nat) (x y : Int) : am_setN (am_setN σ a j x) a j y = am_setN σ a j y := by
  refine am_Hext rfl (fun b k => ?_) (fun _ _ => rfl)
  simp only [am_setN]
  by_cases hb : b = a ∧ k = j <;> simp [hb]
theorem c_max (σ : am_H) (x y : Int) : am_met M_J9_max_7cf53 [am_i x, am_i y] σ (fun r σ' => r = some (am_i (max x y)) ∧ σ' = σ) := by
  refine am_enter (by decide +kernel) rfl (Nat.le_of_ble_eq_true rfl) (fun _ _ _ => trivial) ?_
  refine am_iload_n (q := 1) rfl (am_tab tk_J9_max_7cf53 0 rfl) rfl ?_
  refine am_iload_n (q := 2) rfl (am_tab tk_J9_max_7cf53 1 rfl) rfl ?_
  refine am_icmp_lt (q := 5) (t := 9) (am_tab tk_J9_max_7cf53 2 rfl) (by decide) rfl (fun h2 => ?_) (fun h2 => ?_)
  · refine am_iload_n (q := 10) rfl (am_tab tk_J9_max_7cf53 5 rfl) rfl ?_
    refine am_iret (Or.inl rfl) (by decide) (by decide) (am_tab tk_J9_max_7cf53 6 rfl) ?_
    exact ⟨by rw [show max x y = y by omega], rfl⟩
  · refine am_iload_n (q := 6) rfl (am_tab tk_J9_max_7cf53 3 rfl) rfl ?_
    refine am_goto (t := 10) (am_tab tk_J9_max_7cf53 4 rfl) (by decide) ?_
    refine am_iret (Or.inl rfl) (by decide) (by decide) (am_tab tk_J9_max_7cf53 6 rfl) ?_
    exact ⟨by rw [show max x y = x by omega], rfl⟩
theorem c_min (σ : am_H) (x y : Int) : am_met M_J9_min_7cf53 [am_i x, am_i y] σ (fun r σ' => r = some (am_i (min x y)) ∧ σ' = σ) := by
  refine am_enter (by decide +kernel) rfl (Nat.le_of_ble_eq_true rfl) (fun _ _ _ => trivial) ?_
  refine am_iload_n (q := 1) rfl (am_tab tk_J9_min_7cf53 0 rfl) rfl ?_
  refine am_iload_n (q := 2) rfl (am_tab tk_J9_min_7cf53 1 rfl) rfl ?_
  refine am_icmp_gt (q := 5) (t := 9) (am_tab tk_J9_min_7cf53 2 rfl) (by decide) rfl (fun h2 => ?_) (fun h2 => ?_)
  · refine am_iload_n (q := 10) rfl (am_tab tk_J9_min_7cf53 5 rfl) rfl ?_
    refine am_iret (Or.inl rfl) (by decide) (by decide) (am_tab tk_J9_min_7cf53 6 rfl) ?_
    exact ⟨by rw [show min x y = y by omega], rfl⟩
  · refine am_iload_n (q := 6) rfl (am_tab tk_J9_min_7cf53 3 rfl) rfl ?_
    refine am_goto (t := 10) (am_tab tk_J9_min_7cf53 4 rfl) (by decide) ?_
    refine am_iret (Or.inl rfl) (by decide) (by decide) (am_tab tk_J9_min_7cf53 6 rfl) ?_
    exact ⟨by rw [show min x y = x by omega], rfl⟩
theorem ao_cmp_lt {x y : Int} : ao_cmp x y < 0 ↔ x < y := by unfold ao_cmp; split <;> (try split) <;> omega
theorem ao_cmp_gt {x y : Int} : 0 < ao_cmp x y ↔ y < x := by unfold ao_cmp; split <;> (try split) <;> omega
theorem ao_cmp_eq {x y : Int} : ao_cmp x y = 0 ↔ x = y := by unfold ao_cmp; split <;> (try split) <;> omega
theorem c_maxl (σ : am_H) (x y : Int) : am_met M_J9_max_f86c9 [am_l x, am_l y] σ (fun r σ' => r = some (am_l (max x y)) ∧ σ' = σ) := by
  refine am_enter (by decide +kernel) rfl (Nat.le_of_ble_eq_true rfl) (fun _ _ _ => trivial) ?_
  refine am_lload_n (q := 1) rfl (am_tab tk_J9_max_f86c9 0 rfl) rfl ?_
  refine am_lload_n (q := 2) rfl (am_tab tk_J9_max_f86c9 1 rfl) rfl ?_
  refine am_lcmp (q := 3) (am_tab tk_J9_max_f86c9 2 rfl) rfl ?_
  refine am_if_lt (q := 6) (t := 10) (am_tab tk_J9_max_f86c9 3 rfl) (by decide) rfl (fun h3 => ?_) (fun h3 => ?_)
  · refine am_lload_n (q := 11) rfl (am_tab tk_J9_max_f86c9 6 rfl) rfl ?_
    refine am_lret rfl (by decide) (by decide) (am_tab tk_J9_max_f86c9 7 rfl) ?_
    rw [ao_cmp_lt] at h3
    exact ⟨by rw [show max x y = y by omega], rfl⟩
  · refine am_lload_n (q := 7) rfl (am_tab tk_J9_max_f86c9 4 rfl) rfl ?_
    refine am_goto (t := 11) (am_tab tk_J9_max_f86c9 5 rfl) (by decide) ?_
    refine am_lret rfl (by decide) (by decide) (am_tab tk_J9_max_f86c9 7 rfl) ?_
    rw [ao_cmp_lt] at h3
    exact ⟨by rw [show max x y = x by omega], rfl⟩
theorem c_minl (σ : am_H) (x y : Int) : am_met M_J9_min_f86c9 [am_l x, am_l y] σ (fun r σ' => r = some (am_l (min x y)) ∧ σ' = σ) := by
  refine am_enter (by decide +kernel) rfl (Nat.le_of_ble_eq_true rfl) (fun _ _ _ => trivial) ?_
  refine am_lload_n (q := 1) rfl (am_tab tk_J9_min_f86c9 0 rfl) rfl ?_
  refine am_lload_n (q := 2) rfl (am_tab tk_J9_min_f86c9 1 rfl) rfl ?_
  refine am_lcmp (q := 3) (am_tab tk_J9_min_f86c9 2 rfl) rfl ?_
  refine am_if_gt (q := 6) (t := 10) (am_tab tk_J9_min_f86c9 3 rfl) (by decide) rfl (fun h3 => ?_) (fun h3 => ?_)
  · refine am_lload_n (q := 11) rfl (am_tab tk_J9_min_f86c9 6 rfl) rfl ?_
    refine am_lret rfl (by decide) (by decide) (am_tab tk_J9_min_f86c9 7 rfl) ?_
    rw [ao_cmp_gt] at h3
    exact ⟨by rw [show min x y = y by omega], rfl⟩
  · refine am_lload_n (q := 7) rfl (am_tab tk_J9_min_f86c9 4 rfl) rfl ?_
    refine am_goto (t := 11) (am_tab tk_J9_min_f86c9 5 rfl) (by decide) ?_
    refine am_lret rfl (by decide) (by decide) (am_tab tk_J9_min_f86c9 7 rfl) ?_
    rw [ao_cmp_gt] at h3
    exact ⟨by rw [show min x y = x by omega], rfl⟩
def bc (x : Int) : Int := (((List.range 8).map (fun i => x.toNat / 2 ^ i % 2)).sum : Nat)
def bc_f (x : Int) : Prop := ∃ a b c d e : Int, a = x - (ao_and (ao_ushr x 1) 1431655765) ∧ b = (ao_and a 858993459) + (ao_and (ao_ushr a 2) 858993459) ∧ c = ao_and (b + (ao_ushr b 4)) 252645135 ∧ d = c + (ao_ushr c 8) ∧ e = d + (ao_ushr d 16) ∧ (-1000 ≤ a ∧ a ≤ 1000) ∧ (-1000 ≤ b ∧ b ≤ 1000) ∧ (-1000 ≤ b + ao_ushr b 4 ∧ b + ao_ushr b 4 ≤ 1000) ∧ (-1000 ≤ d ∧ d ≤ 1000) ∧ (-1000 ≤ e ∧ e ≤ 1000) ∧ ao_and e 63 = bc x
def bc_g (x : Int) : Bool :=
  let a := x - (ao_and (ao_ushr x 1) 1431655765)
  let b := (ao_and a 858993459) + (ao_and (ao_ushr a 2) 858993459)
  let c := ao_and (b + (ao_ushr b 4)) 252645135
  let d := c + (ao_ushr c 8)
  let e := d + (ao_ushr d 16)
  decide ((-1000 ≤ a ∧ a ≤ 1000) ∧ (-1000 ≤ b ∧ b ≤ 1000) ∧ (-1000 ≤ b + ao_ushr b 4 ∧ b + ao_ushr b 4 ≤ 1000) ∧ (-1000 ≤ d ∧ d ≤ 1000) ∧ (-1000 ≤ e ∧ e ≤ 1000) ∧ ao_and e 63 = bc x)
theorem bc_all : (List.range 256).all (fun n => bc_g (n : Nat)) = true := by decide +kernel
theorem bc_get {x : Int} (h : 0 ≤ x ∧ x < 256) : bc_f x := by
  obtain ⟨n, rfl⟩ : ∃ n : Nat, x = n := ⟨x.toNat, by omega⟩
  have h2 := List.all_eq_true.mp bc_all n (List.mem_range.mpr (by omega))
  have h3 := of_decide_eq_true h2
  exact ⟨_, _, _, _, _, rfl, rfl, rfl, rfl, rfl, h3⟩
theorem c_bc (σ : am_H) (x : Int) (hx : 0 ≤ x ∧ x < 256) : am_met M_J6_bitCount_0f7a4 [am_i x] σ (fun r σ' => r = some (am_i (bc x)) ∧ σ' = σ) := by
  refine am_enter (by decide +kernel) rfl (Nat.le_of_ble_eq_true rfl) (fun _ _ _ => trivial) ?_
  obtain ⟨a, b, c, d, e, ha, hb, hc, hd, he, r1, r2, r3, r4, r5, hr⟩ := bc_get hx
  refine am_iload_n (q := 1) rfl (am_tab tk_J6_bitCount_0f7a4 0 rfl) rfl ?_
  refine am_iload_n (q := 2) rfl (am_tab tk_J6_bitCount_0f7a4 1 rfl) rfl ?_
  refine am_iconst (q := 3) (n := 1) (by decide) (am_tab tk_J6_bitCount_0f7a4 2 rfl) rfl ?_
  refine am_iushr (q := 4) (am_tab tk_J6_bitCount_0f7a4 3 rfl) rfl ?_
  refine am_ldcw (q := 7) (n := 1431655765) (by decide) kk_J6_265 (am_tab tk_J6_bitCount_0f7a4 4 rfl) rfl ?_
  refine am_iand (q := 8) (am_tab tk_J6_bitCount_0f7a4 5 rfl) rfl ?_
  refine am_isub (q := 9) (by omega) (am_tab tk_J6_bitCount_0f7a4 6 rfl) rfl ?_
  refine am_istore_n (q := 10) (by decide) (ls2 := [(0, am_i ((x - ((ao_and (ao_ushr x 1) 1431655765)))))]) rfl (am_tab tk_J6_bitCount_0f7a4 7 rfl) rfl ?_
  rw [← ha]
  refine am_iload_n (q := 11) rfl (am_tab tk_J6_bitCount_0f7a4 8 rfl) rfl ?_
  refine am_ldcw (q := 14) (n := 858993459) (by decide) kk_J6_266 (am_tab tk_J6_bitCount_0f7a4 9 rfl) rfl ?_
  refine am_iand (q := 15) (am_tab tk_J6_bitCount_0f7a4 10 rfl) rfl ?_
  refine am_iload_n (q := 16) rfl (am_tab tk_J6_bitCount_0f7a4 11 rfl) rfl ?_
  refine am_iconst (q := 17) (n := 2) (by decide) (am_tab tk_J6_bitCount_0f7a4 12 rfl) rfl ?_
  refine am_iushr (q := 18) (am_tab tk_J6_bitCount_0f7a4 13 rfl) rfl ?_
  refine am_ldcw (q := 21) (n := 858993459) (by decide) kk_J6_266 (am_tab tk_J6_bitCount_0f7a4 14 rfl) rfl ?_
  refine am_iand (q := 22) (am_tab tk_J6_bitCount_0f7a4 15 rfl) rfl ?_
  refine am_iadd (q := 23) (by omega) (am_tab tk_J6_bitCount_0f7a4 16 rfl) rfl ?_
  refine am_istore_n (q := 24) (by decide) (ls2 := [(0, am_i (((ao_and a 858993459) + ((ao_and (ao_ushr a 2) 858993459)))))]) rfl (am_tab tk_J6_bitCount_0f7a4 17 rfl) rfl ?_
  rw [← hb]
  refine am_iload_n (q := 25) rfl (am_tab tk_J6_bitCount_0f7a4 18 rfl) rfl ?_
  refine am_iload_n (q := 26) rfl (am_tab tk_J6_bitCount_0f7a4 19 rfl) rfl ?_
  refine am_iconst (q := 27) (n := 4) (by decide) (am_tab tk_J6_bitCount_0f7a4 20 rfl) rfl ?_
  refine am_iushr (q := 28) (am_tab tk_J6_bitCount_0f7a4 21 rfl) rfl ?_
  refine am_iadd (q := 29) (by omega) (am_tab tk_J6_bitCount_0f7a4 22 rfl) rfl ?_
  refine am_ldcw (q := 32) (n := 252645135) (by decide) kk_J6_267 (am_tab tk_J6_bitCount_0f7a4 23 rfl) rfl ?_
  refine am_iand (q := 33) (am_tab tk_J6_bitCount_0f7a4 24 rfl) rfl ?_
  refine am_istore_n (q := 34) (by decide) (ls2 := [(0, am_i ((ao_and ((b + (ao_ushr b 4))) 252645135)))]) rfl (am_tab tk_J6_bitCount_0f7a4 25 rfl) rfl ?_
  rw [← hc]
  refine am_iload_n (q := 35) rfl (am_tab tk_J6_bitCount_0f7a4 26 rfl) rfl ?_
  refine am_iload_n (q := 36) rfl (am_tab tk_J6_bitCount_0f7a4 27 rfl) rfl ?_
  refine am_bipush (q := 38) (n := 8) (by decide) rfl (am_tab tk_J6_bitCount_0f7a4 28 rfl) rfl ?_
  refine am_iushr (q := 39) (am_tab tk_J6_bitCount_0f7a4 29 rfl) rfl ?_
  refine am_iadd (q := 40) (by omega) (am_tab tk_J6_bitCount_0f7a4 30 rfl) rfl ?_
  refine am_istore_n (q := 41) (by decide) (ls2 := [(0, am_i ((c + (ao_ushr c 8))))]) rfl (am_tab tk_J6_bitCount_0f7a4 31 rfl) rfl ?_
  rw [← hd]
  refine am_iload_n (q := 42) rfl (am_tab tk_J6_bitCount_0f7a4 32 rfl) rfl ?_
  refine am_iload_n (q := 43) rfl (am_tab tk_J6_bitCount_0f7a4 33 rfl) rfl ?_
  refine am_bipush (q := 45) (n := 16) (by decide) rfl (am_tab tk_J6_bitCount_0f7a4 34 rfl) rfl ?_
  refine am_iushr (q := 46) (am_tab tk_J6_bitCount_0f7a4 35 rfl) rfl ?_
  refine am_iadd (q := 47) (by omega) (am_tab tk_J6_bitCount_0f7a4 36 rfl) rfl ?_
  refine am_istore_n (q := 48) (by decide) (ls2 := [(0, am_i ((d + (ao_ushr d 16))))]) rfl (am_tab tk_J6_bitCount_0f7a4 37 rfl) rfl ?_
  rw [← he]
  refine am_iload_n (q := 49) rfl (am_tab tk_J6_bitCount_0f7a4 38 rfl) rfl ?_
  refine am_bipush (q := 51) (n := 63) (by decide) rfl (am_tab tk_J6_bitCount_0f7a4 39 rfl) rfl ?_
  refine am_iand (q := 52) (am_tab tk_J6_bitCount_0f7a4 40 rfl) rfl ?_
  refine am_iret (Or.inl rfl) (by decide) (by decide) (am_tab tk_J6_bitCount_0f7a4 41 rfl) ?_
  exact ⟨by rw [hr], rfl⟩
theorem fill_loop (σ : am_H) (a n : Nat) (v : Int) (ha : σ.1[a]? = some (11, n)) (hn : n < 2147483648) : ∀ m i : Nat, i + m = n → am_wp M_J7_fill_53178 (fun r σ' => r = none ∧ σ' = am_setA σ a (fun k => if k < n then v else σ.2.1 a k)) 0 0 5 [(2, am_i (i : Int)), (3, am_i (n : Int)), (0, am_r a), (1, am_i v)] [] (am_setA σ a (fun k => if k < i then v else σ.2.1 a k)) := by
  intro m
  induction m with
  | zero =>
    intro i hi
    refine am_iload_n (q := 6) rfl (am_tab tk_J7_fill_53178 5 rfl) rfl ?_
    refine am_iload_n (q := 7) rfl (am_tab tk_J7_fill_53178 6 rfl) rfl ?_
    refine am_icmp_ge (q := 10) (t := 20) (am_tab tk_J7_fill_53178 7 rfl) (by decide) rfl (fun h7 => ?_) (fun h7 => ?_)
    · refine am_vret rfl (by decide) (by decide) (am_tab tk_J7_fill_53178 14 rfl) ?_
      exact ⟨rfl, by rw [show i = n by omega]⟩
    · exact absurd h7 (by omega)
  | succ m ih =>
    intro i hi
    refine am_iload_n (q := 6) rfl (am_tab tk_J7_fill_53178 5 rfl) rfl ?_
    refine am_iload_n (q := 7) rfl (am_tab tk_J7_fill_53178 6 rfl) rfl ?_
    refine am_icmp_ge (q := 10) (t := 20) (am_tab tk_J7_fill_53178 7 rfl) (by decide) rfl (fun h7 => ?_) (fun h7 => ?_)
    · exact absurd h7 (by omega)
    · refine am_aload_n (q := 11) rfl (am_tab tk_J7_fill_53178 8 rfl) rfl ?_
      refine am_iload_n (q := 12) rfl (am_tab tk_J7_fill_53178 9 rfl) rfl ?_
      refine am_iload_n (q := 13) rfl (am_tab tk_J7_fill_53178 10 rfl) rfl ?_
      refine am_iast (q := 14) (a := a) (n := n) ha (by omega) (by omega) (am_tab tk_J7_fill_53178 11 rfl) rfl ?_
      refine am_iinc (q := 17) rfl (by omega) (by decide) (ls2 := [(2, am_i (((i : Int) + 1))), (3, am_i ((n : Int))), (0, am_r a), (1, am_i v)]) rfl (am_tab tk_J7_fill_53178 12 rfl) rfl ?_
      refine am_goto (t := 5) (am_tab tk_J7_fill_53178 13 rfl) (by decide) ?_
      refine am_hp2 (σ1 := am_setA σ a (fun k => if k < i + 1 then v else σ.2.1 a k)) ?_ ?_
      · rw [am_setA_N]; congr 1; funext k; by_cases h1 : k = i; · simp [h1]
        · simp [h1, show (k < i + 1) ↔ (k < i) by omega]
      · exact ih (i + 1) (by omega)
theorem c_fill (σ : am_H) (a n : Nat) (v : Int) (ha : σ.1[a]? = some (11, n)) (hn : n < 2147483648) : am_met M_J7_fill_53178 [am_r a, am_i v] σ (fun r σ' => r = none ∧ σ' = am_setA σ a (fun k => if k < n then v else σ.2.1 a k)) := by
  refine am_enter (by decide +kernel) rfl (Nat.le_of_ble_eq_true rfl) (fun _ _ _ => trivial) ?_
  refine am_iconst (q := 1) (n := 0) (by decide) (am_tab tk_J7_fill_53178 0 rfl) rfl ?_
  refine am_istore_n (q := 2) (by decide) (ls2 := [(2, am_i 0), (0, am_r a), (1, am_i v)]) rfl (am_tab tk_J7_fill_53178 1 rfl) rfl ?_
  refine am_aload_n (q := 3) rfl (am_tab tk_J7_fill_53178 2 rfl) rfl ?_
  refine am_alen (q := 4) (a := a) (k := 11) (n := n) ha (by decide) (by omega) (am_tab tk_J7_fill_53178 3 rfl) rfl ?_
  refine am_istore_n (q := 5) (by decide) (ls2 := [(3, am_i ((n : Int))), (2, am_i 0), (0, am_r a), (1, am_i v)]) rfl (am_tab tk_J7_fill_53178 4 rfl) rfl ?_
  have h0 := fill_loop σ a n v ha hn n 0 (by omega)
  rw [show (fun k => if k < 0 then v else σ.2.1 a k) = (fun k => σ.2.1 a k) from funext fun k => by simp, am_setA_self] at h0
  exact am_less (by intro q hq; simp only [List.mem_cons, List.not_mem_nil, or_false] at hq; rcases hq with rfl | rfl | rfl | rfl <;> simp) h0
