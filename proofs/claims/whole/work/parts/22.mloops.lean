def sumN (g : Nat → Int) : Nat → Int
  | 0 => 0
  | n + 1 => sumN g n + g n
theorem sumN_rng {g : Nat → Int} {B : Int} : ∀ n, (∀ i, i < n → 0 ≤ g i ∧ g i ≤ B) → 0 ≤ sumN g n ∧ sumN g n ≤ n * B
  | 0, _ => by simp [sumN]
  | n + 1, h => by
    have h1 := sumN_rng n (fun i hi => h i (by omega))
    have h2 := h n (by omega)
    unfold sumN
    have h3 : ((n + 1 : Nat) : Int) * B = n * B + B := by
      rw [Int.natCast_add, Int.add_mul]; simp
    rw [h3]
    omega
def anyB (g : Nat → Bool) : Nat → Bool
  | 0 => false
  | n + 1 => anyB g n || g n
theorem anyB_t {g : Nat → Bool} {i : Nat} (h : g i = true) : ∀ {n : Nat}, i < n → anyB g n = true
  | n + 1, hi => by
    unfold anyB
    by_cases h1 : i = n
    · subst h1; simp [h]
    · simp [anyB_t h (show i < n by omega)]
theorem anyB_f {g : Nat → Bool} {n : Nat} (h1 : anyB g n = false) (h2 : g n = false) : anyB g (n + 1) = false := by simp [anyB, h1, h2]
/-- the first below n for which it holds, from k on -/
def firstQ (g : Nat → Bool) : Nat → Int
  | 0 => -1
  | n + 1 => if anyB g n then firstQ g n else if g n then (n : Int) else -1
theorem firstQ_none {g : Nat → Bool} : ∀ {n : Nat}, anyB g n = false → firstQ g n = -1
  | 0, _ => rfl
  | n + 1, h => by
    unfold anyB at h
    simp only [Bool.or_eq_false_iff] at h
    simp [firstQ, h.1, h.2]
theorem firstQ_at {g : Nat → Bool} {i : Nat} (hg : g i = true) (h : anyB g i = false) : ∀ {n : Nat}, i < n → firstQ g n = i
  | n + 1, hi => by
    unfold firstQ
    by_cases h1 : i = n
    · subst h1; simp [h, hg]
    · rw [if_pos (anyB_t hg (show i < n by omega)), firstQ_at hg h (show i < n by omega)]
theorem setsOf_loop (σ : am_H) (hL : lay σ) (f : Nat) (hf : f ≤ 111) (hb : ∀ d, d < 90 → 0 ≤ σ.2.1 96 (f + 1 + d) ∧ σ.2.1 96 (f + 1 + d) < 256) : ∀ m i : Nat, i + m = 90 → am_wp M_X10_setsOf (fun r σ' => r = some (am_i (sumN (fun d => bc (σ.2.1 96 (f + 1 + d))) 90)) ∧ σ' = σ) 0 0 4 [(3, am_i (((i : Int) + 1))), (2, am_i (sumN (fun d => bc (σ.2.1 96 (f + 1 + d))) i)), (0, am_r 55), (1, am_i ((f : Int)))] [] σ := by
  intro m
  induction m with
  | zero =>
    intro i hi
    refine am_iload_n (q := 5) rfl (am_tab tk_X10_setsOf 4 rfl) rfl ?_
    refine am_bipush (q := 7) (n := 90) (by decide) rfl (am_tab tk_X10_setsOf 5 rfl) rfl ?_
    refine am_icmp_gt (q := 10) (t := 30) (am_tab tk_X10_setsOf 6 rfl) (by decide) rfl (fun h7 => ?_) (fun h7 => ?_)
    · refine am_iload_n (q := 31) rfl (am_tab tk_X10_setsOf 19 rfl) rfl ?_
      refine am_iret (Or.inl rfl) (Nat.le_of_ble_eq_true rfl) (Nat.le_of_ble_eq_true rfl) (am_tab tk_X10_setsOf 20 rfl) ?_
      exact ⟨by rw [show i = 90 by omega], rfl⟩
    · exact absurd h7 (by omega)
  | succ m ih =>
    intro i hi
    have e1 : ((f : Int) + ((i : Int) + 1)).toNat = f + 1 + i := by omega
    have hs := sumN_rng (g := (fun d => bc (σ.2.1 96 (f + 1 + d)))) (B := 8) i (fun j hj => by have := (bits_get (hb j (by omega))).2.2; exact ⟨this.1, this.2.1⟩)
    refine am_iload_n (q := 5) rfl (am_tab tk_X10_setsOf 4 rfl) rfl ?_
    refine am_bipush (q := 7) (n := 90) (by decide) rfl (am_tab tk_X10_setsOf 5 rfl) rfl ?_
    refine am_icmp_gt (q := 10) (t := 30) (am_tab tk_X10_setsOf 6 rfl) (by decide) rfl (fun h7 => ?_) (fun h7 => ?_)
    · exact absurd h7 (by omega)
    · refine am_iload_n (q := 11) rfl (am_tab tk_X10_setsOf 7 rfl) rfl ?_
      refine am_aload_n (q := 12) rfl (am_tab tk_X10_setsOf 8 rfl) rfl ?_
      refine am_getR (q := 15) (a := 55) (k := 10) (n := 108) (j := 54) (r := some (96)) (Ls_55 hL) (by decide) rfl (Lr_55_54 hL) (by decide) (Or.inl kf_X10_136) (am_tab tk_X10_setsOf 9 rfl) rfl ?_
      refine am_iload_n (q := 16) rfl (am_tab tk_X10_setsOf 10 rfl) rfl ?_
      refine am_iload_n (q := 17) rfl (am_tab tk_X10_setsOf 11 rfl) rfl ?_
      refine am_iadd (q := 18) (by omega) (am_tab tk_X10_setsOf 12 rfl) rfl ?_
      refine am_iald (q := 19) (a := 96) (n := 443) (x := (σ.2.1 96 (f + 1 + i))) (Ls_96 hL) (by omega) (by omega) (by rw [e1]) (am_tab tk_X10_setsOf 13 rfl) rfl ?_
      refine am_callS0 (q := 22) (me2 := M_X10_bits) (As := [am_i ((σ.2.1 96 (f + 1 + i)))]) (rest := [am_i (sumN (fun d => bc (σ.2.1 96 (f + 1 + d))) i)]) (out := [am_i (bc ((σ.2.1 96 (f + 1 + i)))), am_i (sumN (fun d => bc (σ.2.1 96 (f + 1 + d))) i)]) (c_X10_bits σ hL ((σ.2.1 96 (f + 1 + i))) (hb i (by omega))) ⟨rfl, rfl⟩ ⟨Or.inl km_X10_473, kc_X10_bits, kn_X10, kd_X10_bits, ⟨(Nat.le_of_ble_eq_true rfl), (Nat.le_of_ble_eq_true rfl)⟩, ⟨(Nat.le_of_ble_eq_true rfl), (Nat.le_of_ble_eq_true rfl)⟩, (Nat.le_of_ble_eq_true rfl)⟩ ki_X10_bits rfl rfl (am_tab tk_X10_setsOf 14 rfl) rfl ?_
      refine am_iadd (q := 23) (by have := (bits_get (hb i (by omega))).2.2; omega) (am_tab tk_X10_setsOf 15 rfl) rfl ?_
      refine am_istore_n (q := 24) (by decide) (ls2 := [(2, am_i (((sumN (fun d => bc (σ.2.1 96 (f + 1 + d))) i) + (bc ((σ.2.1 96 (f + 1 + i))))))), (3, am_i (((i : Int) + 1))), (0, am_r 55), (1, am_i ((f : Int)))]) rfl (am_tab tk_X10_setsOf 16 rfl) rfl ?_
      refine am_iinc (q := 27) rfl (by omega) (by decide) (ls2 := [(3, am_i (((((i : Int) + 1)) + 1))), (2, am_i (((sumN (fun d => bc (σ.2.1 96 (f + 1 + d))) i) + (bc ((σ.2.1 96 (f + 1 + i))))))), (0, am_r 55), (1, am_i ((f : Int)))]) rfl (am_tab tk_X10_setsOf 17 rfl) rfl ?_
      refine am_goto (t := 4) (am_tab tk_X10_setsOf 18 rfl) (by decide) ?_
      exact ih (i + 1) (by omega)
theorem c_X10_setsOf (σ : am_H) (hL : lay σ) (f : Nat) (hf : f ≤ 111) (hb : ∀ d, d < 90 → 0 ≤ σ.2.1 96 (f + 1 + d) ∧ σ.2.1 96 (f + 1 + d) < 256) : am_met M_X10_setsOf [am_r 55, am_i ((f : Int))] σ (fun r σ' => r = some (am_i (sumN (fun d => bc (σ.2.1 96 (f + 1 + d))) 90)) ∧ σ' = σ) := by
  refine am_enter (show plainFor yX10_setsOf = true by decide +kernel) rfl (Nat.le_of_ble_eq_true rfl) (fun _ _ _ => trivial) ?_
  refine am_iconst (q := 1) (n := 0) (by decide) (am_tab tk_X10_setsOf 0 rfl) rfl ?_
  refine am_istore_n (q := 2) (by decide) (ls2 := [(2, am_i 0), (0, am_r 55), (1, am_i ((f : Int)))]) rfl (am_tab tk_X10_setsOf 1 rfl) rfl ?_
  refine am_iconst (q := 3) (n := 1) (by decide) (am_tab tk_X10_setsOf 2 rfl) rfl ?_
  refine am_istore_n (q := 4) (by decide) (ls2 := [(3, am_i 1), (2, am_i 0), (0, am_r 55), (1, am_i ((f : Int)))]) rfl (am_tab tk_X10_setsOf 3 rfl) rfl ?_
  exact setsOf_loop σ hL f hf hb 90 0 (by omega)
theorem toldDays_loop (σ : am_H) (hL : lay σ) (p : Int) (hp : 0 ≤ p ∧ p < 8) (hb : ∀ d, d < 90 → 0 ≤ σ.2.1 96 (21 + d) ∧ σ.2.1 96 (21 + d) < 256) : ∀ m i : Nat, i + m = 90 → am_wp M_X10_toldDays (fun r σ' => r = some (am_i (sumN (fun d => tb (σ.2.1 96 (21 + d)) p) 90)) ∧ σ' = σ) 0 0 4 [(3, am_i (((i : Int) + 1))), (2, am_i (sumN (fun d => tb (σ.2.1 96 (21 + d)) p) i)), (0, am_r 55), (1, am_i p)] [] σ := by
  intro m
  induction m with
  | zero =>
    intro i hi
    refine am_iload_n (q := 5) rfl (am_tab tk_X10_toldDays 4 rfl) rfl ?_
    refine am_bipush (q := 7) (n := 90) (by decide) rfl (am_tab tk_X10_toldDays 5 rfl) rfl ?_
    refine am_icmp_gt (q := 10) (t := 32) (am_tab tk_X10_toldDays 6 rfl) (by decide) rfl (fun h7 => ?_) (fun h7 => ?_)
    · refine am_iload_n (q := 33) rfl (am_tab tk_X10_toldDays 22 rfl) rfl ?_
      refine am_iret (Or.inl rfl) (Nat.le_of_ble_eq_true rfl) (Nat.le_of_ble_eq_true rfl) (am_tab tk_X10_toldDays 23 rfl) ?_
      exact ⟨by rw [show i = 90 by omega], rfl⟩
    · exact absurd h7 (by omega)
  | succ m ih =>
    intro i hi
    have e1 : ((20 : Int) + ((i : Int) + 1)).toNat = 21 + i := by omega
    have hs := sumN_rng (g := (fun d => tb (σ.2.1 96 (21 + d)) p)) (B := 1) i (fun j hj => by have := tb_01 (σ.2.1 96 (21 + j)) p; omega)
    refine am_iload_n (q := 5) rfl (am_tab tk_X10_toldDays 4 rfl) rfl ?_
    refine am_bipush (q := 7) (n := 90) (by decide) rfl (am_tab tk_X10_toldDays 5 rfl) rfl ?_
    refine am_icmp_gt (q := 10) (t := 32) (am_tab tk_X10_toldDays 6 rfl) (by decide) rfl (fun h7 => ?_) (fun h7 => ?_)
    · exact absurd h7 (by omega)
    · refine am_iload_n (q := 11) rfl (am_tab tk_X10_toldDays 7 rfl) rfl ?_
      refine am_aload_n (q := 12) rfl (am_tab tk_X10_toldDays 8 rfl) rfl ?_
      refine am_getR (q := 15) (a := 55) (k := 10) (n := 108) (j := 54) (r := some (96)) (Ls_55 hL) (by decide) rfl (Lr_55_54 hL) (by decide) (Or.inl kf_X10_136) (am_tab tk_X10_toldDays 9 rfl) rfl ?_
      refine am_bipush (q := 17) (n := 20) (by decide) rfl (am_tab tk_X10_toldDays 10 rfl) rfl ?_
      refine am_iload_n (q := 18) rfl (am_tab tk_X10_toldDays 11 rfl) rfl ?_
      refine am_iadd (q := 19) (by omega) (am_tab tk_X10_toldDays 12 rfl) rfl ?_
      refine am_iald (q := 20) (a := 96) (n := 443) (x := (σ.2.1 96 (21 + i))) (Ls_96 hL) (by omega) (by omega) (by rw [e1]) (am_tab tk_X10_toldDays 13 rfl) rfl ?_
      refine am_iload_n (q := 21) rfl (am_tab tk_X10_toldDays 14 rfl) rfl ?_
      refine am_ishr (q := 22) (am_tab tk_X10_toldDays 15 rfl) rfl ?_
      refine am_iconst (q := 23) (n := 1) (by decide) (am_tab tk_X10_toldDays 16 rfl) rfl ?_
      refine am_iand (q := 24) (am_tab tk_X10_toldDays 17 rfl) rfl ?_
      refine am_iadd (q := 25) (by rw [tb_eq (hb i (by omega)) hp]; have := tb_01 (σ.2.1 96 (21 + i)) p; omega) (am_tab tk_X10_toldDays 18 rfl) rfl ?_
      refine am_istore_n (q := 26) (by decide) (ls2 := [(2, am_i (((sumN (fun d => tb (σ.2.1 96 (21 + d)) p) i) + ((ao_and ((ao_shr ((σ.2.1 96 (21 + i))) p)) 1))))), (3, am_i (((i : Int) + 1))), (0, am_r 55), (1, am_i p)]) rfl (am_tab tk_X10_toldDays 19 rfl) rfl ?_
      refine am_iinc (q := 29) rfl (by omega) (by decide) (ls2 := [(3, am_i (((((i : Int) + 1)) + 1))), (2, am_i (((sumN (fun d => tb (σ.2.1 96 (21 + d)) p) i) + ((ao_and ((ao_shr ((σ.2.1 96 (21 + i))) p)) 1))))), (0, am_r 55), (1, am_i p)]) rfl (am_tab tk_X10_toldDays 20 rfl) rfl ?_
      refine am_goto (t := 4) (am_tab tk_X10_toldDays 21 rfl) (by decide) ?_
      rw [tb_eq (hb i (by omega)) hp]
      exact ih (i + 1) (by omega)
theorem c_X10_toldDays (σ : am_H) (hL : lay σ) (p : Int) (hp : 0 ≤ p ∧ p < 8) (hb : ∀ d, d < 90 → 0 ≤ σ.2.1 96 (21 + d) ∧ σ.2.1 96 (21 + d) < 256) : am_met M_X10_toldDays [am_r 55, am_i p] σ (fun r σ' => r = some (am_i (sumN (fun d => tb (σ.2.1 96 (21 + d)) p) 90)) ∧ σ' = σ) := by
  refine am_enter (show plainFor yX10_toldDays = true by decide +kernel) rfl (Nat.le_of_ble_eq_true rfl) (fun _ _ _ => trivial) ?_
  refine am_iconst (q := 1) (n := 0) (by decide) (am_tab tk_X10_toldDays 0 rfl) rfl ?_
  refine am_istore_n (q := 2) (by decide) (ls2 := [(2, am_i 0), (0, am_r 55), (1, am_i p)]) rfl (am_tab tk_X10_toldDays 1 rfl) rfl ?_
  refine am_iconst (q := 3) (n := 1) (by decide) (am_tab tk_X10_toldDays 2 rfl) rfl ?_
  refine am_istore_n (q := 4) (by decide) (ls2 := [(3, am_i 1), (2, am_i 0), (0, am_r 55), (1, am_i p)]) rfl (am_tab tk_X10_toldDays 3 rfl) rfl ?_
  exact toldDays_loop σ hL p hp hb 90 0 (by omega)
theorem remindersOf_loop (σ : am_H) (hL : lay σ) (N : Nat) (hN : σ.2.1 85 5 = N) (h8 : N ≤ 8) (p : Int) (hp : 0 ≤ p ∧ p < 8) (hr : ∀ q, q < N → 0 ≤ σ.2.1 89 (8 + q) ∧ σ.2.1 89 (8 + q) < 256) : ∀ m i : Nat, i + m = N → am_wp M_X10_remindersOf (fun r σ' => r = some (am_i (mkS (fun q => decide (tb (σ.2.1 89 (8 + q)) p = 1)) N)) ∧ σ' = σ) 0 0 4 [(3, am_i ((i : Int))), (2, am_i (mkS (fun q => decide (tb (σ.2.1 89 (8 + q)) p = 1)) i)), (0, am_r 55), (1, am_i p)] [] σ := by
  intro m
  induction m with
  | zero =>
    intro i hi
    refine am_iload_n (q := 5) rfl (am_tab tk_X10_remindersOf 4 rfl) rfl ?_
    refine am_aload_n (q := 6) rfl (am_tab tk_X10_remindersOf 5 rfl) rfl ?_
    refine am_callV0 (q := 9) (me2 := M_X10_peopleMany) (b := 55) (kb := 10) (nb := 108) (As := []) (rest := [am_i ((i : Int))]) (out := [am_i (σ.2.1 85 5), am_i ((i : Int))]) (c_X10_peopleMany σ hL  ) ⟨rfl, rfl⟩ (Ls_55 hL) (by decide) ⟨Or.inl km_X10_394, kc_X10_peopleMany, kn_X10, kd_X10_peopleMany, ⟨(Nat.le_of_ble_eq_true rfl), (Nat.le_of_ble_eq_true rfl)⟩, ⟨(Nat.le_of_ble_eq_true rfl), (Nat.le_of_ble_eq_true rfl)⟩, (Nat.le_of_ble_eq_true rfl)⟩ ki_X10_peopleMany ks_X10_peopleMany rfl rfl (am_tab tk_X10_remindersOf 6 rfl) rfl ?_
    refine am_icmp_ge (q := 12) (t := 41) (am_tab tk_X10_remindersOf 7 rfl) (by decide) rfl (fun h9 => ?_) (fun h9 => ?_)
    · refine am_iload_n (q := 42) rfl (am_tab tk_X10_remindersOf 28 rfl) rfl ?_
      refine am_iret (Or.inl rfl) (Nat.le_of_ble_eq_true rfl) (Nat.le_of_ble_eq_true rfl) (am_tab tk_X10_remindersOf 29 rfl) ?_
      exact ⟨by rw [show i = N by omega], rfl⟩
    · exact absurd h9 (by omega)
  | succ m ih =>
    intro i hi
    have e1 : ((8 : Int) + (i : Int)).toNat = 8 + i := by omega
    refine am_iload_n (q := 5) rfl (am_tab tk_X10_remindersOf 4 rfl) rfl ?_
    refine am_aload_n (q := 6) rfl (am_tab tk_X10_remindersOf 5 rfl) rfl ?_
    refine am_callV0 (q := 9) (me2 := M_X10_peopleMany) (b := 55) (kb := 10) (nb := 108) (As := []) (rest := [am_i ((i : Int))]) (out := [am_i (σ.2.1 85 5), am_i ((i : Int))]) (c_X10_peopleMany σ hL  ) ⟨rfl, rfl⟩ (Ls_55 hL) (by decide) ⟨Or.inl km_X10_394, kc_X10_peopleMany, kn_X10, kd_X10_peopleMany, ⟨(Nat.le_of_ble_eq_true rfl), (Nat.le_of_ble_eq_true rfl)⟩, ⟨(Nat.le_of_ble_eq_true rfl), (Nat.le_of_ble_eq_true rfl)⟩, (Nat.le_of_ble_eq_true rfl)⟩ ki_X10_peopleMany ks_X10_peopleMany rfl rfl (am_tab tk_X10_remindersOf 6 rfl) rfl ?_
    refine am_icmp_ge (q := 12) (t := 41) (am_tab tk_X10_remindersOf 7 rfl) (by decide) rfl (fun h9 => ?_) (fun h9 => ?_)
    · exact absurd h9 (by omega)
    · refine am_aload_n (q := 13) rfl (am_tab tk_X10_remindersOf 8 rfl) rfl ?_
      refine am_getR (q := 16) (a := 55) (k := 10) (n := 108) (j := 43) (r := some (89)) (Ls_55 hL) (by decide) rfl (Lr_55_43 hL) (by decide) (Or.inl kf_X10_115) (am_tab tk_X10_remindersOf 9 rfl) rfl ?_
      refine am_bipush (q := 18) (n := 8) (by decide) rfl (am_tab tk_X10_remindersOf 10 rfl) rfl ?_
      refine am_iload_n (q := 19) rfl (am_tab tk_X10_remindersOf 11 rfl) rfl ?_
      refine am_iadd (q := 20) (by omega) (am_tab tk_X10_remindersOf 12 rfl) rfl ?_
      refine am_iald (q := 21) (a := 89) (n := 16) (x := (σ.2.1 89 (8 + i))) (Ls_89 hL) (by omega) (by omega) (by rw [e1]) (am_tab tk_X10_remindersOf 13 rfl) rfl ?_
      refine am_iload_n (q := 22) rfl (am_tab tk_X10_remindersOf 14 rfl) rfl ?_
      refine am_ishr (q := 23) (am_tab tk_X10_remindersOf 15 rfl) rfl ?_
      refine am_iconst (q := 24) (n := 1) (by decide) (am_tab tk_X10_remindersOf 16 rfl) rfl ?_
      refine am_iand (q := 25) (am_tab tk_X10_remindersOf 17 rfl) rfl ?_
      refine am_iconst (q := 26) (n := 1) (by decide) (am_tab tk_X10_remindersOf 18 rfl) rfl ?_
      refine am_icmp_ne (q := 29) (t := 35) (am_tab tk_X10_remindersOf 19 rfl) (by decide) rfl (fun h26 => ?_) (fun h26 => ?_)
      · refine am_iinc (q := 38) rfl (by omega) (by decide) (ls2 := [(3, am_i (((i : Int) + 1))), (2, am_i (mkS (fun q => decide (tb (σ.2.1 89 (8 + q)) p = 1)) i)), (0, am_r 55), (1, am_i p)]) rfl (am_tab tk_X10_remindersOf 26 rfl) rfl ?_
        refine am_goto (t := 4) (am_tab tk_X10_remindersOf 27 rfl) (by decide) ?_
        rw [tb_eq (hr i (by omega)) hp] at h26
        first
          | (rw [mkS_or (fun q => decide (tb (σ.2.1 89 (8 + q)) p = 1)) (n := i) (by omega) (by simp [h26])]; exact ih (i + 1) (by omega))
          | (rw [mkS_no (fun q => decide (tb (σ.2.1 89 (8 + q)) p = 1)) (n := i) (by simp [h26])]; exact ih (i + 1) (by omega))
      · refine am_iload_n (q := 30) rfl (am_tab tk_X10_remindersOf 20 rfl) rfl ?_
        refine am_iconst (q := 31) (n := 1) (by decide) (am_tab tk_X10_remindersOf 21 rfl) rfl ?_
        refine am_iload_n (q := 32) rfl (am_tab tk_X10_remindersOf 22 rfl) rfl ?_
        refine am_ishl (q := 33) (am_tab tk_X10_remindersOf 23 rfl) rfl ?_
        refine am_ior (q := 34) (am_tab tk_X10_remindersOf 24 rfl) rfl ?_
        refine am_istore_n (q := 35) (by decide) (ls2 := [(2, am_i ((ao_or (mkS (fun q => decide (tb (σ.2.1 89 (8 + q)) p = 1)) i) ((ao_shl 1 (i : Int)))))), (3, am_i ((i : Int))), (0, am_r 55), (1, am_i p)]) rfl (am_tab tk_X10_remindersOf 25 rfl) rfl ?_
        refine am_iinc (q := 38) rfl (by omega) (by decide) (ls2 := [(3, am_i (((i : Int) + 1))), (2, am_i ((ao_or (mkS (fun q => decide (tb (σ.2.1 89 (8 + q)) p = 1)) i) ((ao_shl 1 (i : Int)))))), (0, am_r 55), (1, am_i p)]) rfl (am_tab tk_X10_remindersOf 26 rfl) rfl ?_
        refine am_goto (t := 4) (am_tab tk_X10_remindersOf 27 rfl) (by decide) ?_
        rw [tb_eq (hr i (by omega)) hp] at h26
        first
          | (rw [mkS_or (fun q => decide (tb (σ.2.1 89 (8 + q)) p = 1)) (n := i) (by omega) (by simp [h26])]; exact ih (i + 1) (by omega))
          | (rw [mkS_no (fun q => decide (tb (σ.2.1 89 (8 + q)) p = 1)) (n := i) (by simp [h26])]; exact ih (i + 1) (by omega))
theorem c_X10_remindersOf (σ : am_H) (hL : lay σ) (p : Int) (N : Nat) (hN : σ.2.1 85 5 = N) (h8 : N ≤ 8) (hp : 0 ≤ p ∧ p < 8) (hr : ∀ q, q < N → 0 ≤ σ.2.1 89 (8 + q) ∧ σ.2.1 89 (8 + q) < 256) : am_met M_X10_remindersOf [am_r 55, am_i p] σ (fun r σ' => r = some (am_i (mkS (fun q => decide (tb (σ.2.1 89 (8 + q)) p = 1)) N)) ∧ σ' = σ) := by
  refine am_enter (show plainFor yX10_remindersOf = true by decide +kernel) rfl (Nat.le_of_ble_eq_true rfl) (fun _ _ _ => trivial) ?_
  refine am_iconst (q := 1) (n := 0) (by decide) (am_tab tk_X10_remindersOf 0 rfl) rfl ?_
  refine am_istore_n (q := 2) (by decide) (ls2 := [(2, am_i 0), (0, am_r 55), (1, am_i p)]) rfl (am_tab tk_X10_remindersOf 1 rfl) rfl ?_
  refine am_iconst (q := 3) (n := 0) (by decide) (am_tab tk_X10_remindersOf 2 rfl) rfl ?_
  refine am_istore_n (q := 4) (by decide) (ls2 := [(3, am_i 0), (2, am_i 0), (0, am_r 55), (1, am_i p)]) rfl (am_tab tk_X10_remindersOf 3 rfl) rfl ?_
  exact remindersOf_loop σ hL N hN h8 p hp hr N 0 (by omega)
theorem costOf_loop (σ : am_H) (hL : lay σ) (N : Nat) (hN : σ.2.1 85 5 = N) (h8 : N ≤ 8) (set : Int) (hset : 0 ≤ set ∧ set < 256) (ha : ∀ q, q < N → 0 ≤ σ.2.1 88 (8 + q) ∧ σ.2.1 88 (8 + q) ≤ 99) : ∀ m i : Nat, i + m = N → am_wp M_X10_costOf (fun r σ' => r = some (am_i (sumN (fun p => if tb set p = 1 then σ.2.1 88 (8 + p) else 0) N)) ∧ σ' = σ) 0 0 4 [(3, am_i ((i : Int))), (2, am_i (sumN (fun p => if tb set p = 1 then σ.2.1 88 (8 + p) else 0) i)), (0, am_r 55), (1, am_i set)] [] σ := by
  intro m
  induction m with
  | zero =>
    intro i hi
    refine am_iload_n (q := 5) rfl (am_tab tk_X10_costOf 4 rfl) rfl ?_
    refine am_aload_n (q := 6) rfl (am_tab tk_X10_costOf 5 rfl) rfl ?_
    refine am_callV0 (q := 9) (me2 := M_X10_peopleMany) (b := 55) (kb := 10) (nb := 108) (As := []) (rest := [am_i ((i : Int))]) (out := [am_i (σ.2.1 85 5), am_i ((i : Int))]) (c_X10_peopleMany σ hL  ) ⟨rfl, rfl⟩ (Ls_55 hL) (by decide) ⟨Or.inl km_X10_394, kc_X10_peopleMany, kn_X10, kd_X10_peopleMany, ⟨(Nat.le_of_ble_eq_true rfl), (Nat.le_of_ble_eq_true rfl)⟩, ⟨(Nat.le_of_ble_eq_true rfl), (Nat.le_of_ble_eq_true rfl)⟩, (Nat.le_of_ble_eq_true rfl)⟩ ki_X10_peopleMany ks_X10_peopleMany rfl rfl (am_tab tk_X10_costOf 6 rfl) rfl ?_
    refine am_icmp_ge (q := 12) (t := 35) (am_tab tk_X10_costOf 7 rfl) (by decide) rfl (fun h9 => ?_) (fun h9 => ?_)
    · refine am_iload_n (q := 36) rfl (am_tab tk_X10_costOf 23 rfl) rfl ?_
      refine am_iret (Or.inl rfl) (Nat.le_of_ble_eq_true rfl) (Nat.le_of_ble_eq_true rfl) (am_tab tk_X10_costOf 24 rfl) ?_
      exact ⟨by rw [show i = N by omega], rfl⟩
    · exact absurd h9 (by omega)
  | succ m ih =>
    intro i hi
    have e1 : ((8 : Int) + (i : Int)).toNat = 8 + i := by omega
    have hs := sumN_rng (g := (fun p => if tb set p = 1 then σ.2.1 88 (8 + p) else 0)) (B := 99) i (fun j hj => by have := ha j (by omega); split <;> omega)
    refine am_iload_n (q := 5) rfl (am_tab tk_X10_costOf 4 rfl) rfl ?_
    refine am_aload_n (q := 6) rfl (am_tab tk_X10_costOf 5 rfl) rfl ?_
    refine am_callV0 (q := 9) (me2 := M_X10_peopleMany) (b := 55) (kb := 10) (nb := 108) (As := []) (rest := [am_i ((i : Int))]) (out := [am_i (σ.2.1 85 5), am_i ((i : Int))]) (c_X10_peopleMany σ hL  ) ⟨rfl, rfl⟩ (Ls_55 hL) (by decide) ⟨Or.inl km_X10_394, kc_X10_peopleMany, kn_X10, kd_X10_peopleMany, ⟨(Nat.le_of_ble_eq_true rfl), (Nat.le_of_ble_eq_true rfl)⟩, ⟨(Nat.le_of_ble_eq_true rfl), (Nat.le_of_ble_eq_true rfl)⟩, (Nat.le_of_ble_eq_true rfl)⟩ ki_X10_peopleMany ks_X10_peopleMany rfl rfl (am_tab tk_X10_costOf 6 rfl) rfl ?_
    refine am_icmp_ge (q := 12) (t := 35) (am_tab tk_X10_costOf 7 rfl) (by decide) rfl (fun h9 => ?_) (fun h9 => ?_)
    · exact absurd h9 (by omega)
    · refine am_iload_n (q := 13) rfl (am_tab tk_X10_costOf 8 rfl) rfl ?_
      refine am_iload_n (q := 14) rfl (am_tab tk_X10_costOf 9 rfl) rfl ?_
      refine am_ishr (q := 15) (am_tab tk_X10_costOf 10 rfl) rfl ?_
      refine am_iconst (q := 16) (n := 1) (by decide) (am_tab tk_X10_costOf 11 rfl) rfl ?_
      refine am_iand (q := 17) (am_tab tk_X10_costOf 12 rfl) rfl ?_
      refine am_iconst (q := 18) (n := 1) (by decide) (am_tab tk_X10_costOf 13 rfl) rfl ?_
      refine am_icmp_ne (q := 21) (t := 29) (am_tab tk_X10_costOf 14 rfl) (by decide) rfl (fun h18 => ?_) (fun h18 => ?_)
      · refine am_iinc (q := 32) rfl (by omega) (by decide) (ls2 := [(3, am_i (((i : Int) + 1))), (2, am_i (sumN (fun p => if tb set p = 1 then σ.2.1 88 (8 + p) else 0) i)), (0, am_r 55), (1, am_i set)]) rfl (am_tab tk_X10_costOf 21 rfl) rfl ?_
        refine am_goto (t := 4) (am_tab tk_X10_costOf 22 rfl) (by decide) ?_
        rw [tb_eq hset ⟨by omega, by omega⟩] at h18
        first
          | (rw [e1]; have e2 : sumN (fun p => if tb set p = 1 then σ.2.1 88 (8 + p) else 0) i + σ.2.1 88 (8 + i) = sumN (fun p => if tb set p = 1 then σ.2.1 88 (8 + p) else 0) (i + 1) := by simp [sumN, h18]
             rw [e2]; exact ih (i + 1) (by omega))
          | (have e2 : sumN (fun p => if tb set p = 1 then σ.2.1 88 (8 + p) else 0) i = sumN (fun p => if tb set p = 1 then σ.2.1 88 (8 + p) else 0) (i + 1) := by simp [sumN, h18]
             rw [e2]; exact ih (i + 1) (by omega))
      · refine am_iload_n (q := 22) rfl (am_tab tk_X10_costOf 15 rfl) rfl ?_
        refine am_aload_n (q := 23) rfl (am_tab tk_X10_costOf 16 rfl) rfl ?_
        refine am_iload_n (q := 24) rfl (am_tab tk_X10_costOf 17 rfl) rfl ?_
        refine am_callV0 (q := 27) (me2 := M_X10_askedBy) (b := 55) (kb := 10) (nb := 108) (As := [am_i ((i : Int))]) (rest := [am_i (sumN (fun p => if tb set p = 1 then σ.2.1 88 (8 + p) else 0) i)]) (out := [am_i (σ.2.1 88 (8 + (i : Int)).toNat), am_i (sumN (fun p => if tb set p = 1 then σ.2.1 88 (8 + p) else 0) i)]) (c_X10_askedBy σ hL (i : Int) (by omega)) ⟨rfl, rfl⟩ (Ls_55 hL) (by decide) ⟨Or.inl km_X10_495, kc_X10_askedBy, kn_X10, kd_X10_askedBy, ⟨(Nat.le_of_ble_eq_true rfl), (Nat.le_of_ble_eq_true rfl)⟩, ⟨(Nat.le_of_ble_eq_true rfl), (Nat.le_of_ble_eq_true rfl)⟩, (Nat.le_of_ble_eq_true rfl)⟩ ki_X10_askedBy ks_X10_askedBy rfl rfl (am_tab tk_X10_costOf 18 rfl) rfl ?_
        refine am_iadd (q := 28) (by rw [e1]; have := ha i (by omega); omega) (am_tab tk_X10_costOf 19 rfl) rfl ?_
        refine am_istore_n (q := 29) (by decide) (ls2 := [(2, am_i (((sumN (fun p => if tb set p = 1 then σ.2.1 88 (8 + p) else 0) i) + (σ.2.1 88 (8 + (i : Int)).toNat)))), (3, am_i ((i : Int))), (0, am_r 55), (1, am_i set)]) rfl (am_tab tk_X10_costOf 20 rfl) rfl ?_
        refine am_iinc (q := 32) rfl (by omega) (by decide) (ls2 := [(3, am_i (((i : Int) + 1))), (2, am_i (((sumN (fun p => if tb set p = 1 then σ.2.1 88 (8 + p) else 0) i) + (σ.2.1 88 (8 + (i : Int)).toNat)))), (0, am_r 55), (1, am_i set)]) rfl (am_tab tk_X10_costOf 21 rfl) rfl ?_
        refine am_goto (t := 4) (am_tab tk_X10_costOf 22 rfl) (by decide) ?_
        rw [tb_eq hset ⟨by omega, by omega⟩] at h18
        first
          | (rw [e1]; have e2 : sumN (fun p => if tb set p = 1 then σ.2.1 88 (8 + p) else 0) i + σ.2.1 88 (8 + i) = sumN (fun p => if tb set p = 1 then σ.2.1 88 (8 + p) else 0) (i + 1) := by simp [sumN, h18]
             rw [e2]; exact ih (i + 1) (by omega))
          | (have e2 : sumN (fun p => if tb set p = 1 then σ.2.1 88 (8 + p) else 0) i = sumN (fun p => if tb set p = 1 then σ.2.1 88 (8 + p) else 0) (i + 1) := by simp [sumN, h18]
             rw [e2]; exact ih (i + 1) (by omega))
theorem c_X10_costOf (σ : am_H) (hL : lay σ) (set : Int) (N : Nat) (hN : σ.2.1 85 5 = N) (h8 : N ≤ 8) (hset : 0 ≤ set ∧ set < 256) (ha : ∀ q, q < N → 0 ≤ σ.2.1 88 (8 + q) ∧ σ.2.1 88 (8 + q) ≤ 99) : am_met M_X10_costOf [am_r 55, am_i set] σ (fun r σ' => r = some (am_i (sumN (fun p => if tb set p = 1 then σ.2.1 88 (8 + p) else 0) N)) ∧ σ' = σ) := by
  refine am_enter (show plainFor yX10_costOf = true by decide +kernel) rfl (Nat.le_of_ble_eq_true rfl) (fun _ _ _ => trivial) ?_
  refine am_iconst (q := 1) (n := 0) (by decide) (am_tab tk_X10_costOf 0 rfl) rfl ?_
  refine am_istore_n (q := 2) (by decide) (ls2 := [(2, am_i 0), (0, am_r 55), (1, am_i set)]) rfl (am_tab tk_X10_costOf 1 rfl) rfl ?_
  refine am_iconst (q := 3) (n := 0) (by decide) (am_tab tk_X10_costOf 2 rfl) rfl ?_
  refine am_istore_n (q := 4) (by decide) (ls2 := [(3, am_i 0), (2, am_i 0), (0, am_r 55), (1, am_i set)]) rfl (am_tab tk_X10_costOf 3 rfl) rfl ?_
  exact costOf_loop σ hL N hN h8 set hset ha N 0 (by omega)
theorem reminderOf_loop (σ : am_H) (hL : lay σ) (N : Nat) (hN : σ.2.1 85 5 = N) (h8 : N ≤ 8) (p set : Int) (hp : 0 ≤ p ∧ p < 8) (hset : 0 ≤ set ∧ set < 256) (hr : ∀ q, q < N → 0 ≤ σ.2.1 89 (8 + q) ∧ σ.2.1 89 (8 + q) < 256) : ∀ m i : Nat, i + m = N → anyB (fun q => decide (tb set q = 1 ∧ tb (σ.2.1 89 (8 + q)) p = 1)) i = false → am_wp M_X10_reminderOf (fun r σ' => r = some (am_i (firstQ (fun q => decide (tb set q = 1 ∧ tb (σ.2.1 89 (8 + q)) p = 1)) N)) ∧ σ' = σ) 0 0 2 [(3, am_i ((i : Int))), (0, am_r 55), (1, am_i p), (2, am_i set)] [] σ := by
  intro m
  induction m with
  | zero =>
    intro i hi hn
    refine am_iload_n (q := 3) rfl (am_tab tk_X10_reminderOf 2 rfl) rfl ?_
    refine am_aload_n (q := 4) rfl (am_tab tk_X10_reminderOf 3 rfl) rfl ?_
    refine am_callV0 (q := 7) (me2 := M_X10_peopleMany) (b := 55) (kb := 10) (nb := 108) (As := []) (rest := [am_i ((i : Int))]) (out := [am_i (σ.2.1 85 5), am_i ((i : Int))]) (c_X10_peopleMany σ hL  ) ⟨rfl, rfl⟩ (Ls_55 hL) (by decide) ⟨Or.inl km_X10_394, kc_X10_peopleMany, kn_X10, kd_X10_peopleMany, ⟨(Nat.le_of_ble_eq_true rfl), (Nat.le_of_ble_eq_true rfl)⟩, ⟨(Nat.le_of_ble_eq_true rfl), (Nat.le_of_ble_eq_true rfl)⟩, (Nat.le_of_ble_eq_true rfl)⟩ ki_X10_peopleMany ks_X10_peopleMany rfl rfl (am_tab tk_X10_reminderOf 4 rfl) rfl ?_
    refine am_icmp_ge (q := 10) (t := 44) (am_tab tk_X10_reminderOf 5 rfl) (by decide) rfl (fun h7 => ?_) (fun h7 => ?_)
    · refine am_iconst (q := 45) (n := (-1)) (by decide) (am_tab tk_X10_reminderOf 29 rfl) rfl ?_
      refine am_iret (Or.inl rfl) (Nat.le_of_ble_eq_true rfl) (Nat.le_of_ble_eq_true rfl) (am_tab tk_X10_reminderOf 30 rfl) ?_
      exact ⟨by rw [firstQ_none (by rw [← show i = N by omega]; exact hn)], rfl⟩
    · exact absurd h7 (by omega)
  | succ m ih =>
    intro i hi hn
    have e1 : ((8 : Int) + (i : Int)).toNat = 8 + i := by omega
    refine am_iload_n (q := 3) rfl (am_tab tk_X10_reminderOf 2 rfl) rfl ?_
    refine am_aload_n (q := 4) rfl (am_tab tk_X10_reminderOf 3 rfl) rfl ?_
    refine am_callV0 (q := 7) (me2 := M_X10_peopleMany) (b := 55) (kb := 10) (nb := 108) (As := []) (rest := [am_i ((i : Int))]) (out := [am_i (σ.2.1 85 5), am_i ((i : Int))]) (c_X10_peopleMany σ hL  ) ⟨rfl, rfl⟩ (Ls_55 hL) (by decide) ⟨Or.inl km_X10_394, kc_X10_peopleMany, kn_X10, kd_X10_peopleMany, ⟨(Nat.le_of_ble_eq_true rfl), (Nat.le_of_ble_eq_true rfl)⟩, ⟨(Nat.le_of_ble_eq_true rfl), (Nat.le_of_ble_eq_true rfl)⟩, (Nat.le_of_ble_eq_true rfl)⟩ ki_X10_peopleMany ks_X10_peopleMany rfl rfl (am_tab tk_X10_reminderOf 4 rfl) rfl ?_
    refine am_icmp_ge (q := 10) (t := 44) (am_tab tk_X10_reminderOf 5 rfl) (by decide) rfl (fun h7 => ?_) (fun h7 => ?_)
    · exact absurd h7 (by omega)
    · refine am_iload_n (q := 11) rfl (am_tab tk_X10_reminderOf 6 rfl) rfl ?_
      refine am_iload_n (q := 12) rfl (am_tab tk_X10_reminderOf 7 rfl) rfl ?_
      refine am_ishr (q := 13) (am_tab tk_X10_reminderOf 8 rfl) rfl ?_
      refine am_iconst (q := 14) (n := 1) (by decide) (am_tab tk_X10_reminderOf 9 rfl) rfl ?_
      refine am_iand (q := 15) (am_tab tk_X10_reminderOf 10 rfl) rfl ?_
      refine am_iconst (q := 16) (n := 1) (by decide) (am_tab tk_X10_reminderOf 11 rfl) rfl ?_
      refine am_icmp_ne (q := 19) (t := 38) (am_tab tk_X10_reminderOf 12 rfl) (by decide) rfl (fun h16 => ?_) (fun h16 => ?_)
      · refine am_iinc (q := 41) rfl (by omega) (by decide) (ls2 := [(3, am_i (((i : Int) + 1))), (0, am_r 55), (1, am_i p), (2, am_i set)]) rfl (am_tab tk_X10_reminderOf 27 rfl) rfl ?_
        refine am_goto (t := 2) (am_tab tk_X10_reminderOf 28 rfl) (by decide) ?_
        rw [tb_eq hset ⟨by omega, by omega⟩] at h16
        first
          | (rw [tb_eq (hr i (by omega)) hp] at h33; exact ih (i + 1) (by omega) (anyB_f hn (by simp [h16, h33])))
          | exact ih (i + 1) (by omega) (anyB_f hn (by simp [h16]))
      · refine am_aload_n (q := 20) rfl (am_tab tk_X10_reminderOf 13 rfl) rfl ?_
        refine am_getR (q := 23) (a := 55) (k := 10) (n := 108) (j := 43) (r := some (89)) (Ls_55 hL) (by decide) rfl (Lr_55_43 hL) (by decide) (Or.inl kf_X10_115) (am_tab tk_X10_reminderOf 14 rfl) rfl ?_
        refine am_bipush (q := 25) (n := 8) (by decide) rfl (am_tab tk_X10_reminderOf 15 rfl) rfl ?_
        refine am_iload_n (q := 26) rfl (am_tab tk_X10_reminderOf 16 rfl) rfl ?_
        refine am_iadd (q := 27) (by omega) (am_tab tk_X10_reminderOf 17 rfl) rfl ?_
        refine am_iald (q := 28) (a := 89) (n := 16) (x := (σ.2.1 89 (8 + i))) (Ls_89 hL) (by omega) (by omega) (by rw [e1]) (am_tab tk_X10_reminderOf 18 rfl) rfl ?_
        refine am_iload_n (q := 29) rfl (am_tab tk_X10_reminderOf 19 rfl) rfl ?_
        refine am_ishr (q := 30) (am_tab tk_X10_reminderOf 20 rfl) rfl ?_
        refine am_iconst (q := 31) (n := 1) (by decide) (am_tab tk_X10_reminderOf 21 rfl) rfl ?_
        refine am_iand (q := 32) (am_tab tk_X10_reminderOf 22 rfl) rfl ?_
        refine am_iconst (q := 33) (n := 1) (by decide) (am_tab tk_X10_reminderOf 23 rfl) rfl ?_
        refine am_icmp_ne (q := 36) (t := 38) (am_tab tk_X10_reminderOf 24 rfl) (by decide) rfl (fun h33 => ?_) (fun h33 => ?_)
        · refine am_iinc (q := 41) rfl (by omega) (by decide) (ls2 := [(3, am_i (((i : Int) + 1))), (0, am_r 55), (1, am_i p), (2, am_i set)]) rfl (am_tab tk_X10_reminderOf 27 rfl) rfl ?_
          refine am_goto (t := 2) (am_tab tk_X10_reminderOf 28 rfl) (by decide) ?_
          rw [tb_eq hset ⟨by omega, by omega⟩] at h16
          first
            | (rw [tb_eq (hr i (by omega)) hp] at h33; exact ih (i + 1) (by omega) (anyB_f hn (by simp [h16, h33])))
            | exact ih (i + 1) (by omega) (anyB_f hn (by simp [h16]))
        · refine am_iload_n (q := 37) rfl (am_tab tk_X10_reminderOf 25 rfl) rfl ?_
          refine am_iret (Or.inl rfl) (Nat.le_of_ble_eq_true rfl) (Nat.le_of_ble_eq_true rfl) (am_tab tk_X10_reminderOf 26 rfl) ?_
          rw [tb_eq (hr i (by omega)) hp] at h33
          rw [tb_eq hset ⟨by omega, by omega⟩] at h16
          exact ⟨by rw [firstQ_at (i := i) (by simp; exact ⟨h16, h33⟩) hn (by omega)], rfl⟩
theorem c_X10_reminderOf (σ : am_H) (hL : lay σ) (p : Int) (set : Int) (N : Nat) (hN : σ.2.1 85 5 = N) (h8 : N ≤ 8) (hp : 0 ≤ p ∧ p < 8) (hset : 0 ≤ set ∧ set < 256) (hr : ∀ q, q < N → 0 ≤ σ.2.1 89 (8 + q) ∧ σ.2.1 89 (8 + q) < 256) : am_met M_X10_reminderOf [am_r 55, am_i p, am_i set] σ (fun r σ' => r = some (am_i (firstQ (fun q => decide (tb set q = 1 ∧ tb (σ.2.1 89 (8 + q)) p = 1)) N)) ∧ σ' = σ) := by
  refine am_enter (show plainFor yX10_reminderOf = true by decide +kernel) rfl (Nat.le_of_ble_eq_true rfl) (fun _ _ _ => trivial) ?_
  refine am_iconst (q := 1) (n := 0) (by decide) (am_tab tk_X10_reminderOf 0 rfl) rfl ?_
  refine am_istore_n (q := 2) (by decide) (ls2 := [(3, am_i 0), (0, am_r 55), (1, am_i p), (2, am_i set)]) rfl (am_tab tk_X10_reminderOf 1 rfl) rfl ?_
  exact reminderOf_loop σ hL N hN h8 p set hp hset hr N 0 (by omega) rfl
