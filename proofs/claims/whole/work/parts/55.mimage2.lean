def ckN (f : Nat → Int) : Nat → Int
  | 0 => 239
  | n + 1 => (3 * ckN f n + f n).tmod 251
theorem ckN_rng {f : Nat → Int} : ∀ n, (∀ i, i < n → 0 ≤ f i ∧ f i ≤ 255) → 0 ≤ ckN f n ∧ ckN f n ≤ 250
  | 0, _ => by unfold ckN; omega
  | n + 1, h => by
    have ih := ckN_rng n (fun i hi => h i (by omega))
    have h1 := h n (by omega)
    have h2 := Int.tmod_nonneg (a := 3 * ckN f n + f n) 251 (by omega)
    have h3 := Int.tmod_lt_of_pos (3 * ckN f n + f n) (b := 251) (by omega)
    unfold ckN
    omega
theorem ckN_congr {f g : Nat → Int} : ∀ n, (∀ i, i < n → f i = g i) → ckN f n = ckN g n
  | 0, _ => rfl
  | n + 1, h => by
    unfold ckN
    rw [ckN_congr n (fun i hi => h i (by omega)), h n (by omega)]
theorem c_X10_checked_56 (σ : am_H) (hL : lay σ) (n : Nat) (hn : n ≤ 1600) (hf : ∀ i, i < n → 0 ≤ σ.2.1 56 i ∧ σ.2.1 56 i ≤ 255) : am_met M_X10_checked [am_r 56, am_i ((n : Int))] σ (fun r σ' => r = some (am_i (ckN (fun i => σ.2.1 56 i) n)) ∧ σ' = σ) := by
  refine am_qq (fun Q hQ => ?_)
  refine am_enter (show plainFor yX10_checked = true by decide +kernel) rfl (Nat.le_of_ble_eq_true rfl) (fun _ _ _ => trivial) ?_
  refine am_sipush (q := 3) (n := 239) (by decide) rfl (am_tab tk_X10_checked 0 rfl) rfl ?_
  refine am_istore_n (q := 4) (by decide) (ls2 := [(2, am_i 239), (0, am_r 56), (1, am_i ((n : Int)))]) rfl (am_tab tk_X10_checked 1 rfl) rfl ?_
  refine am_iconst (q := 5) (n := 0) (by decide) (am_tab tk_X10_checked 2 rfl) rfl ?_
  refine am_istore_n (q := 6) (by decide) (ls2 := [(3, am_i 0), (2, am_i 239), (0, am_r 56), (1, am_i ((n : Int)))]) rfl (am_tab tk_X10_checked 3 rfl) rfl ?_
  have L6 : ∀ (n6 : Nat) (i : Nat), n - i < n6 → i ≤ n → am_wp M_X10_checked Q 0 0 6 [(3, am_i ((i : Int))), (2, am_i (ckN (fun i => σ.2.1 56 i) i)), (0, am_r 56), (1, am_i ((n : Int)))] [] σ := by
    intro n6
    induction n6 with
    | zero => intro i hn6; exact absurd hn6 (Nat.not_lt_zero _)
    | succ n6 ih6 =>
      intro i hn6 hi
      have hc := ckN_rng (f := fun i => σ.2.1 56 i) i (fun k hk => hf k (by omega))
      have hx : i < n → 0 ≤ σ.2.1 56 i ∧ σ.2.1 56 i ≤ 255 := fun h => hf i h
      refine am_iload_n (q := 7) rfl (am_tab tk_X10_checked 4 rfl) rfl ?_
      refine am_iload_n (q := 8) rfl (am_tab tk_X10_checked 5 rfl) rfl ?_
      refine am_icmp_ge (q := 11) (t := 29) (am_tab tk_X10_checked 6 rfl) (by decide) rfl (fun h8 => ?_) (fun h8 => ?_)
      · refine am_iload_n (q := 30) rfl (am_tab tk_X10_checked 19 rfl) rfl ?_
        refine am_iret (Or.inl rfl) (Nat.le_of_ble_eq_true rfl) (Nat.le_of_ble_eq_true rfl) (am_tab tk_X10_checked 20 rfl) ?_
        refine hQ _ _ ?_
        rw [show i = n by omega]
        exact ⟨rfl, rfl⟩
      · refine am_iconst (q := 12) (n := 3) (by decide) (am_tab tk_X10_checked 7 rfl) rfl ?_
        refine am_iload_n (q := 13) rfl (am_tab tk_X10_checked 8 rfl) rfl ?_
        refine am_imul (q := 14) (by omega) (am_tab tk_X10_checked 9 rfl) rfl ?_
        refine am_aload_n (q := 15) rfl (am_tab tk_X10_checked 10 rfl) rfl ?_
        refine am_iload_n (q := 16) rfl (am_tab tk_X10_checked 11 rfl) rfl ?_
        refine am_iald (q := 17) (a := 56) (n := 1600) (x := (σ.2.1 56 i)) (Ls_56 hL) (by omega) (by omega) (by rw [show Int.toNat (i : Int) = i by omega]) (am_tab tk_X10_checked 12 rfl) rfl ?_
        refine am_iadd (q := 18) (by omega) (am_tab tk_X10_checked 13 rfl) rfl ?_
        refine am_sipush (q := 21) (n := 251) (by decide) rfl (am_tab tk_X10_checked 14 rfl) rfl ?_
        refine am_irem (q := 22) (by omega) (by omega) (am_tab tk_X10_checked 15 rfl) rfl ?_
        refine am_istore_n (q := 23) (by decide) (ls2 := [(2, am_i ((Int.tmod ((3 * (ckN (fun i => σ.2.1 56 i) i)) + (σ.2.1 56 i)) 251))), (3, am_i ((i : Int))), (0, am_r 56), (1, am_i ((n : Int)))]) rfl (am_tab tk_X10_checked 16 rfl) rfl ?_
        refine am_iinc (q := 26) rfl (by omega) (by decide) (ls2 := [(3, am_i (((i : Int) + 1))), (2, am_i ((Int.tmod ((3 * (ckN (fun i => σ.2.1 56 i) i)) + (σ.2.1 56 i)) 251))), (0, am_r 56), (1, am_i ((n : Int)))]) rfl (am_tab tk_X10_checked 17 rfl) rfl ?_
        refine am_goto (t := 6) (am_tab tk_X10_checked 18 rfl) (by decide) ?_
        exact am_less (by intro q hq; simp only [List.mem_cons, List.not_mem_nil, or_false] at hq; rcases hq with rfl | rfl | rfl | rfl <;> simp [ckN]) (ih6 (i + 1) (by omega) (by omega))
  refine am_less (by intro q hq; simp only [List.mem_cons, List.not_mem_nil, or_false] at hq; rcases hq with rfl | rfl | rfl | rfl <;> simp [ckN]) (L6 (_ + 1) 0 (by exact Nat.lt_succ_self _) (by omega))
theorem c_X10_checked_130 (σ : am_H) (hL : lay σ) (n : Nat) (hn : n ≤ 146) (hf : ∀ i, i < n → 0 ≤ σ.2.1 130 i ∧ σ.2.1 130 i ≤ 255) : am_met M_X10_checked [am_r 130, am_i ((n : Int))] σ (fun r σ' => r = some (am_i (ckN (fun i => σ.2.1 130 i) n)) ∧ σ' = σ) := by
  refine am_qq (fun Q hQ => ?_)
  refine am_enter (show plainFor yX10_checked = true by decide +kernel) rfl (Nat.le_of_ble_eq_true rfl) (fun _ _ _ => trivial) ?_
  refine am_sipush (q := 3) (n := 239) (by decide) rfl (am_tab tk_X10_checked 0 rfl) rfl ?_
  refine am_istore_n (q := 4) (by decide) (ls2 := [(2, am_i 239), (0, am_r 130), (1, am_i ((n : Int)))]) rfl (am_tab tk_X10_checked 1 rfl) rfl ?_
  refine am_iconst (q := 5) (n := 0) (by decide) (am_tab tk_X10_checked 2 rfl) rfl ?_
  refine am_istore_n (q := 6) (by decide) (ls2 := [(3, am_i 0), (2, am_i 239), (0, am_r 130), (1, am_i ((n : Int)))]) rfl (am_tab tk_X10_checked 3 rfl) rfl ?_
  have L6 : ∀ (n6 : Nat) (i : Nat), n - i < n6 → i ≤ n → am_wp M_X10_checked Q 0 0 6 [(3, am_i ((i : Int))), (2, am_i (ckN (fun i => σ.2.1 130 i) i)), (0, am_r 130), (1, am_i ((n : Int)))] [] σ := by
    intro n6
    induction n6 with
    | zero => intro i hn6; exact absurd hn6 (Nat.not_lt_zero _)
    | succ n6 ih6 =>
      intro i hn6 hi
      have hc := ckN_rng (f := fun i => σ.2.1 130 i) i (fun k hk => hf k (by omega))
      have hx : i < n → 0 ≤ σ.2.1 130 i ∧ σ.2.1 130 i ≤ 255 := fun h => hf i h
      refine am_iload_n (q := 7) rfl (am_tab tk_X10_checked 4 rfl) rfl ?_
      refine am_iload_n (q := 8) rfl (am_tab tk_X10_checked 5 rfl) rfl ?_
      refine am_icmp_ge (q := 11) (t := 29) (am_tab tk_X10_checked 6 rfl) (by decide) rfl (fun h8 => ?_) (fun h8 => ?_)
      · refine am_iload_n (q := 30) rfl (am_tab tk_X10_checked 19 rfl) rfl ?_
        refine am_iret (Or.inl rfl) (Nat.le_of_ble_eq_true rfl) (Nat.le_of_ble_eq_true rfl) (am_tab tk_X10_checked 20 rfl) ?_
        refine hQ _ _ ?_
        rw [show i = n by omega]
        exact ⟨rfl, rfl⟩
      · refine am_iconst (q := 12) (n := 3) (by decide) (am_tab tk_X10_checked 7 rfl) rfl ?_
        refine am_iload_n (q := 13) rfl (am_tab tk_X10_checked 8 rfl) rfl ?_
        refine am_imul (q := 14) (by omega) (am_tab tk_X10_checked 9 rfl) rfl ?_
        refine am_aload_n (q := 15) rfl (am_tab tk_X10_checked 10 rfl) rfl ?_
        refine am_iload_n (q := 16) rfl (am_tab tk_X10_checked 11 rfl) rfl ?_
        refine am_iald (q := 17) (a := 130) (n := 146) (x := (σ.2.1 130 i)) (Ls_130 hL) (by omega) (by omega) (by rw [show Int.toNat (i : Int) = i by omega]) (am_tab tk_X10_checked 12 rfl) rfl ?_
        refine am_iadd (q := 18) (by omega) (am_tab tk_X10_checked 13 rfl) rfl ?_
        refine am_sipush (q := 21) (n := 251) (by decide) rfl (am_tab tk_X10_checked 14 rfl) rfl ?_
        refine am_irem (q := 22) (by omega) (by omega) (am_tab tk_X10_checked 15 rfl) rfl ?_
        refine am_istore_n (q := 23) (by decide) (ls2 := [(2, am_i ((Int.tmod ((3 * (ckN (fun i => σ.2.1 130 i) i)) + (σ.2.1 130 i)) 251))), (3, am_i ((i : Int))), (0, am_r 130), (1, am_i ((n : Int)))]) rfl (am_tab tk_X10_checked 16 rfl) rfl ?_
        refine am_iinc (q := 26) rfl (by omega) (by decide) (ls2 := [(3, am_i (((i : Int) + 1))), (2, am_i ((Int.tmod ((3 * (ckN (fun i => σ.2.1 130 i) i)) + (σ.2.1 130 i)) 251))), (0, am_r 130), (1, am_i ((n : Int)))]) rfl (am_tab tk_X10_checked 17 rfl) rfl ?_
        refine am_goto (t := 6) (am_tab tk_X10_checked 18 rfl) (by decide) ?_
        exact am_less (by intro q hq; simp only [List.mem_cons, List.not_mem_nil, or_false] at hq; rcases hq with rfl | rfl | rfl | rfl <;> simp [ckN]) (ih6 (i + 1) (by omega) (by omega))
  refine am_less (by intro q hq; simp only [List.mem_cons, List.not_mem_nil, or_false] at hq; rcases hq with rfl | rfl | rfl | rfl <;> simp [ckN]) (L6 (_ + 1) 0 (by exact Nat.lt_succ_self _) (by omega))
def ppL (σ : am_H) : Nat → List Int
  | 0 => []
  | p + 1 => ppL σ p ++ [σ.2.1 96 (4 + p)] ++ [σ.2.1 96 (12 + p)]
theorem ppL_len (σ : am_H) : ∀ p, (ppL σ p).length = 2 * p
  | 0 => rfl
  | p + 1 => by unfold ppL; simp only [List.length_append, List.length_cons, List.length_nil, ppL_len σ p]; omega
def ckL (l : List Int) : Int := ckN (fun i => l.getD i 0) l.length
/-- an image, but for its last byte -/
def imB (σ : am_H) : List Int := [] ++ [Int.tdiv (σ.2.1 96 0) 256] ++ [Int.tmod (σ.2.1 96 0) 256] ++ [σ.2.1 96 1] ++ [σ.2.1 96 2] ++ [Int.tdiv (σ.2.1 96 3) 65536] ++ [Int.tmod (Int.tdiv (σ.2.1 96 3) 256) 256] ++ [Int.tmod (σ.2.1 96 3) 256] ++ ppL σ (pN σ) ++ [stM σ 20] ++ dL (fun d => σ.2.1 96 (20 + d)) 90 ++ [stM σ 111] ++ dL (fun d => σ.2.1 96 (111 + d)) 90
def imL (σ : am_H) : List Int := imB σ ++ [ckL (imB σ)]
theorem dL_le {σ : am_H} (f : Nat) (hb : ∀ d, d < 91 → 0 ≤ σ.2.1 96 (f + d) ∧ σ.2.1 96 (f + d) < 256) : ((dL (fun d => σ.2.1 96 (f + d)) 90).length : Int) = 2 * stM σ f := by
  rw [dL_len (g := fun d => σ.2.1 96 (f + d)) hb 90 (by omega)]
  unfold stM
  congr 2
  funext k
  rw [show f + 1 + k = f + (k + 1) by omega]
theorem getD_mem {l : List Int} {i : Nat} (h : i < l.length) : l.getD i 0 ∈ l := by
  rw [List.getD_eq_getElem?_getD, List.getElem?_eq_getElem h]
  exact List.getElem_mem h
set_option maxRecDepth 100000 in
theorem c_X10_image (σ : am_H) (hG : GD σ)  (hm20 : 0 ≤ stM σ 20 ∧ stM σ 20 ≤ 30) (hm111 : 0 ≤ stM σ 111 ∧ stM σ 111 ≤ 30) : am_met M_X10_image [am_r 55] σ (fun r σ' => r = some (am_i ((imL σ).length : Int)) ∧ IM σ (imL σ) σ') := by
  refine am_qq (fun Q hQ => ?_)
  refine am_enter (show plainFor yX10_image = true by decide +kernel) rfl (Nat.le_of_ble_eq_true rfl) (fun _ _ _ => trivial) ?_
  have hL := hG.L
  have hN := pN_eq hG.R
  have h8 := pN_8 hG.R
  have hb20 := hG.R.told
  have hb111 := hG.R.brib
  have hy := hG.R.year
  have hd := hG.R.day
  have hY := hG.R.Y
  have hfe := hG.R.feast
  have hco := hG.R.coins
  have hag := hG.R.ago
  have hde := hG.R.dead
  have q0 : 0 ≤ Int.tdiv (σ.2.1 96 0) 256 ∧ Int.tdiv (σ.2.1 96 0) 256 ≤ 255 := by rw [Int.tdiv_eq_ediv_of_nonneg (by omega)]; omega
  have q1 : 0 ≤ Int.tmod (σ.2.1 96 0) 256 ∧ Int.tmod (σ.2.1 96 0) 256 ≤ 255 := by rw [Int.tmod_eq_emod_of_nonneg (by omega)]; omega
  have q2 : 0 ≤ Int.tdiv (σ.2.1 96 3) 65536 ∧ Int.tdiv (σ.2.1 96 3) 65536 ≤ 255 := by rw [Int.tdiv_eq_ediv_of_nonneg (by omega)]; omega
  have q3 : 0 ≤ Int.tmod (σ.2.1 96 3) 256 ∧ Int.tmod (σ.2.1 96 3) 256 ≤ 255 := by rw [Int.tmod_eq_emod_of_nonneg (by omega)]; omega
  have q4 : 0 ≤ Int.tdiv (σ.2.1 96 3) 256 ∧ Int.tdiv (σ.2.1 96 3) 256 ≤ 4000 := by rw [Int.tdiv_eq_ediv_of_nonneg (by omega)]; omega
  have q9 : 0 ≤ Int.tmod (Int.tdiv (σ.2.1 96 3) 256) 256 ∧ Int.tmod (Int.tdiv (σ.2.1 96 3) 256) 256 ≤ 255 := by
    have h1 : 0 ≤ Int.tdiv (σ.2.1 96 3) 256 := by rw [Int.tdiv_eq_ediv_of_nonneg (by omega)]; omega
    rw [Int.tmod_eq_emod_of_nonneg h1]; omega
  refine am_aload_n (q := 1) rfl (am_tab tk_X10_image 0 rfl) rfl ?_
  refine am_iconst (q := 2) (n := 0) (by decide) (am_tab tk_X10_image 1 rfl) rfl ?_
  refine am_putI (q := 5) (k := 10) (n := 108) (j := 107) (Ls_55 hL) (by decide) rfl (by decide) (Or.inl ⟨kf_X10_679, rfl⟩) (am_tab tk_X10_image 2 rfl) rfl ?_
  have hI0 : IM σ [] (am_setN σ 55 107 0) := ⟨(frw.refl _ σ).setN (by unfold W_im; omega), rfl, by intro i hi; simp at hi, by simp⟩
  refine am_aload_n (q := 6) rfl (am_tab tk_X10_image 3 rfl) rfl ?_
  refine am_aload_n (q := 7) rfl (am_tab tk_X10_image 4 rfl) rfl ?_
  refine am_getR (q := 10) (a := 55) (k := 10) (n := 108) (j := 54) (r := some (96)) (Ls_55 hL) (by decide) rfl (Lr_55_54 hL) (by decide) (Or.inl kf_X10_136) (am_tab tk_X10_image 5 rfl) rfl ?_
  refine am_iconst (q := 11) (n := 0) (by decide) (am_tab tk_X10_image 6 rfl) rfl ?_
  refine am_iald (q := 12) (a := 96) (n := 443) (x := (σ.2.1 96 0)) (Ls_96 hL) (by omega) (by omega) rfl (am_tab tk_X10_image 7 rfl) rfl ?_
  refine am_sipush (q := 15) (n := 256) (by decide) rfl (am_tab tk_X10_image 8 rfl) rfl ?_
  refine am_idiv (q := 16) (by omega) (by omega) (am_tab tk_X10_image 9 rfl) rfl ?_
  refine am_callVr (q := 19) (me2 := M_X10_writes) (b := 55) (kb := 10) (nb := 108) (As := [am_i ((Int.tdiv (σ.2.1 96 0) 256))]) (rest := []) (c_X10_writes σ hL ([]) (am_setN σ 55 107 0) hI0 (Int.tdiv (σ.2.1 96 0) 256) (by omega) (by simp only [List.length_append, List.length_cons, List.length_nil]; omega)) ⟨rfl, rfl⟩ (Ls_55 hL) (by decide) ⟨Or.inl km_X10_682, kc_X10_writes, kn_X10, kd_X10_writes, ⟨(Nat.le_of_ble_eq_true rfl), (Nat.le_of_ble_eq_true rfl)⟩, ⟨(Nat.le_of_ble_eq_true rfl), (Nat.le_of_ble_eq_true rfl)⟩, (Nat.le_of_ble_eq_true rfl)⟩ ki_X10_writes ks_X10_writes rfl (am_tab tk_X10_image 10 rfl) rfl ?_
  rintro r I16 ⟨rfl, hI16⟩
  refine am_st (st2 := []) rfl ?_
  refine am_aload_n (q := 20) rfl (am_tab tk_X10_image 11 rfl) rfl ?_
  refine am_aload_n (q := 21) rfl (am_tab tk_X10_image 12 rfl) rfl ?_
  refine am_getR (q := 24) (a := 55) (k := 10) (n := 108) (j := 54) (r := some (96)) (Ls_55 (hI16.L hL)) (by decide) rfl (Lr_55_54 (hI16.L hL)) (by decide) (Or.inl kf_X10_136) (am_tab tk_X10_image 13 rfl) rfl ?_
  refine am_iconst (q := 25) (n := 0) (by decide) (am_tab tk_X10_image 14 rfl) rfl ?_
  refine am_iald (q := 26) (a := 96) (n := 443) (x := (σ.2.1 96 0)) (Ls_96 (hI16.L hL)) (by omega) (by omega) (hI16.1.2.2 96 0 (by unfold W_im; omega)) (am_tab tk_X10_image 15 rfl) rfl ?_
  refine am_sipush (q := 29) (n := 256) (by decide) rfl (am_tab tk_X10_image 16 rfl) rfl ?_
  refine am_irem (q := 30) (by omega) (by omega) (am_tab tk_X10_image 17 rfl) rfl ?_
  refine am_callVr (q := 33) (me2 := M_X10_writes) (b := 55) (kb := 10) (nb := 108) (As := [am_i ((Int.tmod (σ.2.1 96 0) 256))]) (rest := []) (c_X10_writes σ hL ([] ++ [(Int.tdiv (σ.2.1 96 0) 256)]) I16 hI16 (Int.tmod (σ.2.1 96 0) 256) (by omega) (by simp only [List.length_append, List.length_cons, List.length_nil]; omega)) ⟨rfl, rfl⟩ (Ls_55 (hI16.L hL)) (by decide) ⟨Or.inl km_X10_682, kc_X10_writes, kn_X10, kd_X10_writes, ⟨(Nat.le_of_ble_eq_true rfl), (Nat.le_of_ble_eq_true rfl)⟩, ⟨(Nat.le_of_ble_eq_true rfl), (Nat.le_of_ble_eq_true rfl)⟩, (Nat.le_of_ble_eq_true rfl)⟩ ki_X10_writes ks_X10_writes rfl (am_tab tk_X10_image 18 rfl) rfl ?_
  rintro r I30 ⟨rfl, hI30⟩
  refine am_st (st2 := []) rfl ?_
  refine am_aload_n (q := 34) rfl (am_tab tk_X10_image 19 rfl) rfl ?_
  refine am_aload_n (q := 35) rfl (am_tab tk_X10_image 20 rfl) rfl ?_
  refine am_getR (q := 38) (a := 55) (k := 10) (n := 108) (j := 54) (r := some (96)) (Ls_55 (hI30.L hL)) (by decide) rfl (Lr_55_54 (hI30.L hL)) (by decide) (Or.inl kf_X10_136) (am_tab tk_X10_image 21 rfl) rfl ?_
  refine am_iconst (q := 39) (n := 1) (by decide) (am_tab tk_X10_image 22 rfl) rfl ?_
  refine am_iald (q := 40) (a := 96) (n := 443) (x := (σ.2.1 96 1)) (Ls_96 (hI30.L hL)) (by omega) (by omega) (hI30.1.2.2 96 1 (by unfold W_im; omega)) (am_tab tk_X10_image 23 rfl) rfl ?_
  refine am_callVr (q := 43) (me2 := M_X10_writes) (b := 55) (kb := 10) (nb := 108) (As := [am_i ((σ.2.1 96 1))]) (rest := []) (c_X10_writes σ hL ([] ++ [(Int.tdiv (σ.2.1 96 0) 256)] ++ [(Int.tmod (σ.2.1 96 0) 256)]) I30 hI30 (σ.2.1 96 1) (by omega) (by simp only [List.length_append, List.length_cons, List.length_nil]; omega)) ⟨rfl, rfl⟩ (Ls_55 (hI30.L hL)) (by decide) ⟨Or.inl km_X10_682, kc_X10_writes, kn_X10, kd_X10_writes, ⟨(Nat.le_of_ble_eq_true rfl), (Nat.le_of_ble_eq_true rfl)⟩, ⟨(Nat.le_of_ble_eq_true rfl), (Nat.le_of_ble_eq_true rfl)⟩, (Nat.le_of_ble_eq_true rfl)⟩ ki_X10_writes ks_X10_writes rfl (am_tab tk_X10_image 24 rfl) rfl ?_
  rintro r I40 ⟨rfl, hI40⟩
  refine am_st (st2 := []) rfl ?_
  refine am_aload_n (q := 44) rfl (am_tab tk_X10_image 25 rfl) rfl ?_
  refine am_aload_n (q := 45) rfl (am_tab tk_X10_image 26 rfl) rfl ?_
  refine am_getR (q := 48) (a := 55) (k := 10) (n := 108) (j := 54) (r := some (96)) (Ls_55 (hI40.L hL)) (by decide) rfl (Lr_55_54 (hI40.L hL)) (by decide) (Or.inl kf_X10_136) (am_tab tk_X10_image 27 rfl) rfl ?_
  refine am_iconst (q := 49) (n := 2) (by decide) (am_tab tk_X10_image 28 rfl) rfl ?_
  refine am_iald (q := 50) (a := 96) (n := 443) (x := (σ.2.1 96 2)) (Ls_96 (hI40.L hL)) (by omega) (by omega) (hI40.1.2.2 96 2 (by unfold W_im; omega)) (am_tab tk_X10_image 29 rfl) rfl ?_
  refine am_callVr (q := 53) (me2 := M_X10_writes) (b := 55) (kb := 10) (nb := 108) (As := [am_i ((σ.2.1 96 2))]) (rest := []) (c_X10_writes σ hL ([] ++ [(Int.tdiv (σ.2.1 96 0) 256)] ++ [(Int.tmod (σ.2.1 96 0) 256)] ++ [(σ.2.1 96 1)]) I40 hI40 (σ.2.1 96 2) (by omega) (by simp only [List.length_append, List.length_cons, List.length_nil]; omega)) ⟨rfl, rfl⟩ (Ls_55 (hI40.L hL)) (by decide) ⟨Or.inl km_X10_682, kc_X10_writes, kn_X10, kd_X10_writes, ⟨(Nat.le_of_ble_eq_true rfl), (Nat.le_of_ble_eq_true rfl)⟩, ⟨(Nat.le_of_ble_eq_true rfl), (Nat.le_of_ble_eq_true rfl)⟩, (Nat.le_of_ble_eq_true rfl)⟩ ki_X10_writes ks_X10_writes rfl (am_tab tk_X10_image 30 rfl) rfl ?_
  rintro r I50 ⟨rfl, hI50⟩
  refine am_st (st2 := []) rfl ?_
  refine am_aload_n (q := 54) rfl (am_tab tk_X10_image 31 rfl) rfl ?_
  refine am_aload_n (q := 55) rfl (am_tab tk_X10_image 32 rfl) rfl ?_
  refine am_getR (q := 58) (a := 55) (k := 10) (n := 108) (j := 54) (r := some (96)) (Ls_55 (hI50.L hL)) (by decide) rfl (Lr_55_54 (hI50.L hL)) (by decide) (Or.inl kf_X10_136) (am_tab tk_X10_image 33 rfl) rfl ?_
  refine am_iconst (q := 59) (n := 3) (by decide) (am_tab tk_X10_image 34 rfl) rfl ?_
  refine am_iald (q := 60) (a := 96) (n := 443) (x := (σ.2.1 96 3)) (Ls_96 (hI50.L hL)) (by omega) (by omega) (hI50.1.2.2 96 3 (by unfold W_im; omega)) (am_tab tk_X10_image 35 rfl) rfl ?_
  refine am_ldcw (q := 63) (n := 65536) (by decide) kk_X10_685 (am_tab tk_X10_image 36 rfl) rfl ?_
  refine am_idiv (q := 64) (by omega) (by omega) (am_tab tk_X10_image 37 rfl) rfl ?_
  refine am_callVr (q := 67) (me2 := M_X10_writes) (b := 55) (kb := 10) (nb := 108) (As := [am_i ((Int.tdiv (σ.2.1 96 3) 65536))]) (rest := []) (c_X10_writes σ hL ([] ++ [(Int.tdiv (σ.2.1 96 0) 256)] ++ [(Int.tmod (σ.2.1 96 0) 256)] ++ [(σ.2.1 96 1)] ++ [(σ.2.1 96 2)]) I50 hI50 (Int.tdiv (σ.2.1 96 3) 65536) (by omega) (by simp only [List.length_append, List.length_cons, List.length_nil]; omega)) ⟨rfl, rfl⟩ (Ls_55 (hI50.L hL)) (by decide) ⟨Or.inl km_X10_682, kc_X10_writes, kn_X10, kd_X10_writes, ⟨(Nat.le_of_ble_eq_true rfl), (Nat.le_of_ble_eq_true rfl)⟩, ⟨(Nat.le_of_ble_eq_true rfl), (Nat.le_of_ble_eq_true rfl)⟩, (Nat.le_of_ble_eq_true rfl)⟩ ki_X10_writes ks_X10_writes rfl (am_tab tk_X10_image 38 rfl) rfl ?_
  rintro r I64 ⟨rfl, hI64⟩
  refine am_st (st2 := []) rfl ?_
  refine am_aload_n (q := 68) rfl (am_tab tk_X10_image 39 rfl) rfl ?_
  refine am_aload_n (q := 69) rfl (am_tab tk_X10_image 40 rfl) rfl ?_
  refine am_getR (q := 72) (a := 55) (k := 10) (n := 108) (j := 54) (r := some (96)) (Ls_55 (hI64.L hL)) (by decide) rfl (Lr_55_54 (hI64.L hL)) (by decide) (Or.inl kf_X10_136) (am_tab tk_X10_image 41 rfl) rfl ?_
  refine am_iconst (q := 73) (n := 3) (by decide) (am_tab tk_X10_image 42 rfl) rfl ?_
  refine am_iald (q := 74) (a := 96) (n := 443) (x := (σ.2.1 96 3)) (Ls_96 (hI64.L hL)) (by omega) (by omega) (hI64.1.2.2 96 3 (by unfold W_im; omega)) (am_tab tk_X10_image 43 rfl) rfl ?_
  refine am_sipush (q := 77) (n := 256) (by decide) rfl (am_tab tk_X10_image 44 rfl) rfl ?_
  refine am_idiv (q := 78) (by omega) (by omega) (am_tab tk_X10_image 45 rfl) rfl ?_
  refine am_sipush (q := 81) (n := 256) (by decide) rfl (am_tab tk_X10_image 46 rfl) rfl ?_
  refine am_irem (q := 82) (by omega) (by omega) (am_tab tk_X10_image 47 rfl) rfl ?_
  refine am_callVr (q := 85) (me2 := M_X10_writes) (b := 55) (kb := 10) (nb := 108) (As := [am_i ((Int.tmod (Int.tdiv (σ.2.1 96 3) 256) 256))]) (rest := []) (c_X10_writes σ hL ([] ++ [(Int.tdiv (σ.2.1 96 0) 256)] ++ [(Int.tmod (σ.2.1 96 0) 256)] ++ [(σ.2.1 96 1)] ++ [(σ.2.1 96 2)] ++ [(Int.tdiv (σ.2.1 96 3) 65536)]) I64 hI64 (Int.tmod (Int.tdiv (σ.2.1 96 3) 256) 256) (by omega) (by simp only [List.length_append, List.length_cons, List.length_nil]; omega)) ⟨rfl, rfl⟩ (Ls_55 (hI64.L hL)) (by decide) ⟨Or.inl km_X10_682, kc_X10_writes, kn_X10, kd_X10_writes, ⟨(Nat.le_of_ble_eq_true rfl), (Nat.le_of_ble_eq_true rfl)⟩, ⟨(Nat.le_of_ble_eq_true rfl), (Nat.le_of_ble_eq_true rfl)⟩, (Nat.le_of_ble_eq_true rfl)⟩ ki_X10_writes ks_X10_writes rfl (am_tab tk_X10_image 48 rfl) rfl ?_
  rintro r I82 ⟨rfl, hI82⟩
  refine am_st (st2 := []) rfl ?_
  refine am_aload_n (q := 86) rfl (am_tab tk_X10_image 49 rfl) rfl ?_
  refine am_aload_n (q := 87) rfl (am_tab tk_X10_image 50 rfl) rfl ?_
  refine am_getR (q := 90) (a := 55) (k := 10) (n := 108) (j := 54) (r := some (96)) (Ls_55 (hI82.L hL)) (by decide) rfl (Lr_55_54 (hI82.L hL)) (by decide) (Or.inl kf_X10_136) (am_tab tk_X10_image 51 rfl) rfl ?_
  refine am_iconst (q := 91) (n := 3) (by decide) (am_tab tk_X10_image 52 rfl) rfl ?_
  refine am_iald (q := 92) (a := 96) (n := 443) (x := (σ.2.1 96 3)) (Ls_96 (hI82.L hL)) (by omega) (by omega) (hI82.1.2.2 96 3 (by unfold W_im; omega)) (am_tab tk_X10_image 53 rfl) rfl ?_
  refine am_sipush (q := 95) (n := 256) (by decide) rfl (am_tab tk_X10_image 54 rfl) rfl ?_
  refine am_irem (q := 96) (by omega) (by omega) (am_tab tk_X10_image 55 rfl) rfl ?_
  refine am_callVr (q := 99) (me2 := M_X10_writes) (b := 55) (kb := 10) (nb := 108) (As := [am_i ((Int.tmod (σ.2.1 96 3) 256))]) (rest := []) (c_X10_writes σ hL ([] ++ [(Int.tdiv (σ.2.1 96 0) 256)] ++ [(Int.tmod (σ.2.1 96 0) 256)] ++ [(σ.2.1 96 1)] ++ [(σ.2.1 96 2)] ++ [(Int.tdiv (σ.2.1 96 3) 65536)] ++ [(Int.tmod (Int.tdiv (σ.2.1 96 3) 256) 256)]) I82 hI82 (Int.tmod (σ.2.1 96 3) 256) (by omega) (by simp only [List.length_append, List.length_cons, List.length_nil]; omega)) ⟨rfl, rfl⟩ (Ls_55 (hI82.L hL)) (by decide) ⟨Or.inl km_X10_682, kc_X10_writes, kn_X10, kd_X10_writes, ⟨(Nat.le_of_ble_eq_true rfl), (Nat.le_of_ble_eq_true rfl)⟩, ⟨(Nat.le_of_ble_eq_true rfl), (Nat.le_of_ble_eq_true rfl)⟩, (Nat.le_of_ble_eq_true rfl)⟩ ki_X10_writes ks_X10_writes rfl (am_tab tk_X10_image 56 rfl) rfl ?_
  rintro r I96 ⟨rfl, hI96⟩
  refine am_st (st2 := []) rfl ?_
  refine am_iconst (q := 100) (n := 0) (by decide) (am_tab tk_X10_image 57 rfl) rfl ?_
  refine am_istore_n (q := 101) (by decide) (ls2 := [(1, am_i 0), (0, am_r 55)]) rfl (am_tab tk_X10_image 58 rfl) rfl ?_
  have L101 : ∀ (n101 : Nat) (i : Nat) (S5 : am_H), pN σ - i < n101 → i ≤ pN σ → IM σ ([] ++ [Int.tdiv (σ.2.1 96 0) 256] ++ [Int.tmod (σ.2.1 96 0) 256] ++ [(σ.2.1 96 1)] ++ [(σ.2.1 96 2)] ++ [Int.tdiv (σ.2.1 96 3) 65536] ++ [Int.tmod (Int.tdiv (σ.2.1 96 3) 256) 256] ++ [Int.tmod (σ.2.1 96 3) 256] ++ ppL σ i) S5 → am_wp M_X10_image Q 0 0 101 [(1, am_i ((i : Int))), (0, am_r 55)] [] S5 := by
    intro n101
    induction n101 with
    | zero => intro i S5 hn101; exact absurd hn101 (Nat.not_lt_zero _)
    | succ n101 ih101 =>
      intro i S5 hn101 hi hI5
      have ha2 : i < pN σ → 0 ≤ σ.2.1 96 (4 + i) ∧ σ.2.1 96 (4 + i) ≤ 99 := fun h => hag i (by omega)
      have hd2 : i < pN σ → σ.2.1 96 (12 + i) = 0 ∨ σ.2.1 96 (12 + i) = 1 := fun h => hde i (by omega)
      have e4i : ((4 : Int) + (i : Int)).toNat = 4 + i := by omega
      refine am_iload_n (q := 102) rfl (am_tab tk_X10_image 59 rfl) rfl ?_
      refine am_aload_n (q := 103) rfl (am_tab tk_X10_image 60 rfl) rfl ?_
      refine am_callV0 (q := 106) (me2 := M_X10_peopleMany) (b := 55) (kb := 10) (nb := 108) (As := []) (rest := [am_i ((i : Int))]) (out := [am_i (S5.2.1 85 5), am_i ((i : Int))]) (c_X10_peopleMany S5 (hI5.L hL)  ) ⟨rfl, rfl⟩ (Ls_55 (hI5.L hL)) (by decide) ⟨Or.inl km_X10_394, kc_X10_peopleMany, kn_X10, kd_X10_peopleMany, ⟨(Nat.le_of_ble_eq_true rfl), (Nat.le_of_ble_eq_true rfl)⟩, ⟨(Nat.le_of_ble_eq_true rfl), (Nat.le_of_ble_eq_true rfl)⟩, (Nat.le_of_ble_eq_true rfl)⟩ ki_X10_peopleMany ks_X10_peopleMany rfl rfl (am_tab tk_X10_image 61 rfl) rfl ?_
      refine am_st (st2 := [am_i ((σ.2.1 85 5)), am_i ((i : Int))]) (by simp only [(show S5.2.1 85 5 = σ.2.1 85 5 from (hI5.1.2.2 85 5 (by unfold W_im; omega)))]) ?_
      refine am_icmp_ge (q := 109) (t := 137) (am_tab tk_X10_image 62 rfl) (by decide) rfl (fun h106 => ?_) (fun h106 => ?_)
      · have epn : i = pN σ := by omega
        rw [epn] at hI5
        refine am_aload_n (q := 138) rfl (am_tab tk_X10_image 78 rfl) rfl ?_
        refine am_bipush (q := 140) (n := 20) (by decide) rfl (am_tab tk_X10_image 79 rfl) rfl ?_
        refine am_callVr (q := 143) (me2 := M_X10_writesSets) (b := 55) (kb := 10) (nb := 108) (As := [am_i 20]) (rest := []) (c_X10_writesSets σ hL ([] ++ [Int.tdiv (σ.2.1 96 0) 256] ++ [Int.tmod (σ.2.1 96 0) 256] ++ [(σ.2.1 96 1)] ++ [(σ.2.1 96 2)] ++ [Int.tdiv (σ.2.1 96 3) 65536] ++ [Int.tmod (Int.tdiv (σ.2.1 96 3) 256) 256] ++ [Int.tmod (σ.2.1 96 3) 256] ++ ppL σ (pN σ)) S5 hI5 20 (by omega) hb20 hm20 (by simp only [List.length_append, List.length_cons, List.length_nil, ppL_len]; omega)) ⟨rfl, rfl⟩ (Ls_55 (hI5.L hL)) (by decide) ⟨Or.inl km_X10_686, kc_X10_writesSets, kn_X10, kd_X10_writesSets, ⟨(Nat.le_of_ble_eq_true rfl), (Nat.le_of_ble_eq_true rfl)⟩, ⟨(Nat.le_of_ble_eq_true rfl), (Nat.le_of_ble_eq_true rfl)⟩, (Nat.le_of_ble_eq_true rfl)⟩ ki_X10_writesSets ks_X10_writesSets rfl (am_tab tk_X10_image 80 rfl) rfl ?_
        rintro r I140 ⟨rfl, hI140⟩
        refine am_st (st2 := []) rfl ?_
        refine am_aload_n (q := 144) rfl (am_tab tk_X10_image 81 rfl) rfl ?_
        refine am_bipush (q := 146) (n := 111) (by decide) rfl (am_tab tk_X10_image 82 rfl) rfl ?_
        refine am_callVr (q := 149) (me2 := M_X10_writesSets) (b := 55) (kb := 10) (nb := 108) (As := [am_i 111]) (rest := []) (c_X10_writesSets σ hL ([] ++ [Int.tdiv (σ.2.1 96 0) 256] ++ [Int.tmod (σ.2.1 96 0) 256] ++ [(σ.2.1 96 1)] ++ [(σ.2.1 96 2)] ++ [Int.tdiv (σ.2.1 96 3) 65536] ++ [Int.tmod (Int.tdiv (σ.2.1 96 3) 256) 256] ++ [Int.tmod (σ.2.1 96 3) 256] ++ ppL σ (pN σ) ++ [stM σ 20] ++ dL (fun d => σ.2.1 96 (20 + d)) 90) I140 hI140 111 (by omega) hb111 hm111 (by have := dL_le (σ := σ) 20 hb20; simp only [List.length_append, List.length_cons, List.length_nil, ppL_len]; omega)) ⟨rfl, rfl⟩ (Ls_55 (hI140.L hL)) (by decide) ⟨Or.inl km_X10_686, kc_X10_writesSets, kn_X10, kd_X10_writesSets, ⟨(Nat.le_of_ble_eq_true rfl), (Nat.le_of_ble_eq_true rfl)⟩, ⟨(Nat.le_of_ble_eq_true rfl), (Nat.le_of_ble_eq_true rfl)⟩, (Nat.le_of_ble_eq_true rfl)⟩ ki_X10_writesSets ks_X10_writesSets rfl (am_tab tk_X10_image 83 rfl) rfl ?_
        rintro r I146 ⟨rfl, hI146⟩
        refine am_st (st2 := []) rfl ?_
        have hl145 : ([] ++ [Int.tdiv (σ.2.1 96 0) 256] ++ [Int.tmod (σ.2.1 96 0) 256] ++ [(σ.2.1 96 1)] ++ [(σ.2.1 96 2)] ++ [Int.tdiv (σ.2.1 96 3) 65536] ++ [Int.tmod (Int.tdiv (σ.2.1 96 3) 256) 256] ++ [Int.tmod (σ.2.1 96 3) 256] ++ ppL σ (pN σ) ++ [stM σ 20] ++ dL (fun d => σ.2.1 96 (20 + d)) 90 ++ [stM σ 111] ++ dL (fun d => σ.2.1 96 (111 + d)) 90).length < 146 := by
          have a1 := dL_le (σ := σ) 20 hb20
          have a2 := dL_le (σ := σ) 111 hb111
          simp only [List.length_append, List.length_cons, List.length_nil, ppL_len]
          omega
        have hl146 : ([] ++ [Int.tdiv (σ.2.1 96 0) 256] ++ [Int.tmod (σ.2.1 96 0) 256] ++ [(σ.2.1 96 1)] ++ [(σ.2.1 96 2)] ++ [Int.tdiv (σ.2.1 96 3) 65536] ++ [Int.tmod (Int.tdiv (σ.2.1 96 3) 256) 256] ++ [Int.tmod (σ.2.1 96 3) 256] ++ ppL σ (pN σ) ++ [stM σ 20] ++ dL (fun d => σ.2.1 96 (20 + d)) 90 ++ [stM σ 111] ++ dL (fun d => σ.2.1 96 (111 + d)) 90).length ≤ 146 := by omega
        have ckb : 0 ≤ ckL (imB σ) ∧ ckL (imB σ) ≤ 255 := by
          have h9 := ckN_rng (f := fun k => (imB σ).getD k 0) (imB σ).length (fun k hk => hI146.2.2.2 _ (getD_mem hk))
          unfold ckL; omega
        refine am_aload_n (q := 150) rfl (am_tab tk_X10_image 84 rfl) rfl ?_
        refine am_aload_n (q := 151) rfl (am_tab tk_X10_image 85 rfl) rfl ?_
        refine am_getR (q := 154) (a := 55) (k := 10) (n := 108) (j := 106) (r := some (130)) (Ls_55 (hI146.L hL)) (by decide) rfl (Lr_55_106 (hI146.L hL)) (by decide) (Or.inl kf_X10_242) (am_tab tk_X10_image 86 rfl) rfl ?_
        refine am_aload_n (q := 155) rfl (am_tab tk_X10_image 87 rfl) rfl ?_
        refine am_getI (q := 158) (a := 55) (k := 10) (n := 108) (j := 107) (x := (([] ++ [Int.tdiv (σ.2.1 96 0) 256] ++ [Int.tmod (σ.2.1 96 0) 256] ++ [(σ.2.1 96 1)] ++ [(σ.2.1 96 2)] ++ [Int.tdiv (σ.2.1 96 3) 65536] ++ [Int.tmod (Int.tdiv (σ.2.1 96 3) 256) 256] ++ [Int.tmod (σ.2.1 96 3) 256] ++ ppL σ (pN σ) ++ [stM σ 20] ++ dL (fun d => σ.2.1 96 (20 + d)) 90 ++ [stM σ 111] ++ dL (fun d => σ.2.1 96 (111 + d)) 90).length : Int)) (Ls_55 (hI146.L hL)) (by decide) rfl hI146.2.1 (by decide) (Or.inl kf_X10_679) (am_tab tk_X10_image 88 rfl) rfl ?_
        refine am_callS0 (q := 161) (me2 := M_X10_checked) (As := [am_r 130, am_i ((([] ++ [Int.tdiv (σ.2.1 96 0) 256] ++ [Int.tmod (σ.2.1 96 0) 256] ++ [(σ.2.1 96 1)] ++ [(σ.2.1 96 2)] ++ [Int.tdiv (σ.2.1 96 3) 65536] ++ [Int.tmod (Int.tdiv (σ.2.1 96 3) 256) 256] ++ [Int.tmod (σ.2.1 96 3) 256] ++ ppL σ (pN σ) ++ [stM σ 20] ++ dL (fun d => σ.2.1 96 (20 + d)) 90 ++ [stM σ 111] ++ dL (fun d => σ.2.1 96 (111 + d)) 90).length : Int))]) (rest := [am_r 55]) (out := [am_i (ckN (fun i => I146.2.1 130 i) ([] ++ [Int.tdiv (σ.2.1 96 0) 256] ++ [Int.tmod (σ.2.1 96 0) 256] ++ [(σ.2.1 96 1)] ++ [(σ.2.1 96 2)] ++ [Int.tdiv (σ.2.1 96 3) 65536] ++ [Int.tmod (Int.tdiv (σ.2.1 96 3) 256) 256] ++ [Int.tmod (σ.2.1 96 3) 256] ++ ppL σ (pN σ) ++ [stM σ 20] ++ dL (fun d => σ.2.1 96 (20 + d)) 90 ++ [stM σ 111] ++ dL (fun d => σ.2.1 96 (111 + d)) 90).length), am_r 55]) (c_X10_checked_130 I146 (hI146.L hL) ([] ++ [Int.tdiv (σ.2.1 96 0) 256] ++ [Int.tmod (σ.2.1 96 0) 256] ++ [(σ.2.1 96 1)] ++ [(σ.2.1 96 2)] ++ [Int.tdiv (σ.2.1 96 3) 65536] ++ [Int.tmod (Int.tdiv (σ.2.1 96 3) 256) 256] ++ [Int.tmod (σ.2.1 96 3) 256] ++ ppL σ (pN σ) ++ [stM σ 20] ++ dL (fun d => σ.2.1 96 (20 + d)) 90 ++ [stM σ 111] ++ dL (fun d => σ.2.1 96 (111 + d)) 90).length hl146 (fun i hi => by rw [hI146.2.2.1 i hi]; exact hI146.2.2.2 _ (getD_mem hi))) ⟨rfl, rfl⟩ ⟨Or.inl km_X10_689, kc_X10_checked, kn_X10, kd_X10_checked, ⟨(Nat.le_of_ble_eq_true rfl), (Nat.le_of_ble_eq_true rfl)⟩, ⟨(Nat.le_of_ble_eq_true rfl), (Nat.le_of_ble_eq_true rfl)⟩, (Nat.le_of_ble_eq_true rfl)⟩ ki_X10_checked rfl rfl (am_tab tk_X10_image 89 rfl) rfl ?_
        refine am_st (st2 := [am_i (ckL (imB σ)), am_r 55]) (by rw [ckN_congr (f := fun i => I146.2.1 130 i) (g := fun i => ([] ++ [Int.tdiv (σ.2.1 96 0) 256] ++ [Int.tmod (σ.2.1 96 0) 256] ++ [(σ.2.1 96 1)] ++ [(σ.2.1 96 2)] ++ [Int.tdiv (σ.2.1 96 3) 65536] ++ [Int.tmod (Int.tdiv (σ.2.1 96 3) 256) 256] ++ [Int.tmod (σ.2.1 96 3) 256] ++ ppL σ (pN σ) ++ [stM σ 20] ++ dL (fun d => σ.2.1 96 (20 + d)) 90 ++ [stM σ 111] ++ dL (fun d => σ.2.1 96 (111 + d)) 90).getD i 0) _ (fun i hi => hI146.2.2.1 i hi)]; rfl) ?_
        refine am_callVr (q := 164) (me2 := M_X10_writes) (b := 55) (kb := 10) (nb := 108) (As := [am_i (ckL (imB σ))]) (rest := []) (c_X10_writes σ hL ([] ++ [Int.tdiv (σ.2.1 96 0) 256] ++ [Int.tmod (σ.2.1 96 0) 256] ++ [(σ.2.1 96 1)] ++ [(σ.2.1 96 2)] ++ [Int.tdiv (σ.2.1 96 3) 65536] ++ [Int.tmod (Int.tdiv (σ.2.1 96 3) 256) 256] ++ [Int.tmod (σ.2.1 96 3) 256] ++ ppL σ (pN σ) ++ [stM σ 20] ++ dL (fun d => σ.2.1 96 (20 + d)) 90 ++ [stM σ 111] ++ dL (fun d => σ.2.1 96 (111 + d)) 90) I146 hI146 (ckL (imB σ)) (by exact ckb) (by omega)) ⟨rfl, rfl⟩ (Ls_55 (hI146.L hL)) (by decide) ⟨Or.inl km_X10_682, kc_X10_writes, kn_X10, kd_X10_writes, ⟨(Nat.le_of_ble_eq_true rfl), (Nat.le_of_ble_eq_true rfl)⟩, ⟨(Nat.le_of_ble_eq_true rfl), (Nat.le_of_ble_eq_true rfl)⟩, (Nat.le_of_ble_eq_true rfl)⟩ ki_X10_writes ks_X10_writes rfl (am_tab tk_X10_image 90 rfl) rfl ?_
        rintro r I161 ⟨rfl, hI161⟩
        refine am_st (st2 := []) rfl ?_
        refine am_aload_n (q := 165) rfl (am_tab tk_X10_image 91 rfl) rfl ?_
        refine am_getI (q := 168) (a := 55) (k := 10) (n := 108) (j := 107) (x := (([] ++ [Int.tdiv (σ.2.1 96 0) 256] ++ [Int.tmod (σ.2.1 96 0) 256] ++ [(σ.2.1 96 1)] ++ [(σ.2.1 96 2)] ++ [Int.tdiv (σ.2.1 96 3) 65536] ++ [Int.tmod (Int.tdiv (σ.2.1 96 3) 256) 256] ++ [Int.tmod (σ.2.1 96 3) 256] ++ ppL σ (pN σ) ++ [stM σ 20] ++ dL (fun d => σ.2.1 96 (20 + d)) 90 ++ [stM σ 111] ++ dL (fun d => σ.2.1 96 (111 + d)) 90 ++ [ckL (imB σ)]).length : Int)) (Ls_55 (hI161.L hL)) (by decide) rfl hI161.2.1 (by decide) (Or.inl kf_X10_679) (am_tab tk_X10_image 92 rfl) rfl ?_
        refine am_iret (Or.inl rfl) (Nat.le_of_ble_eq_true rfl) (Nat.le_of_ble_eq_true rfl) (am_tab tk_X10_image 93 rfl) ?_
        refine hQ _ _ ?_
        exact ⟨rfl, hI161⟩
      · refine am_aload_n (q := 110) rfl (am_tab tk_X10_image 63 rfl) rfl ?_
        refine am_aload_n (q := 111) rfl (am_tab tk_X10_image 64 rfl) rfl ?_
        refine am_iload_n (q := 112) rfl (am_tab tk_X10_image 65 rfl) rfl ?_
        refine am_callV0 (q := 115) (me2 := M_X10_agoOf) (b := 55) (kb := 10) (nb := 108) (As := [am_i ((i : Int))]) (rest := [am_r 55]) (out := [am_i (S5.2.1 96 (4 + (i : Int)).toNat), am_r 55]) (c_X10_agoOf S5 (hI5.L hL) (i : Int) (by omega)) ⟨rfl, rfl⟩ (Ls_55 (hI5.L hL)) (by decide) ⟨Or.inl km_X10_467, kc_X10_agoOf, kn_X10, kd_X10_agoOf, ⟨(Nat.le_of_ble_eq_true rfl), (Nat.le_of_ble_eq_true rfl)⟩, ⟨(Nat.le_of_ble_eq_true rfl), (Nat.le_of_ble_eq_true rfl)⟩, (Nat.le_of_ble_eq_true rfl)⟩ ki_X10_agoOf ks_X10_agoOf rfl rfl (am_tab tk_X10_image 66 rfl) rfl ?_
        refine am_st (st2 := [am_i ((σ.2.1 96 (4 + (i : Int)).toNat)), am_r 55]) (by simp only [(show S5.2.1 96 (4 + (i : Int)).toNat = σ.2.1 96 (4 + (i : Int)).toNat from (hI5.1.2.2 96 ((4 + (i : Int)).toNat) (by unfold W_im; omega)))]) ?_
        refine am_callVr (q := 118) (me2 := M_X10_writes) (b := 55) (kb := 10) (nb := 108) (As := [am_i ((σ.2.1 96 (4 + (i : Int)).toNat))]) (rest := []) (c_X10_writes σ hL ([] ++ [Int.tdiv (σ.2.1 96 0) 256] ++ [Int.tmod (σ.2.1 96 0) 256] ++ [(σ.2.1 96 1)] ++ [(σ.2.1 96 2)] ++ [Int.tdiv (σ.2.1 96 3) 65536] ++ [Int.tmod (Int.tdiv (σ.2.1 96 3) 256) 256] ++ [Int.tmod (σ.2.1 96 3) 256] ++ ppL σ i) S5 hI5 (σ.2.1 96 (4 + (i : Int)).toNat) (by rw [e4i]; have := ha2 (by omega); omega) (by simp only [List.length_append, List.length_cons, List.length_nil, ppL_len]; omega)) ⟨rfl, rfl⟩ (Ls_55 (hI5.L hL)) (by decide) ⟨Or.inl km_X10_682, kc_X10_writes, kn_X10, kd_X10_writes, ⟨(Nat.le_of_ble_eq_true rfl), (Nat.le_of_ble_eq_true rfl)⟩, ⟨(Nat.le_of_ble_eq_true rfl), (Nat.le_of_ble_eq_true rfl)⟩, (Nat.le_of_ble_eq_true rfl)⟩ ki_X10_writes ks_X10_writes rfl (am_tab tk_X10_image 67 rfl) rfl ?_
        rintro r I115 ⟨rfl, hI115⟩
        refine am_st (st2 := []) rfl ?_
        refine am_aload_n (q := 119) rfl (am_tab tk_X10_image 68 rfl) rfl ?_
        refine am_aload_n (q := 120) rfl (am_tab tk_X10_image 69 rfl) rfl ?_
        refine am_getR (q := 123) (a := 55) (k := 10) (n := 108) (j := 54) (r := some (96)) (Ls_55 (hI115.L hL)) (by decide) rfl (Lr_55_54 (hI115.L hL)) (by decide) (Or.inl kf_X10_136) (am_tab tk_X10_image 70 rfl) rfl ?_
        refine am_bipush (q := 125) (n := 12) (by decide) rfl (am_tab tk_X10_image 71 rfl) rfl ?_
        refine am_iload_n (q := 126) rfl (am_tab tk_X10_image 72 rfl) rfl ?_
        refine am_iadd (q := 127) (by omega) (am_tab tk_X10_image 73 rfl) rfl ?_
        refine am_iald (q := 128) (a := 96) (n := 443) (x := (σ.2.1 96 (12 + i))) (Ls_96 (hI115.L hL)) (by omega) (by omega) (by rw [show Int.toNat (12 + (i : Int)) = 12 + i by omega]; exact hI115.1.2.2 96 _ (by unfold W_im; omega)) (am_tab tk_X10_image 74 rfl) rfl ?_
        refine am_callVr (q := 131) (me2 := M_X10_writes) (b := 55) (kb := 10) (nb := 108) (As := [am_i ((σ.2.1 96 (12 + i)))]) (rest := []) (c_X10_writes σ hL ([] ++ [Int.tdiv (σ.2.1 96 0) 256] ++ [Int.tmod (σ.2.1 96 0) 256] ++ [(σ.2.1 96 1)] ++ [(σ.2.1 96 2)] ++ [Int.tdiv (σ.2.1 96 3) 65536] ++ [Int.tmod (Int.tdiv (σ.2.1 96 3) 256) 256] ++ [Int.tmod (σ.2.1 96 3) 256] ++ ppL σ i ++ [(σ.2.1 96 (4 + (i : Int)).toNat)]) I115 hI115 (σ.2.1 96 (12 + i)) (by have := hd2 (by omega); omega) (by simp only [List.length_append, List.length_cons, List.length_nil, ppL_len]; omega)) ⟨rfl, rfl⟩ (Ls_55 (hI115.L hL)) (by decide) ⟨Or.inl km_X10_682, kc_X10_writes, kn_X10, kd_X10_writes, ⟨(Nat.le_of_ble_eq_true rfl), (Nat.le_of_ble_eq_true rfl)⟩, ⟨(Nat.le_of_ble_eq_true rfl), (Nat.le_of_ble_eq_true rfl)⟩, (Nat.le_of_ble_eq_true rfl)⟩ ki_X10_writes ks_X10_writes rfl (am_tab tk_X10_image 75 rfl) rfl ?_
        rintro r I128 ⟨rfl, hI128⟩
        refine am_st (st2 := []) rfl ?_
        refine am_iinc (q := 134) rfl (by omega) (by decide) (ls2 := [(1, am_i (((i : Int) + 1))), (0, am_r 55)]) rfl (am_tab tk_X10_image 76 rfl) rfl ?_
        refine am_goto (t := 101) (am_tab tk_X10_image 77 rfl) (by decide) ?_
        rw [e4i] at *
        have hpp : [] ++ [Int.tdiv (σ.2.1 96 0) 256] ++ [Int.tmod (σ.2.1 96 0) 256] ++ [(σ.2.1 96 1)] ++ [(σ.2.1 96 2)] ++ [Int.tdiv (σ.2.1 96 3) 65536] ++ [Int.tmod (Int.tdiv (σ.2.1 96 3) 256) 256] ++ [Int.tmod (σ.2.1 96 3) 256] ++ ppL σ (i + 1) = [] ++ [Int.tdiv (σ.2.1 96 0) 256] ++ [Int.tmod (σ.2.1 96 0) 256] ++ [(σ.2.1 96 1)] ++ [(σ.2.1 96 2)] ++ [Int.tdiv (σ.2.1 96 3) 65536] ++ [Int.tmod (Int.tdiv (σ.2.1 96 3) 256) 256] ++ [Int.tmod (σ.2.1 96 3) 256] ++ ppL σ i ++ [(σ.2.1 96 (4 + i))] ++ [(σ.2.1 96 (12 + i))] := by
          show _ ++ (ppL σ i ++ [σ.2.1 96 (4 + i)] ++ [σ.2.1 96 (12 + i)]) = _
          simp only [List.append_assoc]
        exact am_less (by intro q hq; simp only [List.mem_cons, List.not_mem_nil, or_false] at hq; rcases hq with rfl | rfl <;> simp) (ih101 (i + 1) I128 (by omega) (by omega) (by rw [hpp]; exact hI128))
  refine am_less (by intro q hq; simp only [List.mem_cons, List.not_mem_nil, or_false] at hq; rcases hq with rfl | rfl <;> simp) (L101 (_ + 1) 0 I96 (by exact Nat.lt_succ_self _) (by omega) (by simpa [ppL] using hI96))
