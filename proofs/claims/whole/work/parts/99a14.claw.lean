theorem it_day {σ : am_H} (hG : GD σ) : ∀ i : Nat, σ.2.1 96 1 + i ≤ σ.2.1 85 9 → (i : Int) ≤ dlM σ → (itS i σ).2.1 96 1 = σ.2.1 96 1 + i
  | 0, _, _ => by show σ.2.1 96 1 = σ.2.1 96 1 + ((0 : Nat) : Int); omega
  | i + 1, h, h2 => by
    have h3 : (((i + 1 : Nat)) : Int) = (i : Int) + 1 := by omega
    rw [h3] at h h2 ⊢
    have ih := it_day hG i (by omega) (by omega)
    rw [(it_0 hG (itS_cc hG (n := i) (by omega)) (by omega)).2]
    unfold bgN
    rw [itS_9 85 9 (by decide) i, ih, if_pos (by omega), if_pos rfl]
    omega
theorem dl_ge {σ : am_H} (hG : GD σ) : σ.2.1 85 9 - σ.2.1 96 1 ≤ dlM σ := by
  have h1 := mulr hG.R.year hG.R.Y
  have h2 := hG.R.day
  unfold dlM
  rcases hG.R.T with h | h
  · rw [if_pos h.1]; omega
  · rw [if_neg (by omega)]; omega
/-- rows that can be kept in the class's form -/
def ROK (g : Nat → Int) : Prop := ∀ k : Nat, (k : Int) < g 202 → (0 ≤ g (203 + 4 * k) ∧ g (203 + 4 * k) ≤ 999) ∧ (0 ≤ g (204 + 4 * k) ∧ g (204 + 4 * k) ≤ 90) ∧ (0 ≤ g (205 + 4 * k) ∧ g (205 + 4 * k) ≤ 8) ∧ (0 ≤ g (206 + 4 * k) ∧ g (206 + 4 * k) ≤ 1)
theorem row_dec {y d n b : Int} (hy : 0 ≤ y ∧ y ≤ 999) (hd : 0 ≤ d ∧ d ≤ 90) (hn : 0 ≤ n ∧ n ≤ 8) (hb : 0 ≤ b ∧ b ≤ 1) : (0 ≤ ((y * 128 + d) * 16 + n) * 2 + b ∧ ((y * 128 + d) * 16 + n) * 2 + b < 2147483648) ∧ Int.tdiv (((y * 128 + d) * 16 + n) * 2 + b) 4096 = y ∧ Int.tmod (Int.tdiv (((y * 128 + d) * 16 + n) * 2 + b) 32) 128 = d ∧ Int.tmod (Int.tdiv (((y * 128 + d) * 16 + n) * 2 + b) 2) 16 = n ∧ Int.tmod (((y * 128 + d) * 16 + n) * 2 + b) 2 = b := by
  have h0 : 0 ≤ ((y * 128 + d) * 16 + n) * 2 + b := by omega
  rw [Int.tdiv_eq_ediv_of_nonneg h0, Int.tdiv_eq_ediv_of_nonneg h0, Int.tdiv_eq_ediv_of_nonneg h0, Int.tmod_eq_emod_of_nonneg (Int.ediv_nonneg h0 (by decide)), Int.tmod_eq_emod_of_nonneg (Int.ediv_nonneg h0 (by decide)), Int.tmod_eq_emod_of_nonneg h0]
  refine ⟨⟨h0, by omega⟩, by omega, by omega, by omega, by omega⟩
theorem c_rowAt (σ : am_H) (hL : lay σ) (k : Nat) (g : Nat → Int) (hR : RWr 32 σ g) (hk : (k : Int) < g 202) (h60 : g 202 ≤ 60) : am_met M_X1_rowAt [am_r 32, am_i ((k : Int))] σ (fun r σ' => r = some (am_i (rwV g k)) ∧ σ' = σ) := by
  refine am_qq (fun Q hQ => ?_)
  refine am_enter (show plainFor yX1_rowAt = true by decide +kernel) rfl (Nat.le_of_ble_eq_true rfl) (fun _ _ _ => trivial) ?_
  have h9 := hR.1
  have hx : Int.tmod (σ.2.1 32 9 + (k : Int)) 60 = ((((σ.2.1 32 9).toNat + k) % 60 : Nat) : Int) := by
    rw [Int.tmod_eq_emod_of_nonneg (by omega)]
    omega
  refine am_aload_n (q := 1) rfl (am_tab tk_X1_rowAt 0 rfl) rfl ?_
  refine am_getR (q := 4) (a := 32) (k := 1) (n := 11) (j := 8) (r := some (36)) (Ls_32 hL) (by decide) rfl (Lr_32_8 hL) (by decide) (Or.inl kf_X1_25) (am_tab tk_X1_rowAt 1 rfl) rfl ?_
  refine am_aload_n (q := 5) rfl (am_tab tk_X1_rowAt 2 rfl) rfl ?_
  refine am_getI (q := 8) (a := 32) (k := 1) (n := 11) (j := 9) (x := (σ.2.1 32 9)) (Ls_32 hL) (by decide) rfl rfl (by decide) (Or.inl kf_X1_55) (am_tab tk_X1_rowAt 3 rfl) rfl ?_
  refine am_iload_n (q := 9) rfl (am_tab tk_X1_rowAt 4 rfl) rfl ?_
  refine am_iadd (q := 10) (by omega) (am_tab tk_X1_rowAt 5 rfl) rfl ?_
  refine am_bipush (q := 12) (n := 60) (by decide) rfl (am_tab tk_X1_rowAt 6 rfl) rfl ?_
  refine am_irem (q := 13) (by omega) (by omega) (am_tab tk_X1_rowAt 7 rfl) rfl ?_
  refine am_iald (q := 14) (a := 36) (n := 60) (x := (rwV g k)) (Ls_36 hL) (by rw [hx]; omega) (by rw [hx]; omega) (by rw [show Int.toNat (Int.tmod (σ.2.1 32 9 + (k : Int)) 60) = ((σ.2.1 32 9).toNat + k) % 60 by omega]; exact hR.2.2 k hk) (am_tab tk_X1_rowAt 8 rfl) rfl ?_
  refine am_iret (Or.inl rfl) (Nat.le_of_ble_eq_true rfl) (Nat.le_of_ble_eq_true rfl) (am_tab tk_X1_rowAt 9 rfl) ?_
  refine hQ _ _ ?_
  exact ⟨rfl, rfl⟩
theorem c_toldOn (σ : am_H) (hL : lay σ) (d : Int) (hd : 0 ≤ d ∧ d ≤ 90) : am_met M_X1_toldOn [am_r 32, am_i d] σ (fun r σ' => r = some (am_i (σ.2.1 34 d.toNat)) ∧ σ' = σ) := by
  refine am_qq (fun Q hQ => ?_)
  refine am_enter (show plainFor yX1_toldOn = true by decide +kernel) rfl (Nat.le_of_ble_eq_true rfl) (fun _ _ _ => trivial) ?_
  refine am_iload_n (q := 1) rfl (am_tab tk_X1_toldOn 0 rfl) rfl ?_
  refine am_if_lt (q := 4) (t := 22) (am_tab tk_X1_toldOn 1 rfl) (by decide) rfl (fun h1 => ?_) (fun h1 => ?_)
  · exact absurd h1 (by omega)
  · refine am_iload_n (q := 5) rfl (am_tab tk_X1_toldOn 2 rfl) rfl ?_
    refine am_aload_n (q := 6) rfl (am_tab tk_X1_toldOn 3 rfl) rfl ?_
    refine am_getR (q := 9) (a := 32) (k := 1) (n := 11) (j := 6) (r := some (34)) (Ls_32 hL) (by decide) rfl (Lr_32_6 hL) (by decide) (Or.inl kf_X1_19) (am_tab tk_X1_toldOn 4 rfl) rfl ?_
    refine am_alen (q := 10) (a := 34) (k := 11) (n := 91) (Ls_34 hL) (by decide) (by decide) (am_tab tk_X1_toldOn 5 rfl) rfl ?_
    refine am_icmp_ge (q := 13) (t := 22) (am_tab tk_X1_toldOn 6 rfl) (by decide) rfl (fun h10 => ?_) (fun h10 => ?_)
    · exact absurd h10 (by omega)
    · refine am_aload_n (q := 14) rfl (am_tab tk_X1_toldOn 7 rfl) rfl ?_
      refine am_getR (q := 17) (a := 32) (k := 1) (n := 11) (j := 6) (r := some (34)) (Ls_32 hL) (by decide) rfl (Lr_32_6 hL) (by decide) (Or.inl kf_X1_19) (am_tab tk_X1_toldOn 8 rfl) rfl ?_
      refine am_iload_n (q := 18) rfl (am_tab tk_X1_toldOn 9 rfl) rfl ?_
      refine am_iald (q := 19) (a := 34) (n := 91) (x := (σ.2.1 34 (Int.toNat d))) (Ls_34 hL) (by omega) (by omega) rfl (am_tab tk_X1_toldOn 10 rfl) rfl ?_
      refine am_goto (t := 23) (am_tab tk_X1_toldOn 11 rfl) (by decide) ?_
      refine am_iret (Or.inl rfl) (Nat.le_of_ble_eq_true rfl) (Nat.le_of_ble_eq_true rfl) (am_tab tk_X1_toldOn 13 rfl) ?_
      refine hQ _ _ ?_
      exact ⟨rfl, rfl⟩
set_option maxRecDepth 100000 in
theorem c_isLaw_3 (σ : am_H) (hC : CI 3 σ) (tt : Int) (hR : RWr 32 σ (fun j => σ.2.1 96 j)) (hO : ROK (fun j => σ.2.1 96 j)) : am_met M_X9_isLaw [am_r 0, am_i tt] σ (fun r σ' => r = some (am_i (b2i (lawB σ tt))) ∧ frw (fun a _ => a = 53) σ σ') := by
  refine am_qq (fun Q hQ => ?_)
  refine am_enter (show plainFor yX9_isLaw = true by decide +kernel) rfl (Nat.le_of_ble_eq_true rfl) (fun _ _ _ => trivial) ?_
  have hL := hC.G.L
  have h8 : pN σ ≤ 8 := by have := hC.G.R.P; unfold pN; omega
  have hpn : (pN σ : Int) = σ.2.1 85 5 := by have := hC.G.R.P; unfold pN; omega
  have hkm := hC.G.R.kept
  refine am_aload_n (q := 1) rfl (am_tab tk_X9_isLaw 0 rfl) rfl ?_
  refine am_getR (q := 4) (a := 0) (k := 9) (n := 17) (j := 12) (r := some (53)) (Ls_0 hL) (by decide) rfl (Lr_0_12 hL) (by decide) (Or.inl kf_X9_75) (am_tab tk_X9_isLaw 1 rfl) rfl ?_
  refine am_iconst (q := 5) (n := 0) (by decide) (am_tab tk_X9_isLaw 2 rfl) rfl ?_
  refine am_callS0 (q := 8) (me2 := M_J7_fill_53178) (As := [am_r 53, am_i 0]) (rest := []) (out := []) (c_fill σ 53 8 0 (Ls_53 hL) (by decide)) ⟨rfl, rfl⟩ ⟨Or.inl km_X9_351, kc_J7_fill_53178, kn_J7, kd_J7_fill_53178, ⟨(Nat.le_of_ble_eq_true rfl), (Nat.le_of_ble_eq_true rfl)⟩, ⟨(Nat.le_of_ble_eq_true rfl), (Nat.le_of_ble_eq_true rfl)⟩, (Nat.le_of_ble_eq_true rfl)⟩ ki_J7_fill_53178 rfl rfl (am_tab tk_X9_isLaw 3 rfl) rfl ?_
  refine am_iconst (q := 9) (n := 0) (by decide) (am_tab tk_X9_isLaw 4 rfl) rfl ?_
  refine am_istore_n (q := 10) (by decide) (ls2 := [(2, am_i 0), (0, am_r 0), (1, am_i tt)]) rfl (am_tab tk_X9_isLaw 5 rfl) rfl ?_
  have L10 : ∀ (n10 : Nat) (k : Nat) (S : am_H), 60 - k < n10 → (k : Int) ≤ σ.2.1 96 202 → frw (fun a _ => a = 53) σ S → (∀ q : Nat, q < 8 → q < pN σ → S.2.1 53 q = lwA σ tt k q) → anyB (lwB σ tt) k = false → am_wp M_X9_isLaw Q 0 0 10 [(2, am_i ((k : Int))), (0, am_r 0), (1, am_i tt)] [] S := by
    intro n10
    induction n10 with
    | zero => intro k S hn10; exact absurd hn10 (Nat.not_lt_zero _)
    | succ n10 ih10 =>
      intro k S hn10 hk hFS hqs hno
      refine am_iload_n (q := 11) rfl (am_tab tk_X9_isLaw 6 rfl) rfl ?_
      refine am_aload_n (q := 12) rfl (am_tab tk_X9_isLaw 7 rfl) rfl ?_
      refine am_getR (q := 15) (a := 0) (k := 9) (n := 17) (j := 4) (r := some (32)) (Ls_0 (hFS.L hL)) (by decide) rfl (Lr_0_4 (hFS.L hL)) (by decide) (Or.inl kf_X9_38) (am_tab tk_X9_isLaw 8 rfl) rfl ?_
      refine am_getI (q := 18) (a := 32) (k := 1) (n := 11) (j := 10) (x := (σ.2.1 96 202)) (Ls_32 (hFS.L hL)) (by decide) rfl ((hFS.2.2 32 10 (by omega)).trans hR.2.1) (by decide) (Or.inr kf_X9_160) (am_tab tk_X9_isLaw 9 rfl) rfl ?_
      refine am_icmp_ge (q := 21) (t := 141) (am_tab tk_X9_isLaw 10 rfl) (by decide) rfl (fun h18 => ?_) (fun h18 => ?_)
      · refine am_iconst (q := 142) (n := 1) (by decide) (am_tab tk_X9_isLaw 71 rfl) rfl ?_
        refine am_iret (Or.inr ⟨rfl, by first | exact Or.inl rfl | exact Or.inr rfl | omega⟩) (Nat.le_of_ble_eq_true rfl) (Nat.le_of_ble_eq_true rfl) (am_tab tk_X9_isLaw 72 rfl) ?_
        refine hQ _ _ ?_
        refine ⟨congrArg (fun z => some (am_i z)) ?_, hFS⟩
        have h9 : lawB σ tt = true := by
          unfold lawB
          rw [← show k = (σ.2.1 96 202).toNat by omega, hno]; rfl
        rw [h9]; rfl
      · have hok : (0 ≤ σ.2.1 96 (203 + 4 * k) ∧ σ.2.1 96 (203 + 4 * k) ≤ 999) ∧ (0 ≤ σ.2.1 96 (204 + 4 * k) ∧ σ.2.1 96 (204 + 4 * k) ≤ 90) ∧ (0 ≤ σ.2.1 96 (205 + 4 * k) ∧ σ.2.1 96 (205 + 4 * k) ≤ 8) ∧ (0 ≤ σ.2.1 96 (206 + 4 * k) ∧ σ.2.1 96 (206 + 4 * k) ≤ 1) := hO k (show (k : Int) < σ.2.1 96 202 by omega)
        have hdec := row_dec hok.1 hok.2.1 hok.2.2.1 hok.2.2.2
        have htd : S.2.1 34 (σ.2.1 96 (204 + 4 * k)).toNat = tdK σ k := by
          have h5 := hok.2.1
          rw [hFS.2.2 34 _ (by omega)]
          unfold tdK
          rw [show Int.toNat (20 + σ.2.1 96 (204 + 4 * k)) = 20 + (σ.2.1 96 (204 + 4 * k)).toNat by omega]
          exact hC.F.2.2.2.2.1 _ (by omega)
        have htr : 0 ≤ tdK σ k ∧ tdK σ k < 256 := by
          have h5 := hok.2.1
          unfold tdK
          rw [show Int.toNat (20 + σ.2.1 96 (204 + 4 * k)) = 20 + (σ.2.1 96 (204 + 4 * k)).toNat by omega]
          exact hC.G.R.told _ (by omega)
        refine am_aload_n (q := 22) rfl (am_tab tk_X9_isLaw 11 rfl) rfl ?_
        refine am_getR (q := 25) (a := 0) (k := 9) (n := 17) (j := 4) (r := some (32)) (Ls_0 (hFS.L hL)) (by decide) rfl (Lr_0_4 (hFS.L hL)) (by decide) (Or.inl kf_X9_38) (am_tab tk_X9_isLaw 12 rfl) rfl ?_
        refine am_iload_n (q := 26) rfl (am_tab tk_X9_isLaw 13 rfl) rfl ?_
        refine am_callV0 (q := 29) (me2 := M_X1_rowAt) (b := 32) (kb := 1) (nb := 11) (As := [am_i ((k : Int))]) (rest := []) (out := [am_i ((rwV (fun j => σ.2.1 96 j) k))]) (c_rowAt S (hFS.L hL) k (fun j => σ.2.1 96 j) (hR.fr hFS (by omega) (by omega) (by omega)) (by omega) hkm.2) ⟨rfl, rfl⟩ (Ls_32 (hFS.L hL)) (by decide) ⟨Or.inr km_X9_204, kc_X1_rowAt, kn_X1, kd_X1_rowAt, ⟨(Nat.le_of_ble_eq_true rfl), (Nat.le_of_ble_eq_true rfl)⟩, ⟨(Nat.le_of_ble_eq_true rfl), (Nat.le_of_ble_eq_true rfl)⟩, (Nat.le_of_ble_eq_true rfl)⟩ ki_X1_rowAt ks_X1_rowAt rfl rfl (am_tab tk_X9_isLaw 14 rfl) rfl ?_
        refine am_istore_n (q := 30) (by decide) (ls2 := [(3, am_i ((rwV (fun j => σ.2.1 96 j) k))), (2, am_i ((k : Int))), (0, am_r 0), (1, am_i tt)]) rfl (am_tab tk_X9_isLaw 15 rfl) rfl ?_
        refine am_aload_n (q := 31) rfl (am_tab tk_X9_isLaw 16 rfl) rfl ?_
        refine am_getR (q := 34) (a := 0) (k := 9) (n := 17) (j := 4) (r := some (32)) (Ls_0 (hFS.L hL)) (by decide) rfl (Lr_0_4 (hFS.L hL)) (by decide) (Or.inl kf_X9_38) (am_tab tk_X9_isLaw 17 rfl) rfl ?_
        refine am_iload_n (q := 35) rfl (am_tab tk_X9_isLaw 18 rfl) rfl ?_
        refine am_callSr (q := 38) (me2 := M_X1_rowDay) (As := [am_i ((rwV (fun j => σ.2.1 96 j) k))]) (rest := [am_r 32]) (c_X1_rowDay S (rwV (fun j => σ.2.1 96 j) k) hdec.1) ⟨rfl, rfl⟩ ⟨Or.inr km_X9_210, kc_X1_rowDay, kn_X1, kd_X1_rowDay, ⟨(Nat.le_of_ble_eq_true rfl), (Nat.le_of_ble_eq_true rfl)⟩, ⟨(Nat.le_of_ble_eq_true rfl), (Nat.le_of_ble_eq_true rfl)⟩, (Nat.le_of_ble_eq_true rfl)⟩ ki_X1_rowDay rfl (am_tab tk_X9_isLaw 19 rfl) rfl ?_
        rintro r τ ⟨hr9, hτ⟩
        rw [show (Int.tdiv (rwV (fun j => σ.2.1 96 j) k) 32).tmod 128 = σ.2.1 96 (204 + 4 * k) from hdec.2.2.1] at hr9
        rw [hr9, hτ]
        refine am_st (st2 := [am_i ((σ.2.1 96 (204 + 4 * k))), am_r 32]) rfl ?_
        refine am_callVr (q := 41) (me2 := M_X1_toldOn) (b := 32) (kb := 1) (nb := 11) (As := [am_i ((σ.2.1 96 (204 + 4 * k)))]) (rest := []) (c_toldOn S (hFS.L hL) (σ.2.1 96 (204 + 4 * k)) (by have := hok.2.1; omega)) ⟨rfl, rfl⟩ (Ls_32 (hFS.L hL)) (by decide) ⟨Or.inr km_X9_357, kc_X1_toldOn, kn_X1, kd_X1_toldOn, ⟨(Nat.le_of_ble_eq_true rfl), (Nat.le_of_ble_eq_true rfl)⟩, ⟨(Nat.le_of_ble_eq_true rfl), (Nat.le_of_ble_eq_true rfl)⟩, (Nat.le_of_ble_eq_true rfl)⟩ ki_X1_toldOn ks_X1_toldOn rfl (am_tab tk_X9_isLaw 20 rfl) rfl ?_
        rintro r τ ⟨hr9, hτ⟩
        rw [htd] at hr9
        rw [hr9, hτ]
        refine am_st (st2 := [am_i ((tdK σ k))]) rfl ?_
        refine am_istore (q := 43) (by decide) (ls2 := [(4, am_i ((tdK σ k))), (3, am_i ((rwV (fun j => σ.2.1 96 j) k))), (2, am_i ((k : Int))), (0, am_r 0), (1, am_i tt)]) rfl (am_tab tk_X9_isLaw 21 rfl) rfl ?_
        refine am_iconst (q := 44) (n := 0) (by decide) (am_tab tk_X9_isLaw 22 rfl) rfl ?_
        refine am_istore (q := 46) (by decide) (ls2 := [(5, am_i 0), (4, am_i ((tdK σ k))), (3, am_i ((rwV (fun j => σ.2.1 96 j) k))), (2, am_i ((k : Int))), (0, am_r 0), (1, am_i tt)]) rfl (am_tab tk_X9_isLaw 23 rfl) rfl ?_
        refine am_iconst (q := 47) (n := 0) (by decide) (am_tab tk_X9_isLaw 24 rfl) rfl ?_
        refine am_istore (q := 49) (by decide) (ls2 := [(6, am_i 0), (5, am_i 0), (4, am_i ((tdK σ k))), (3, am_i ((rwV (fun j => σ.2.1 96 j) k))), (2, am_i ((k : Int))), (0, am_r 0), (1, am_i tt)]) rfl (am_tab tk_X9_isLaw 25 rfl) rfl ?_
        have L49 : ∀ (n49 : Nat) (p : Nat) (T : am_H), 8 - p < n49 → frw (fun a _ => a = 53) σ T → p ≤ pN σ → (∀ q : Nat, q < 8 → T.2.1 53 q = if q < p then lwA σ tt (k + 1) q else (if q < pN σ then lwA σ tt k q else S.2.1 53 q)) → am_wp M_X9_isLaw Q 0 0 49 [(6, am_i ((p : Int))), (5, am_i ((sumN (lwI σ tt k) p))), (4, am_i ((tdK σ k))), (3, am_i ((rwV (fun j => σ.2.1 96 j) k))), (2, am_i ((k : Int))), (0, am_r 0), (1, am_i tt)] [] T := by
          intro n49
          induction n49 with
          | zero => intro p T hn49; exact absurd hn49 (Nat.not_lt_zero _)
          | succ n49 ih49 =>
            intro p T hn49 hFT hp hqa
            refine am_iload (q := 51) rfl (am_tab tk_X9_isLaw 26 rfl) rfl ?_
            refine am_aload_n (q := 52) rfl (am_tab tk_X9_isLaw 27 rfl) rfl ?_
            refine am_getR (q := 55) (a := 0) (k := 9) (n := 17) (j := 2) (r := some (3)) (Ls_0 (hFT.L hL)) (by decide) rfl ((congrFun (congrFun hFT.2.1 0) 2).trans hC.t) (by decide) (Or.inl kf_X9_19) (am_tab tk_X9_isLaw 28 rfl) rfl ?_
            refine am_getI (q := 58) (a := 3) (k := 8) (n := 17) (j := 2) (x := (σ.2.1 85 5)) (Ls_3 (hFT.L hL)) (by decide) rfl ((hFT.2.2 3 2 (by omega)).trans hC.W.people) (by decide) (Or.inr kf_X9_126) (am_tab tk_X9_isLaw 29 rfl) rfl ?_
            refine am_icmp_ge (q := 61) (t := 124) (am_tab tk_X9_isLaw 30 rfl) (by decide) rfl (fun h58 => ?_) (fun h58 => ?_)
            · refine am_iload (q := 126) rfl (am_tab tk_X9_isLaw 63 rfl) rfl ?_
              refine am_iload_n (q := 127) rfl (am_tab tk_X9_isLaw 64 rfl) rfl ?_
              refine am_callSr (q := 130) (me2 := M_X1_rowThinkers) (As := [am_i ((rwV (fun j => σ.2.1 96 j) k))]) (rest := [am_i ((sumN (lwI σ tt k) p))]) (c_X1_rowThinkers T (rwV (fun j => σ.2.1 96 j) k) hdec.1) ⟨rfl, rfl⟩ ⟨Or.inr km_X9_213, kc_X1_rowThinkers, kn_X1, kd_X1_rowThinkers, ⟨(Nat.le_of_ble_eq_true rfl), (Nat.le_of_ble_eq_true rfl)⟩, ⟨(Nat.le_of_ble_eq_true rfl), (Nat.le_of_ble_eq_true rfl)⟩, (Nat.le_of_ble_eq_true rfl)⟩ ki_X1_rowThinkers rfl (am_tab tk_X9_isLaw 65 rfl) rfl ?_
              rintro r τ ⟨hr9, hτ⟩
              rw [show (Int.tdiv (rwV (fun j => σ.2.1 96 j) k) 2).tmod 16 = σ.2.1 96 (205 + 4 * k) from hdec.2.2.2.1] at hr9
              rw [hr9, hτ]
              refine am_st (st2 := [am_i ((σ.2.1 96 (205 + 4 * k))), am_i ((sumN (lwI σ tt k) p))]) rfl ?_
              refine am_icmp_eq (q := 133) (t := 135) (am_tab tk_X9_isLaw 66 rfl) (by decide) rfl (fun h130 => ?_) (fun h130 => ?_)
              · refine am_iinc (q := 138) rfl (by omega) (by decide) (ls2 := [(2, am_i (((k : Int) + 1))), (6, am_i ((p : Int))), (5, am_i ((sumN (lwI σ tt k) p))), (4, am_i ((tdK σ k))), (3, am_i ((rwV (fun j => σ.2.1 96 j) k))), (0, am_r 0), (1, am_i tt)]) rfl (am_tab tk_X9_isLaw 69 rfl) rfl ?_
                refine am_goto (t := 10) (am_tab tk_X9_isLaw 70 rfl) (by decide) ?_
                exact am_less (by intro q hq; simp only [List.mem_cons, List.not_mem_nil, or_false] at hq; rcases hq with rfl | rfl | rfl <;> simp) (ih10 (k + 1) T (by omega) (by omega) hFT (fun q hq h5 => by rw [hqa q hq, if_pos (by omega)]) (anyB_f hno (by unfold lwB; rw [decide_eq_false_iff_not, show pN σ = p by omega]; exact fun h => h h130)))
              · refine am_iconst (q := 134) (n := 0) (by decide) (am_tab tk_X9_isLaw 67 rfl) rfl ?_
                refine am_iret (Or.inr ⟨rfl, by first | exact Or.inl rfl | exact Or.inr rfl | omega⟩) (Nat.le_of_ble_eq_true rfl) (Nat.le_of_ble_eq_true rfl) (am_tab tk_X9_isLaw 68 rfl) ?_
                refine hQ _ _ ?_
                refine ⟨congrArg (fun z => some (am_i z)) ?_, hFT⟩
                have h9 : lawB σ tt = false := by
                  unfold lawB
                  rw [anyB_t (i := k) (by unfold lwB; rw [decide_eq_true_eq, show pN σ = p by omega]; exact h130) (by omega)]; rfl
                rw [h9]; rfl
            · have hpp : p < pN σ := by omega
              have hlr := lwA_rng σ tt p k
              have hsr := sumN_rng (g := lwI σ tt k) (B := 1) p (fun i _ => by unfold lwI; split <;> omega)
              refine am_iload (q := 63) rfl (am_tab tk_X9_isLaw 31 rfl) rfl ?_
              refine am_iload (q := 65) rfl (am_tab tk_X9_isLaw 32 rfl) rfl ?_
              refine am_callS0 (q := 68) (me2 := M_X9_bit) (As := [am_i ((tdK σ k)), am_i ((p : Int))]) (rest := []) (out := [am_i (tb (tdK σ k) (p : Int))]) (c_bit T (tdK σ k) (p : Int) (htr) (by omega)) ⟨rfl, rfl⟩ ⟨Or.inl km_X9_185, kc_X9_bit, kn_X9, kd_X9_bit, ⟨(Nat.le_of_ble_eq_true rfl), (Nat.le_of_ble_eq_true rfl)⟩, ⟨(Nat.le_of_ble_eq_true rfl), (Nat.le_of_ble_eq_true rfl)⟩, (Nat.le_of_ble_eq_true rfl)⟩ ki_X9_bit rfl rfl (am_tab tk_X9_isLaw 33 rfl) rfl ?_
              refine am_iconst (q := 69) (n := 1) (by decide) (am_tab tk_X9_isLaw 34 rfl) rfl ?_
              refine am_icmp_eq (q := 72) (t := 83) (am_tab tk_X9_isLaw 35 rfl) (by decide) rfl (fun h69 => ?_) (fun h69 => ?_)
              · refine am_aload_n (q := 84) rfl (am_tab tk_X9_isLaw 42 rfl) rfl ?_
                refine am_getR (q := 87) (a := 0) (k := 9) (n := 17) (j := 12) (r := some (53)) (Ls_0 (hFT.L hL)) (by decide) rfl (Lr_0_12 (hFT.L hL)) (by decide) (Or.inl kf_X9_75) (am_tab tk_X9_isLaw 43 rfl) rfl ?_
                refine am_iload (q := 89) rfl (am_tab tk_X9_isLaw 44 rfl) rfl ?_
                refine am_iconst (q := 90) (n := 0) (by decide) (am_tab tk_X9_isLaw 45 rfl) rfl ?_
                refine am_iast (q := 91) (a := 53) (n := 8) (Ls_53 (hFT.L hL)) (by omega) (by omega) (am_tab tk_X9_isLaw 46 rfl) rfl ?_
                refine am_iinc (q := 94) rfl (by omega) (by decide) (ls2 := [(5, am_i (((sumN (lwI σ tt k) p) + 1))), (6, am_i ((p : Int))), (4, am_i ((tdK σ k))), (3, am_i ((rwV (fun j => σ.2.1 96 j) k))), (2, am_i ((k : Int))), (0, am_r 0), (1, am_i tt)]) rfl (am_tab tk_X9_isLaw 47 rfl) rfl ?_
                refine am_goto (t := 118) (am_tab tk_X9_isLaw 48 rfl) (by decide) ?_
                refine am_iinc (q := 121) rfl (by omega) (by decide) (ls2 := [(6, am_i (((p : Int) + 1))), (5, am_i (((sumN (lwI σ tt k) p) + 1))), (4, am_i ((tdK σ k))), (3, am_i ((rwV (fun j => σ.2.1 96 j) k))), (2, am_i ((k : Int))), (0, am_r 0), (1, am_i tt)]) rfl (am_tab tk_X9_isLaw 61 rfl) rfl ?_
                refine am_goto (t := 49) (am_tab tk_X9_isLaw 62 rfl) (by decide) ?_
                have hlw : lwA σ tt (k + 1) p = 0 := by
                  show (if _ then _ else _) = _
                  rw [if_pos (by omega)]
                have he : sumN (lwI σ tt k) (p + 1) = ((sumN (lwI σ tt k) p) + 1) := by
                  show sumN (lwI σ tt k) p + lwI σ tt k p = _
                  unfold lwI
                  rw [if_pos (by omega)]
                exact am_less (by intro q hq; simp only [List.mem_cons, List.not_mem_nil, or_false] at hq; rcases hq with rfl | rfl | rfl | rfl | rfl | rfl | rfl <;> simp [he]) (ih49 (p + 1) (am_setN T 53 (Int.toNat (p : Int)) 0) (by omega) (hFT.setN rfl) (by omega) (fun q hq => by show (if 53 = 53 ∧ q = Int.toNat (p : Int) then 0 else T.2.1 53 q) = _; by_cases g : q = p; (rw [if_pos ⟨rfl, by omega⟩, if_pos (by omega), g]; exact hlw.symm); (rw [if_neg (fun z => g (by omega)), hqa q hq]; by_cases g2 : q < p; (rw [if_pos g2, if_pos (by omega)]); (rw [if_neg g2, if_neg (show ¬ q < p + 1 by omega)]))))
              · refine am_aload_n (q := 73) rfl (am_tab tk_X9_isLaw 36 rfl) rfl ?_
                refine am_getR (q := 76) (a := 0) (k := 9) (n := 17) (j := 12) (r := some (53)) (Ls_0 (hFT.L hL)) (by decide) rfl (Lr_0_12 (hFT.L hL)) (by decide) (Or.inl kf_X9_75) (am_tab tk_X9_isLaw 37 rfl) rfl ?_
                refine am_iload (q := 78) rfl (am_tab tk_X9_isLaw 38 rfl) rfl ?_
                refine am_iald (q := 79) (a := 53) (n := 8) (x := (lwA σ tt k p)) (Ls_53 (hFT.L hL)) (by omega) (by omega) (by rw [show Int.toNat (p : Int) = p by omega, hqa p (by omega), if_neg (Nat.lt_irrefl p), if_pos hpp]) (am_tab tk_X9_isLaw 39 rfl) rfl ?_
                refine am_iload_n (q := 80) rfl (am_tab tk_X9_isLaw 40 rfl) rfl ?_
                refine am_icmp_le (q := 83) (t := 97) (am_tab tk_X9_isLaw 41 rfl) (by decide) rfl (fun h80 => ?_) (fun h80 => ?_)
                · refine am_aload_n (q := 98) rfl (am_tab tk_X9_isLaw 49 rfl) rfl ?_
                  refine am_getR (q := 101) (a := 0) (k := 9) (n := 17) (j := 12) (r := some (53)) (Ls_0 (hFT.L hL)) (by decide) rfl (Lr_0_12 (hFT.L hL)) (by decide) (Or.inl kf_X9_75) (am_tab tk_X9_isLaw 50 rfl) rfl ?_
                  refine am_iload (q := 103) rfl (am_tab tk_X9_isLaw 51 rfl) rfl ?_
                  refine am_bipush (q := 105) (n := 99) (by decide) rfl (am_tab tk_X9_isLaw 52 rfl) rfl ?_
                  refine am_aload_n (q := 106) rfl (am_tab tk_X9_isLaw 53 rfl) rfl ?_
                  refine am_getR (q := 109) (a := 0) (k := 9) (n := 17) (j := 12) (r := some (53)) (Ls_0 (hFT.L hL)) (by decide) rfl (Lr_0_12 (hFT.L hL)) (by decide) (Or.inl kf_X9_75) (am_tab tk_X9_isLaw 54 rfl) rfl ?_
                  refine am_iload (q := 111) rfl (am_tab tk_X9_isLaw 55 rfl) rfl ?_
                  refine am_iald (q := 112) (a := 53) (n := 8) (x := (lwA σ tt k p)) (Ls_53 (hFT.L hL)) (by omega) (by omega) (by rw [show Int.toNat (p : Int) = p by omega, hqa p (by omega), if_neg (Nat.lt_irrefl p), if_pos hpp]) (am_tab tk_X9_isLaw 56 rfl) rfl ?_
                  refine am_iconst (q := 113) (n := 1) (by decide) (am_tab tk_X9_isLaw 57 rfl) rfl ?_
                  refine am_iadd (q := 114) (by omega) (am_tab tk_X9_isLaw 58 rfl) rfl ?_
                  refine am_callS0 (q := 117) (me2 := M_J9_min_7cf53) (As := [am_i 99, am_i (((lwA σ tt k p) + 1))]) (rest := [am_i ((p : Int)), am_r 53]) (out := [am_i (min 99 ((lwA σ tt k p) + 1)), am_i ((p : Int)), am_r 53]) (c_min T 99 ((lwA σ tt k p) + 1)) ⟨rfl, rfl⟩ ⟨Or.inl km_X9_238, kc_J9_min_7cf53, kn_J9, kd_J9_min_7cf53, ⟨(Nat.le_of_ble_eq_true rfl), (Nat.le_of_ble_eq_true rfl)⟩, ⟨(Nat.le_of_ble_eq_true rfl), (Nat.le_of_ble_eq_true rfl)⟩, (Nat.le_of_ble_eq_true rfl)⟩ ki_J9_min_7cf53 rfl rfl (am_tab tk_X9_isLaw 59 rfl) rfl ?_
                  refine am_iast (q := 118) (a := 53) (n := 8) (Ls_53 (hFT.L hL)) (by omega) (by omega) (am_tab tk_X9_isLaw 60 rfl) rfl ?_
                  refine am_iinc (q := 121) rfl (by omega) (by decide) (ls2 := [(6, am_i (((p : Int) + 1))), (5, am_i ((sumN (lwI σ tt k) p))), (4, am_i ((tdK σ k))), (3, am_i ((rwV (fun j => σ.2.1 96 j) k))), (2, am_i ((k : Int))), (0, am_r 0), (1, am_i tt)]) rfl (am_tab tk_X9_isLaw 61 rfl) rfl ?_
                  refine am_goto (t := 49) (am_tab tk_X9_isLaw 62 rfl) (by decide) ?_
                  have hlw : lwA σ tt (k + 1) p = min 99 ((lwA σ tt k p) + 1) := by
                    show (if _ then _ else _) = _
                    rw [if_neg (by omega)]; split <;> omega
                  have he : sumN (lwI σ tt k) (p + 1) = (sumN (lwI σ tt k) p) := by
                    show sumN (lwI σ tt k) p + lwI σ tt k p = _
                    unfold lwI
                    rw [if_neg (by omega)]; omega
                  exact am_less (by intro q hq; simp only [List.mem_cons, List.not_mem_nil, or_false] at hq; rcases hq with rfl | rfl | rfl | rfl | rfl | rfl | rfl <;> simp [he]) (ih49 (p + 1) (am_setN T 53 (Int.toNat (p : Int)) (min 99 ((lwA σ tt k p) + 1))) (by omega) (hFT.setN rfl) (by omega) (fun q hq => by show (if 53 = 53 ∧ q = Int.toNat (p : Int) then min 99 ((lwA σ tt k p) + 1) else T.2.1 53 q) = _; by_cases g : q = p; (rw [if_pos ⟨rfl, by omega⟩, if_pos (by omega), g]; exact hlw.symm); (rw [if_neg (fun z => g (by omega)), hqa q hq]; by_cases g2 : q < p; (rw [if_pos g2, if_pos (by omega)]); (rw [if_neg g2, if_neg (show ¬ q < p + 1 by omega)]))))
                · refine am_aload_n (q := 84) rfl (am_tab tk_X9_isLaw 42 rfl) rfl ?_
                  refine am_getR (q := 87) (a := 0) (k := 9) (n := 17) (j := 12) (r := some (53)) (Ls_0 (hFT.L hL)) (by decide) rfl (Lr_0_12 (hFT.L hL)) (by decide) (Or.inl kf_X9_75) (am_tab tk_X9_isLaw 43 rfl) rfl ?_
                  refine am_iload (q := 89) rfl (am_tab tk_X9_isLaw 44 rfl) rfl ?_
                  refine am_iconst (q := 90) (n := 0) (by decide) (am_tab tk_X9_isLaw 45 rfl) rfl ?_
                  refine am_iast (q := 91) (a := 53) (n := 8) (Ls_53 (hFT.L hL)) (by omega) (by omega) (am_tab tk_X9_isLaw 46 rfl) rfl ?_
                  refine am_iinc (q := 94) rfl (by omega) (by decide) (ls2 := [(5, am_i (((sumN (lwI σ tt k) p) + 1))), (6, am_i ((p : Int))), (4, am_i ((tdK σ k))), (3, am_i ((rwV (fun j => σ.2.1 96 j) k))), (2, am_i ((k : Int))), (0, am_r 0), (1, am_i tt)]) rfl (am_tab tk_X9_isLaw 47 rfl) rfl ?_
                  refine am_goto (t := 118) (am_tab tk_X9_isLaw 48 rfl) (by decide) ?_
                  refine am_iinc (q := 121) rfl (by omega) (by decide) (ls2 := [(6, am_i (((p : Int) + 1))), (5, am_i (((sumN (lwI σ tt k) p) + 1))), (4, am_i ((tdK σ k))), (3, am_i ((rwV (fun j => σ.2.1 96 j) k))), (2, am_i ((k : Int))), (0, am_r 0), (1, am_i tt)]) rfl (am_tab tk_X9_isLaw 61 rfl) rfl ?_
                  refine am_goto (t := 49) (am_tab tk_X9_isLaw 62 rfl) (by decide) ?_
                  have hlw : lwA σ tt (k + 1) p = 0 := by
                    show (if _ then _ else _) = _
                    rw [if_pos (by omega)]
                  have he : sumN (lwI σ tt k) (p + 1) = ((sumN (lwI σ tt k) p) + 1) := by
                    show sumN (lwI σ tt k) p + lwI σ tt k p = _
                    unfold lwI
                    rw [if_pos (by omega)]
                  exact am_less (by intro q hq; simp only [List.mem_cons, List.not_mem_nil, or_false] at hq; rcases hq with rfl | rfl | rfl | rfl | rfl | rfl | rfl <;> simp [he]) (ih49 (p + 1) (am_setN T 53 (Int.toNat (p : Int)) 0) (by omega) (hFT.setN rfl) (by omega) (fun q hq => by show (if 53 = 53 ∧ q = Int.toNat (p : Int) then 0 else T.2.1 53 q) = _; by_cases g : q = p; (rw [if_pos ⟨rfl, by omega⟩, if_pos (by omega), g]; exact hlw.symm); (rw [if_neg (fun z => g (by omega)), hqa q hq]; by_cases g2 : q < p; (rw [if_pos g2, if_pos (by omega)]); (rw [if_neg g2, if_neg (show ¬ q < p + 1 by omega)]))))
        refine am_less (by intro q hq; simp only [List.mem_cons, List.not_mem_nil, or_false] at hq; rcases hq with rfl | rfl | rfl | rfl | rfl | rfl | rfl <;> simp [sumN]) (L49 (_ + 1) 0 S (by exact Nat.lt_succ_self _) hFS (Nat.zero_le _) (fun q hq => by rw [if_neg (Nat.not_lt_zero q)]; by_cases g : q < pN σ; (rw [if_pos g]; exact hqs q hq g); (rw [if_neg g])))
  refine am_less (by intro q hq; simp only [List.mem_cons, List.not_mem_nil, or_false] at hq; rcases hq with rfl | rfl | rfl <;> simp) (L10 (_ + 1) 0 (am_setA σ 53 (fun k => if k < 8 then 0 else σ.2.1 53 k)) (by exact Nat.lt_succ_self _) (by omega) ((frw.refl _ σ).setA (fun _ => rfl)) (fun q hq _ => by show (if q < 8 then (0 : Int) else σ.2.1 53 q) = 0; rw [if_pos hq]) rfl)
set_option maxRecDepth 100000 in
theorem c_isLaw_15 (σ : am_H) (hC : CI 15 σ) (tt : Int) (hR : RWr 32 σ (fun j => σ.2.1 96 j)) (hO : ROK (fun j => σ.2.1 96 j)) : am_met M_X9_isLaw [am_r 0, am_i tt] σ (fun r σ' => r = some (am_i (b2i (lawB σ tt))) ∧ frw (fun a _ => a = 53) σ σ') := by
  refine am_qq (fun Q hQ => ?_)
  refine am_enter (show plainFor yX9_isLaw = true by decide +kernel) rfl (Nat.le_of_ble_eq_true rfl) (fun _ _ _ => trivial) ?_
  have hL := hC.G.L
  have h8 : pN σ ≤ 8 := by have := hC.G.R.P; unfold pN; omega
  have hpn : (pN σ : Int) = σ.2.1 85 5 := by have := hC.G.R.P; unfold pN; omega
  have hkm := hC.G.R.kept
  refine am_aload_n (q := 1) rfl (am_tab tk_X9_isLaw 0 rfl) rfl ?_
  refine am_getR (q := 4) (a := 0) (k := 9) (n := 17) (j := 12) (r := some (53)) (Ls_0 hL) (by decide) rfl (Lr_0_12 hL) (by decide) (Or.inl kf_X9_75) (am_tab tk_X9_isLaw 1 rfl) rfl ?_
  refine am_iconst (q := 5) (n := 0) (by decide) (am_tab tk_X9_isLaw 2 rfl) rfl ?_
  refine am_callS0 (q := 8) (me2 := M_J7_fill_53178) (As := [am_r 53, am_i 0]) (rest := []) (out := []) (c_fill σ 53 8 0 (Ls_53 hL) (by decide)) ⟨rfl, rfl⟩ ⟨Or.inl km_X9_351, kc_J7_fill_53178, kn_J7, kd_J7_fill_53178, ⟨(Nat.le_of_ble_eq_true rfl), (Nat.le_of_ble_eq_true rfl)⟩, ⟨(Nat.le_of_ble_eq_true rfl), (Nat.le_of_ble_eq_true rfl)⟩, (Nat.le_of_ble_eq_true rfl)⟩ ki_J7_fill_53178 rfl rfl (am_tab tk_X9_isLaw 3 rfl) rfl ?_
  refine am_iconst (q := 9) (n := 0) (by decide) (am_tab tk_X9_isLaw 4 rfl) rfl ?_
  refine am_istore_n (q := 10) (by decide) (ls2 := [(2, am_i 0), (0, am_r 0), (1, am_i tt)]) rfl (am_tab tk_X9_isLaw 5 rfl) rfl ?_
  have L10 : ∀ (n10 : Nat) (k : Nat) (S : am_H), 60 - k < n10 → (k : Int) ≤ σ.2.1 96 202 → frw (fun a _ => a = 53) σ S → (∀ q : Nat, q < 8 → q < pN σ → S.2.1 53 q = lwA σ tt k q) → anyB (lwB σ tt) k = false → am_wp M_X9_isLaw Q 0 0 10 [(2, am_i ((k : Int))), (0, am_r 0), (1, am_i tt)] [] S := by
    intro n10
    induction n10 with
    | zero => intro k S hn10; exact absurd hn10 (Nat.not_lt_zero _)
    | succ n10 ih10 =>
      intro k S hn10 hk hFS hqs hno
      refine am_iload_n (q := 11) rfl (am_tab tk_X9_isLaw 6 rfl) rfl ?_
      refine am_aload_n (q := 12) rfl (am_tab tk_X9_isLaw 7 rfl) rfl ?_
      refine am_getR (q := 15) (a := 0) (k := 9) (n := 17) (j := 4) (r := some (32)) (Ls_0 (hFS.L hL)) (by decide) rfl (Lr_0_4 (hFS.L hL)) (by decide) (Or.inl kf_X9_38) (am_tab tk_X9_isLaw 8 rfl) rfl ?_
      refine am_getI (q := 18) (a := 32) (k := 1) (n := 11) (j := 10) (x := (σ.2.1 96 202)) (Ls_32 (hFS.L hL)) (by decide) rfl ((hFS.2.2 32 10 (by omega)).trans hR.2.1) (by decide) (Or.inr kf_X9_160) (am_tab tk_X9_isLaw 9 rfl) rfl ?_
      refine am_icmp_ge (q := 21) (t := 141) (am_tab tk_X9_isLaw 10 rfl) (by decide) rfl (fun h18 => ?_) (fun h18 => ?_)
      · refine am_iconst (q := 142) (n := 1) (by decide) (am_tab tk_X9_isLaw 71 rfl) rfl ?_
        refine am_iret (Or.inr ⟨rfl, by first | exact Or.inl rfl | exact Or.inr rfl | omega⟩) (Nat.le_of_ble_eq_true rfl) (Nat.le_of_ble_eq_true rfl) (am_tab tk_X9_isLaw 72 rfl) ?_
        refine hQ _ _ ?_
        refine ⟨congrArg (fun z => some (am_i z)) ?_, hFS⟩
        have h9 : lawB σ tt = true := by
          unfold lawB
          rw [← show k = (σ.2.1 96 202).toNat by omega, hno]; rfl
        rw [h9]; rfl
      · have hok : (0 ≤ σ.2.1 96 (203 + 4 * k) ∧ σ.2.1 96 (203 + 4 * k) ≤ 999) ∧ (0 ≤ σ.2.1 96 (204 + 4 * k) ∧ σ.2.1 96 (204 + 4 * k) ≤ 90) ∧ (0 ≤ σ.2.1 96 (205 + 4 * k) ∧ σ.2.1 96 (205 + 4 * k) ≤ 8) ∧ (0 ≤ σ.2.1 96 (206 + 4 * k) ∧ σ.2.1 96 (206 + 4 * k) ≤ 1) := hO k (show (k : Int) < σ.2.1 96 202 by omega)
        have hdec := row_dec hok.1 hok.2.1 hok.2.2.1 hok.2.2.2
        have htd : S.2.1 34 (σ.2.1 96 (204 + 4 * k)).toNat = tdK σ k := by
          have h5 := hok.2.1
          rw [hFS.2.2 34 _ (by omega)]
          unfold tdK
          rw [show Int.toNat (20 + σ.2.1 96 (204 + 4 * k)) = 20 + (σ.2.1 96 (204 + 4 * k)).toNat by omega]
          exact hC.F.2.2.2.2.1 _ (by omega)
        have htr : 0 ≤ tdK σ k ∧ tdK σ k < 256 := by
          have h5 := hok.2.1
          unfold tdK
          rw [show Int.toNat (20 + σ.2.1 96 (204 + 4 * k)) = 20 + (σ.2.1 96 (204 + 4 * k)).toNat by omega]
          exact hC.G.R.told _ (by omega)
        refine am_aload_n (q := 22) rfl (am_tab tk_X9_isLaw 11 rfl) rfl ?_
        refine am_getR (q := 25) (a := 0) (k := 9) (n := 17) (j := 4) (r := some (32)) (Ls_0 (hFS.L hL)) (by decide) rfl (Lr_0_4 (hFS.L hL)) (by decide) (Or.inl kf_X9_38) (am_tab tk_X9_isLaw 12 rfl) rfl ?_
        refine am_iload_n (q := 26) rfl (am_tab tk_X9_isLaw 13 rfl) rfl ?_
        refine am_callV0 (q := 29) (me2 := M_X1_rowAt) (b := 32) (kb := 1) (nb := 11) (As := [am_i ((k : Int))]) (rest := []) (out := [am_i ((rwV (fun j => σ.2.1 96 j) k))]) (c_rowAt S (hFS.L hL) k (fun j => σ.2.1 96 j) (hR.fr hFS (by omega) (by omega) (by omega)) (by omega) hkm.2) ⟨rfl, rfl⟩ (Ls_32 (hFS.L hL)) (by decide) ⟨Or.inr km_X9_204, kc_X1_rowAt, kn_X1, kd_X1_rowAt, ⟨(Nat.le_of_ble_eq_true rfl), (Nat.le_of_ble_eq_true rfl)⟩, ⟨(Nat.le_of_ble_eq_true rfl), (Nat.le_of_ble_eq_true rfl)⟩, (Nat.le_of_ble_eq_true rfl)⟩ ki_X1_rowAt ks_X1_rowAt rfl rfl (am_tab tk_X9_isLaw 14 rfl) rfl ?_
        refine am_istore_n (q := 30) (by decide) (ls2 := [(3, am_i ((rwV (fun j => σ.2.1 96 j) k))), (2, am_i ((k : Int))), (0, am_r 0), (1, am_i tt)]) rfl (am_tab tk_X9_isLaw 15 rfl) rfl ?_
        refine am_aload_n (q := 31) rfl (am_tab tk_X9_isLaw 16 rfl) rfl ?_
        refine am_getR (q := 34) (a := 0) (k := 9) (n := 17) (j := 4) (r := some (32)) (Ls_0 (hFS.L hL)) (by decide) rfl (Lr_0_4 (hFS.L hL)) (by decide) (Or.inl kf_X9_38) (am_tab tk_X9_isLaw 17 rfl) rfl ?_
        refine am_iload_n (q := 35) rfl (am_tab tk_X9_isLaw 18 rfl) rfl ?_
        refine am_callSr (q := 38) (me2 := M_X1_rowDay) (As := [am_i ((rwV (fun j => σ.2.1 96 j) k))]) (rest := [am_r 32]) (c_X1_rowDay S (rwV (fun j => σ.2.1 96 j) k) hdec.1) ⟨rfl, rfl⟩ ⟨Or.inr km_X9_210, kc_X1_rowDay, kn_X1, kd_X1_rowDay, ⟨(Nat.le_of_ble_eq_true rfl), (Nat.le_of_ble_eq_true rfl)⟩, ⟨(Nat.le_of_ble_eq_true rfl), (Nat.le_of_ble_eq_true rfl)⟩, (Nat.le_of_ble_eq_true rfl)⟩ ki_X1_rowDay rfl (am_tab tk_X9_isLaw 19 rfl) rfl ?_
        rintro r τ ⟨hr9, hτ⟩
        rw [show (Int.tdiv (rwV (fun j => σ.2.1 96 j) k) 32).tmod 128 = σ.2.1 96 (204 + 4 * k) from hdec.2.2.1] at hr9
        rw [hr9, hτ]
        refine am_st (st2 := [am_i ((σ.2.1 96 (204 + 4 * k))), am_r 32]) rfl ?_
        refine am_callVr (q := 41) (me2 := M_X1_toldOn) (b := 32) (kb := 1) (nb := 11) (As := [am_i ((σ.2.1 96 (204 + 4 * k)))]) (rest := []) (c_toldOn S (hFS.L hL) (σ.2.1 96 (204 + 4 * k)) (by have := hok.2.1; omega)) ⟨rfl, rfl⟩ (Ls_32 (hFS.L hL)) (by decide) ⟨Or.inr km_X9_357, kc_X1_toldOn, kn_X1, kd_X1_toldOn, ⟨(Nat.le_of_ble_eq_true rfl), (Nat.le_of_ble_eq_true rfl)⟩, ⟨(Nat.le_of_ble_eq_true rfl), (Nat.le_of_ble_eq_true rfl)⟩, (Nat.le_of_ble_eq_true rfl)⟩ ki_X1_toldOn ks_X1_toldOn rfl (am_tab tk_X9_isLaw 20 rfl) rfl ?_
        rintro r τ ⟨hr9, hτ⟩
        rw [htd] at hr9
        rw [hr9, hτ]
        refine am_st (st2 := [am_i ((tdK σ k))]) rfl ?_
        refine am_istore (q := 43) (by decide) (ls2 := [(4, am_i ((tdK σ k))), (3, am_i ((rwV (fun j => σ.2.1 96 j) k))), (2, am_i ((k : Int))), (0, am_r 0), (1, am_i tt)]) rfl (am_tab tk_X9_isLaw 21 rfl) rfl ?_
        refine am_iconst (q := 44) (n := 0) (by decide) (am_tab tk_X9_isLaw 22 rfl) rfl ?_
        refine am_istore (q := 46) (by decide) (ls2 := [(5, am_i 0), (4, am_i ((tdK σ k))), (3, am_i ((rwV (fun j => σ.2.1 96 j) k))), (2, am_i ((k : Int))), (0, am_r 0), (1, am_i tt)]) rfl (am_tab tk_X9_isLaw 23 rfl) rfl ?_
        refine am_iconst (q := 47) (n := 0) (by decide) (am_tab tk_X9_isLaw 24 rfl) rfl ?_
        refine am_istore (q := 49) (by decide) (ls2 := [(6, am_i 0), (5, am_i 0), (4, am_i ((tdK σ k))), (3, am_i ((rwV (fun j => σ.2.1 96 j) k))), (2, am_i ((k : Int))), (0, am_r 0), (1, am_i tt)]) rfl (am_tab tk_X9_isLaw 25 rfl) rfl ?_
        have L49 : ∀ (n49 : Nat) (p : Nat) (T : am_H), 8 - p < n49 → frw (fun a _ => a = 53) σ T → p ≤ pN σ → (∀ q : Nat, q < 8 → T.2.1 53 q = if q < p then lwA σ tt (k + 1) q else (if q < pN σ then lwA σ tt k q else S.2.1 53 q)) → am_wp M_X9_isLaw Q 0 0 49 [(6, am_i ((p : Int))), (5, am_i ((sumN (lwI σ tt k) p))), (4, am_i ((tdK σ k))), (3, am_i ((rwV (fun j => σ.2.1 96 j) k))), (2, am_i ((k : Int))), (0, am_r 0), (1, am_i tt)] [] T := by
          intro n49
          induction n49 with
          | zero => intro p T hn49; exact absurd hn49 (Nat.not_lt_zero _)
          | succ n49 ih49 =>
            intro p T hn49 hFT hp hqa
            refine am_iload (q := 51) rfl (am_tab tk_X9_isLaw 26 rfl) rfl ?_
            refine am_aload_n (q := 52) rfl (am_tab tk_X9_isLaw 27 rfl) rfl ?_
            refine am_getR (q := 55) (a := 0) (k := 9) (n := 17) (j := 2) (r := some (15)) (Ls_0 (hFT.L hL)) (by decide) rfl ((congrFun (congrFun hFT.2.1 0) 2).trans hC.t) (by decide) (Or.inl kf_X9_19) (am_tab tk_X9_isLaw 28 rfl) rfl ?_
            refine am_getI (q := 58) (a := 15) (k := 8) (n := 17) (j := 2) (x := (σ.2.1 85 5)) (Ls_15 (hFT.L hL)) (by decide) rfl ((hFT.2.2 15 2 (by omega)).trans hC.W.people) (by decide) (Or.inr kf_X9_126) (am_tab tk_X9_isLaw 29 rfl) rfl ?_
            refine am_icmp_ge (q := 61) (t := 124) (am_tab tk_X9_isLaw 30 rfl) (by decide) rfl (fun h58 => ?_) (fun h58 => ?_)
            · refine am_iload (q := 126) rfl (am_tab tk_X9_isLaw 63 rfl) rfl ?_
              refine am_iload_n (q := 127) rfl (am_tab tk_X9_isLaw 64 rfl) rfl ?_
              refine am_callSr (q := 130) (me2 := M_X1_rowThinkers) (As := [am_i ((rwV (fun j => σ.2.1 96 j) k))]) (rest := [am_i ((sumN (lwI σ tt k) p))]) (c_X1_rowThinkers T (rwV (fun j => σ.2.1 96 j) k) hdec.1) ⟨rfl, rfl⟩ ⟨Or.inr km_X9_213, kc_X1_rowThinkers, kn_X1, kd_X1_rowThinkers, ⟨(Nat.le_of_ble_eq_true rfl), (Nat.le_of_ble_eq_true rfl)⟩, ⟨(Nat.le_of_ble_eq_true rfl), (Nat.le_of_ble_eq_true rfl)⟩, (Nat.le_of_ble_eq_true rfl)⟩ ki_X1_rowThinkers rfl (am_tab tk_X9_isLaw 65 rfl) rfl ?_
              rintro r τ ⟨hr9, hτ⟩
              rw [show (Int.tdiv (rwV (fun j => σ.2.1 96 j) k) 2).tmod 16 = σ.2.1 96 (205 + 4 * k) from hdec.2.2.2.1] at hr9
              rw [hr9, hτ]
              refine am_st (st2 := [am_i ((σ.2.1 96 (205 + 4 * k))), am_i ((sumN (lwI σ tt k) p))]) rfl ?_
              refine am_icmp_eq (q := 133) (t := 135) (am_tab tk_X9_isLaw 66 rfl) (by decide) rfl (fun h130 => ?_) (fun h130 => ?_)
              · refine am_iinc (q := 138) rfl (by omega) (by decide) (ls2 := [(2, am_i (((k : Int) + 1))), (6, am_i ((p : Int))), (5, am_i ((sumN (lwI σ tt k) p))), (4, am_i ((tdK σ k))), (3, am_i ((rwV (fun j => σ.2.1 96 j) k))), (0, am_r 0), (1, am_i tt)]) rfl (am_tab tk_X9_isLaw 69 rfl) rfl ?_
                refine am_goto (t := 10) (am_tab tk_X9_isLaw 70 rfl) (by decide) ?_
                exact am_less (by intro q hq; simp only [List.mem_cons, List.not_mem_nil, or_false] at hq; rcases hq with rfl | rfl | rfl <;> simp) (ih10 (k + 1) T (by omega) (by omega) hFT (fun q hq h5 => by rw [hqa q hq, if_pos (by omega)]) (anyB_f hno (by unfold lwB; rw [decide_eq_false_iff_not, show pN σ = p by omega]; exact fun h => h h130)))
              · refine am_iconst (q := 134) (n := 0) (by decide) (am_tab tk_X9_isLaw 67 rfl) rfl ?_
                refine am_iret (Or.inr ⟨rfl, by first | exact Or.inl rfl | exact Or.inr rfl | omega⟩) (Nat.le_of_ble_eq_true rfl) (Nat.le_of_ble_eq_true rfl) (am_tab tk_X9_isLaw 68 rfl) ?_
                refine hQ _ _ ?_
                refine ⟨congrArg (fun z => some (am_i z)) ?_, hFT⟩
                have h9 : lawB σ tt = false := by
                  unfold lawB
                  rw [anyB_t (i := k) (by unfold lwB; rw [decide_eq_true_eq, show pN σ = p by omega]; exact h130) (by omega)]; rfl
                rw [h9]; rfl
            · have hpp : p < pN σ := by omega
              have hlr := lwA_rng σ tt p k
              have hsr := sumN_rng (g := lwI σ tt k) (B := 1) p (fun i _ => by unfold lwI; split <;> omega)
              refine am_iload (q := 63) rfl (am_tab tk_X9_isLaw 31 rfl) rfl ?_
              refine am_iload (q := 65) rfl (am_tab tk_X9_isLaw 32 rfl) rfl ?_
              refine am_callS0 (q := 68) (me2 := M_X9_bit) (As := [am_i ((tdK σ k)), am_i ((p : Int))]) (rest := []) (out := [am_i (tb (tdK σ k) (p : Int))]) (c_bit T (tdK σ k) (p : Int) (htr) (by omega)) ⟨rfl, rfl⟩ ⟨Or.inl km_X9_185, kc_X9_bit, kn_X9, kd_X9_bit, ⟨(Nat.le_of_ble_eq_true rfl), (Nat.le_of_ble_eq_true rfl)⟩, ⟨(Nat.le_of_ble_eq_true rfl), (Nat.le_of_ble_eq_true rfl)⟩, (Nat.le_of_ble_eq_true rfl)⟩ ki_X9_bit rfl rfl (am_tab tk_X9_isLaw 33 rfl) rfl ?_
              refine am_iconst (q := 69) (n := 1) (by decide) (am_tab tk_X9_isLaw 34 rfl) rfl ?_
              refine am_icmp_eq (q := 72) (t := 83) (am_tab tk_X9_isLaw 35 rfl) (by decide) rfl (fun h69 => ?_) (fun h69 => ?_)
              · refine am_aload_n (q := 84) rfl (am_tab tk_X9_isLaw 42 rfl) rfl ?_
                refine am_getR (q := 87) (a := 0) (k := 9) (n := 17) (j := 12) (r := some (53)) (Ls_0 (hFT.L hL)) (by decide) rfl (Lr_0_12 (hFT.L hL)) (by decide) (Or.inl kf_X9_75) (am_tab tk_X9_isLaw 43 rfl) rfl ?_
                refine am_iload (q := 89) rfl (am_tab tk_X9_isLaw 44 rfl) rfl ?_
                refine am_iconst (q := 90) (n := 0) (by decide) (am_tab tk_X9_isLaw 45 rfl) rfl ?_
                refine am_iast (q := 91) (a := 53) (n := 8) (Ls_53 (hFT.L hL)) (by omega) (by omega) (am_tab tk_X9_isLaw 46 rfl) rfl ?_
                refine am_iinc (q := 94) rfl (by omega) (by decide) (ls2 := [(5, am_i (((sumN (lwI σ tt k) p) + 1))), (6, am_i ((p : Int))), (4, am_i ((tdK σ k))), (3, am_i ((rwV (fun j => σ.2.1 96 j) k))), (2, am_i ((k : Int))), (0, am_r 0), (1, am_i tt)]) rfl (am_tab tk_X9_isLaw 47 rfl) rfl ?_
                refine am_goto (t := 118) (am_tab tk_X9_isLaw 48 rfl) (by decide) ?_
                refine am_iinc (q := 121) rfl (by omega) (by decide) (ls2 := [(6, am_i (((p : Int) + 1))), (5, am_i (((sumN (lwI σ tt k) p) + 1))), (4, am_i ((tdK σ k))), (3, am_i ((rwV (fun j => σ.2.1 96 j) k))), (2, am_i ((k : Int))), (0, am_r 0), (1, am_i tt)]) rfl (am_tab tk_X9_isLaw 61 rfl) rfl ?_
                refine am_goto (t := 49) (am_tab tk_X9_isLaw 62 rfl) (by decide) ?_
                have hlw : lwA σ tt (k + 1) p = 0 := by
                  show (if _ then _ else _) = _
                  rw [if_pos (by omega)]
                have he : sumN (lwI σ tt k) (p + 1) = ((sumN (lwI σ tt k) p) + 1) := by
                  show sumN (lwI σ tt k) p + lwI σ tt k p = _
                  unfold lwI
                  rw [if_pos (by omega)]
                exact am_less (by intro q hq; simp only [List.mem_cons, List.not_mem_nil, or_false] at hq; rcases hq with rfl | rfl | rfl | rfl | rfl | rfl | rfl <;> simp [he]) (ih49 (p + 1) (am_setN T 53 (Int.toNat (p : Int)) 0) (by omega) (hFT.setN rfl) (by omega) (fun q hq => by show (if 53 = 53 ∧ q = Int.toNat (p : Int) then 0 else T.2.1 53 q) = _; by_cases g : q = p; (rw [if_pos ⟨rfl, by omega⟩, if_pos (by omega), g]; exact hlw.symm); (rw [if_neg (fun z => g (by omega)), hqa q hq]; by_cases g2 : q < p; (rw [if_pos g2, if_pos (by omega)]); (rw [if_neg g2, if_neg (show ¬ q < p + 1 by omega)]))))
              · refine am_aload_n (q := 73) rfl (am_tab tk_X9_isLaw 36 rfl) rfl ?_
                refine am_getR (q := 76) (a := 0) (k := 9) (n := 17) (j := 12) (r := some (53)) (Ls_0 (hFT.L hL)) (by decide) rfl (Lr_0_12 (hFT.L hL)) (by decide) (Or.inl kf_X9_75) (am_tab tk_X9_isLaw 37 rfl) rfl ?_
                refine am_iload (q := 78) rfl (am_tab tk_X9_isLaw 38 rfl) rfl ?_
                refine am_iald (q := 79) (a := 53) (n := 8) (x := (lwA σ tt k p)) (Ls_53 (hFT.L hL)) (by omega) (by omega) (by rw [show Int.toNat (p : Int) = p by omega, hqa p (by omega), if_neg (Nat.lt_irrefl p), if_pos hpp]) (am_tab tk_X9_isLaw 39 rfl) rfl ?_
                refine am_iload_n (q := 80) rfl (am_tab tk_X9_isLaw 40 rfl) rfl ?_
                refine am_icmp_le (q := 83) (t := 97) (am_tab tk_X9_isLaw 41 rfl) (by decide) rfl (fun h80 => ?_) (fun h80 => ?_)
                · refine am_aload_n (q := 98) rfl (am_tab tk_X9_isLaw 49 rfl) rfl ?_
                  refine am_getR (q := 101) (a := 0) (k := 9) (n := 17) (j := 12) (r := some (53)) (Ls_0 (hFT.L hL)) (by decide) rfl (Lr_0_12 (hFT.L hL)) (by decide) (Or.inl kf_X9_75) (am_tab tk_X9_isLaw 50 rfl) rfl ?_
                  refine am_iload (q := 103) rfl (am_tab tk_X9_isLaw 51 rfl) rfl ?_
                  refine am_bipush (q := 105) (n := 99) (by decide) rfl (am_tab tk_X9_isLaw 52 rfl) rfl ?_
                  refine am_aload_n (q := 106) rfl (am_tab tk_X9_isLaw 53 rfl) rfl ?_
                  refine am_getR (q := 109) (a := 0) (k := 9) (n := 17) (j := 12) (r := some (53)) (Ls_0 (hFT.L hL)) (by decide) rfl (Lr_0_12 (hFT.L hL)) (by decide) (Or.inl kf_X9_75) (am_tab tk_X9_isLaw 54 rfl) rfl ?_
                  refine am_iload (q := 111) rfl (am_tab tk_X9_isLaw 55 rfl) rfl ?_
                  refine am_iald (q := 112) (a := 53) (n := 8) (x := (lwA σ tt k p)) (Ls_53 (hFT.L hL)) (by omega) (by omega) (by rw [show Int.toNat (p : Int) = p by omega, hqa p (by omega), if_neg (Nat.lt_irrefl p), if_pos hpp]) (am_tab tk_X9_isLaw 56 rfl) rfl ?_
                  refine am_iconst (q := 113) (n := 1) (by decide) (am_tab tk_X9_isLaw 57 rfl) rfl ?_
                  refine am_iadd (q := 114) (by omega) (am_tab tk_X9_isLaw 58 rfl) rfl ?_
                  refine am_callS0 (q := 117) (me2 := M_J9_min_7cf53) (As := [am_i 99, am_i (((lwA σ tt k p) + 1))]) (rest := [am_i ((p : Int)), am_r 53]) (out := [am_i (min 99 ((lwA σ tt k p) + 1)), am_i ((p : Int)), am_r 53]) (c_min T 99 ((lwA σ tt k p) + 1)) ⟨rfl, rfl⟩ ⟨Or.inl km_X9_238, kc_J9_min_7cf53, kn_J9, kd_J9_min_7cf53, ⟨(Nat.le_of_ble_eq_true rfl), (Nat.le_of_ble_eq_true rfl)⟩, ⟨(Nat.le_of_ble_eq_true rfl), (Nat.le_of_ble_eq_true rfl)⟩, (Nat.le_of_ble_eq_true rfl)⟩ ki_J9_min_7cf53 rfl rfl (am_tab tk_X9_isLaw 59 rfl) rfl ?_
                  refine am_iast (q := 118) (a := 53) (n := 8) (Ls_53 (hFT.L hL)) (by omega) (by omega) (am_tab tk_X9_isLaw 60 rfl) rfl ?_
                  refine am_iinc (q := 121) rfl (by omega) (by decide) (ls2 := [(6, am_i (((p : Int) + 1))), (5, am_i ((sumN (lwI σ tt k) p))), (4, am_i ((tdK σ k))), (3, am_i ((rwV (fun j => σ.2.1 96 j) k))), (2, am_i ((k : Int))), (0, am_r 0), (1, am_i tt)]) rfl (am_tab tk_X9_isLaw 61 rfl) rfl ?_
                  refine am_goto (t := 49) (am_tab tk_X9_isLaw 62 rfl) (by decide) ?_
                  have hlw : lwA σ tt (k + 1) p = min 99 ((lwA σ tt k p) + 1) := by
                    show (if _ then _ else _) = _
                    rw [if_neg (by omega)]; split <;> omega
                  have he : sumN (lwI σ tt k) (p + 1) = (sumN (lwI σ tt k) p) := by
                    show sumN (lwI σ tt k) p + lwI σ tt k p = _
                    unfold lwI
                    rw [if_neg (by omega)]; omega
                  exact am_less (by intro q hq; simp only [List.mem_cons, List.not_mem_nil, or_false] at hq; rcases hq with rfl | rfl | rfl | rfl | rfl | rfl | rfl <;> simp [he]) (ih49 (p + 1) (am_setN T 53 (Int.toNat (p : Int)) (min 99 ((lwA σ tt k p) + 1))) (by omega) (hFT.setN rfl) (by omega) (fun q hq => by show (if 53 = 53 ∧ q = Int.toNat (p : Int) then min 99 ((lwA σ tt k p) + 1) else T.2.1 53 q) = _; by_cases g : q = p; (rw [if_pos ⟨rfl, by omega⟩, if_pos (by omega), g]; exact hlw.symm); (rw [if_neg (fun z => g (by omega)), hqa q hq]; by_cases g2 : q < p; (rw [if_pos g2, if_pos (by omega)]); (rw [if_neg g2, if_neg (show ¬ q < p + 1 by omega)]))))
                · refine am_aload_n (q := 84) rfl (am_tab tk_X9_isLaw 42 rfl) rfl ?_
                  refine am_getR (q := 87) (a := 0) (k := 9) (n := 17) (j := 12) (r := some (53)) (Ls_0 (hFT.L hL)) (by decide) rfl (Lr_0_12 (hFT.L hL)) (by decide) (Or.inl kf_X9_75) (am_tab tk_X9_isLaw 43 rfl) rfl ?_
                  refine am_iload (q := 89) rfl (am_tab tk_X9_isLaw 44 rfl) rfl ?_
                  refine am_iconst (q := 90) (n := 0) (by decide) (am_tab tk_X9_isLaw 45 rfl) rfl ?_
                  refine am_iast (q := 91) (a := 53) (n := 8) (Ls_53 (hFT.L hL)) (by omega) (by omega) (am_tab tk_X9_isLaw 46 rfl) rfl ?_
                  refine am_iinc (q := 94) rfl (by omega) (by decide) (ls2 := [(5, am_i (((sumN (lwI σ tt k) p) + 1))), (6, am_i ((p : Int))), (4, am_i ((tdK σ k))), (3, am_i ((rwV (fun j => σ.2.1 96 j) k))), (2, am_i ((k : Int))), (0, am_r 0), (1, am_i tt)]) rfl (am_tab tk_X9_isLaw 47 rfl) rfl ?_
                  refine am_goto (t := 118) (am_tab tk_X9_isLaw 48 rfl) (by decide) ?_
                  refine am_iinc (q := 121) rfl (by omega) (by decide) (ls2 := [(6, am_i (((p : Int) + 1))), (5, am_i (((sumN (lwI σ tt k) p) + 1))), (4, am_i ((tdK σ k))), (3, am_i ((rwV (fun j => σ.2.1 96 j) k))), (2, am_i ((k : Int))), (0, am_r 0), (1, am_i tt)]) rfl (am_tab tk_X9_isLaw 61 rfl) rfl ?_
                  refine am_goto (t := 49) (am_tab tk_X9_isLaw 62 rfl) (by decide) ?_
                  have hlw : lwA σ tt (k + 1) p = 0 := by
                    show (if _ then _ else _) = _
                    rw [if_pos (by omega)]
                  have he : sumN (lwI σ tt k) (p + 1) = ((sumN (lwI σ tt k) p) + 1) := by
                    show sumN (lwI σ tt k) p + lwI σ tt k p = _
                    unfold lwI
                    rw [if_pos (by omega)]
                  exact am_less (by intro q hq; simp only [List.mem_cons, List.not_mem_nil, or_false] at hq; rcases hq with rfl | rfl | rfl | rfl | rfl | rfl | rfl <;> simp [he]) (ih49 (p + 1) (am_setN T 53 (Int.toNat (p : Int)) 0) (by omega) (hFT.setN rfl) (by omega) (fun q hq => by show (if 53 = 53 ∧ q = Int.toNat (p : Int) then 0 else T.2.1 53 q) = _; by_cases g : q = p; (rw [if_pos ⟨rfl, by omega⟩, if_pos (by omega), g]; exact hlw.symm); (rw [if_neg (fun z => g (by omega)), hqa q hq]; by_cases g2 : q < p; (rw [if_pos g2, if_pos (by omega)]); (rw [if_neg g2, if_neg (show ¬ q < p + 1 by omega)]))))
        refine am_less (by intro q hq; simp only [List.mem_cons, List.not_mem_nil, or_false] at hq; rcases hq with rfl | rfl | rfl | rfl | rfl | rfl | rfl <;> simp [sumN]) (L49 (_ + 1) 0 S (by exact Nat.lt_succ_self _) hFS (Nat.zero_le _) (fun q hq => by rw [if_neg (Nat.not_lt_zero q)]; by_cases g : q < pN σ; (rw [if_pos g]; exact hqs q hq g); (rw [if_neg g])))
  refine am_less (by intro q hq; simp only [List.mem_cons, List.not_mem_nil, or_false] at hq; rcases hq with rfl | rfl | rfl <;> simp) (L10 (_ + 1) 0 (am_setA σ 53 (fun k => if k < 8 then 0 else σ.2.1 53 k)) (by exact Nat.lt_succ_self _) (by omega) ((frw.refl _ σ).setA (fun _ => rfl)) (fun q hq _ => by show (if q < 8 then (0 : Int) else σ.2.1 53 q) = 0; rw [if_pos hq]) rfl)
theorem lF_1 {σ : am_H} : ∀ m : Nat, 0 ≤ (lF σ m).1 ∧ (lF σ m).1 ≤ m
  | 0 => ⟨Int.le_refl _, Int.le_refl _⟩
  | m + 1 => by
    have ih := lF_1 (σ := σ) m
    unfold lF
    split
    · show 0 ≤ (lF σ m).1 + 1 ∧ (lF σ m).1 + 1 ≤ ((m + 1 : Nat) : Int)
      push_cast
      omega
    · push_cast
      omega
theorem RWr.cq {σ τ : am_H} {g : Nat → Int} (h : RWr 32 σ g) (hQ : CQ σ τ) : RWr 32 τ g := by
  obtain ⟨h1, h2, h3⟩ := h
  have e9 : τ.2.1 32 9 = σ.2.1 32 9 := hQ.2.2 32 9 (by unfold W_cq; omega)
  refine ⟨by rw [e9]; exact h1, by rw [hQ.2.2 32 10 (by unfold W_cq; omega)]; exact h2, fun k hk => ?_⟩
  rw [e9, hQ.2.2 (32 + 4) _ (by unfold W_cq; omega)]
  exact h3 k hk
set_option maxRecDepth 100000 in
theorem c_law_3 (σ : am_H) (hC : CI 3 σ) (w : Int) (hR : RWr 32 σ (fun j => σ.2.1 96 j)) (hO : ROK (fun j => σ.2.1 96 j)) : am_met M_X9_law [am_r 0, am_i w] σ (fun r σ' => r = some (am_i (lawM σ w)) ∧ CQ σ σ') := by
  refine am_qq (fun Q hQ => ?_)
  refine am_enter (show plainFor yX9_law = true by decide +kernel) rfl (Nat.le_of_ble_eq_true rfl) (fun _ _ _ => trivial) ?_
  have hL := hC.G.L
  refine am_iload_n (q := 1) rfl (am_tab tk_X9_law 0 rfl) rfl ?_
  refine am_if_lt (q := 4) (t := 19) (am_tab tk_X9_law 1 rfl) (by decide) rfl (fun h1 => ?_) (fun h1 => ?_)
  · refine am_iconst (q := 20) (n := (-1)) (by decide) (am_tab tk_X9_law 9 rfl) rfl ?_
    refine am_iret (Or.inl rfl) (Nat.le_of_ble_eq_true rfl) (Nat.le_of_ble_eq_true rfl) (am_tab tk_X9_law 10 rfl) ?_
    refine hQ _ _ ?_
    refine ⟨congrArg (fun z => some (am_i z)) ?_, CQ.refl σ⟩
    unfold lawM
    rw [if_neg (by omega)]
  · refine am_iload_n (q := 5) rfl (am_tab tk_X9_law 2 rfl) rfl ?_
    refine am_iconst (q := 6) (n := 2) (by decide) (am_tab tk_X9_law 3 rfl) rfl ?_
    refine am_icmp_gt (q := 9) (t := 19) (am_tab tk_X9_law 4 rfl) (by decide) rfl (fun h6 => ?_) (fun h6 => ?_)
    · refine am_iconst (q := 20) (n := (-1)) (by decide) (am_tab tk_X9_law 9 rfl) rfl ?_
      refine am_iret (Or.inl rfl) (Nat.le_of_ble_eq_true rfl) (Nat.le_of_ble_eq_true rfl) (am_tab tk_X9_law 10 rfl) ?_
      refine hQ _ _ ?_
      refine ⟨congrArg (fun z => some (am_i z)) ?_, CQ.refl σ⟩
      unfold lawM
      rw [if_neg (by omega)]
    · refine am_aload_n (q := 10) rfl (am_tab tk_X9_law 5 rfl) rfl ?_
      refine am_getR (q := 13) (a := 0) (k := 9) (n := 17) (j := 4) (r := some (32)) (Ls_0 hL) (by decide) rfl (Lr_0_4 hL) (by decide) (Or.inl kf_X9_38) (am_tab tk_X9_law 6 rfl) rfl ?_
      refine am_getI (q := 16) (a := 32) (k := 1) (n := 11) (j := 10) (x := (σ.2.1 96 202)) (Ls_32 hL) (by decide) rfl hR.2.1 (by decide) (Or.inr kf_X9_160) (am_tab tk_X9_law 7 rfl) rfl ?_
      refine am_if_ne (q := 19) (t := 21) (am_tab tk_X9_law 8 rfl) (by decide) rfl (fun h16 => ?_) (fun h16 => ?_)
      · refine am_iconst (q := 22) (n := 0) (by decide) (am_tab tk_X9_law 11 rfl) rfl ?_
        refine am_istore_n (q := 23) (by decide) (ls2 := [(2, am_i 0), (0, am_r 0), (1, am_i w)]) rfl (am_tab tk_X9_law 12 rfl) rfl ?_
        refine am_iconst (q := 24) (n := (-1)) (by decide) (am_tab tk_X9_law 13 rfl) rfl ?_
        refine am_istore_n (q := 25) (by decide) (ls2 := [(3, am_i ((-1))), (2, am_i 0), (0, am_r 0), (1, am_i w)]) rfl (am_tab tk_X9_law 14 rfl) rfl ?_
        refine am_iconst (q := 26) (n := (-1)) (by decide) (am_tab tk_X9_law 15 rfl) rfl ?_
        refine am_istore (q := 28) (by decide) (ls2 := [(4, am_i ((-1))), (3, am_i ((-1))), (2, am_i 0), (0, am_r 0), (1, am_i w)]) rfl (am_tab tk_X9_law 16 rfl) rfl ?_
        refine am_iconst (q := 29) (n := 0) (by decide) (am_tab tk_X9_law 17 rfl) rfl ?_
        refine am_istore (q := 31) (by decide) (ls2 := [(5, am_i 0), (4, am_i ((-1))), (3, am_i ((-1))), (2, am_i 0), (0, am_r 0), (1, am_i w)]) rfl (am_tab tk_X9_law 18 rfl) rfl ?_
        have L31 : ∀ (n31 : Nat) (m : Nat) (S : am_H), 99 - m < n31 → m ≤ 99 → CQ σ S → am_wp M_X9_law Q 0 0 31 [(5, am_i ((m : Int))), (4, am_i ((lF σ m).2.2)), (3, am_i ((lF σ m).2.1)), (2, am_i ((lF σ m).1)), (0, am_r 0), (1, am_i w)] [] S := by
          intro n31
          induction n31 with
          | zero => intro m S hn31; exact absurd hn31 (Nat.not_lt_zero _)
          | succ n31 ih31 =>
            intro m S hn31 hm2 hq
            refine am_iload (q := 33) rfl (am_tab tk_X9_law 19 rfl) rfl ?_
            refine am_bipush (q := 35) (n := 99) (by decide) rfl (am_tab tk_X9_law 20 rfl) rfl ?_
            refine am_icmp_ge (q := 38) (t := 72) (am_tab tk_X9_law 21 rfl) (by decide) rfl (fun h35 => ?_) (fun h35 => ?_)
            · refine am_iload_n (q := 73) rfl (am_tab tk_X9_law 38 rfl) rfl ?_
              refine am_if_ne (q := 76) (t := 78) (am_tab tk_X9_law 39 rfl) (by decide) rfl (fun h73 => ?_) (fun h73 => ?_)
              · refine am_iload_n (q := 79) rfl (am_tab tk_X9_law 42 rfl) rfl ?_
                refine am_iconst (q := 80) (n := 1) (by decide) (am_tab tk_X9_law 43 rfl) rfl ?_
                refine am_icmp_ne (q := 83) (t := 87) (am_tab tk_X9_law 44 rfl) (by decide) rfl (fun h80 => ?_) (fun h80 => ?_)
                · refine am_iload (q := 89) rfl (am_tab tk_X9_law 47 rfl) rfl ?_
                  refine am_iret (Or.inl rfl) (Nat.le_of_ble_eq_true rfl) (Nat.le_of_ble_eq_true rfl) (am_tab tk_X9_law 48 rfl) ?_
                  refine hQ _ _ ?_
                  refine ⟨congrArg (fun z => some (am_i z)) ?_, hq⟩
                  unfold lawM
                  rw [if_pos (by omega), show (99 : Nat) = m by omega]
                  first | (rw [if_pos (by omega)]; done) | (rw [if_neg (by omega), if_pos (by omega)]; done) | (rw [if_neg (by omega), if_neg (by omega)]; done)
                · refine am_iload_n (q := 84) rfl (am_tab tk_X9_law 45 rfl) rfl ?_
                  refine am_goto (t := 89) (am_tab tk_X9_law 46 rfl) (by decide) ?_
                  refine am_iret (Or.inl rfl) (Nat.le_of_ble_eq_true rfl) (Nat.le_of_ble_eq_true rfl) (am_tab tk_X9_law 48 rfl) ?_
                  refine hQ _ _ ?_
                  refine ⟨congrArg (fun z => some (am_i z)) ?_, hq⟩
                  unfold lawM
                  rw [if_pos (by omega), show (99 : Nat) = m by omega]
                  first | (rw [if_pos (by omega)]; done) | (rw [if_neg (by omega), if_pos (by omega)]; done) | (rw [if_neg (by omega), if_neg (by omega)]; done)
              · refine am_iload_n (q := 77) rfl (am_tab tk_X9_law 40 rfl) rfl ?_
                refine am_iret (Or.inl rfl) (Nat.le_of_ble_eq_true rfl) (Nat.le_of_ble_eq_true rfl) (am_tab tk_X9_law 41 rfl) ?_
                refine hQ _ _ ?_
                refine ⟨congrArg (fun z => some (am_i z)) ?_, hq⟩
                unfold lawM
                rw [if_pos (by omega), show (99 : Nat) = m by omega]
                first | (rw [if_pos (by omega)]; done) | (rw [if_neg (by omega), if_pos (by omega)]; done) | (rw [if_neg (by omega), if_neg (by omega)]; done)
            · refine am_aload_n (q := 39) rfl (am_tab tk_X9_law 22 rfl) rfl ?_
              refine am_iload (q := 41) rfl (am_tab tk_X9_law 23 rfl) rfl ?_
              refine am_callVr (q := 44) (me2 := M_X9_isLaw) (b := 0) (kb := 9) (nb := 17) (As := [am_i ((m : Int))]) (rest := []) (c_isLaw_3 S (hC.cq hq (by decide)) (m : Int) (by rw [show (fun j => S.2.1 96 j) = (fun j => σ.2.1 96 j) from funext (fun j => hq.2.2 96 j (by unfold W_cq; omega))]; exact hR.cq hq) (by rw [show (fun j => S.2.1 96 j) = (fun j => σ.2.1 96 j) from funext (fun j => hq.2.2 96 j (by unfold W_cq; omega))]; exact hO)) ⟨rfl, rfl⟩ (Ls_0 (hq.L hC.G.L)) (by decide) ⟨Or.inl km_X9_294, kc_X9_isLaw, kn_X9, kd_X9_isLaw, ⟨(Nat.le_of_ble_eq_true rfl), (Nat.le_of_ble_eq_true rfl)⟩, ⟨(Nat.le_of_ble_eq_true rfl), (Nat.le_of_ble_eq_true rfl)⟩, (Nat.le_of_ble_eq_true rfl)⟩ ki_X9_isLaw ks_X9_isLaw rfl (am_tab tk_X9_law 24 rfl) rfl ?_
              rintro r T ⟨hr9, hFT⟩
              have e96 : (fun j => S.2.1 96 j) = (fun j => σ.2.1 96 j) := funext (fun j => hq.2.2 96 j (by unfold W_cq; omega))
              rw [lawB_eq (cn_eq (fun a j h1 h2 => hq.2.2 a j (by unfold W_cq; omega)))] at hr9
              subst hr9
              have hqT : CQ σ T := hq.trans (hFT.cq (fun a j h => by unfold W_cq; omega))
              refine am_st (st2 := [am_i (b2i (lawB σ (m : Int)))]) rfl ?_
              refine am_if_eq (q := 47) (t := 66) (am_tab tk_X9_law 25 rfl) (by decide) rfl (fun h44 => ?_) (fun h44 => ?_)
              · refine am_iinc (q := 69) rfl (by omega) (by decide) (ls2 := [(5, am_i (((m : Int) + 1))), (4, am_i ((lF σ m).2.2)), (3, am_i ((lF σ m).2.1)), (2, am_i ((lF σ m).1)), (0, am_r 0), (1, am_i w)]) rfl (am_tab tk_X9_law 36 rfl) rfl ?_
                refine am_goto (t := 31) (am_tab tk_X9_law 37 rfl) (by decide) ?_
                have he : lF σ (m + 1) = ((lF σ m).1, (lF σ m).2.1, (lF σ m).2.2) := by
                  conv => lhs; unfold lF
                  rw [if_neg (b2f9 h44)]
                exact am_less (by intro q hq; simp only [List.mem_cons, List.not_mem_nil, or_false] at hq; rcases hq with rfl | rfl | rfl | rfl | rfl | rfl <;> simp [he]) (ih31 (m + 1) T (by omega) (by omega) hqT)
              · have ht1 := lF_1 (σ := σ) m
                refine am_iinc (q := 50) rfl (by omega) (by decide) (ls2 := [(2, am_i ((((lF σ m).1) + 1))), (5, am_i ((m : Int))), (4, am_i ((lF σ m).2.2)), (3, am_i ((lF σ m).2.1)), (0, am_r 0), (1, am_i w)]) rfl (am_tab tk_X9_law 26 rfl) rfl ?_
                refine am_iload_n (q := 51) rfl (am_tab tk_X9_law 27 rfl) rfl ?_
                refine am_iconst (q := 52) (n := (-1)) (by decide) (am_tab tk_X9_law 28 rfl) rfl ?_
                refine am_icmp_ne (q := 55) (t := 60) (am_tab tk_X9_law 29 rfl) (by decide) rfl (fun h52 => ?_) (fun h52 => ?_)
                · refine am_iload_n (q := 61) rfl (am_tab tk_X9_law 32 rfl) rfl ?_
                  refine am_istore_n (q := 62) (by decide) (ls2 := [(3, am_i ((lF σ m).2.1)), (2, am_i ((((lF σ m).1) + 1))), (5, am_i ((m : Int))), (4, am_i ((lF σ m).2.2)), (0, am_r 0), (1, am_i w)]) rfl (am_tab tk_X9_law 33 rfl) rfl ?_
                  refine am_iload (q := 64) rfl (am_tab tk_X9_law 34 rfl) rfl ?_
                  refine am_istore (q := 66) (by decide) (ls2 := [(4, am_i ((m : Int))), (3, am_i ((lF σ m).2.1)), (2, am_i ((((lF σ m).1) + 1))), (5, am_i ((m : Int))), (0, am_r 0), (1, am_i w)]) rfl (am_tab tk_X9_law 35 rfl) rfl ?_
                  refine am_iinc (q := 69) rfl (by omega) (by decide) (ls2 := [(5, am_i (((m : Int) + 1))), (4, am_i ((m : Int))), (3, am_i ((lF σ m).2.1)), (2, am_i ((((lF σ m).1) + 1))), (0, am_r 0), (1, am_i w)]) rfl (am_tab tk_X9_law 36 rfl) rfl ?_
                  refine am_goto (t := 31) (am_tab tk_X9_law 37 rfl) (by decide) ?_
                  have he : lF σ (m + 1) = ((((lF σ m).1) + 1), (lF σ m).2.1, (m : Int)) := by
                    conv => lhs; unfold lF
                    rw [if_pos (b2t9 h44), if_neg h52]
                  exact am_less (by intro q hq; simp only [List.mem_cons, List.not_mem_nil, or_false] at hq; rcases hq with rfl | rfl | rfl | rfl | rfl | rfl <;> simp [he]) (ih31 (m + 1) T (by omega) (by omega) hqT)
                · refine am_iload (q := 57) rfl (am_tab tk_X9_law 30 rfl) rfl ?_
                  refine am_goto (t := 61) (am_tab tk_X9_law 31 rfl) (by decide) ?_
                  refine am_istore_n (q := 62) (by decide) (ls2 := [(3, am_i ((m : Int))), (2, am_i ((((lF σ m).1) + 1))), (5, am_i ((m : Int))), (4, am_i ((lF σ m).2.2)), (0, am_r 0), (1, am_i w)]) rfl (am_tab tk_X9_law 33 rfl) rfl ?_
                  refine am_iload (q := 64) rfl (am_tab tk_X9_law 34 rfl) rfl ?_
                  refine am_istore (q := 66) (by decide) (ls2 := [(4, am_i ((m : Int))), (3, am_i ((m : Int))), (2, am_i ((((lF σ m).1) + 1))), (5, am_i ((m : Int))), (0, am_r 0), (1, am_i w)]) rfl (am_tab tk_X9_law 35 rfl) rfl ?_
                  refine am_iinc (q := 69) rfl (by omega) (by decide) (ls2 := [(5, am_i (((m : Int) + 1))), (4, am_i ((m : Int))), (3, am_i ((m : Int))), (2, am_i ((((lF σ m).1) + 1))), (0, am_r 0), (1, am_i w)]) rfl (am_tab tk_X9_law 36 rfl) rfl ?_
                  refine am_goto (t := 31) (am_tab tk_X9_law 37 rfl) (by decide) ?_
                  have he : lF σ (m + 1) = ((((lF σ m).1) + 1), (m : Int), (m : Int)) := by
                    conv => lhs; unfold lF
                    rw [if_pos (b2t9 h44), if_pos h52]
                  exact am_less (by intro q hq; simp only [List.mem_cons, List.not_mem_nil, or_false] at hq; rcases hq with rfl | rfl | rfl | rfl | rfl | rfl <;> simp [he]) (ih31 (m + 1) T (by omega) (by omega) hqT)
        refine am_less (by intro q hq; simp only [List.mem_cons, List.not_mem_nil, or_false] at hq; rcases hq with rfl | rfl | rfl | rfl | rfl | rfl <;> simp [lF]) (L31 (_ + 1) 0 σ (by exact Nat.lt_succ_self _) (by omega) (CQ.refl σ))
      · refine am_iconst (q := 20) (n := (-1)) (by decide) (am_tab tk_X9_law 9 rfl) rfl ?_
        refine am_iret (Or.inl rfl) (Nat.le_of_ble_eq_true rfl) (Nat.le_of_ble_eq_true rfl) (am_tab tk_X9_law 10 rfl) ?_
        refine hQ _ _ ?_
        refine ⟨congrArg (fun z => some (am_i z)) ?_, CQ.refl σ⟩
        unfold lawM
        rw [if_neg (by omega)]
set_option maxRecDepth 100000 in
theorem c_law_15 (σ : am_H) (hC : CI 15 σ) (w : Int) (hR : RWr 32 σ (fun j => σ.2.1 96 j)) (hO : ROK (fun j => σ.2.1 96 j)) : am_met M_X9_law [am_r 0, am_i w] σ (fun r σ' => r = some (am_i (lawM σ w)) ∧ CQ σ σ') := by
  refine am_qq (fun Q hQ => ?_)
  refine am_enter (show plainFor yX9_law = true by decide +kernel) rfl (Nat.le_of_ble_eq_true rfl) (fun _ _ _ => trivial) ?_
  have hL := hC.G.L
  refine am_iload_n (q := 1) rfl (am_tab tk_X9_law 0 rfl) rfl ?_
  refine am_if_lt (q := 4) (t := 19) (am_tab tk_X9_law 1 rfl) (by decide) rfl (fun h1 => ?_) (fun h1 => ?_)
  · refine am_iconst (q := 20) (n := (-1)) (by decide) (am_tab tk_X9_law 9 rfl) rfl ?_
    refine am_iret (Or.inl rfl) (Nat.le_of_ble_eq_true rfl) (Nat.le_of_ble_eq_true rfl) (am_tab tk_X9_law 10 rfl) ?_
    refine hQ _ _ ?_
    refine ⟨congrArg (fun z => some (am_i z)) ?_, CQ.refl σ⟩
    unfold lawM
    rw [if_neg (by omega)]
  · refine am_iload_n (q := 5) rfl (am_tab tk_X9_law 2 rfl) rfl ?_
    refine am_iconst (q := 6) (n := 2) (by decide) (am_tab tk_X9_law 3 rfl) rfl ?_
    refine am_icmp_gt (q := 9) (t := 19) (am_tab tk_X9_law 4 rfl) (by decide) rfl (fun h6 => ?_) (fun h6 => ?_)
    · refine am_iconst (q := 20) (n := (-1)) (by decide) (am_tab tk_X9_law 9 rfl) rfl ?_
      refine am_iret (Or.inl rfl) (Nat.le_of_ble_eq_true rfl) (Nat.le_of_ble_eq_true rfl) (am_tab tk_X9_law 10 rfl) ?_
      refine hQ _ _ ?_
      refine ⟨congrArg (fun z => some (am_i z)) ?_, CQ.refl σ⟩
      unfold lawM
      rw [if_neg (by omega)]
    · refine am_aload_n (q := 10) rfl (am_tab tk_X9_law 5 rfl) rfl ?_
      refine am_getR (q := 13) (a := 0) (k := 9) (n := 17) (j := 4) (r := some (32)) (Ls_0 hL) (by decide) rfl (Lr_0_4 hL) (by decide) (Or.inl kf_X9_38) (am_tab tk_X9_law 6 rfl) rfl ?_
      refine am_getI (q := 16) (a := 32) (k := 1) (n := 11) (j := 10) (x := (σ.2.1 96 202)) (Ls_32 hL) (by decide) rfl hR.2.1 (by decide) (Or.inr kf_X9_160) (am_tab tk_X9_law 7 rfl) rfl ?_
      refine am_if_ne (q := 19) (t := 21) (am_tab tk_X9_law 8 rfl) (by decide) rfl (fun h16 => ?_) (fun h16 => ?_)
      · refine am_iconst (q := 22) (n := 0) (by decide) (am_tab tk_X9_law 11 rfl) rfl ?_
        refine am_istore_n (q := 23) (by decide) (ls2 := [(2, am_i 0), (0, am_r 0), (1, am_i w)]) rfl (am_tab tk_X9_law 12 rfl) rfl ?_
        refine am_iconst (q := 24) (n := (-1)) (by decide) (am_tab tk_X9_law 13 rfl) rfl ?_
        refine am_istore_n (q := 25) (by decide) (ls2 := [(3, am_i ((-1))), (2, am_i 0), (0, am_r 0), (1, am_i w)]) rfl (am_tab tk_X9_law 14 rfl) rfl ?_
        refine am_iconst (q := 26) (n := (-1)) (by decide) (am_tab tk_X9_law 15 rfl) rfl ?_
        refine am_istore (q := 28) (by decide) (ls2 := [(4, am_i ((-1))), (3, am_i ((-1))), (2, am_i 0), (0, am_r 0), (1, am_i w)]) rfl (am_tab tk_X9_law 16 rfl) rfl ?_
        refine am_iconst (q := 29) (n := 0) (by decide) (am_tab tk_X9_law 17 rfl) rfl ?_
        refine am_istore (q := 31) (by decide) (ls2 := [(5, am_i 0), (4, am_i ((-1))), (3, am_i ((-1))), (2, am_i 0), (0, am_r 0), (1, am_i w)]) rfl (am_tab tk_X9_law 18 rfl) rfl ?_
        have L31 : ∀ (n31 : Nat) (m : Nat) (S : am_H), 99 - m < n31 → m ≤ 99 → CQ σ S → am_wp M_X9_law Q 0 0 31 [(5, am_i ((m : Int))), (4, am_i ((lF σ m).2.2)), (3, am_i ((lF σ m).2.1)), (2, am_i ((lF σ m).1)), (0, am_r 0), (1, am_i w)] [] S := by
          intro n31
          induction n31 with
          | zero => intro m S hn31; exact absurd hn31 (Nat.not_lt_zero _)
          | succ n31 ih31 =>
            intro m S hn31 hm2 hq
            refine am_iload (q := 33) rfl (am_tab tk_X9_law 19 rfl) rfl ?_
            refine am_bipush (q := 35) (n := 99) (by decide) rfl (am_tab tk_X9_law 20 rfl) rfl ?_
            refine am_icmp_ge (q := 38) (t := 72) (am_tab tk_X9_law 21 rfl) (by decide) rfl (fun h35 => ?_) (fun h35 => ?_)
            · refine am_iload_n (q := 73) rfl (am_tab tk_X9_law 38 rfl) rfl ?_
              refine am_if_ne (q := 76) (t := 78) (am_tab tk_X9_law 39 rfl) (by decide) rfl (fun h73 => ?_) (fun h73 => ?_)
              · refine am_iload_n (q := 79) rfl (am_tab tk_X9_law 42 rfl) rfl ?_
                refine am_iconst (q := 80) (n := 1) (by decide) (am_tab tk_X9_law 43 rfl) rfl ?_
                refine am_icmp_ne (q := 83) (t := 87) (am_tab tk_X9_law 44 rfl) (by decide) rfl (fun h80 => ?_) (fun h80 => ?_)
                · refine am_iload (q := 89) rfl (am_tab tk_X9_law 47 rfl) rfl ?_
                  refine am_iret (Or.inl rfl) (Nat.le_of_ble_eq_true rfl) (Nat.le_of_ble_eq_true rfl) (am_tab tk_X9_law 48 rfl) ?_
                  refine hQ _ _ ?_
                  refine ⟨congrArg (fun z => some (am_i z)) ?_, hq⟩
                  unfold lawM
                  rw [if_pos (by omega), show (99 : Nat) = m by omega]
                  first | (rw [if_pos (by omega)]; done) | (rw [if_neg (by omega), if_pos (by omega)]; done) | (rw [if_neg (by omega), if_neg (by omega)]; done)
                · refine am_iload_n (q := 84) rfl (am_tab tk_X9_law 45 rfl) rfl ?_
                  refine am_goto (t := 89) (am_tab tk_X9_law 46 rfl) (by decide) ?_
                  refine am_iret (Or.inl rfl) (Nat.le_of_ble_eq_true rfl) (Nat.le_of_ble_eq_true rfl) (am_tab tk_X9_law 48 rfl) ?_
                  refine hQ _ _ ?_
                  refine ⟨congrArg (fun z => some (am_i z)) ?_, hq⟩
                  unfold lawM
                  rw [if_pos (by omega), show (99 : Nat) = m by omega]
                  first | (rw [if_pos (by omega)]; done) | (rw [if_neg (by omega), if_pos (by omega)]; done) | (rw [if_neg (by omega), if_neg (by omega)]; done)
              · refine am_iload_n (q := 77) rfl (am_tab tk_X9_law 40 rfl) rfl ?_
                refine am_iret (Or.inl rfl) (Nat.le_of_ble_eq_true rfl) (Nat.le_of_ble_eq_true rfl) (am_tab tk_X9_law 41 rfl) ?_
                refine hQ _ _ ?_
                refine ⟨congrArg (fun z => some (am_i z)) ?_, hq⟩
                unfold lawM
                rw [if_pos (by omega), show (99 : Nat) = m by omega]
                first | (rw [if_pos (by omega)]; done) | (rw [if_neg (by omega), if_pos (by omega)]; done) | (rw [if_neg (by omega), if_neg (by omega)]; done)
            · refine am_aload_n (q := 39) rfl (am_tab tk_X9_law 22 rfl) rfl ?_
              refine am_iload (q := 41) rfl (am_tab tk_X9_law 23 rfl) rfl ?_
              refine am_callVr (q := 44) (me2 := M_X9_isLaw) (b := 0) (kb := 9) (nb := 17) (As := [am_i ((m : Int))]) (rest := []) (c_isLaw_15 S (hC.cq hq (by decide)) (m : Int) (by rw [show (fun j => S.2.1 96 j) = (fun j => σ.2.1 96 j) from funext (fun j => hq.2.2 96 j (by unfold W_cq; omega))]; exact hR.cq hq) (by rw [show (fun j => S.2.1 96 j) = (fun j => σ.2.1 96 j) from funext (fun j => hq.2.2 96 j (by unfold W_cq; omega))]; exact hO)) ⟨rfl, rfl⟩ (Ls_0 (hq.L hC.G.L)) (by decide) ⟨Or.inl km_X9_294, kc_X9_isLaw, kn_X9, kd_X9_isLaw, ⟨(Nat.le_of_ble_eq_true rfl), (Nat.le_of_ble_eq_true rfl)⟩, ⟨(Nat.le_of_ble_eq_true rfl), (Nat.le_of_ble_eq_true rfl)⟩, (Nat.le_of_ble_eq_true rfl)⟩ ki_X9_isLaw ks_X9_isLaw rfl (am_tab tk_X9_law 24 rfl) rfl ?_
              rintro r T ⟨hr9, hFT⟩
              have e96 : (fun j => S.2.1 96 j) = (fun j => σ.2.1 96 j) := funext (fun j => hq.2.2 96 j (by unfold W_cq; omega))
              rw [lawB_eq (cn_eq (fun a j h1 h2 => hq.2.2 a j (by unfold W_cq; omega)))] at hr9
              subst hr9
              have hqT : CQ σ T := hq.trans (hFT.cq (fun a j h => by unfold W_cq; omega))
              refine am_st (st2 := [am_i (b2i (lawB σ (m : Int)))]) rfl ?_
              refine am_if_eq (q := 47) (t := 66) (am_tab tk_X9_law 25 rfl) (by decide) rfl (fun h44 => ?_) (fun h44 => ?_)
              · refine am_iinc (q := 69) rfl (by omega) (by decide) (ls2 := [(5, am_i (((m : Int) + 1))), (4, am_i ((lF σ m).2.2)), (3, am_i ((lF σ m).2.1)), (2, am_i ((lF σ m).1)), (0, am_r 0), (1, am_i w)]) rfl (am_tab tk_X9_law 36 rfl) rfl ?_
                refine am_goto (t := 31) (am_tab tk_X9_law 37 rfl) (by decide) ?_
                have he : lF σ (m + 1) = ((lF σ m).1, (lF σ m).2.1, (lF σ m).2.2) := by
                  conv => lhs; unfold lF
                  rw [if_neg (b2f9 h44)]
                exact am_less (by intro q hq; simp only [List.mem_cons, List.not_mem_nil, or_false] at hq; rcases hq with rfl | rfl | rfl | rfl | rfl | rfl <;> simp [he]) (ih31 (m + 1) T (by omega) (by omega) hqT)
              · have ht1 := lF_1 (σ := σ) m
                refine am_iinc (q := 50) rfl (by omega) (by decide) (ls2 := [(2, am_i ((((lF σ m).1) + 1))), (5, am_i ((m : Int))), (4, am_i ((lF σ m).2.2)), (3, am_i ((lF σ m).2.1)), (0, am_r 0), (1, am_i w)]) rfl (am_tab tk_X9_law 26 rfl) rfl ?_
                refine am_iload_n (q := 51) rfl (am_tab tk_X9_law 27 rfl) rfl ?_
                refine am_iconst (q := 52) (n := (-1)) (by decide) (am_tab tk_X9_law 28 rfl) rfl ?_
                refine am_icmp_ne (q := 55) (t := 60) (am_tab tk_X9_law 29 rfl) (by decide) rfl (fun h52 => ?_) (fun h52 => ?_)
                · refine am_iload_n (q := 61) rfl (am_tab tk_X9_law 32 rfl) rfl ?_
                  refine am_istore_n (q := 62) (by decide) (ls2 := [(3, am_i ((lF σ m).2.1)), (2, am_i ((((lF σ m).1) + 1))), (5, am_i ((m : Int))), (4, am_i ((lF σ m).2.2)), (0, am_r 0), (1, am_i w)]) rfl (am_tab tk_X9_law 33 rfl) rfl ?_
                  refine am_iload (q := 64) rfl (am_tab tk_X9_law 34 rfl) rfl ?_
                  refine am_istore (q := 66) (by decide) (ls2 := [(4, am_i ((m : Int))), (3, am_i ((lF σ m).2.1)), (2, am_i ((((lF σ m).1) + 1))), (5, am_i ((m : Int))), (0, am_r 0), (1, am_i w)]) rfl (am_tab tk_X9_law 35 rfl) rfl ?_
                  refine am_iinc (q := 69) rfl (by omega) (by decide) (ls2 := [(5, am_i (((m : Int) + 1))), (4, am_i ((m : Int))), (3, am_i ((lF σ m).2.1)), (2, am_i ((((lF σ m).1) + 1))), (0, am_r 0), (1, am_i w)]) rfl (am_tab tk_X9_law 36 rfl) rfl ?_
                  refine am_goto (t := 31) (am_tab tk_X9_law 37 rfl) (by decide) ?_
                  have he : lF σ (m + 1) = ((((lF σ m).1) + 1), (lF σ m).2.1, (m : Int)) := by
                    conv => lhs; unfold lF
                    rw [if_pos (b2t9 h44), if_neg h52]
                  exact am_less (by intro q hq; simp only [List.mem_cons, List.not_mem_nil, or_false] at hq; rcases hq with rfl | rfl | rfl | rfl | rfl | rfl <;> simp [he]) (ih31 (m + 1) T (by omega) (by omega) hqT)
                · refine am_iload (q := 57) rfl (am_tab tk_X9_law 30 rfl) rfl ?_
                  refine am_goto (t := 61) (am_tab tk_X9_law 31 rfl) (by decide) ?_
                  refine am_istore_n (q := 62) (by decide) (ls2 := [(3, am_i ((m : Int))), (2, am_i ((((lF σ m).1) + 1))), (5, am_i ((m : Int))), (4, am_i ((lF σ m).2.2)), (0, am_r 0), (1, am_i w)]) rfl (am_tab tk_X9_law 33 rfl) rfl ?_
                  refine am_iload (q := 64) rfl (am_tab tk_X9_law 34 rfl) rfl ?_
                  refine am_istore (q := 66) (by decide) (ls2 := [(4, am_i ((m : Int))), (3, am_i ((m : Int))), (2, am_i ((((lF σ m).1) + 1))), (5, am_i ((m : Int))), (0, am_r 0), (1, am_i w)]) rfl (am_tab tk_X9_law 35 rfl) rfl ?_
                  refine am_iinc (q := 69) rfl (by omega) (by decide) (ls2 := [(5, am_i (((m : Int) + 1))), (4, am_i ((m : Int))), (3, am_i ((m : Int))), (2, am_i ((((lF σ m).1) + 1))), (0, am_r 0), (1, am_i w)]) rfl (am_tab tk_X9_law 36 rfl) rfl ?_
                  refine am_goto (t := 31) (am_tab tk_X9_law 37 rfl) (by decide) ?_
                  have he : lF σ (m + 1) = ((((lF σ m).1) + 1), (m : Int), (m : Int)) := by
                    conv => lhs; unfold lF
                    rw [if_pos (b2t9 h44), if_pos h52]
                  exact am_less (by intro q hq; simp only [List.mem_cons, List.not_mem_nil, or_false] at hq; rcases hq with rfl | rfl | rfl | rfl | rfl | rfl <;> simp [he]) (ih31 (m + 1) T (by omega) (by omega) hqT)
        refine am_less (by intro q hq; simp only [List.mem_cons, List.not_mem_nil, or_false] at hq; rcases hq with rfl | rfl | rfl | rfl | rfl | rfl <;> simp [lF]) (L31 (_ + 1) 0 σ (by exact Nat.lt_succ_self _) (by omega) (CQ.refl σ))
      · refine am_iconst (q := 20) (n := (-1)) (by decide) (am_tab tk_X9_law 9 rfl) rfl ?_
        refine am_iret (Or.inl rfl) (Nat.le_of_ble_eq_true rfl) (Nat.le_of_ble_eq_true rfl) (am_tab tk_X9_law 10 rfl) ?_
        refine hQ _ _ ?_
        refine ⟨congrArg (fun z => some (am_i z)) ?_, CQ.refl σ⟩
        unfold lawM
        rw [if_neg (by omega)]
