theorem dv_td {v : Int} (hv : 0 ≤ v) : ∀ n, dv n v = v.tdiv (100 ^ n)
  | 0 => by show v = v.tdiv 1; rw [Int.tdiv_one]
  | n + 1 => by
    show (dv n v).tdiv 100 = _
    rw [dv_td hv n, Int.tdiv_eq_ediv_of_nonneg hv, Int.tdiv_eq_ediv_of_nonneg (Int.ediv_nonneg hv (Int.le_of_lt (Int.pow_pos (by decide)))), Int.tdiv_eq_ediv_of_nonneg hv, Int.pow_succ, Int.ediv_ediv, if_neg (fun h => absurd h.1 (by have : (0 : Int) < 100 ^ n := Int.pow_pos (by decide); omega)), Int.sub_zero]
theorem pw100 : ∀ i : Nat, i ≤ 8 → (1 : Int) ≤ 100 ^ i ∧ (100 : Int) ^ i ≤ 10000000000000000 := by decide
theorem pws {s : Int} (hs : 0 ≤ s ∧ s ≤ 100) : ∀ i : Nat, 0 ≤ s ^ i ∧ s ^ i ≤ 100 ^ i
  | 0 => by simp
  | i + 1 => by
    have ih := pws hs i
    rw [Int.pow_succ, Int.pow_succ]
    exact ⟨Int.mul_nonneg ih.1 hs.1, Int.mul_le_mul ih.2 hs.2 hs.1 (Int.le_of_lt (Int.pow_pos (by decide)))⟩
def cnP (s : Int) (i : Nat) : Int := s ^ i
def cnM (i : Nat) : Int := 100 ^ (3 - i)
def cnW (i : Nat) : Int := 100 ^ (i - 3)
theorem cnP_rng {s : Int} (hs : 0 ≤ s ∧ s ≤ 100) {i : Nat} (hi : i ≤ 8) : 0 ≤ cnP s i ∧ cnP s i ≤ 10000000000000000 := by
  have h1 := pws hs i
  have h2 := pw100 i hi
  unfold cnP
  omega
theorem cnM_rng (i : Nat) : 1 ≤ cnM i ∧ cnM i ≤ 1000000 := by
  unfold cnM
  rcases (show 3 - i = 0 ∨ 3 - i = 1 ∨ 3 - i = 2 ∨ 3 - i = 3 by omega) with h | h | h | h <;> rw [h] <;> decide
theorem cnW_rng {i : Nat} (hi : i ≤ 8) : 1 ≤ cnW i ∧ cnW i ≤ 10000000000 := by
  unfold cnW
  rcases (show i - 3 = 0 ∨ i - 3 = 1 ∨ i - 3 = 2 ∨ i - 3 = 3 ∨ i - 3 = 4 ∨ i - 3 = 5 by omega) with h | h | h | h | h | h <;> rw [h] <;> decide
theorem cnM_on {i : Nat} (hi : i < 3) : cnM (i + 1) = (cnM i).tdiv 100 := by
  rcases (show i = 0 ∨ i = 1 ∨ i = 2 by omega) with h | h | h <;> rw [h] <;> decide
theorem cnM_st {i : Nat} (hi : 3 ≤ i) : cnM (i + 1) = cnM i := by
  unfold cnM
  rw [show 3 - (i + 1) = 3 - i by omega]
theorem cnW_st {i : Nat} (hi : i < 3) : cnW (i + 1) = cnW i := by
  unfold cnW
  rw [show i + 1 - 3 = i - 3 by omega]
theorem cnW_on {i : Nat} (hi : 3 ≤ i) : cnW (i + 1) = cnW i * 100 := by
  unfold cnW
  rw [show i + 1 - 3 = (i - 3) + 1 by omega, Int.pow_succ]
theorem cn_end {s : Int} (hs : 0 ≤ s ∧ s ≤ 100) {i : Nat} (hi : i ≤ 8) : (0 ≤ cnP s i * cnM i ∧ cnP s i * cnM i ≤ 10000000000000000) ∧ slV s i = (cnP s i * cnM i).tdiv (cnW i) ∧ (0 ≤ slV s i ∧ slV s i ≤ 1000000) := by
  have hp := pws hs i
  have h1 := pw100 (3 - i) (by omega)
  have h9 := cnW_rng hi
  have hm : 0 ≤ cnP s i * cnM i ∧ cnP s i * cnM i ≤ 100 ^ i * 100 ^ (3 - i) := ⟨Int.mul_nonneg hp.1 (show 0 ≤ cnM i by have := cnM_rng i; omega), Int.mul_le_mul_of_nonneg_right hp.2 (show (0 : Int) ≤ 100 ^ (3 - i) by omega)⟩
  have hdv : slV s i = (cnP s i * cnM i).tdiv (cnW i) := by unfold slV; exact dv_td hm.1 _
  have hm2 : cnP s i * cnM i ≤ 1000000 * cnW i := by
    by_cases h3 : i ≤ 3
    · have h4 : (100 : Int) ^ i * 100 ^ (3 - i) = 1000000 := by
        rw [← Int.pow_add, show i + (3 - i) = 3 by omega]; rfl
      have h5 : cnW i = 1 := by unfold cnW; rw [show i - 3 = 0 by omega]; rfl
      omega
    · have h4 : (100 : Int) ^ i * 100 ^ (3 - i) = 1000000 * cnW i := by
        unfold cnW
        rw [show 3 - i = 0 by omega]
        have h6 : (100 : Int) ^ (3 + (i - 3)) = 100 ^ 3 * 100 ^ (i - 3) := Int.pow_add ..
        rw [show 3 + (i - 3) = i by omega] at h6
        rw [h6, show (100 : Int) ^ 0 = 1 from rfl, Int.mul_one]; rfl
      omega
  refine ⟨⟨hm.1, by omega⟩, hdv, ?_⟩
  rw [hdv, Int.tdiv_eq_ediv_of_nonneg hm.1]
  exact ⟨Int.ediv_nonneg hm.1 (by omega), Int.ediv_le_of_le_mul (by omega) hm2⟩
theorem c_hangsOn (S : am_H) (hL : lay S)  (x : Int) (hx : S.2.1 44 4 = x) (hxr : 0 ≤ x ∧ x < 256) : am_met M_X9_hangsOn [am_r 0] S (fun r σ' => r = some (am_i (if bc x = 1 then x else 0)) ∧ σ' = S) := by
  refine am_qq (fun Q hQ => ?_)
  refine am_enter (show plainFor yX9_hangsOn = true by decide +kernel) rfl (Nat.le_of_ble_eq_true rfl) (fun _ _ _ => trivial) ?_
  refine am_aload_n (q := 1) rfl (am_tab tk_X9_hangsOn 0 rfl) rfl ?_
  refine am_getR (q := 4) (a := 0) (k := 9) (n := 17) (j := 7) (r := some (44)) (Ls_0 hL) (by decide) rfl (Lr_0_7 hL) (by decide) (Or.inl kf_X9_57) (am_tab tk_X9_hangsOn 1 rfl) rfl ?_
  refine am_getI (q := 7) (a := 44) (k := 0) (n := 14) (j := 4) (x := x) (Ls_44 hL) (by decide) rfl hx (by decide) (Or.inr kf_X9_222) (am_tab tk_X9_hangsOn 2 rfl) rfl ?_
  refine am_callS0 (q := 10) (me2 := M_J6_bitCount_0f7a4) (As := [am_i x]) (rest := []) (out := [am_i (bc x)]) (c_bc S x (hxr)) ⟨rfl, rfl⟩ ⟨Or.inl km_X9_133, kc_J6_bitCount_0f7a4, kn_J6, kd_J6_bitCount_0f7a4, ⟨(Nat.le_of_ble_eq_true rfl), (Nat.le_of_ble_eq_true rfl)⟩, ⟨(Nat.le_of_ble_eq_true rfl), (Nat.le_of_ble_eq_true rfl)⟩, (Nat.le_of_ble_eq_true rfl)⟩ ki_J6_bitCount_0f7a4 rfl rfl (am_tab tk_X9_hangsOn 3 rfl) rfl ?_
  refine am_iconst (q := 11) (n := 1) (by decide) (am_tab tk_X9_hangsOn 4 rfl) rfl ?_
  refine am_icmp_ne (q := 14) (t := 24) (am_tab tk_X9_hangsOn 5 rfl) (by decide) rfl (fun h11 => ?_) (fun h11 => ?_)
  · refine am_iconst (q := 25) (n := 0) (by decide) (am_tab tk_X9_hangsOn 10 rfl) rfl ?_
    refine am_iret (Or.inl rfl) (Nat.le_of_ble_eq_true rfl) (Nat.le_of_ble_eq_true rfl) (am_tab tk_X9_hangsOn 11 rfl) ?_
    refine hQ _ _ ?_
    refine ⟨congrArg (fun z => some (am_i z)) ?_, rfl⟩
    first | rw [if_pos (by omega)] | rw [if_neg (by omega)]
  · refine am_aload_n (q := 15) rfl (am_tab tk_X9_hangsOn 6 rfl) rfl ?_
    refine am_getR (q := 18) (a := 0) (k := 9) (n := 17) (j := 7) (r := some (44)) (Ls_0 hL) (by decide) rfl (Lr_0_7 hL) (by decide) (Or.inl kf_X9_57) (am_tab tk_X9_hangsOn 7 rfl) rfl ?_
    refine am_getI (q := 21) (a := 44) (k := 0) (n := 14) (j := 4) (x := x) (Ls_44 hL) (by decide) rfl hx (by decide) (Or.inr kf_X9_222) (am_tab tk_X9_hangsOn 8 rfl) rfl ?_
    refine am_goto (t := 25) (am_tab tk_X9_hangsOn 9 rfl) (by decide) ?_
    refine am_iret (Or.inl rfl) (Nat.le_of_ble_eq_true rfl) (Nat.le_of_ble_eq_true rfl) (am_tab tk_X9_hangsOn 11 rfl) ?_
    refine hQ _ _ ?_
    refine ⟨congrArg (fun z => some (am_i z)) ?_, rfl⟩
    first | rw [if_pos (by omega)] | rw [if_neg (by omega)]
theorem c_hangs_3 (σ : am_H) (hC : CI 3 σ) (n : Int)  : am_met M_X9_hangs [am_r 0, am_i n] σ (fun r σ' => r = some (am_i (hanM σ n)) ∧ CQ σ σ') := by
  refine am_qq (fun Q hQ => ?_)
  refine am_enter (show plainFor yX9_hangs = true by decide +kernel) rfl (Nat.le_of_ble_eq_true rfl) (fun _ _ _ => trivial) ?_
  have hL := hC.G.L
  by_cases ah : (1 ≤ n ∧ n ≤ 120) ∧ n ≤ dlM σ
  · refine am_aload_n (q := 1) rfl (am_tab tk_X9_hangs 0 rfl) rfl ?_
    refine am_iload_n (q := 2) rfl (am_tab tk_X9_hangs 1 rfl) rfl ?_
    refine am_callVr (q := 5) (me2 := M_X9_foresee) (b := 0) (kb := 9) (nb := 17) (As := [am_i n]) (rest := []) (c_foresee_3 σ hC n) ⟨rfl, rfl⟩ (Ls_0 hL) (by decide) ⟨Or.inl km_X9_219, kc_X9_foresee, kn_X9, kd_X9_foresee, ⟨(Nat.le_of_ble_eq_true rfl), (Nat.le_of_ble_eq_true rfl)⟩, ⟨(Nat.le_of_ble_eq_true rfl), (Nat.le_of_ble_eq_true rfl)⟩, (Nat.le_of_ble_eq_true rfl)⟩ ki_X9_foresee ks_X9_foresee rfl (am_tab tk_X9_hangs 2 rfl) rfl ?_
    rintro r S hfo
    rw [if_pos ah] at hfo
    obtain ⟨rfl, hq, hA, hFS⟩ := hfo
    have hc9 := itS_cc hC.G (n := n.toNat - 1) (by omega)
    have hG9 := itS_GD hC.G (n.toNat - 1) (by omega)
    have hs9 := sfD_rng hG9.1 hc9
    refine am_st (st2 := [am_i 1]) rfl ?_
    refine am_if_eq (q := 8) (t := 15) (am_tab tk_X9_hangs 3 rfl) (by decide) rfl (fun h5 => ?_) (fun h5 => ?_)
    · exact absurd h5 (by decide)
    · refine am_aload_n (q := 9) rfl (am_tab tk_X9_hangs 4 rfl) rfl ?_
      refine am_callV0 (q := 12) (me2 := M_X9_hangsOn) (b := 0) (kb := 9) (nb := 17) (As := []) (rest := []) (out := [am_i (if bc (sfD (itS (n.toNat - 1) σ)) = 1 then sfD (itS (n.toNat - 1) σ) else 0)]) (c_hangsOn S (hq.L hC.G.L) _ hFS.2.2.1 hs9) ⟨rfl, rfl⟩ (Ls_0 (hq.L hC.G.L)) (by decide) ⟨Or.inl km_X9_254, kc_X9_hangsOn, kn_X9, kd_X9_hangsOn, ⟨(Nat.le_of_ble_eq_true rfl), (Nat.le_of_ble_eq_true rfl)⟩, ⟨(Nat.le_of_ble_eq_true rfl), (Nat.le_of_ble_eq_true rfl)⟩, (Nat.le_of_ble_eq_true rfl)⟩ ki_X9_hangsOn ks_X9_hangsOn rfl rfl (am_tab tk_X9_hangs 5 rfl) rfl ?_
      refine am_goto (t := 16) (am_tab tk_X9_hangs 6 rfl) (by decide) ?_
      refine am_iret (Or.inl rfl) (Nat.le_of_ble_eq_true rfl) (Nat.le_of_ble_eq_true rfl) (am_tab tk_X9_hangs 8 rfl) ?_
      refine hQ _ _ ?_
      refine ⟨congrArg (fun z => some (am_i z)) ?_, hq⟩
      unfold hanM
      rw [if_pos ah]
      rw [hg_bc hG9.1 hc9]
  · refine am_aload_n (q := 1) rfl (am_tab tk_X9_hangs 0 rfl) rfl ?_
    refine am_iload_n (q := 2) rfl (am_tab tk_X9_hangs 1 rfl) rfl ?_
    refine am_callVr (q := 5) (me2 := M_X9_foresee) (b := 0) (kb := 9) (nb := 17) (As := [am_i n]) (rest := []) (c_foresee_3 σ hC n) ⟨rfl, rfl⟩ (Ls_0 hL) (by decide) ⟨Or.inl km_X9_219, kc_X9_foresee, kn_X9, kd_X9_foresee, ⟨(Nat.le_of_ble_eq_true rfl), (Nat.le_of_ble_eq_true rfl)⟩, ⟨(Nat.le_of_ble_eq_true rfl), (Nat.le_of_ble_eq_true rfl)⟩, (Nat.le_of_ble_eq_true rfl)⟩ ki_X9_foresee ks_X9_foresee rfl (am_tab tk_X9_hangs 2 rfl) rfl ?_
    rintro r S hfo
    rw [if_neg ah] at hfo
    obtain ⟨rfl, hSS⟩ := hfo
    rw [hSS]
    refine am_st (st2 := [am_i 0]) rfl ?_
    refine am_if_eq (q := 8) (t := 15) (am_tab tk_X9_hangs 3 rfl) (by decide) rfl (fun h5 => ?_) (fun h5 => ?_)
    · refine am_iconst (q := 16) (n := (-1)) (by decide) (am_tab tk_X9_hangs 7 rfl) rfl ?_
      refine am_iret (Or.inl rfl) (Nat.le_of_ble_eq_true rfl) (Nat.le_of_ble_eq_true rfl) (am_tab tk_X9_hangs 8 rfl) ?_
      refine hQ _ _ ?_
      refine ⟨congrArg (fun z => some (am_i z)) ?_, CQ.refl σ⟩
      unfold hanM
      rw [if_neg ah]
    · exact absurd h5 (by decide)
theorem c_sure_3 (σ : am_H) (hC : CI 3 σ) (n : Int)  : am_met M_X9_sure [am_r 0, am_i n] σ (fun r σ' => r = some (am_i (surM σ n)) ∧ CQ σ σ') := by
  refine am_qq (fun Q hQ => ?_)
  refine am_enter (show plainFor yX9_sure = true by decide +kernel) rfl (Nat.le_of_ble_eq_true rfl) (fun _ _ _ => trivial) ?_
  have hL := hC.G.L
  refine am_aload_n (q := 1) rfl (am_tab tk_X9_sure 0 rfl) rfl ?_
  refine am_iload_n (q := 2) rfl (am_tab tk_X9_sure 1 rfl) rfl ?_
  refine am_callV0 (q := 5) (me2 := M_X9_isAhead) (b := 0) (kb := 9) (nb := 17) (As := [am_i n]) (rest := []) (out := [am_i (if (1 ≤ n ∧ n ≤ 120) ∧ n ≤ dlM σ then 1 else 0)]) (c_isAhead_3 σ hC n) ⟨rfl, rfl⟩ (Ls_0 hL) (by decide) ⟨Or.inl km_X9_257, kc_X9_isAhead, kn_X9, kd_X9_isAhead, ⟨(Nat.le_of_ble_eq_true rfl), (Nat.le_of_ble_eq_true rfl)⟩, ⟨(Nat.le_of_ble_eq_true rfl), (Nat.le_of_ble_eq_true rfl)⟩, (Nat.le_of_ble_eq_true rfl)⟩ ki_X9_isAhead ks_X9_isAhead rfl rfl (am_tab tk_X9_sure 2 rfl) rfl ?_
  by_cases ah : (1 ≤ n ∧ n ≤ 120) ∧ n ≤ dlM σ
  · refine am_if_ne (q := 8) (t := 10) (am_tab tk_X9_sure 3 rfl) (by decide) rfl (fun h5 => ?_) (fun h5 => ?_)
    · replace h5 := b01n h5
      have hsr : ∀ k : Nat, k ≤ 120 → 0 ≤ sumN (surB σ) k ∧ sumN (surB σ) k ≤ k * 1 := fun k _ => sumN_rng k (fun i _ => surB_01 σ i)
      refine am_iconst (q := 11) (n := 0) (by decide) (am_tab tk_X9_sure 6 rfl) rfl ?_
      refine am_istore_n (q := 12) (by decide) (ls2 := [(2, am_i 0), (0, am_r 0), (1, am_i n)]) rfl (am_tab tk_X9_sure 7 rfl) rfl ?_
      refine am_aload_n (q := 13) rfl (am_tab tk_X9_sure 8 rfl) rfl ?_
      refine am_getR (q := 16) (a := 0) (k := 9) (n := 17) (j := 5) (r := some (37)) (Ls_0 hL) (by decide) rfl (Lr_0_5 hL) (by decide) (Or.inl kf_X9_42) (am_tab tk_X9_sure 9 rfl) rfl ?_
      refine am_aload_n (q := 17) rfl (am_tab tk_X9_sure 10 rfl) rfl ?_
      refine am_getR (q := 20) (a := 0) (k := 9) (n := 17) (j := 4) (r := some (32)) (Ls_0 hL) (by decide) rfl (Lr_0_4 hL) (by decide) (Or.inl kf_X9_38) (am_tab tk_X9_sure 11 rfl) rfl ?_
      refine am_callVr (q := 23) (me2 := M_X1_copyFrom) (b := 37) (kb := 1) (nb := 11) (As := [am_r 32]) (rest := []) (c_copy_37_32 σ hC.G.L) ⟨rfl, rfl⟩ (Ls_37 hL) (by decide) ⟨Or.inr km_X9_243, kc_X1_copyFrom, kn_X1, kd_X1_copyFrom, ⟨(Nat.le_of_ble_eq_true rfl), (Nat.le_of_ble_eq_true rfl)⟩, ⟨(Nat.le_of_ble_eq_true rfl), (Nat.le_of_ble_eq_true rfl)⟩, (Nat.le_of_ble_eq_true rfl)⟩ ki_X1_copyFrom ks_X1_copyFrom rfl (am_tab tk_X9_sure 12 rfl) rfl ?_
      rintro r S0 ⟨rfl, hCP, hFc⟩
      have hq0 : CQ σ S0 := hFc.cq (by unfold W_li W_cq; omega)
      have hA0 : LF0 37 S0 (fun j9 => (itS 0 σ).2.1 96 j9) := hCP.lf hC.F
      refine am_st (st2 := []) rfl ?_
      refine am_iconst (q := 24) (n := 0) (by decide) (am_tab tk_X9_sure 13 rfl) rfl ?_
      refine am_istore_n (q := 25) (by decide) (ls2 := [(3, am_i 0), (2, am_i 0), (0, am_r 0), (1, am_i n)]) rfl (am_tab tk_X9_sure 14 rfl) rfl ?_
      have L25 : ∀ (n25 : Nat) (k : Nat) (S : am_H), n.toNat - k < n25 → (k : Int) ≤ n → CQ σ S → LF0 37 S (fun j9 => (itS k σ).2.1 96 j9) → am_wp M_X9_sure Q 0 0 25 [(3, am_i ((k : Int))), (2, am_i ((sumN (surB σ) k))), (0, am_r 0), (1, am_i n)] [] S := by
        intro n25
        induction n25 with
        | zero => intro k S hn25; exact absurd hn25 (Nat.not_lt_zero _)
        | succ n25 ih25 =>
          intro k S hn25 hk hq hA
          refine am_iload_n (q := 26) rfl (am_tab tk_X9_sure 15 rfl) rfl ?_
          refine am_iload_n (q := 27) rfl (am_tab tk_X9_sure 16 rfl) rfl ?_
          refine am_icmp_ge (q := 30) (t := 79) (am_tab tk_X9_sure 17 rfl) (by decide) rfl (fun h27 => ?_) (fun h27 => ?_)
          · refine am_iload_n (q := 80) rfl (am_tab tk_X9_sure 39 rfl) rfl ?_
            refine am_iret (Or.inl rfl) (Nat.le_of_ble_eq_true rfl) (Nat.le_of_ble_eq_true rfl) (am_tab tk_X9_sure 40 rfl) ?_
            refine hQ _ _ ?_
            refine ⟨congrArg (fun z => some (am_i z)) ?_, hq⟩
            unfold surM
            rw [if_pos ah, show k = n.toNat by omega]
          · have hGk := itS_GD hC.G k (by omega)
            have hck := itS_cc hC.G (n := k) (by omega)
            refine am_aload_n (q := 31) rfl (am_tab tk_X9_sure 18 rfl) rfl ?_
            refine am_getR (q := 34) (a := 0) (k := 9) (n := 17) (j := 7) (r := some (44)) (Ls_0 (hq.L hC.G.L)) (by decide) rfl (Lr_0_7 (hq.L hC.G.L)) (by decide) (Or.inl kf_X9_57) (am_tab tk_X9_sure 19 rfl) rfl ?_
            refine am_aload_n (q := 35) rfl (am_tab tk_X9_sure 20 rfl) rfl ?_
            refine am_getR (q := 38) (a := 0) (k := 9) (n := 17) (j := 2) (r := some (3)) (Ls_0 (hq.L hC.G.L)) (by decide) rfl ((hq.2.1 0 2 (by omega)).trans hC.t) (by decide) (Or.inl kf_X9_19) (am_tab tk_X9_sure 21 rfl) rfl ?_
            refine am_aload_n (q := 39) rfl (am_tab tk_X9_sure 22 rfl) rfl ?_
            refine am_getR (q := 42) (a := 0) (k := 9) (n := 17) (j := 5) (r := some (37)) (Ls_0 (hq.L hC.G.L)) (by decide) rfl (Lr_0_5 (hq.L hC.G.L)) (by decide) (Or.inl kf_X9_42) (am_tab tk_X9_sure 23 rfl) rfl ?_
            refine am_callVr (q := 45) (me2 := M_X0_lookAt) (b := 44) (kb := 0) (nb := 14) (As := [am_r 3, am_r 37]) (rest := []) (c_lookAt_3_37 S (itS k σ) (hq.L hC.G.L) hGk.1 ((hC.W.cq hq (by decide)).it k) hA) ⟨rfl, rfl⟩ (Ls_44 (hq.L hC.G.L)) (by decide) ⟨Or.inr km_X9_247, kc_X0_lookAt, kn_X0, kd_X0_lookAt, ⟨(Nat.le_of_ble_eq_true rfl), (Nat.le_of_ble_eq_true rfl)⟩, ⟨(Nat.le_of_ble_eq_true rfl), (Nat.le_of_ble_eq_true rfl)⟩, (Nat.le_of_ble_eq_true rfl)⟩ ki_X0_lookAt ks_X0_lookAt rfl (am_tab tk_X9_sure 24 rfl) rfl ?_
            rintro r T1 hlk
            rw [if_pos (by rw [hGk.2]; omega)] at hlk
            obtain ⟨rfl, hDA, hF1⟩ := hlk
            have hq1 : CQ σ T1 := hq.trans (CQ.base hF1)
            have hA1 : LF0 37 T1 (fun j9 => (itS k σ).2.1 96 j9) := LF0.fr (σ := am_setR (am_setR S 44 8 (some 3)) 44 9 (some 37)) hA hF1 (by unfold W_da; omega)
            refine am_st (st2 := [am_i 1]) rfl ?_
            refine am_pop (q := 46) rfl (am_tab tk_X9_sure 25 rfl) rfl ?_
            refine am_aload_n (q := 47) rfl (am_tab tk_X9_sure 26 rfl) rfl ?_
            refine am_getR (q := 50) (a := 0) (k := 9) (n := 17) (j := 7) (r := some (44)) (Ls_0 (hq1.L hC.G.L)) (by decide) rfl (Lr_0_7 (hq1.L hC.G.L)) (by decide) (Or.inl kf_X9_57) (am_tab tk_X9_sure 27 rfl) rfl ?_
            refine am_callVr (q := 53) (me2 := M_X0_settle) (b := 44) (kb := 0) (nb := 14) (As := []) (rest := []) (c_settle_3_37 T1 (itS k σ) (hq1.L hC.G.L) hGk.1 hck hA1 _ hDA) ⟨rfl, rfl⟩ (Ls_44 (hq1.L hC.G.L)) (by decide) ⟨Or.inr km_X9_251, kc_X0_settle, kn_X0, kd_X0_settle, ⟨(Nat.le_of_ble_eq_true rfl), (Nat.le_of_ble_eq_true rfl)⟩, ⟨(Nat.le_of_ble_eq_true rfl), (Nat.le_of_ble_eq_true rfl)⟩, (Nat.le_of_ble_eq_true rfl)⟩ ki_X0_settle ks_X0_settle rfl (am_tab tk_X9_sure 28 rfl) rfl ?_
            rintro r T2 ⟨rfl, hA2, hF2⟩
            have hq2 : CQ σ T2 := hq1.trans (hF2.cq (by unfold W_se W_cq; omega))
            have hFS : FS 3 σ k T2 := hDA.FS hF2 (by decide)
            refine am_st (st2 := []) rfl ?_
            refine am_aload_n (q := 54) rfl (am_tab tk_X9_sure 29 rfl) rfl ?_
            refine am_getR (q := 57) (a := 0) (k := 9) (n := 17) (j := 7) (r := some (44)) (Ls_0 (hq2.L hC.G.L)) (by decide) rfl (Lr_0_7 (hq2.L hC.G.L)) (by decide) (Or.inl kf_X9_57) (am_tab tk_X9_sure 30 rfl) rfl ?_
            refine am_getI (q := 60) (a := 44) (k := 0) (n := 14) (j := 5) (x := (thD (itS k σ))) (Ls_44 (hq2.L hC.G.L)) (by decide) rfl hFS.2.2.2.1 (by decide) (Or.inr kf_X9_225) (am_tab tk_X9_sure 31 rfl) rfl ?_
            refine am_if_eq (q := 63) (t := 73) (am_tab tk_X9_sure 32 rfl) (by decide) rfl (fun h60 => ?_) (fun h60 => ?_)
            · refine am_iinc (q := 76) rfl (by omega) (by decide) (ls2 := [(3, am_i (((k : Int) + 1))), (2, am_i ((sumN (surB σ) k))), (0, am_r 0), (1, am_i n)]) rfl (am_tab tk_X9_sure 37 rfl) rfl ?_
              refine am_goto (t := 25) (am_tab tk_X9_sure 38 rfl) (by decide) ?_
              have he : sumN (surB σ) (k + 1) = (sumN (surB σ) k) := by
                show sumN (surB σ) k + surB σ k = _
                unfold surB
                rw [hg_bc hGk.1 hck]
                rw [if_neg (by omega)]; omega
              exact am_less (by intro q hq; simp only [List.mem_cons, List.not_mem_nil, or_false] at hq; rcases hq with rfl | rfl | rfl | rfl <;> simp [he]) (ih25 (k + 1) T2 (by omega) (by omega) hq2 hA2)
            · refine am_aload_n (q := 64) rfl (am_tab tk_X9_sure 33 rfl) rfl ?_
              refine am_callV0 (q := 67) (me2 := M_X9_hangsOn) (b := 0) (kb := 9) (nb := 17) (As := []) (rest := []) (out := [am_i ((if bc (sfD (itS k σ)) = 1 then sfD (itS k σ) else 0))]) (c_hangsOn T2 (hq2.L hC.G.L) _ hFS.2.2.1 (sfD_rng hGk.1 hck)) ⟨rfl, rfl⟩ (Ls_0 (hq2.L hC.G.L)) (by decide) ⟨Or.inl km_X9_254, kc_X9_hangsOn, kn_X9, kd_X9_hangsOn, ⟨(Nat.le_of_ble_eq_true rfl), (Nat.le_of_ble_eq_true rfl)⟩, ⟨(Nat.le_of_ble_eq_true rfl), (Nat.le_of_ble_eq_true rfl)⟩, (Nat.le_of_ble_eq_true rfl)⟩ ki_X9_hangsOn ks_X9_hangsOn rfl rfl (am_tab tk_X9_sure 34 rfl) rfl ?_
              refine am_if_ne (q := 70) (t := 73) (am_tab tk_X9_sure 35 rfl) (by decide) rfl (fun h67 => ?_) (fun h67 => ?_)
              · refine am_iinc (q := 76) rfl (by omega) (by decide) (ls2 := [(3, am_i (((k : Int) + 1))), (2, am_i ((sumN (surB σ) k))), (0, am_r 0), (1, am_i n)]) rfl (am_tab tk_X9_sure 37 rfl) rfl ?_
                refine am_goto (t := 25) (am_tab tk_X9_sure 38 rfl) (by decide) ?_
                have he : sumN (surB σ) (k + 1) = (sumN (surB σ) k) := by
                  show sumN (surB σ) k + surB σ k = _
                  unfold surB
                  rw [hg_bc hGk.1 hck]
                  rw [if_neg (by omega)]; omega
                exact am_less (by intro q hq; simp only [List.mem_cons, List.not_mem_nil, or_false] at hq; rcases hq with rfl | rfl | rfl | rfl <;> simp [he]) (ih25 (k + 1) T2 (by omega) (by omega) hq2 hA2)
              · have hsk := hsr k (by omega)
                refine am_iinc (q := 73) rfl (by omega) (by decide) (ls2 := [(2, am_i (((sumN (surB σ) k) + 1))), (3, am_i ((k : Int))), (0, am_r 0), (1, am_i n)]) rfl (am_tab tk_X9_sure 36 rfl) rfl ?_
                refine am_iinc (q := 76) rfl (by omega) (by decide) (ls2 := [(3, am_i (((k : Int) + 1))), (2, am_i (((sumN (surB σ) k) + 1))), (0, am_r 0), (1, am_i n)]) rfl (am_tab tk_X9_sure 37 rfl) rfl ?_
                refine am_goto (t := 25) (am_tab tk_X9_sure 38 rfl) (by decide) ?_
                have he : sumN (surB σ) (k + 1) = ((sumN (surB σ) k) + 1) := by
                  show sumN (surB σ) k + surB σ k = _
                  unfold surB
                  rw [hg_bc hGk.1 hck]
                  rw [if_pos ⟨by omega, by omega⟩]
                exact am_less (by intro q hq; simp only [List.mem_cons, List.not_mem_nil, or_false] at hq; rcases hq with rfl | rfl | rfl | rfl <;> simp [he]) (ih25 (k + 1) T2 (by omega) (by omega) hq2 hA2)
      refine am_less (by intro q hq; simp only [List.mem_cons, List.not_mem_nil, or_false] at hq; rcases hq with rfl | rfl | rfl | rfl <;> simp [sumN]) (L25 (_ + 1) 0 S0 (by exact Nat.lt_succ_self _) (by omega) hq0 hA0)
    · exact absurd ah (b01z h5)
  · refine am_if_ne (q := 8) (t := 10) (am_tab tk_X9_sure 3 rfl) (by decide) rfl (fun h5 => ?_) (fun h5 => ?_)
    · exact absurd (b01n h5) ah
    · replace h5 := b01z h5
      refine am_iconst (q := 9) (n := (-1)) (by decide) (am_tab tk_X9_sure 4 rfl) rfl ?_
      refine am_iret (Or.inl rfl) (Nat.le_of_ble_eq_true rfl) (Nat.le_of_ble_eq_true rfl) (am_tab tk_X9_sure 5 rfl) ?_
      refine hQ _ _ ?_
      refine ⟨congrArg (fun z => some (am_i z)) ?_, CQ.refl σ⟩
      unfold surM
      rw [if_neg ah]
theorem c_priceOf_3 (σ S : am_H) (hC : CI 3 σ) (hq : CQ σ S) (x : Int) (hxr : 0 ≤ x ∧ x < 256) : am_met M_X9_priceOf [am_r 0, am_i x] S (fun r σ' => r = some (am_i (coM σ x)) ∧ σ' = S) := by
  refine am_qq (fun Q hQ => ?_)
  refine am_enter (show plainFor yX9_priceOf = true by decide +kernel) rfl (Nat.le_of_ble_eq_true rfl) (fun _ _ _ => trivial) ?_
  have h8 : pN σ ≤ 8 := by have := hC.G.R.P; unfold pN; omega
  have hpn : (pN σ : Int) = σ.2.1 85 5 := by have := hC.G.R.P; unfold pN; omega
  have hsr : ∀ k : Nat, k ≤ 8 → 0 ≤ sumN (fun p => if tb x p = 1 then σ.2.1 88 (8 + p) else 0) k ∧ sumN (fun p => if tb x p = 1 then σ.2.1 88 (8 + p) else 0) k ≤ k * 99 := fun k hk => sumN_rng k (fun i hi => by have := hC.G.R.ask i (by omega); split <;> omega)
  refine am_iconst (q := 1) (n := 0) (by decide) (am_tab tk_X9_priceOf 0 rfl) rfl ?_
  refine am_istore_n (q := 2) (by decide) (ls2 := [(2, am_i 0), (0, am_r 0), (1, am_i x)]) rfl (am_tab tk_X9_priceOf 1 rfl) rfl ?_
  refine am_iconst (q := 3) (n := 0) (by decide) (am_tab tk_X9_priceOf 2 rfl) rfl ?_
  refine am_istore_n (q := 4) (by decide) (ls2 := [(3, am_i 0), (2, am_i 0), (0, am_r 0), (1, am_i x)]) rfl (am_tab tk_X9_priceOf 3 rfl) rfl ?_
  have L4 : ∀ (n4 : Nat) (p : Nat), 8 - p < n4 → p ≤ pN σ → am_wp M_X9_priceOf Q 0 0 4 [(3, am_i ((p : Int))), (2, am_i ((sumN (fun p => if tb x p = 1 then σ.2.1 88 (8 + p) else 0) p))), (0, am_r 0), (1, am_i x)] [] S := by
    intro n4
    induction n4 with
    | zero => intro p hn4; exact absurd hn4 (Nat.not_lt_zero _)
    | succ n4 ih4 =>
      intro p hn4 hp
      refine am_iload_n (q := 5) rfl (am_tab tk_X9_priceOf 4 rfl) rfl ?_
      refine am_aload_n (q := 6) rfl (am_tab tk_X9_priceOf 5 rfl) rfl ?_
      refine am_getR (q := 9) (a := 0) (k := 9) (n := 17) (j := 2) (r := some (3)) (Ls_0 (hq.L hC.G.L)) (by decide) rfl ((hq.2.1 0 2 (by omega)).trans hC.t) (by decide) (Or.inl kf_X9_19) (am_tab tk_X9_priceOf 6 rfl) rfl ?_
      refine am_getI (q := 12) (a := 3) (k := 8) (n := 17) (j := 2) (x := (σ.2.1 85 5)) (Ls_3 (hq.L hC.G.L)) (by decide) rfl (hC.W.cq hq (by decide)).people (by decide) (Or.inr kf_X9_126) (am_tab tk_X9_priceOf 7 rfl) rfl ?_
      refine am_icmp_ge (q := 15) (t := 39) (am_tab tk_X9_priceOf 8 rfl) (by decide) rfl (fun h12 => ?_) (fun h12 => ?_)
      · refine am_iload_n (q := 40) rfl (am_tab tk_X9_priceOf 23 rfl) rfl ?_
        refine am_iret (Or.inl rfl) (Nat.le_of_ble_eq_true rfl) (Nat.le_of_ble_eq_true rfl) (am_tab tk_X9_priceOf 24 rfl) ?_
        refine hQ _ _ ?_
        unfold coM
        rw [show p = pN σ by omega]
        exact ⟨rfl, rfl⟩
      · have hpp : p < pN σ := by omega
        have ha9 := hC.G.R.ask p (by omega)
        have hs9 := hsr p (by omega)
        have htb : tb x (p : Int) * σ.2.1 88 (8 + p) = if tb x p = 1 then σ.2.1 88 (8 + p) else 0 := by
          rcases tb_01 x p with h | h <;> rw [h] <;> simp
        have hit : 0 ≤ (if tb x p = 1 then σ.2.1 88 (8 + p) else 0) ∧ (if tb x p = 1 then σ.2.1 88 (8 + p) else 0) ≤ 99 := by split <;> omega
        refine am_iload_n (q := 16) rfl (am_tab tk_X9_priceOf 9 rfl) rfl ?_
        refine am_iload_n (q := 17) rfl (am_tab tk_X9_priceOf 10 rfl) rfl ?_
        refine am_iload_n (q := 18) rfl (am_tab tk_X9_priceOf 11 rfl) rfl ?_
        refine am_callS0 (q := 21) (me2 := M_X9_bit) (As := [am_i x, am_i ((p : Int))]) (rest := [am_i ((sumN (fun p => if tb x p = 1 then σ.2.1 88 (8 + p) else 0) p))]) (out := [am_i (tb x (p : Int)), am_i ((sumN (fun p => if tb x p = 1 then σ.2.1 88 (8 + p) else 0) p))]) (c_bit S x (p : Int) (hxr) (by omega)) ⟨rfl, rfl⟩ ⟨Or.inl km_X9_185, kc_X9_bit, kn_X9, kd_X9_bit, ⟨(Nat.le_of_ble_eq_true rfl), (Nat.le_of_ble_eq_true rfl)⟩, ⟨(Nat.le_of_ble_eq_true rfl), (Nat.le_of_ble_eq_true rfl)⟩, (Nat.le_of_ble_eq_true rfl)⟩ ki_X9_bit rfl rfl (am_tab tk_X9_priceOf 12 rfl) rfl ?_
        refine am_aload_n (q := 22) rfl (am_tab tk_X9_priceOf 13 rfl) rfl ?_
        refine am_getR (q := 25) (a := 0) (k := 9) (n := 17) (j := 2) (r := some (3)) (Ls_0 (hq.L hC.G.L)) (by decide) rfl ((hq.2.1 0 2 (by omega)).trans hC.t) (by decide) (Or.inl kf_X9_19) (am_tab tk_X9_priceOf 14 rfl) rfl ?_
        refine am_getR (q := 28) (a := 3) (k := 8) (n := 17) (j := 10) (r := some (6)) (Ls_3 (hq.L hC.G.L)) (by decide) rfl (Lr_3_10 (hq.L hC.G.L)) (by decide) (Or.inr kf_X9_176) (am_tab tk_X9_priceOf 15 rfl) rfl ?_
        refine am_iload_n (q := 29) rfl (am_tab tk_X9_priceOf 16 rfl) rfl ?_
        refine am_iald (q := 30) (a := 6) (n := 8) (x := (σ.2.1 88 (8 + p))) (Ls_6 (hq.L hC.G.L)) (by omega) (by omega) (by rw [show Int.toNat (p : Int) = p by omega]; exact (hC.W.cq hq (by decide)).asks p hpp) (am_tab tk_X9_priceOf 17 rfl) rfl ?_
        refine am_imul (q := 31) (by rw [htb]; omega) (am_tab tk_X9_priceOf 18 rfl) rfl ?_
        refine am_iadd (q := 32) (by rw [htb]; omega) (am_tab tk_X9_priceOf 19 rfl) rfl ?_
        refine am_istore_n (q := 33) (by decide) (ls2 := [(2, am_i (((sumN (fun p => if tb x p = 1 then σ.2.1 88 (8 + p) else 0) p) + ((tb x (p : Int)) * (σ.2.1 88 (8 + p)))))), (3, am_i ((p : Int))), (0, am_r 0), (1, am_i x)]) rfl (am_tab tk_X9_priceOf 20 rfl) rfl ?_
        refine am_iinc (q := 36) rfl (by omega) (by decide) (ls2 := [(3, am_i (((p : Int) + 1))), (2, am_i (((sumN (fun p => if tb x p = 1 then σ.2.1 88 (8 + p) else 0) p) + ((tb x (p : Int)) * (σ.2.1 88 (8 + p)))))), (0, am_r 0), (1, am_i x)]) rfl (am_tab tk_X9_priceOf 21 rfl) rfl ?_
        refine am_goto (t := 4) (am_tab tk_X9_priceOf 22 rfl) (by decide) ?_
        have he : sumN (fun p => if tb x p = 1 then σ.2.1 88 (8 + p) else 0) (p + 1) = ((sumN (fun p => if tb x p = 1 then σ.2.1 88 (8 + p) else 0) p) + ((tb x (p : Int)) * (σ.2.1 88 (8 + p)))) := by
          rw [htb]
          rfl
        exact am_less (by intro q hq; simp only [List.mem_cons, List.not_mem_nil, or_false] at hq; rcases hq with rfl | rfl | rfl | rfl <;> simp [he]) (ih4 (p + 1) (by omega) (by omega))
  refine am_less (by intro q hq; simp only [List.mem_cons, List.not_mem_nil, or_false] at hq; rcases hq with rfl | rfl | rfl | rfl <;> simp [sumN]) (L4 (_ + 1) 0 (by exact Nat.lt_succ_self _) (Nat.zero_le _))
theorem c_costs_3 (σ : am_H) (hC : CI 3 σ) (n : Int)  : am_met M_X9_costs [am_r 0, am_i n] σ (fun r σ' => r = some (am_i (cosM σ n)) ∧ CQ σ σ') := by
  refine am_qq (fun Q hQ => ?_)
  refine am_enter (show plainFor yX9_costs = true by decide +kernel) rfl (Nat.le_of_ble_eq_true rfl) (fun _ _ _ => trivial) ?_
  have hL := hC.G.L
  by_cases ah : (1 ≤ n ∧ n ≤ 120) ∧ n ≤ dlM σ
  · refine am_aload_n (q := 1) rfl (am_tab tk_X9_costs 0 rfl) rfl ?_
    refine am_iload_n (q := 2) rfl (am_tab tk_X9_costs 1 rfl) rfl ?_
    refine am_callVr (q := 5) (me2 := M_X9_foresee) (b := 0) (kb := 9) (nb := 17) (As := [am_i n]) (rest := []) (c_foresee_3 σ hC n) ⟨rfl, rfl⟩ (Ls_0 hL) (by decide) ⟨Or.inl km_X9_219, kc_X9_foresee, kn_X9, kd_X9_foresee, ⟨(Nat.le_of_ble_eq_true rfl), (Nat.le_of_ble_eq_true rfl)⟩, ⟨(Nat.le_of_ble_eq_true rfl), (Nat.le_of_ble_eq_true rfl)⟩, (Nat.le_of_ble_eq_true rfl)⟩ ki_X9_foresee ks_X9_foresee rfl (am_tab tk_X9_costs 2 rfl) rfl ?_
    rintro r S hfo
    rw [if_pos ah] at hfo
    obtain ⟨rfl, hq, hA, hFS⟩ := hfo
    have hc9 := itS_cc hC.G (n := n.toNat - 1) (by omega)
    have hG9 := itS_GD hC.G (n.toNat - 1) (by omega)
    have hs9 := sfD_rng hG9.1 hc9
    refine am_st (st2 := [am_i 1]) rfl ?_
    refine am_if_eq (q := 8) (t := 22) (am_tab tk_X9_costs 3 rfl) (by decide) rfl (fun h5 => ?_) (fun h5 => ?_)
    · exact absurd h5 (by decide)
    · refine am_aload_n (q := 9) rfl (am_tab tk_X9_costs 4 rfl) rfl ?_
      refine am_aload_n (q := 10) rfl (am_tab tk_X9_costs 5 rfl) rfl ?_
      refine am_getR (q := 13) (a := 0) (k := 9) (n := 17) (j := 7) (r := some (44)) (Ls_0 (hq.L hC.G.L)) (by decide) rfl (Lr_0_7 (hq.L hC.G.L)) (by decide) (Or.inl kf_X9_57) (am_tab tk_X9_costs 6 rfl) rfl ?_
      refine am_getI (q := 16) (a := 44) (k := 0) (n := 14) (j := 4) (x := (sfD (itS (n.toNat - 1) σ))) (Ls_44 (hq.L hC.G.L)) (by decide) rfl hFS.2.2.1 (by decide) (Or.inr kf_X9_222) (am_tab tk_X9_costs 7 rfl) rfl ?_
      refine am_callV0 (q := 19) (me2 := M_X9_priceOf) (b := 0) (kb := 9) (nb := 17) (As := [am_i ((sfD (itS (n.toNat - 1) σ)))]) (rest := []) (out := [am_i (coM σ (sfD (itS (n.toNat - 1) σ)))]) (c_priceOf_3 σ S hC hq (sfD (itS (n.toNat - 1) σ)) hs9) ⟨rfl, rfl⟩ (Ls_0 (hq.L hC.G.L)) (by decide) ⟨Or.inl km_X9_263, kc_X9_priceOf, kn_X9, kd_X9_priceOf, ⟨(Nat.le_of_ble_eq_true rfl), (Nat.le_of_ble_eq_true rfl)⟩, ⟨(Nat.le_of_ble_eq_true rfl), (Nat.le_of_ble_eq_true rfl)⟩, (Nat.le_of_ble_eq_true rfl)⟩ ki_X9_priceOf ks_X9_priceOf rfl rfl (am_tab tk_X9_costs 8 rfl) rfl ?_
      refine am_goto (t := 23) (am_tab tk_X9_costs 9 rfl) (by decide) ?_
      refine am_iret (Or.inl rfl) (Nat.le_of_ble_eq_true rfl) (Nat.le_of_ble_eq_true rfl) (am_tab tk_X9_costs 11 rfl) ?_
      refine hQ _ _ ?_
      refine ⟨congrArg (fun z => some (am_i z)) ?_, hq⟩
      unfold cosM
      rw [if_pos ah]
  · refine am_aload_n (q := 1) rfl (am_tab tk_X9_costs 0 rfl) rfl ?_
    refine am_iload_n (q := 2) rfl (am_tab tk_X9_costs 1 rfl) rfl ?_
    refine am_callVr (q := 5) (me2 := M_X9_foresee) (b := 0) (kb := 9) (nb := 17) (As := [am_i n]) (rest := []) (c_foresee_3 σ hC n) ⟨rfl, rfl⟩ (Ls_0 hL) (by decide) ⟨Or.inl km_X9_219, kc_X9_foresee, kn_X9, kd_X9_foresee, ⟨(Nat.le_of_ble_eq_true rfl), (Nat.le_of_ble_eq_true rfl)⟩, ⟨(Nat.le_of_ble_eq_true rfl), (Nat.le_of_ble_eq_true rfl)⟩, (Nat.le_of_ble_eq_true rfl)⟩ ki_X9_foresee ks_X9_foresee rfl (am_tab tk_X9_costs 2 rfl) rfl ?_
    rintro r S hfo
    rw [if_neg ah] at hfo
    obtain ⟨rfl, hSS⟩ := hfo
    rw [hSS]
    refine am_st (st2 := [am_i 0]) rfl ?_
    refine am_if_eq (q := 8) (t := 22) (am_tab tk_X9_costs 3 rfl) (by decide) rfl (fun h5 => ?_) (fun h5 => ?_)
    · refine am_iconst (q := 23) (n := (-1)) (by decide) (am_tab tk_X9_costs 10 rfl) rfl ?_
      refine am_iret (Or.inl rfl) (Nat.le_of_ble_eq_true rfl) (Nat.le_of_ble_eq_true rfl) (am_tab tk_X9_costs 11 rfl) ?_
      refine hQ _ _ ?_
      refine ⟨congrArg (fun z => some (am_i z)) ?_, CQ.refl σ⟩
      unfold cosM
      rw [if_neg ah]
    · exact absurd h5 (by decide)
set_option maxRecDepth 100000 in
theorem c_chanceOf_3 (σ S : am_H) (hC : CI 3 σ) (hq : CQ σ S) (k : Nat) (hk8 : k ≤ 8) : am_met M_X9_chanceOfNobody [am_r 0, am_i ((k : Int))] S (fun r σ' => r = some (am_i (slV (σ.2.1 92 2) k)) ∧ σ' = S) := by
  refine am_qq (fun Q hQ => ?_)
  refine am_enter (show plainFor yX9_chanceOfNobody = true by decide +kernel) rfl (Nat.le_of_ble_eq_true rfl) (fun _ _ _ => trivial) ?_
  have hsl := hC.G.R.slip
  have hps := fun i => pws hsl i
  refine am_lconst1 (q := 1) (am_tab tk_X9_chanceOfNobody 0 rfl) rfl ?_
  refine am_lstore_n (q := 2) (by decide) (ls2 := [(2, am_l 1), (0, am_r 0), (1, am_i ((k : Int)))]) rfl (am_tab tk_X9_chanceOfNobody 1 rfl) rfl ?_
  refine am_lconst1 (q := 3) (am_tab tk_X9_chanceOfNobody 2 rfl) rfl ?_
  refine am_lstore (q := 5) (by decide) (ls2 := [(4, am_l 1), (2, am_l 1), (0, am_r 0), (1, am_i ((k : Int)))]) rfl (am_tab tk_X9_chanceOfNobody 3 rfl) rfl ?_
  refine am_ldcw (q := 8) (n := 1000000) (by decide) kk_X9_342 (am_tab tk_X9_chanceOfNobody 4 rfl) rfl ?_
  refine am_istore (q := 10) (by decide) (ls2 := [(6, am_i 1000000), (4, am_l 1), (2, am_l 1), (0, am_r 0), (1, am_i ((k : Int)))]) rfl (am_tab tk_X9_chanceOfNobody 5 rfl) rfl ?_
  refine am_iconst (q := 11) (n := 0) (by decide) (am_tab tk_X9_chanceOfNobody 6 rfl) rfl ?_
  refine am_istore (q := 13) (by decide) (ls2 := [(7, am_i 0), (6, am_i 1000000), (4, am_l 1), (2, am_l 1), (0, am_r 0), (1, am_i ((k : Int)))]) rfl (am_tab tk_X9_chanceOfNobody 7 rfl) rfl ?_
  have L13 : ∀ (n13 : Nat) (i : Nat), 8 - i < n13 → i ≤ k → am_wp M_X9_chanceOfNobody Q 0 0 13 [(7, am_i ((i : Int))), (6, am_i ((cnM i))), (4, am_l ((cnW i))), (2, am_l ((cnP (σ.2.1 92 2) i))), (0, am_r 0), (1, am_i ((k : Int)))] [] S := by
    intro n13
    induction n13 with
    | zero => intro i hn13; exact absurd hn13 (Nat.not_lt_zero _)
    | succ n13 ih13 =>
      intro i hn13 hi
      refine am_iload (q := 15) rfl (am_tab tk_X9_chanceOfNobody 8 rfl) rfl ?_
      refine am_iload_n (q := 16) rfl (am_tab tk_X9_chanceOfNobody 9 rfl) rfl ?_
      refine am_icmp_ge (q := 19) (t := 67) (am_tab tk_X9_chanceOfNobody 10 rfl) (by decide) rfl (fun h16 => ?_) (fun h16 => ?_)
      · have ei : i = k := by omega
        subst ei
        have hce := cn_end hsl hk8
        have hw1 := cnW_rng hk8
        refine am_lload_n (q := 68) rfl (am_tab tk_X9_chanceOfNobody 35 rfl) rfl ?_
        refine am_iload (q := 70) rfl (am_tab tk_X9_chanceOfNobody 36 rfl) rfl ?_
        refine am_i2l (q := 71) (am_tab tk_X9_chanceOfNobody 37 rfl) rfl ?_
        refine am_lmul (q := 72) (by omega) (am_tab tk_X9_chanceOfNobody 38 rfl) rfl ?_
        refine am_lload (q := 74) rfl (am_tab tk_X9_chanceOfNobody 39 rfl) rfl ?_
        refine am_ldiv (q := 75) (by omega) (by omega) (am_tab tk_X9_chanceOfNobody 40 rfl) rfl ?_
        refine am_l2i (q := 76) (y := (slV (σ.2.1 92 2) i)) (by rw [← hce.2.1]; exact (l2i_eq (by omega)).symm) (am_tab tk_X9_chanceOfNobody 41 rfl) rfl ?_
        refine am_iret (Or.inl rfl) (Nat.le_of_ble_eq_true rfl) (Nat.le_of_ble_eq_true rfl) (am_tab tk_X9_chanceOfNobody 42 rfl) ?_
        refine hQ _ _ ?_
        exact ⟨rfl, rfl⟩
      · refine am_iload (q := 21) rfl (am_tab tk_X9_chanceOfNobody 11 rfl) rfl ?_
        refine am_bipush (q := 23) (n := 8) (by decide) rfl (am_tab tk_X9_chanceOfNobody 12 rfl) rfl ?_
        refine am_icmp_ge (q := 26) (t := 67) (am_tab tk_X9_chanceOfNobody 13 rfl) (by decide) rfl (fun h23 => ?_) (fun h23 => ?_)
        · have ei : i = k := by omega
          subst ei
          have hce := cn_end hsl hk8
          have hw1 := cnW_rng hk8
          refine am_lload_n (q := 68) rfl (am_tab tk_X9_chanceOfNobody 35 rfl) rfl ?_
          refine am_iload (q := 70) rfl (am_tab tk_X9_chanceOfNobody 36 rfl) rfl ?_
          refine am_i2l (q := 71) (am_tab tk_X9_chanceOfNobody 37 rfl) rfl ?_
          refine am_lmul (q := 72) (by omega) (am_tab tk_X9_chanceOfNobody 38 rfl) rfl ?_
          refine am_lload (q := 74) rfl (am_tab tk_X9_chanceOfNobody 39 rfl) rfl ?_
          refine am_ldiv (q := 75) (by omega) (by omega) (am_tab tk_X9_chanceOfNobody 40 rfl) rfl ?_
          refine am_l2i (q := 76) (y := (slV (σ.2.1 92 2) i)) (by rw [← hce.2.1]; exact (l2i_eq (by omega)).symm) (am_tab tk_X9_chanceOfNobody 41 rfl) rfl ?_
          refine am_iret (Or.inl rfl) (Nat.le_of_ble_eq_true rfl) (Nat.le_of_ble_eq_true rfl) (am_tab tk_X9_chanceOfNobody 42 rfl) ?_
          refine hQ _ _ ?_
          exact ⟨rfl, rfl⟩
        · have hp1 := cnP_rng hsl (i := i) (by omega)
          have hp2 := cnP_rng hsl (i := i + 1) (by omega)
          have hp3 : cnP (σ.2.1 92 2) (i + 1) = cnP (σ.2.1 92 2) i * σ.2.1 92 2 := Int.pow_succ ..
          have hw1 := cnW_rng (i := i) (by omega)
          have hw2 := cnW_rng (i := i + 1) (by omega)
          have hm1 := cnM_rng i
          refine am_lload_n (q := 27) rfl (am_tab tk_X9_chanceOfNobody 14 rfl) rfl ?_
          refine am_aload_n (q := 28) rfl (am_tab tk_X9_chanceOfNobody 15 rfl) rfl ?_
          refine am_getR (q := 31) (a := 0) (k := 9) (n := 17) (j := 2) (r := some (3)) (Ls_0 (hq.L hC.G.L)) (by decide) rfl ((hq.2.1 0 2 (by omega)).trans hC.t) (by decide) (Or.inl kf_X9_19) (am_tab tk_X9_chanceOfNobody 16 rfl) rfl ?_
          refine am_getI (q := 34) (a := 3) (k := 8) (n := 17) (j := 6) (x := (σ.2.1 92 2)) (Ls_3 (hq.L hC.G.L)) (by decide) rfl (hC.W.cq hq (by decide)).1.2.2.1 (by decide) (Or.inr kf_X9_343) (am_tab tk_X9_chanceOfNobody 17 rfl) rfl ?_
          refine am_i2l (q := 35) (am_tab tk_X9_chanceOfNobody 18 rfl) rfl ?_
          refine am_lmul (q := 36) (by omega) (am_tab tk_X9_chanceOfNobody 19 rfl) rfl ?_
          refine am_lstore_n (q := 37) (by decide) (ls2 := [(2, am_l (((cnP (σ.2.1 92 2) i) * (σ.2.1 92 2)))), (7, am_i ((i : Int))), (6, am_i ((cnM i))), (4, am_l ((cnW i))), (0, am_r 0), (1, am_i ((k : Int)))]) rfl (am_tab tk_X9_chanceOfNobody 20 rfl) rfl ?_
          refine am_iload (q := 39) rfl (am_tab tk_X9_chanceOfNobody 21 rfl) rfl ?_
          refine am_iconst (q := 40) (n := 3) (by decide) (am_tab tk_X9_chanceOfNobody 22 rfl) rfl ?_
          refine am_icmp_ge (q := 43) (t := 53) (am_tab tk_X9_chanceOfNobody 23 rfl) (by decide) rfl (fun h40 => ?_) (fun h40 => ?_)
          · refine am_lload (q := 55) rfl (am_tab tk_X9_chanceOfNobody 29 rfl) rfl ?_
            refine am_ldc2 (q := 58) (n := 100) (by decide) kk_X9_346 (am_tab tk_X9_chanceOfNobody 30 rfl) rfl ?_
            refine am_lmul (q := 59) (by have h6 := cnW_on (i := i) (by omega); omega) (am_tab tk_X9_chanceOfNobody 31 rfl) rfl ?_
            refine am_lstore (q := 61) (by decide) (ls2 := [(4, am_l (((cnW i) * 100))), (2, am_l (((cnP (σ.2.1 92 2) i) * (σ.2.1 92 2)))), (7, am_i ((i : Int))), (6, am_i ((cnM i))), (0, am_r 0), (1, am_i ((k : Int)))]) rfl (am_tab tk_X9_chanceOfNobody 32 rfl) rfl ?_
            refine am_iinc (q := 64) rfl (by omega) (by decide) (ls2 := [(7, am_i (((i : Int) + 1))), (4, am_l (((cnW i) * 100))), (2, am_l (((cnP (σ.2.1 92 2) i) * (σ.2.1 92 2)))), (6, am_i ((cnM i))), (0, am_r 0), (1, am_i ((k : Int)))]) rfl (am_tab tk_X9_chanceOfNobody 33 rfl) rfl ?_
            refine am_goto (t := 13) (am_tab tk_X9_chanceOfNobody 34 rfl) (by decide) ?_
            have e2 : cnM (i + 1) = (cnM i) := by first | exact cnM_on (by omega) | exact cnM_st (by omega)
            have e3 : cnW (i + 1) = ((cnW i) * 100) := by first | exact cnW_st (by omega) | exact cnW_on (by omega)
            exact am_less (by intro q hq; simp only [List.mem_cons, List.not_mem_nil, or_false] at hq; rcases hq with rfl | rfl | rfl | rfl | rfl | rfl <;> simp [hp3, e2, e3]) (ih13 (i + 1) (by omega) (by omega))
          · refine am_iload (q := 45) rfl (am_tab tk_X9_chanceOfNobody 24 rfl) rfl ?_
            refine am_bipush (q := 47) (n := 100) (by decide) rfl (am_tab tk_X9_chanceOfNobody 25 rfl) rfl ?_
            refine am_idiv (q := 48) (by omega) (by omega) (am_tab tk_X9_chanceOfNobody 26 rfl) rfl ?_
            refine am_istore (q := 50) (by decide) (ls2 := [(6, am_i ((Int.tdiv (cnM i) 100))), (2, am_l (((cnP (σ.2.1 92 2) i) * (σ.2.1 92 2)))), (7, am_i ((i : Int))), (4, am_l ((cnW i))), (0, am_r 0), (1, am_i ((k : Int)))]) rfl (am_tab tk_X9_chanceOfNobody 27 rfl) rfl ?_
            refine am_goto (t := 61) (am_tab tk_X9_chanceOfNobody 28 rfl) (by decide) ?_
            refine am_iinc (q := 64) rfl (by omega) (by decide) (ls2 := [(7, am_i (((i : Int) + 1))), (6, am_i ((Int.tdiv (cnM i) 100))), (2, am_l (((cnP (σ.2.1 92 2) i) * (σ.2.1 92 2)))), (4, am_l ((cnW i))), (0, am_r 0), (1, am_i ((k : Int)))]) rfl (am_tab tk_X9_chanceOfNobody 33 rfl) rfl ?_
            refine am_goto (t := 13) (am_tab tk_X9_chanceOfNobody 34 rfl) (by decide) ?_
            have e2 : cnM (i + 1) = (Int.tdiv (cnM i) 100) := by first | exact cnM_on (by omega) | exact cnM_st (by omega)
            have e3 : cnW (i + 1) = (cnW i) := by first | exact cnW_st (by omega) | exact cnW_on (by omega)
            exact am_less (by intro q hq; simp only [List.mem_cons, List.not_mem_nil, or_false] at hq; rcases hq with rfl | rfl | rfl | rfl | rfl | rfl <;> simp [hp3, e2, e3]) (ih13 (i + 1) (by omega) (by omega))
  refine am_less (by intro q hq; simp only [List.mem_cons, List.not_mem_nil, or_false] at hq; rcases hq with rfl | rfl | rfl | rfl | rfl | rfl <;> simp [cnM, cnW, cnP]) (L13 (_ + 1) 0 (by exact Nat.lt_succ_self _) (Nat.zero_le _))
theorem c_slips_3 (σ : am_H) (hC : CI 3 σ) (n : Int)  : am_met M_X9_slips [am_r 0, am_i n] σ (fun r σ' => r = some (am_i (slpM σ n)) ∧ CQ σ σ') := by
  refine am_qq (fun Q hQ => ?_)
  refine am_enter (show plainFor yX9_slips = true by decide +kernel) rfl (Nat.le_of_ble_eq_true rfl) (fun _ _ _ => trivial) ?_
  have hL := hC.G.L
  by_cases ah : (1 ≤ n ∧ n ≤ 120) ∧ n ≤ dlM σ
  · refine am_aload_n (q := 1) rfl (am_tab tk_X9_slips 0 rfl) rfl ?_
    refine am_iload_n (q := 2) rfl (am_tab tk_X9_slips 1 rfl) rfl ?_
    refine am_callVr (q := 5) (me2 := M_X9_foresee) (b := 0) (kb := 9) (nb := 17) (As := [am_i n]) (rest := []) (c_foresee_3 σ hC n) ⟨rfl, rfl⟩ (Ls_0 hL) (by decide) ⟨Or.inl km_X9_219, kc_X9_foresee, kn_X9, kd_X9_foresee, ⟨(Nat.le_of_ble_eq_true rfl), (Nat.le_of_ble_eq_true rfl)⟩, ⟨(Nat.le_of_ble_eq_true rfl), (Nat.le_of_ble_eq_true rfl)⟩, (Nat.le_of_ble_eq_true rfl)⟩ ki_X9_foresee ks_X9_foresee rfl (am_tab tk_X9_slips 2 rfl) rfl ?_
    rintro r S hfo
    rw [if_pos ah] at hfo
    obtain ⟨rfl, hq, hA, hFS⟩ := hfo
    have hc9 := itS_cc hC.G (n := n.toNat - 1) (by omega)
    have hG9 := itS_GD hC.G (n.toNat - 1) (by omega)
    have hs9 := sfD_rng hG9.1 hc9
    refine am_st (st2 := [am_i 1]) rfl ?_
    refine am_if_eq (q := 8) (t := 25) (am_tab tk_X9_slips 3 rfl) (by decide) rfl (fun h5 => ?_) (fun h5 => ?_)
    · exact absurd h5 (by decide)
    · refine am_aload_n (q := 9) rfl (am_tab tk_X9_slips 4 rfl) rfl ?_
      refine am_aload_n (q := 10) rfl (am_tab tk_X9_slips 5 rfl) rfl ?_
      refine am_getR (q := 13) (a := 0) (k := 9) (n := 17) (j := 7) (r := some (44)) (Ls_0 (hq.L hC.G.L)) (by decide) rfl (Lr_0_7 (hq.L hC.G.L)) (by decide) (Or.inl kf_X9_57) (am_tab tk_X9_slips 6 rfl) rfl ?_
      refine am_getI (q := 16) (a := 44) (k := 0) (n := 14) (j := 4) (x := (sfD (itS (n.toNat - 1) σ))) (Ls_44 (hq.L hC.G.L)) (by decide) rfl hFS.2.2.1 (by decide) (Or.inr kf_X9_222) (am_tab tk_X9_slips 7 rfl) rfl ?_
      refine am_callSr (q := 19) (me2 := M_J6_bitCount_0f7a4) (As := [am_i ((sfD (itS (n.toNat - 1) σ)))]) (rest := [am_r 0]) (c_bc S (sfD (itS (n.toNat - 1) σ)) hs9) ⟨rfl, rfl⟩ ⟨Or.inl km_X9_133, kc_J6_bitCount_0f7a4, kn_J6, kd_J6_bitCount_0f7a4, ⟨(Nat.le_of_ble_eq_true rfl), (Nat.le_of_ble_eq_true rfl)⟩, ⟨(Nat.le_of_ble_eq_true rfl), (Nat.le_of_ble_eq_true rfl)⟩, (Nat.le_of_ble_eq_true rfl)⟩ ki_J6_bitCount_0f7a4 rfl (am_tab tk_X9_slips 8 rfl) rfl ?_
      rintro r τ ⟨hr9, hτ⟩
      have hb9 := (bc1_eq hs9).2
      rw [show bc (sfD (itS (n.toNat - 1) σ)) = ((bc (sfD (itS (n.toNat - 1) σ))).toNat : Int) by omega] at hr9
      rw [hr9, hτ]
      refine am_st (st2 := [am_i (((bc (sfD (itS (n.toNat - 1) σ))).toNat : Int)), am_r 0]) rfl ?_
      refine am_callV0 (q := 22) (me2 := M_X9_chanceOfNobody) (b := 0) (kb := 9) (nb := 17) (As := [am_i (((bc (sfD (itS (n.toNat - 1) σ))).toNat : Int))]) (rest := []) (out := [am_i (slV (σ.2.1 92 2) (bc (sfD (itS (n.toNat - 1) σ))).toNat)]) (c_chanceOf_3 σ S hC hq (bc (sfD (itS (n.toNat - 1) σ))).toNat (by omega)) ⟨rfl, rfl⟩ (Ls_0 (hq.L hC.G.L)) (by decide) ⟨Or.inl km_X9_260, kc_X9_chanceOfNobody, kn_X9, kd_X9_chanceOfNobody, ⟨(Nat.le_of_ble_eq_true rfl), (Nat.le_of_ble_eq_true rfl)⟩, ⟨(Nat.le_of_ble_eq_true rfl), (Nat.le_of_ble_eq_true rfl)⟩, (Nat.le_of_ble_eq_true rfl)⟩ ki_X9_chanceOfNobody ks_X9_chanceOfNobody rfl rfl (am_tab tk_X9_slips 9 rfl) rfl ?_
      refine am_goto (t := 26) (am_tab tk_X9_slips 10 rfl) (by decide) ?_
      refine am_iret (Or.inl rfl) (Nat.le_of_ble_eq_true rfl) (Nat.le_of_ble_eq_true rfl) (am_tab tk_X9_slips 12 rfl) ?_
      refine hQ _ _ ?_
      refine ⟨congrArg (fun z => some (am_i z)) ?_, hq⟩
      unfold slpM
      rw [if_pos ah]
  · refine am_aload_n (q := 1) rfl (am_tab tk_X9_slips 0 rfl) rfl ?_
    refine am_iload_n (q := 2) rfl (am_tab tk_X9_slips 1 rfl) rfl ?_
    refine am_callVr (q := 5) (me2 := M_X9_foresee) (b := 0) (kb := 9) (nb := 17) (As := [am_i n]) (rest := []) (c_foresee_3 σ hC n) ⟨rfl, rfl⟩ (Ls_0 hL) (by decide) ⟨Or.inl km_X9_219, kc_X9_foresee, kn_X9, kd_X9_foresee, ⟨(Nat.le_of_ble_eq_true rfl), (Nat.le_of_ble_eq_true rfl)⟩, ⟨(Nat.le_of_ble_eq_true rfl), (Nat.le_of_ble_eq_true rfl)⟩, (Nat.le_of_ble_eq_true rfl)⟩ ki_X9_foresee ks_X9_foresee rfl (am_tab tk_X9_slips 2 rfl) rfl ?_
    rintro r S hfo
    rw [if_neg ah] at hfo
    obtain ⟨rfl, hSS⟩ := hfo
    rw [hSS]
    refine am_st (st2 := [am_i 0]) rfl ?_
    refine am_if_eq (q := 8) (t := 25) (am_tab tk_X9_slips 3 rfl) (by decide) rfl (fun h5 => ?_) (fun h5 => ?_)
    · refine am_iconst (q := 26) (n := (-1)) (by decide) (am_tab tk_X9_slips 11 rfl) rfl ?_
      refine am_iret (Or.inl rfl) (Nat.le_of_ble_eq_true rfl) (Nat.le_of_ble_eq_true rfl) (am_tab tk_X9_slips 12 rfl) ?_
      refine hQ _ _ ?_
      refine ⟨congrArg (fun z => some (am_i z)) ?_, CQ.refl σ⟩
      unfold slpM
      rw [if_neg ah]
    · exact absurd h5 (by decide)
theorem c_first_3 (σ : am_H) (hC : CI 3 σ) (w : Int)  : am_met M_X9_first [am_r 0, am_i w] σ (fun r σ' => r = some (am_i (firM σ w)) ∧ CQ σ σ') := by
  refine am_qq (fun Q hQ => ?_)
  refine am_enter (show plainFor yX9_first = true by decide +kernel) rfl (Nat.le_of_ble_eq_true rfl) (fun _ _ _ => trivial) ?_
  have hL := hC.G.L
  refine am_iload_n (q := 1) rfl (am_tab tk_X9_first 0 rfl) rfl ?_
  refine am_if_eq (q := 4) (t := 11) (am_tab tk_X9_first 1 rfl) (by decide) rfl (fun h1 => ?_) (fun h1 => ?_)
  · refine am_bipush (q := 13) (n := 120) (by decide) rfl (am_tab tk_X9_first 7 rfl) rfl ?_
    refine am_aload_n (q := 14) rfl (am_tab tk_X9_first 8 rfl) rfl ?_
    refine am_getR (q := 17) (a := 0) (k := 9) (n := 17) (j := 4) (r := some (32)) (Ls_0 hL) (by decide) rfl (Lr_0_4 hL) (by decide) (Or.inl kf_X9_38) (am_tab tk_X9_first 9 rfl) rfl ?_
    refine am_aload_n (q := 18) rfl (am_tab tk_X9_first 10 rfl) rfl ?_
    refine am_getR (q := 21) (a := 0) (k := 9) (n := 17) (j := 2) (r := some (3)) (Ls_0 hL) (by decide) rfl hC.t (by decide) (Or.inl kf_X9_19) (am_tab tk_X9_first 11 rfl) rfl ?_
    refine am_callV0 (q := 24) (me2 := M_X1_daysLeft) (b := 32) (kb := 1) (nb := 11) (As := [am_r 3]) (rest := [am_i 120]) (out := [am_i (dlM σ), am_i 120]) (c_daysLeft_3_32 σ σ hL hC.G hC.W hC.F) ⟨rfl, rfl⟩ (Ls_32 hL) (by decide) ⟨Or.inr km_X9_234, kc_X1_daysLeft, kn_X1, kd_X1_daysLeft, ⟨(Nat.le_of_ble_eq_true rfl), (Nat.le_of_ble_eq_true rfl)⟩, ⟨(Nat.le_of_ble_eq_true rfl), (Nat.le_of_ble_eq_true rfl)⟩, (Nat.le_of_ble_eq_true rfl)⟩ ki_X1_daysLeft ks_X1_daysLeft rfl rfl (am_tab tk_X9_first 12 rfl) rfl ?_
    refine am_callS0 (q := 27) (me2 := M_J9_min_7cf53) (As := [am_i 120, am_i (dlM σ)]) (rest := []) (out := [am_i (min 120 (dlM σ))]) (c_min σ 120 (dlM σ)) ⟨rfl, rfl⟩ ⟨Or.inl km_X9_238, kc_J9_min_7cf53, kn_J9, kd_J9_min_7cf53, ⟨(Nat.le_of_ble_eq_true rfl), (Nat.le_of_ble_eq_true rfl)⟩, ⟨(Nat.le_of_ble_eq_true rfl), (Nat.le_of_ble_eq_true rfl)⟩, (Nat.le_of_ble_eq_true rfl)⟩ ki_J9_min_7cf53 rfl rfl (am_tab tk_X9_first 13 rfl) rfl ?_
    refine am_istore_n (q := 28) (by decide) (ls2 := [(2, am_i (min 120 (dlM σ))), (0, am_r 0), (1, am_i w)]) rfl (am_tab tk_X9_first 14 rfl) rfl ?_
    refine am_aload_n (q := 29) rfl (am_tab tk_X9_first 15 rfl) rfl ?_
    refine am_getR (q := 32) (a := 0) (k := 9) (n := 17) (j := 5) (r := some (37)) (Ls_0 hL) (by decide) rfl (Lr_0_5 hL) (by decide) (Or.inl kf_X9_42) (am_tab tk_X9_first 16 rfl) rfl ?_
    refine am_aload_n (q := 33) rfl (am_tab tk_X9_first 17 rfl) rfl ?_
    refine am_getR (q := 36) (a := 0) (k := 9) (n := 17) (j := 4) (r := some (32)) (Ls_0 hL) (by decide) rfl (Lr_0_4 hL) (by decide) (Or.inl kf_X9_38) (am_tab tk_X9_first 18 rfl) rfl ?_
    refine am_callVr (q := 39) (me2 := M_X1_copyFrom) (b := 37) (kb := 1) (nb := 11) (As := [am_r 32]) (rest := []) (c_copy_37_32 σ hC.G.L) ⟨rfl, rfl⟩ (Ls_37 hL) (by decide) ⟨Or.inr km_X9_243, kc_X1_copyFrom, kn_X1, kd_X1_copyFrom, ⟨(Nat.le_of_ble_eq_true rfl), (Nat.le_of_ble_eq_true rfl)⟩, ⟨(Nat.le_of_ble_eq_true rfl), (Nat.le_of_ble_eq_true rfl)⟩, (Nat.le_of_ble_eq_true rfl)⟩ ki_X1_copyFrom ks_X1_copyFrom rfl (am_tab tk_X9_first 19 rfl) rfl ?_
    rintro r S0 ⟨rfl, hCP, hFc⟩
    have hq0 : CQ σ S0 := hFc.cq (by unfold W_li W_cq; omega)
    have hA0 : LF0 37 S0 (fun j9 => (itS 0 σ).2.1 96 j9) := hCP.lf hC.F
    refine am_st (st2 := []) rfl ?_
    refine am_iconst (q := 40) (n := 1) (by decide) (am_tab tk_X9_first 20 rfl) rfl ?_
    refine am_istore_n (q := 41) (by decide) (ls2 := [(3, am_i 1), (2, am_i (min 120 (dlM σ))), (0, am_r 0), (1, am_i w)]) rfl (am_tab tk_X9_first 21 rfl) rfl ?_
    have L41 : ∀ (n41 : Nat) (k : Nat) (S : am_H), 120 - k < n41 → ((k : Int) ≤ min 120 (dlM σ) ∨ k = 0) → CQ σ S → LF0 37 S (fun j9 => (itS k σ).2.1 96 j9) → anyB (fgB σ w) k = false → am_wp M_X9_first Q 0 0 41 [(3, am_i (((k : Int) + 1))), (2, am_i ((min 120 (dlM σ)))), (0, am_r 0), (1, am_i w)] [] S := by
      intro n41
      induction n41 with
      | zero => intro k S hn41; exact absurd hn41 (Nat.not_lt_zero _)
      | succ n41 ih41 =>
        intro k S hn41 hk hq hA hno
        refine am_iload_n (q := 42) rfl (am_tab tk_X9_first 22 rfl) rfl ?_
        refine am_iload_n (q := 43) rfl (am_tab tk_X9_first 23 rfl) rfl ?_
        refine am_icmp_gt (q := 46) (t := 108) (am_tab tk_X9_first 24 rfl) (by decide) rfl (fun h43 => ?_) (fun h43 => ?_)
        · refine am_iconst (q := 109) (n := (-1)) (by decide) (am_tab tk_X9_first 53 rfl) rfl ?_
          refine am_iret (Or.inl rfl) (Nat.le_of_ble_eq_true rfl) (Nat.le_of_ble_eq_true rfl) (am_tab tk_X9_first 54 rfl) ?_
          refine hQ _ _ ?_
          exact ⟨congrArg (fun z => some (am_i z)) (fir_no hno (by omega) (by omega)).symm, hq⟩
        · have hGk := itS_GD hC.G k (by omega)
          have hck := itS_cc hC.G (n := k) (by omega)
          refine am_aload_n (q := 47) rfl (am_tab tk_X9_first 25 rfl) rfl ?_
          refine am_getR (q := 50) (a := 0) (k := 9) (n := 17) (j := 7) (r := some (44)) (Ls_0 (hq.L hC.G.L)) (by decide) rfl (Lr_0_7 (hq.L hC.G.L)) (by decide) (Or.inl kf_X9_57) (am_tab tk_X9_first 26 rfl) rfl ?_
          refine am_aload_n (q := 51) rfl (am_tab tk_X9_first 27 rfl) rfl ?_
          refine am_getR (q := 54) (a := 0) (k := 9) (n := 17) (j := 2) (r := some (3)) (Ls_0 (hq.L hC.G.L)) (by decide) rfl ((hq.2.1 0 2 (by omega)).trans hC.t) (by decide) (Or.inl kf_X9_19) (am_tab tk_X9_first 28 rfl) rfl ?_
          refine am_aload_n (q := 55) rfl (am_tab tk_X9_first 29 rfl) rfl ?_
          refine am_getR (q := 58) (a := 0) (k := 9) (n := 17) (j := 5) (r := some (37)) (Ls_0 (hq.L hC.G.L)) (by decide) rfl (Lr_0_5 (hq.L hC.G.L)) (by decide) (Or.inl kf_X9_42) (am_tab tk_X9_first 30 rfl) rfl ?_
          refine am_callVr (q := 61) (me2 := M_X0_lookAt) (b := 44) (kb := 0) (nb := 14) (As := [am_r 3, am_r 37]) (rest := []) (c_lookAt_3_37 S (itS k σ) (hq.L hC.G.L) hGk.1 ((hC.W.cq hq (by decide)).it k) hA) ⟨rfl, rfl⟩ (Ls_44 (hq.L hC.G.L)) (by decide) ⟨Or.inr km_X9_247, kc_X0_lookAt, kn_X0, kd_X0_lookAt, ⟨(Nat.le_of_ble_eq_true rfl), (Nat.le_of_ble_eq_true rfl)⟩, ⟨(Nat.le_of_ble_eq_true rfl), (Nat.le_of_ble_eq_true rfl)⟩, (Nat.le_of_ble_eq_true rfl)⟩ ki_X0_lookAt ks_X0_lookAt rfl (am_tab tk_X9_first 31 rfl) rfl ?_
          rintro r T1 hlk
          rw [if_pos (by rw [hGk.2]; omega)] at hlk
          obtain ⟨rfl, hDA, hF1⟩ := hlk
          have hq1 : CQ σ T1 := hq.trans (CQ.base hF1)
          have hA1 : LF0 37 T1 (fun j9 => (itS k σ).2.1 96 j9) := LF0.fr (σ := am_setR (am_setR S 44 8 (some 3)) 44 9 (some 37)) hA hF1 (by unfold W_da; omega)
          refine am_st (st2 := [am_i 1]) rfl ?_
          refine am_pop (q := 62) rfl (am_tab tk_X9_first 32 rfl) rfl ?_
          refine am_aload_n (q := 63) rfl (am_tab tk_X9_first 33 rfl) rfl ?_
          refine am_getR (q := 66) (a := 0) (k := 9) (n := 17) (j := 7) (r := some (44)) (Ls_0 (hq1.L hC.G.L)) (by decide) rfl (Lr_0_7 (hq1.L hC.G.L)) (by decide) (Or.inl kf_X9_57) (am_tab tk_X9_first 34 rfl) rfl ?_
          refine am_callVr (q := 69) (me2 := M_X0_settle) (b := 44) (kb := 0) (nb := 14) (As := []) (rest := []) (c_settle_3_37 T1 (itS k σ) (hq1.L hC.G.L) hGk.1 hck hA1 _ hDA) ⟨rfl, rfl⟩ (Ls_44 (hq1.L hC.G.L)) (by decide) ⟨Or.inr km_X9_251, kc_X0_settle, kn_X0, kd_X0_settle, ⟨(Nat.le_of_ble_eq_true rfl), (Nat.le_of_ble_eq_true rfl)⟩, ⟨(Nat.le_of_ble_eq_true rfl), (Nat.le_of_ble_eq_true rfl)⟩, (Nat.le_of_ble_eq_true rfl)⟩ ki_X0_settle ks_X0_settle rfl (am_tab tk_X9_first 35 rfl) rfl ?_
          rintro r T2 ⟨rfl, hA2, hF2⟩
          have hq2 : CQ σ T2 := hq1.trans (hF2.cq (by unfold W_se W_cq; omega))
          have hFS : FS 3 σ k T2 := hDA.FS hF2 (by decide)
          refine am_st (st2 := []) rfl ?_
          refine am_iload_n (q := 70) rfl (am_tab tk_X9_first 36 rfl) rfl ?_
          refine am_if_ne (q := 73) (t := 86) (am_tab tk_X9_first 37 rfl) (by decide) rfl (fun h70 => ?_) (fun h70 => ?_)
          · refine am_aload_n (q := 87) rfl (am_tab tk_X9_first 43 rfl) rfl ?_
            refine am_getR (q := 90) (a := 0) (k := 9) (n := 17) (j := 7) (r := some (44)) (Ls_0 (hq2.L hC.G.L)) (by decide) rfl (Lr_0_7 (hq2.L hC.G.L)) (by decide) (Or.inl kf_X9_57) (am_tab tk_X9_first 44 rfl) rfl ?_
            refine am_getI (q := 93) (a := 44) (k := 0) (n := 14) (j := 5) (x := (thD (itS k σ))) (Ls_44 (hq2.L hC.G.L)) (by decide) rfl hFS.2.2.2.1 (by decide) (Or.inr kf_X9_225) (am_tab tk_X9_first 45 rfl) rfl ?_
            refine am_callS0 (q := 96) (me2 := M_J6_bitCount_0f7a4) (As := [am_i ((thD (itS k σ)))]) (rest := []) (out := [am_i (bc (thD (itS k σ)))]) (c_bc T2 (thD (itS k σ)) (thD_rng hGk.1 hck)) ⟨rfl, rfl⟩ ⟨Or.inl km_X9_133, kc_J6_bitCount_0f7a4, kn_J6, kd_J6_bitCount_0f7a4, ⟨(Nat.le_of_ble_eq_true rfl), (Nat.le_of_ble_eq_true rfl)⟩, ⟨(Nat.le_of_ble_eq_true rfl), (Nat.le_of_ble_eq_true rfl)⟩, (Nat.le_of_ble_eq_true rfl)⟩ ki_J6_bitCount_0f7a4 rfl rfl (am_tab tk_X9_first 46 rfl) rfl ?_
            refine am_iconst (q := 97) (n := 1) (by decide) (am_tab tk_X9_first 47 rfl) rfl ?_
            refine am_icmp_ne (q := 100) (t := 102) (am_tab tk_X9_first 48 rfl) (by decide) rfl (fun h97 => ?_) (fun h97 => ?_)
            · refine am_iinc (q := 105) rfl (by omega) (by decide) (ls2 := [(3, am_i ((((k : Int) + 1) + 1))), (2, am_i ((min 120 (dlM σ)))), (0, am_r 0), (1, am_i w)]) rfl (am_tab tk_X9_first 51 rfl) rfl ?_
              refine am_goto (t := 41) (am_tab tk_X9_first 52 rfl) (by decide) ?_
              exact am_less (by intro q hq; simp only [List.mem_cons, List.not_mem_nil, or_false] at hq; rcases hq with rfl | rfl | rfl | rfl <;> simp) (ih41 (k + 1) T2 (by omega) (by omega) hq2 hA2 (anyB_f hno (by unfold fgB; rw [decide_eq_false_iff_not]; first | (rw [if_pos (by omega)]; omega) | (rw [if_neg (by omega)]; omega))))
            · refine am_iload_n (q := 101) rfl (am_tab tk_X9_first 49 rfl) rfl ?_
              refine am_iret (Or.inl rfl) (Nat.le_of_ble_eq_true rfl) (Nat.le_of_ble_eq_true rfl) (am_tab tk_X9_first 50 rfl) ?_
              refine hQ _ _ ?_
              refine ⟨congrArg (fun z => some (am_i z)) ?_, hq2⟩
              rw [fir_at (j := k) (by unfold fgB; rw [decide_eq_true_eq]; first | (rw [if_pos (by omega)]; have := fsD01 (itS k σ); omega) | (rw [if_neg (by omega)]; omega)) hno (by omega) (by omega)]
          · refine am_aload_n (q := 74) rfl (am_tab tk_X9_first 38 rfl) rfl ?_
            refine am_getR (q := 77) (a := 0) (k := 9) (n := 17) (j := 7) (r := some (44)) (Ls_0 (hq2.L hC.G.L)) (by decide) rfl (Lr_0_7 (hq2.L hC.G.L)) (by decide) (Or.inl kf_X9_57) (am_tab tk_X9_first 39 rfl) rfl ?_
            refine am_getI (q := 80) (a := 44) (k := 0) (n := 14) (j := 6) (x := (fsD (itS k σ))) (Ls_44 (hq2.L hC.G.L)) (by decide) rfl hFS.2.2.2.2.1 (by decide) (Or.inr kf_X9_230) (am_tab tk_X9_first 40 rfl) rfl ?_
            refine am_if_eq (q := 83) (t := 102) (am_tab tk_X9_first 41 rfl) (by decide) rfl (fun h80 => ?_) (fun h80 => ?_)
            · refine am_iinc (q := 105) rfl (by omega) (by decide) (ls2 := [(3, am_i ((((k : Int) + 1) + 1))), (2, am_i ((min 120 (dlM σ)))), (0, am_r 0), (1, am_i w)]) rfl (am_tab tk_X9_first 51 rfl) rfl ?_
              refine am_goto (t := 41) (am_tab tk_X9_first 52 rfl) (by decide) ?_
              exact am_less (by intro q hq; simp only [List.mem_cons, List.not_mem_nil, or_false] at hq; rcases hq with rfl | rfl | rfl | rfl <;> simp) (ih41 (k + 1) T2 (by omega) (by omega) hq2 hA2 (anyB_f hno (by unfold fgB; rw [decide_eq_false_iff_not]; first | (rw [if_pos (by omega)]; omega) | (rw [if_neg (by omega)]; omega))))
            · refine am_goto (t := 100) (am_tab tk_X9_first 42 rfl) (by decide) ?_
              refine am_iload_n (q := 101) rfl (am_tab tk_X9_first 49 rfl) rfl ?_
              refine am_iret (Or.inl rfl) (Nat.le_of_ble_eq_true rfl) (Nat.le_of_ble_eq_true rfl) (am_tab tk_X9_first 50 rfl) ?_
              refine hQ _ _ ?_
              refine ⟨congrArg (fun z => some (am_i z)) ?_, hq2⟩
              rw [fir_at (j := k) (by unfold fgB; rw [decide_eq_true_eq]; first | (rw [if_pos (by omega)]; have := fsD01 (itS k σ); omega) | (rw [if_neg (by omega)]; omega)) hno (by omega) (by omega)]
    refine am_less (by intro q hq; simp only [List.mem_cons, List.not_mem_nil, or_false] at hq; rcases hq with rfl | rfl | rfl | rfl <;> simp) (L41 (_ + 1) 0 S0 (by exact Nat.lt_succ_self _) (Or.inr rfl) hq0 hA0 rfl)
  · refine am_iload_n (q := 5) rfl (am_tab tk_X9_first 2 rfl) rfl ?_
    refine am_iconst (q := 6) (n := 1) (by decide) (am_tab tk_X9_first 3 rfl) rfl ?_
    refine am_icmp_eq (q := 9) (t := 11) (am_tab tk_X9_first 4 rfl) (by decide) rfl (fun h6 => ?_) (fun h6 => ?_)
    · refine am_bipush (q := 13) (n := 120) (by decide) rfl (am_tab tk_X9_first 7 rfl) rfl ?_
      refine am_aload_n (q := 14) rfl (am_tab tk_X9_first 8 rfl) rfl ?_
      refine am_getR (q := 17) (a := 0) (k := 9) (n := 17) (j := 4) (r := some (32)) (Ls_0 hL) (by decide) rfl (Lr_0_4 hL) (by decide) (Or.inl kf_X9_38) (am_tab tk_X9_first 9 rfl) rfl ?_
      refine am_aload_n (q := 18) rfl (am_tab tk_X9_first 10 rfl) rfl ?_
      refine am_getR (q := 21) (a := 0) (k := 9) (n := 17) (j := 2) (r := some (3)) (Ls_0 hL) (by decide) rfl hC.t (by decide) (Or.inl kf_X9_19) (am_tab tk_X9_first 11 rfl) rfl ?_
      refine am_callV0 (q := 24) (me2 := M_X1_daysLeft) (b := 32) (kb := 1) (nb := 11) (As := [am_r 3]) (rest := [am_i 120]) (out := [am_i (dlM σ), am_i 120]) (c_daysLeft_3_32 σ σ hL hC.G hC.W hC.F) ⟨rfl, rfl⟩ (Ls_32 hL) (by decide) ⟨Or.inr km_X9_234, kc_X1_daysLeft, kn_X1, kd_X1_daysLeft, ⟨(Nat.le_of_ble_eq_true rfl), (Nat.le_of_ble_eq_true rfl)⟩, ⟨(Nat.le_of_ble_eq_true rfl), (Nat.le_of_ble_eq_true rfl)⟩, (Nat.le_of_ble_eq_true rfl)⟩ ki_X1_daysLeft ks_X1_daysLeft rfl rfl (am_tab tk_X9_first 12 rfl) rfl ?_
      refine am_callS0 (q := 27) (me2 := M_J9_min_7cf53) (As := [am_i 120, am_i (dlM σ)]) (rest := []) (out := [am_i (min 120 (dlM σ))]) (c_min σ 120 (dlM σ)) ⟨rfl, rfl⟩ ⟨Or.inl km_X9_238, kc_J9_min_7cf53, kn_J9, kd_J9_min_7cf53, ⟨(Nat.le_of_ble_eq_true rfl), (Nat.le_of_ble_eq_true rfl)⟩, ⟨(Nat.le_of_ble_eq_true rfl), (Nat.le_of_ble_eq_true rfl)⟩, (Nat.le_of_ble_eq_true rfl)⟩ ki_J9_min_7cf53 rfl rfl (am_tab tk_X9_first 13 rfl) rfl ?_
      refine am_istore_n (q := 28) (by decide) (ls2 := [(2, am_i (min 120 (dlM σ))), (0, am_r 0), (1, am_i w)]) rfl (am_tab tk_X9_first 14 rfl) rfl ?_
      refine am_aload_n (q := 29) rfl (am_tab tk_X9_first 15 rfl) rfl ?_
      refine am_getR (q := 32) (a := 0) (k := 9) (n := 17) (j := 5) (r := some (37)) (Ls_0 hL) (by decide) rfl (Lr_0_5 hL) (by decide) (Or.inl kf_X9_42) (am_tab tk_X9_first 16 rfl) rfl ?_
      refine am_aload_n (q := 33) rfl (am_tab tk_X9_first 17 rfl) rfl ?_
      refine am_getR (q := 36) (a := 0) (k := 9) (n := 17) (j := 4) (r := some (32)) (Ls_0 hL) (by decide) rfl (Lr_0_4 hL) (by decide) (Or.inl kf_X9_38) (am_tab tk_X9_first 18 rfl) rfl ?_
      refine am_callVr (q := 39) (me2 := M_X1_copyFrom) (b := 37) (kb := 1) (nb := 11) (As := [am_r 32]) (rest := []) (c_copy_37_32 σ hC.G.L) ⟨rfl, rfl⟩ (Ls_37 hL) (by decide) ⟨Or.inr km_X9_243, kc_X1_copyFrom, kn_X1, kd_X1_copyFrom, ⟨(Nat.le_of_ble_eq_true rfl), (Nat.le_of_ble_eq_true rfl)⟩, ⟨(Nat.le_of_ble_eq_true rfl), (Nat.le_of_ble_eq_true rfl)⟩, (Nat.le_of_ble_eq_true rfl)⟩ ki_X1_copyFrom ks_X1_copyFrom rfl (am_tab tk_X9_first 19 rfl) rfl ?_
      rintro r S0 ⟨rfl, hCP, hFc⟩
      have hq0 : CQ σ S0 := hFc.cq (by unfold W_li W_cq; omega)
      have hA0 : LF0 37 S0 (fun j9 => (itS 0 σ).2.1 96 j9) := hCP.lf hC.F
      refine am_st (st2 := []) rfl ?_
      refine am_iconst (q := 40) (n := 1) (by decide) (am_tab tk_X9_first 20 rfl) rfl ?_
      refine am_istore_n (q := 41) (by decide) (ls2 := [(3, am_i 1), (2, am_i (min 120 (dlM σ))), (0, am_r 0), (1, am_i w)]) rfl (am_tab tk_X9_first 21 rfl) rfl ?_
      have L41 : ∀ (n41 : Nat) (k : Nat) (S : am_H), 120 - k < n41 → ((k : Int) ≤ min 120 (dlM σ) ∨ k = 0) → CQ σ S → LF0 37 S (fun j9 => (itS k σ).2.1 96 j9) → anyB (fgB σ w) k = false → am_wp M_X9_first Q 0 0 41 [(3, am_i (((k : Int) + 1))), (2, am_i ((min 120 (dlM σ)))), (0, am_r 0), (1, am_i w)] [] S := by
        intro n41
        induction n41 with
        | zero => intro k S hn41; exact absurd hn41 (Nat.not_lt_zero _)
        | succ n41 ih41 =>
          intro k S hn41 hk hq hA hno
          refine am_iload_n (q := 42) rfl (am_tab tk_X9_first 22 rfl) rfl ?_
          refine am_iload_n (q := 43) rfl (am_tab tk_X9_first 23 rfl) rfl ?_
          refine am_icmp_gt (q := 46) (t := 108) (am_tab tk_X9_first 24 rfl) (by decide) rfl (fun h43 => ?_) (fun h43 => ?_)
          · refine am_iconst (q := 109) (n := (-1)) (by decide) (am_tab tk_X9_first 53 rfl) rfl ?_
            refine am_iret (Or.inl rfl) (Nat.le_of_ble_eq_true rfl) (Nat.le_of_ble_eq_true rfl) (am_tab tk_X9_first 54 rfl) ?_
            refine hQ _ _ ?_
            exact ⟨congrArg (fun z => some (am_i z)) (fir_no hno (by omega) (by omega)).symm, hq⟩
          · have hGk := itS_GD hC.G k (by omega)
            have hck := itS_cc hC.G (n := k) (by omega)
            refine am_aload_n (q := 47) rfl (am_tab tk_X9_first 25 rfl) rfl ?_
            refine am_getR (q := 50) (a := 0) (k := 9) (n := 17) (j := 7) (r := some (44)) (Ls_0 (hq.L hC.G.L)) (by decide) rfl (Lr_0_7 (hq.L hC.G.L)) (by decide) (Or.inl kf_X9_57) (am_tab tk_X9_first 26 rfl) rfl ?_
            refine am_aload_n (q := 51) rfl (am_tab tk_X9_first 27 rfl) rfl ?_
            refine am_getR (q := 54) (a := 0) (k := 9) (n := 17) (j := 2) (r := some (3)) (Ls_0 (hq.L hC.G.L)) (by decide) rfl ((hq.2.1 0 2 (by omega)).trans hC.t) (by decide) (Or.inl kf_X9_19) (am_tab tk_X9_first 28 rfl) rfl ?_
            refine am_aload_n (q := 55) rfl (am_tab tk_X9_first 29 rfl) rfl ?_
            refine am_getR (q := 58) (a := 0) (k := 9) (n := 17) (j := 5) (r := some (37)) (Ls_0 (hq.L hC.G.L)) (by decide) rfl (Lr_0_5 (hq.L hC.G.L)) (by decide) (Or.inl kf_X9_42) (am_tab tk_X9_first 30 rfl) rfl ?_
            refine am_callVr (q := 61) (me2 := M_X0_lookAt) (b := 44) (kb := 0) (nb := 14) (As := [am_r 3, am_r 37]) (rest := []) (c_lookAt_3_37 S (itS k σ) (hq.L hC.G.L) hGk.1 ((hC.W.cq hq (by decide)).it k) hA) ⟨rfl, rfl⟩ (Ls_44 (hq.L hC.G.L)) (by decide) ⟨Or.inr km_X9_247, kc_X0_lookAt, kn_X0, kd_X0_lookAt, ⟨(Nat.le_of_ble_eq_true rfl), (Nat.le_of_ble_eq_true rfl)⟩, ⟨(Nat.le_of_ble_eq_true rfl), (Nat.le_of_ble_eq_true rfl)⟩, (Nat.le_of_ble_eq_true rfl)⟩ ki_X0_lookAt ks_X0_lookAt rfl (am_tab tk_X9_first 31 rfl) rfl ?_
            rintro r T1 hlk
            rw [if_pos (by rw [hGk.2]; omega)] at hlk
            obtain ⟨rfl, hDA, hF1⟩ := hlk
            have hq1 : CQ σ T1 := hq.trans (CQ.base hF1)
            have hA1 : LF0 37 T1 (fun j9 => (itS k σ).2.1 96 j9) := LF0.fr (σ := am_setR (am_setR S 44 8 (some 3)) 44 9 (some 37)) hA hF1 (by unfold W_da; omega)
            refine am_st (st2 := [am_i 1]) rfl ?_
            refine am_pop (q := 62) rfl (am_tab tk_X9_first 32 rfl) rfl ?_
            refine am_aload_n (q := 63) rfl (am_tab tk_X9_first 33 rfl) rfl ?_
            refine am_getR (q := 66) (a := 0) (k := 9) (n := 17) (j := 7) (r := some (44)) (Ls_0 (hq1.L hC.G.L)) (by decide) rfl (Lr_0_7 (hq1.L hC.G.L)) (by decide) (Or.inl kf_X9_57) (am_tab tk_X9_first 34 rfl) rfl ?_
            refine am_callVr (q := 69) (me2 := M_X0_settle) (b := 44) (kb := 0) (nb := 14) (As := []) (rest := []) (c_settle_3_37 T1 (itS k σ) (hq1.L hC.G.L) hGk.1 hck hA1 _ hDA) ⟨rfl, rfl⟩ (Ls_44 (hq1.L hC.G.L)) (by decide) ⟨Or.inr km_X9_251, kc_X0_settle, kn_X0, kd_X0_settle, ⟨(Nat.le_of_ble_eq_true rfl), (Nat.le_of_ble_eq_true rfl)⟩, ⟨(Nat.le_of_ble_eq_true rfl), (Nat.le_of_ble_eq_true rfl)⟩, (Nat.le_of_ble_eq_true rfl)⟩ ki_X0_settle ks_X0_settle rfl (am_tab tk_X9_first 35 rfl) rfl ?_
            rintro r T2 ⟨rfl, hA2, hF2⟩
            have hq2 : CQ σ T2 := hq1.trans (hF2.cq (by unfold W_se W_cq; omega))
            have hFS : FS 3 σ k T2 := hDA.FS hF2 (by decide)
            refine am_st (st2 := []) rfl ?_
            refine am_iload_n (q := 70) rfl (am_tab tk_X9_first 36 rfl) rfl ?_
            refine am_if_ne (q := 73) (t := 86) (am_tab tk_X9_first 37 rfl) (by decide) rfl (fun h70 => ?_) (fun h70 => ?_)
            · refine am_aload_n (q := 87) rfl (am_tab tk_X9_first 43 rfl) rfl ?_
              refine am_getR (q := 90) (a := 0) (k := 9) (n := 17) (j := 7) (r := some (44)) (Ls_0 (hq2.L hC.G.L)) (by decide) rfl (Lr_0_7 (hq2.L hC.G.L)) (by decide) (Or.inl kf_X9_57) (am_tab tk_X9_first 44 rfl) rfl ?_
              refine am_getI (q := 93) (a := 44) (k := 0) (n := 14) (j := 5) (x := (thD (itS k σ))) (Ls_44 (hq2.L hC.G.L)) (by decide) rfl hFS.2.2.2.1 (by decide) (Or.inr kf_X9_225) (am_tab tk_X9_first 45 rfl) rfl ?_
              refine am_callS0 (q := 96) (me2 := M_J6_bitCount_0f7a4) (As := [am_i ((thD (itS k σ)))]) (rest := []) (out := [am_i (bc (thD (itS k σ)))]) (c_bc T2 (thD (itS k σ)) (thD_rng hGk.1 hck)) ⟨rfl, rfl⟩ ⟨Or.inl km_X9_133, kc_J6_bitCount_0f7a4, kn_J6, kd_J6_bitCount_0f7a4, ⟨(Nat.le_of_ble_eq_true rfl), (Nat.le_of_ble_eq_true rfl)⟩, ⟨(Nat.le_of_ble_eq_true rfl), (Nat.le_of_ble_eq_true rfl)⟩, (Nat.le_of_ble_eq_true rfl)⟩ ki_J6_bitCount_0f7a4 rfl rfl (am_tab tk_X9_first 46 rfl) rfl ?_
              refine am_iconst (q := 97) (n := 1) (by decide) (am_tab tk_X9_first 47 rfl) rfl ?_
              refine am_icmp_ne (q := 100) (t := 102) (am_tab tk_X9_first 48 rfl) (by decide) rfl (fun h97 => ?_) (fun h97 => ?_)
              · refine am_iinc (q := 105) rfl (by omega) (by decide) (ls2 := [(3, am_i ((((k : Int) + 1) + 1))), (2, am_i ((min 120 (dlM σ)))), (0, am_r 0), (1, am_i w)]) rfl (am_tab tk_X9_first 51 rfl) rfl ?_
                refine am_goto (t := 41) (am_tab tk_X9_first 52 rfl) (by decide) ?_
                exact am_less (by intro q hq; simp only [List.mem_cons, List.not_mem_nil, or_false] at hq; rcases hq with rfl | rfl | rfl | rfl <;> simp) (ih41 (k + 1) T2 (by omega) (by omega) hq2 hA2 (anyB_f hno (by unfold fgB; rw [decide_eq_false_iff_not]; first | (rw [if_pos (by omega)]; omega) | (rw [if_neg (by omega)]; omega))))
              · refine am_iload_n (q := 101) rfl (am_tab tk_X9_first 49 rfl) rfl ?_
                refine am_iret (Or.inl rfl) (Nat.le_of_ble_eq_true rfl) (Nat.le_of_ble_eq_true rfl) (am_tab tk_X9_first 50 rfl) ?_
                refine hQ _ _ ?_
                refine ⟨congrArg (fun z => some (am_i z)) ?_, hq2⟩
                rw [fir_at (j := k) (by unfold fgB; rw [decide_eq_true_eq]; first | (rw [if_pos (by omega)]; have := fsD01 (itS k σ); omega) | (rw [if_neg (by omega)]; omega)) hno (by omega) (by omega)]
            · refine am_aload_n (q := 74) rfl (am_tab tk_X9_first 38 rfl) rfl ?_
              refine am_getR (q := 77) (a := 0) (k := 9) (n := 17) (j := 7) (r := some (44)) (Ls_0 (hq2.L hC.G.L)) (by decide) rfl (Lr_0_7 (hq2.L hC.G.L)) (by decide) (Or.inl kf_X9_57) (am_tab tk_X9_first 39 rfl) rfl ?_
              refine am_getI (q := 80) (a := 44) (k := 0) (n := 14) (j := 6) (x := (fsD (itS k σ))) (Ls_44 (hq2.L hC.G.L)) (by decide) rfl hFS.2.2.2.2.1 (by decide) (Or.inr kf_X9_230) (am_tab tk_X9_first 40 rfl) rfl ?_
              refine am_if_eq (q := 83) (t := 102) (am_tab tk_X9_first 41 rfl) (by decide) rfl (fun h80 => ?_) (fun h80 => ?_)
              · refine am_iinc (q := 105) rfl (by omega) (by decide) (ls2 := [(3, am_i ((((k : Int) + 1) + 1))), (2, am_i ((min 120 (dlM σ)))), (0, am_r 0), (1, am_i w)]) rfl (am_tab tk_X9_first 51 rfl) rfl ?_
                refine am_goto (t := 41) (am_tab tk_X9_first 52 rfl) (by decide) ?_
                exact am_less (by intro q hq; simp only [List.mem_cons, List.not_mem_nil, or_false] at hq; rcases hq with rfl | rfl | rfl | rfl <;> simp) (ih41 (k + 1) T2 (by omega) (by omega) hq2 hA2 (anyB_f hno (by unfold fgB; rw [decide_eq_false_iff_not]; first | (rw [if_pos (by omega)]; omega) | (rw [if_neg (by omega)]; omega))))
              · refine am_goto (t := 100) (am_tab tk_X9_first 42 rfl) (by decide) ?_
                refine am_iload_n (q := 101) rfl (am_tab tk_X9_first 49 rfl) rfl ?_
                refine am_iret (Or.inl rfl) (Nat.le_of_ble_eq_true rfl) (Nat.le_of_ble_eq_true rfl) (am_tab tk_X9_first 50 rfl) ?_
                refine hQ _ _ ?_
                refine ⟨congrArg (fun z => some (am_i z)) ?_, hq2⟩
                rw [fir_at (j := k) (by unfold fgB; rw [decide_eq_true_eq]; first | (rw [if_pos (by omega)]; have := fsD01 (itS k σ); omega) | (rw [if_neg (by omega)]; omega)) hno (by omega) (by omega)]
      refine am_less (by intro q hq; simp only [List.mem_cons, List.not_mem_nil, or_false] at hq; rcases hq with rfl | rfl | rfl | rfl <;> simp) (L41 (_ + 1) 0 S0 (by exact Nat.lt_succ_self _) (Or.inr rfl) hq0 hA0 rfl)
    · refine am_iconst (q := 10) (n := (-1)) (by decide) (am_tab tk_X9_first 5 rfl) rfl ?_
      refine am_iret (Or.inl rfl) (Nat.le_of_ble_eq_true rfl) (Nat.le_of_ble_eq_true rfl) (am_tab tk_X9_first 6 rfl) ?_
      refine hQ _ _ ?_
      refine ⟨congrArg (fun z => some (am_i z)) ?_, CQ.refl σ⟩
      unfold firM
      rw [if_neg (by omega)]
theorem c_hangsOnB (S : am_H) (hL : lay S)  (x : Int) (hx : S.2.1 44 4 = x) (hxr : 0 ≤ x ∧ x < 256) : am_met M_X9_hangsOn [am_r 0] S (fun r σ' => r = some (am_i (if bc x = 1 then x else 0)) ∧ σ' = S) := by
  refine am_qq (fun Q hQ => ?_)
  refine am_enter (show plainFor yX9_hangsOn = true by decide +kernel) rfl (Nat.le_of_ble_eq_true rfl) (fun _ _ _ => trivial) ?_
  refine am_aload_n (q := 1) rfl (am_tab tk_X9_hangsOn 0 rfl) rfl ?_
  refine am_getR (q := 4) (a := 0) (k := 9) (n := 17) (j := 7) (r := some (44)) (Ls_0 hL) (by decide) rfl (Lr_0_7 hL) (by decide) (Or.inl kf_X9_57) (am_tab tk_X9_hangsOn 1 rfl) rfl ?_
  refine am_getI (q := 7) (a := 44) (k := 0) (n := 14) (j := 4) (x := x) (Ls_44 hL) (by decide) rfl hx (by decide) (Or.inr kf_X9_222) (am_tab tk_X9_hangsOn 2 rfl) rfl ?_
  refine am_callS0 (q := 10) (me2 := M_J6_bitCount_0f7a4) (As := [am_i x]) (rest := []) (out := [am_i (bc x)]) (c_bc S x (hxr)) ⟨rfl, rfl⟩ ⟨Or.inl km_X9_133, kc_J6_bitCount_0f7a4, kn_J6, kd_J6_bitCount_0f7a4, ⟨(Nat.le_of_ble_eq_true rfl), (Nat.le_of_ble_eq_true rfl)⟩, ⟨(Nat.le_of_ble_eq_true rfl), (Nat.le_of_ble_eq_true rfl)⟩, (Nat.le_of_ble_eq_true rfl)⟩ ki_J6_bitCount_0f7a4 rfl rfl (am_tab tk_X9_hangsOn 3 rfl) rfl ?_
  refine am_iconst (q := 11) (n := 1) (by decide) (am_tab tk_X9_hangsOn 4 rfl) rfl ?_
  refine am_icmp_ne (q := 14) (t := 24) (am_tab tk_X9_hangsOn 5 rfl) (by decide) rfl (fun h11 => ?_) (fun h11 => ?_)
  · refine am_iconst (q := 25) (n := 0) (by decide) (am_tab tk_X9_hangsOn 10 rfl) rfl ?_
    refine am_iret (Or.inl rfl) (Nat.le_of_ble_eq_true rfl) (Nat.le_of_ble_eq_true rfl) (am_tab tk_X9_hangsOn 11 rfl) ?_
    refine hQ _ _ ?_
    refine ⟨congrArg (fun z => some (am_i z)) ?_, rfl⟩
    first | rw [if_pos (by omega)] | rw [if_neg (by omega)]
  · refine am_aload_n (q := 15) rfl (am_tab tk_X9_hangsOn 6 rfl) rfl ?_
    refine am_getR (q := 18) (a := 0) (k := 9) (n := 17) (j := 7) (r := some (44)) (Ls_0 hL) (by decide) rfl (Lr_0_7 hL) (by decide) (Or.inl kf_X9_57) (am_tab tk_X9_hangsOn 7 rfl) rfl ?_
    refine am_getI (q := 21) (a := 44) (k := 0) (n := 14) (j := 4) (x := x) (Ls_44 hL) (by decide) rfl hx (by decide) (Or.inr kf_X9_222) (am_tab tk_X9_hangsOn 8 rfl) rfl ?_
    refine am_goto (t := 25) (am_tab tk_X9_hangsOn 9 rfl) (by decide) ?_
    refine am_iret (Or.inl rfl) (Nat.le_of_ble_eq_true rfl) (Nat.le_of_ble_eq_true rfl) (am_tab tk_X9_hangsOn 11 rfl) ?_
    refine hQ _ _ ?_
    refine ⟨congrArg (fun z => some (am_i z)) ?_, rfl⟩
    first | rw [if_pos (by omega)] | rw [if_neg (by omega)]
theorem c_hangs_15 (σ : am_H) (hC : CI 15 σ) (n : Int)  : am_met M_X9_hangs [am_r 0, am_i n] σ (fun r σ' => r = some (am_i (hanM σ n)) ∧ CQ σ σ') := by
  refine am_qq (fun Q hQ => ?_)
  refine am_enter (show plainFor yX9_hangs = true by decide +kernel) rfl (Nat.le_of_ble_eq_true rfl) (fun _ _ _ => trivial) ?_
  have hL := hC.G.L
  by_cases ah : (1 ≤ n ∧ n ≤ 120) ∧ n ≤ dlM σ
  · refine am_aload_n (q := 1) rfl (am_tab tk_X9_hangs 0 rfl) rfl ?_
    refine am_iload_n (q := 2) rfl (am_tab tk_X9_hangs 1 rfl) rfl ?_
    refine am_callVr (q := 5) (me2 := M_X9_foresee) (b := 0) (kb := 9) (nb := 17) (As := [am_i n]) (rest := []) (c_foresee_15 σ hC n) ⟨rfl, rfl⟩ (Ls_0 hL) (by decide) ⟨Or.inl km_X9_219, kc_X9_foresee, kn_X9, kd_X9_foresee, ⟨(Nat.le_of_ble_eq_true rfl), (Nat.le_of_ble_eq_true rfl)⟩, ⟨(Nat.le_of_ble_eq_true rfl), (Nat.le_of_ble_eq_true rfl)⟩, (Nat.le_of_ble_eq_true rfl)⟩ ki_X9_foresee ks_X9_foresee rfl (am_tab tk_X9_hangs 2 rfl) rfl ?_
    rintro r S hfo
    rw [if_pos ah] at hfo
    obtain ⟨rfl, hq, hA, hFS⟩ := hfo
    have hc9 := itS_cc hC.G (n := n.toNat - 1) (by omega)
    have hG9 := itS_GD hC.G (n.toNat - 1) (by omega)
    have hs9 := sfD_rng hG9.1 hc9
    refine am_st (st2 := [am_i 1]) rfl ?_
    refine am_if_eq (q := 8) (t := 15) (am_tab tk_X9_hangs 3 rfl) (by decide) rfl (fun h5 => ?_) (fun h5 => ?_)
    · exact absurd h5 (by decide)
    · refine am_aload_n (q := 9) rfl (am_tab tk_X9_hangs 4 rfl) rfl ?_
      refine am_callV0 (q := 12) (me2 := M_X9_hangsOn) (b := 0) (kb := 9) (nb := 17) (As := []) (rest := []) (out := [am_i (if bc (sfD (itS (n.toNat - 1) σ)) = 1 then sfD (itS (n.toNat - 1) σ) else 0)]) (c_hangsOn S (hq.L hC.G.L) _ hFS.2.2.1 hs9) ⟨rfl, rfl⟩ (Ls_0 (hq.L hC.G.L)) (by decide) ⟨Or.inl km_X9_254, kc_X9_hangsOn, kn_X9, kd_X9_hangsOn, ⟨(Nat.le_of_ble_eq_true rfl), (Nat.le_of_ble_eq_true rfl)⟩, ⟨(Nat.le_of_ble_eq_true rfl), (Nat.le_of_ble_eq_true rfl)⟩, (Nat.le_of_ble_eq_true rfl)⟩ ki_X9_hangsOn ks_X9_hangsOn rfl rfl (am_tab tk_X9_hangs 5 rfl) rfl ?_
      refine am_goto (t := 16) (am_tab tk_X9_hangs 6 rfl) (by decide) ?_
      refine am_iret (Or.inl rfl) (Nat.le_of_ble_eq_true rfl) (Nat.le_of_ble_eq_true rfl) (am_tab tk_X9_hangs 8 rfl) ?_
      refine hQ _ _ ?_
      refine ⟨congrArg (fun z => some (am_i z)) ?_, hq⟩
      unfold hanM
      rw [if_pos ah]
      rw [hg_bc hG9.1 hc9]
  · refine am_aload_n (q := 1) rfl (am_tab tk_X9_hangs 0 rfl) rfl ?_
    refine am_iload_n (q := 2) rfl (am_tab tk_X9_hangs 1 rfl) rfl ?_
    refine am_callVr (q := 5) (me2 := M_X9_foresee) (b := 0) (kb := 9) (nb := 17) (As := [am_i n]) (rest := []) (c_foresee_15 σ hC n) ⟨rfl, rfl⟩ (Ls_0 hL) (by decide) ⟨Or.inl km_X9_219, kc_X9_foresee, kn_X9, kd_X9_foresee, ⟨(Nat.le_of_ble_eq_true rfl), (Nat.le_of_ble_eq_true rfl)⟩, ⟨(Nat.le_of_ble_eq_true rfl), (Nat.le_of_ble_eq_true rfl)⟩, (Nat.le_of_ble_eq_true rfl)⟩ ki_X9_foresee ks_X9_foresee rfl (am_tab tk_X9_hangs 2 rfl) rfl ?_
    rintro r S hfo
    rw [if_neg ah] at hfo
    obtain ⟨rfl, hSS⟩ := hfo
    rw [hSS]
    refine am_st (st2 := [am_i 0]) rfl ?_
    refine am_if_eq (q := 8) (t := 15) (am_tab tk_X9_hangs 3 rfl) (by decide) rfl (fun h5 => ?_) (fun h5 => ?_)
    · refine am_iconst (q := 16) (n := (-1)) (by decide) (am_tab tk_X9_hangs 7 rfl) rfl ?_
      refine am_iret (Or.inl rfl) (Nat.le_of_ble_eq_true rfl) (Nat.le_of_ble_eq_true rfl) (am_tab tk_X9_hangs 8 rfl) ?_
      refine hQ _ _ ?_
      refine ⟨congrArg (fun z => some (am_i z)) ?_, CQ.refl σ⟩
      unfold hanM
      rw [if_neg ah]
    · exact absurd h5 (by decide)
theorem c_sure_15 (σ : am_H) (hC : CI 15 σ) (n : Int)  : am_met M_X9_sure [am_r 0, am_i n] σ (fun r σ' => r = some (am_i (surM σ n)) ∧ CQ σ σ') := by
  refine am_qq (fun Q hQ => ?_)
  refine am_enter (show plainFor yX9_sure = true by decide +kernel) rfl (Nat.le_of_ble_eq_true rfl) (fun _ _ _ => trivial) ?_
  have hL := hC.G.L
  refine am_aload_n (q := 1) rfl (am_tab tk_X9_sure 0 rfl) rfl ?_
  refine am_iload_n (q := 2) rfl (am_tab tk_X9_sure 1 rfl) rfl ?_
  refine am_callV0 (q := 5) (me2 := M_X9_isAhead) (b := 0) (kb := 9) (nb := 17) (As := [am_i n]) (rest := []) (out := [am_i (if (1 ≤ n ∧ n ≤ 120) ∧ n ≤ dlM σ then 1 else 0)]) (c_isAhead_15 σ hC n) ⟨rfl, rfl⟩ (Ls_0 hL) (by decide) ⟨Or.inl km_X9_257, kc_X9_isAhead, kn_X9, kd_X9_isAhead, ⟨(Nat.le_of_ble_eq_true rfl), (Nat.le_of_ble_eq_true rfl)⟩, ⟨(Nat.le_of_ble_eq_true rfl), (Nat.le_of_ble_eq_true rfl)⟩, (Nat.le_of_ble_eq_true rfl)⟩ ki_X9_isAhead ks_X9_isAhead rfl rfl (am_tab tk_X9_sure 2 rfl) rfl ?_
  by_cases ah : (1 ≤ n ∧ n ≤ 120) ∧ n ≤ dlM σ
  · refine am_if_ne (q := 8) (t := 10) (am_tab tk_X9_sure 3 rfl) (by decide) rfl (fun h5 => ?_) (fun h5 => ?_)
    · replace h5 := b01n h5
      have hsr : ∀ k : Nat, k ≤ 120 → 0 ≤ sumN (surB σ) k ∧ sumN (surB σ) k ≤ k * 1 := fun k _ => sumN_rng k (fun i _ => surB_01 σ i)
      refine am_iconst (q := 11) (n := 0) (by decide) (am_tab tk_X9_sure 6 rfl) rfl ?_
      refine am_istore_n (q := 12) (by decide) (ls2 := [(2, am_i 0), (0, am_r 0), (1, am_i n)]) rfl (am_tab tk_X9_sure 7 rfl) rfl ?_
      refine am_aload_n (q := 13) rfl (am_tab tk_X9_sure 8 rfl) rfl ?_
      refine am_getR (q := 16) (a := 0) (k := 9) (n := 17) (j := 5) (r := some (37)) (Ls_0 hL) (by decide) rfl (Lr_0_5 hL) (by decide) (Or.inl kf_X9_42) (am_tab tk_X9_sure 9 rfl) rfl ?_
      refine am_aload_n (q := 17) rfl (am_tab tk_X9_sure 10 rfl) rfl ?_
      refine am_getR (q := 20) (a := 0) (k := 9) (n := 17) (j := 4) (r := some (32)) (Ls_0 hL) (by decide) rfl (Lr_0_4 hL) (by decide) (Or.inl kf_X9_38) (am_tab tk_X9_sure 11 rfl) rfl ?_
      refine am_callVr (q := 23) (me2 := M_X1_copyFrom) (b := 37) (kb := 1) (nb := 11) (As := [am_r 32]) (rest := []) (c_copy_37_32 σ hC.G.L) ⟨rfl, rfl⟩ (Ls_37 hL) (by decide) ⟨Or.inr km_X9_243, kc_X1_copyFrom, kn_X1, kd_X1_copyFrom, ⟨(Nat.le_of_ble_eq_true rfl), (Nat.le_of_ble_eq_true rfl)⟩, ⟨(Nat.le_of_ble_eq_true rfl), (Nat.le_of_ble_eq_true rfl)⟩, (Nat.le_of_ble_eq_true rfl)⟩ ki_X1_copyFrom ks_X1_copyFrom rfl (am_tab tk_X9_sure 12 rfl) rfl ?_
      rintro r S0 ⟨rfl, hCP, hFc⟩
      have hq0 : CQ σ S0 := hFc.cq (by unfold W_li W_cq; omega)
      have hA0 : LF0 37 S0 (fun j9 => (itS 0 σ).2.1 96 j9) := hCP.lf hC.F
      refine am_st (st2 := []) rfl ?_
      refine am_iconst (q := 24) (n := 0) (by decide) (am_tab tk_X9_sure 13 rfl) rfl ?_
      refine am_istore_n (q := 25) (by decide) (ls2 := [(3, am_i 0), (2, am_i 0), (0, am_r 0), (1, am_i n)]) rfl (am_tab tk_X9_sure 14 rfl) rfl ?_
      have L25 : ∀ (n25 : Nat) (k : Nat) (S : am_H), n.toNat - k < n25 → (k : Int) ≤ n → CQ σ S → LF0 37 S (fun j9 => (itS k σ).2.1 96 j9) → am_wp M_X9_sure Q 0 0 25 [(3, am_i ((k : Int))), (2, am_i ((sumN (surB σ) k))), (0, am_r 0), (1, am_i n)] [] S := by
        intro n25
        induction n25 with
        | zero => intro k S hn25; exact absurd hn25 (Nat.not_lt_zero _)
        | succ n25 ih25 =>
          intro k S hn25 hk hq hA
          refine am_iload_n (q := 26) rfl (am_tab tk_X9_sure 15 rfl) rfl ?_
          refine am_iload_n (q := 27) rfl (am_tab tk_X9_sure 16 rfl) rfl ?_
          refine am_icmp_ge (q := 30) (t := 79) (am_tab tk_X9_sure 17 rfl) (by decide) rfl (fun h27 => ?_) (fun h27 => ?_)
          · refine am_iload_n (q := 80) rfl (am_tab tk_X9_sure 39 rfl) rfl ?_
            refine am_iret (Or.inl rfl) (Nat.le_of_ble_eq_true rfl) (Nat.le_of_ble_eq_true rfl) (am_tab tk_X9_sure 40 rfl) ?_
            refine hQ _ _ ?_
            refine ⟨congrArg (fun z => some (am_i z)) ?_, hq⟩
            unfold surM
            rw [if_pos ah, show k = n.toNat by omega]
          · have hGk := itS_GD hC.G k (by omega)
            have hck := itS_cc hC.G (n := k) (by omega)
            refine am_aload_n (q := 31) rfl (am_tab tk_X9_sure 18 rfl) rfl ?_
            refine am_getR (q := 34) (a := 0) (k := 9) (n := 17) (j := 7) (r := some (44)) (Ls_0 (hq.L hC.G.L)) (by decide) rfl (Lr_0_7 (hq.L hC.G.L)) (by decide) (Or.inl kf_X9_57) (am_tab tk_X9_sure 19 rfl) rfl ?_
            refine am_aload_n (q := 35) rfl (am_tab tk_X9_sure 20 rfl) rfl ?_
            refine am_getR (q := 38) (a := 0) (k := 9) (n := 17) (j := 2) (r := some (15)) (Ls_0 (hq.L hC.G.L)) (by decide) rfl ((hq.2.1 0 2 (by omega)).trans hC.t) (by decide) (Or.inl kf_X9_19) (am_tab tk_X9_sure 21 rfl) rfl ?_
            refine am_aload_n (q := 39) rfl (am_tab tk_X9_sure 22 rfl) rfl ?_
            refine am_getR (q := 42) (a := 0) (k := 9) (n := 17) (j := 5) (r := some (37)) (Ls_0 (hq.L hC.G.L)) (by decide) rfl (Lr_0_5 (hq.L hC.G.L)) (by decide) (Or.inl kf_X9_42) (am_tab tk_X9_sure 23 rfl) rfl ?_
            refine am_callVr (q := 45) (me2 := M_X0_lookAt) (b := 44) (kb := 0) (nb := 14) (As := [am_r 15, am_r 37]) (rest := []) (c_lookAt_15_37 S (itS k σ) (hq.L hC.G.L) hGk.1 ((hC.W.cq hq (by decide)).it k) hA) ⟨rfl, rfl⟩ (Ls_44 (hq.L hC.G.L)) (by decide) ⟨Or.inr km_X9_247, kc_X0_lookAt, kn_X0, kd_X0_lookAt, ⟨(Nat.le_of_ble_eq_true rfl), (Nat.le_of_ble_eq_true rfl)⟩, ⟨(Nat.le_of_ble_eq_true rfl), (Nat.le_of_ble_eq_true rfl)⟩, (Nat.le_of_ble_eq_true rfl)⟩ ki_X0_lookAt ks_X0_lookAt rfl (am_tab tk_X9_sure 24 rfl) rfl ?_
            rintro r T1 hlk
            rw [if_pos (by rw [hGk.2]; omega)] at hlk
            obtain ⟨rfl, hDA, hF1⟩ := hlk
            have hq1 : CQ σ T1 := hq.trans (CQ.base hF1)
            have hA1 : LF0 37 T1 (fun j9 => (itS k σ).2.1 96 j9) := LF0.fr (σ := am_setR (am_setR S 44 8 (some 15)) 44 9 (some 37)) hA hF1 (by unfold W_da; omega)
            refine am_st (st2 := [am_i 1]) rfl ?_
            refine am_pop (q := 46) rfl (am_tab tk_X9_sure 25 rfl) rfl ?_
            refine am_aload_n (q := 47) rfl (am_tab tk_X9_sure 26 rfl) rfl ?_
            refine am_getR (q := 50) (a := 0) (k := 9) (n := 17) (j := 7) (r := some (44)) (Ls_0 (hq1.L hC.G.L)) (by decide) rfl (Lr_0_7 (hq1.L hC.G.L)) (by decide) (Or.inl kf_X9_57) (am_tab tk_X9_sure 27 rfl) rfl ?_
            refine am_callVr (q := 53) (me2 := M_X0_settle) (b := 44) (kb := 0) (nb := 14) (As := []) (rest := []) (c_settle_15_37 T1 (itS k σ) (hq1.L hC.G.L) hGk.1 hck hA1 _ hDA) ⟨rfl, rfl⟩ (Ls_44 (hq1.L hC.G.L)) (by decide) ⟨Or.inr km_X9_251, kc_X0_settle, kn_X0, kd_X0_settle, ⟨(Nat.le_of_ble_eq_true rfl), (Nat.le_of_ble_eq_true rfl)⟩, ⟨(Nat.le_of_ble_eq_true rfl), (Nat.le_of_ble_eq_true rfl)⟩, (Nat.le_of_ble_eq_true rfl)⟩ ki_X0_settle ks_X0_settle rfl (am_tab tk_X9_sure 28 rfl) rfl ?_
            rintro r T2 ⟨rfl, hA2, hF2⟩
            have hq2 : CQ σ T2 := hq1.trans (hF2.cq (by unfold W_se W_cq; omega))
            have hFS : FS 15 σ k T2 := hDA.FS hF2 (by decide)
            refine am_st (st2 := []) rfl ?_
            refine am_aload_n (q := 54) rfl (am_tab tk_X9_sure 29 rfl) rfl ?_
            refine am_getR (q := 57) (a := 0) (k := 9) (n := 17) (j := 7) (r := some (44)) (Ls_0 (hq2.L hC.G.L)) (by decide) rfl (Lr_0_7 (hq2.L hC.G.L)) (by decide) (Or.inl kf_X9_57) (am_tab tk_X9_sure 30 rfl) rfl ?_
            refine am_getI (q := 60) (a := 44) (k := 0) (n := 14) (j := 5) (x := (thD (itS k σ))) (Ls_44 (hq2.L hC.G.L)) (by decide) rfl hFS.2.2.2.1 (by decide) (Or.inr kf_X9_225) (am_tab tk_X9_sure 31 rfl) rfl ?_
            refine am_if_eq (q := 63) (t := 73) (am_tab tk_X9_sure 32 rfl) (by decide) rfl (fun h60 => ?_) (fun h60 => ?_)
            · refine am_iinc (q := 76) rfl (by omega) (by decide) (ls2 := [(3, am_i (((k : Int) + 1))), (2, am_i ((sumN (surB σ) k))), (0, am_r 0), (1, am_i n)]) rfl (am_tab tk_X9_sure 37 rfl) rfl ?_
              refine am_goto (t := 25) (am_tab tk_X9_sure 38 rfl) (by decide) ?_
              have he : sumN (surB σ) (k + 1) = (sumN (surB σ) k) := by
                show sumN (surB σ) k + surB σ k = _
                unfold surB
                rw [hg_bc hGk.1 hck]
                rw [if_neg (by omega)]; omega
              exact am_less (by intro q hq; simp only [List.mem_cons, List.not_mem_nil, or_false] at hq; rcases hq with rfl | rfl | rfl | rfl <;> simp [he]) (ih25 (k + 1) T2 (by omega) (by omega) hq2 hA2)
            · refine am_aload_n (q := 64) rfl (am_tab tk_X9_sure 33 rfl) rfl ?_
              refine am_callV0 (q := 67) (me2 := M_X9_hangsOn) (b := 0) (kb := 9) (nb := 17) (As := []) (rest := []) (out := [am_i ((if bc (sfD (itS k σ)) = 1 then sfD (itS k σ) else 0))]) (c_hangsOn T2 (hq2.L hC.G.L) _ hFS.2.2.1 (sfD_rng hGk.1 hck)) ⟨rfl, rfl⟩ (Ls_0 (hq2.L hC.G.L)) (by decide) ⟨Or.inl km_X9_254, kc_X9_hangsOn, kn_X9, kd_X9_hangsOn, ⟨(Nat.le_of_ble_eq_true rfl), (Nat.le_of_ble_eq_true rfl)⟩, ⟨(Nat.le_of_ble_eq_true rfl), (Nat.le_of_ble_eq_true rfl)⟩, (Nat.le_of_ble_eq_true rfl)⟩ ki_X9_hangsOn ks_X9_hangsOn rfl rfl (am_tab tk_X9_sure 34 rfl) rfl ?_
              refine am_if_ne (q := 70) (t := 73) (am_tab tk_X9_sure 35 rfl) (by decide) rfl (fun h67 => ?_) (fun h67 => ?_)
              · refine am_iinc (q := 76) rfl (by omega) (by decide) (ls2 := [(3, am_i (((k : Int) + 1))), (2, am_i ((sumN (surB σ) k))), (0, am_r 0), (1, am_i n)]) rfl (am_tab tk_X9_sure 37 rfl) rfl ?_
                refine am_goto (t := 25) (am_tab tk_X9_sure 38 rfl) (by decide) ?_
                have he : sumN (surB σ) (k + 1) = (sumN (surB σ) k) := by
                  show sumN (surB σ) k + surB σ k = _
                  unfold surB
                  rw [hg_bc hGk.1 hck]
                  rw [if_neg (by omega)]; omega
                exact am_less (by intro q hq; simp only [List.mem_cons, List.not_mem_nil, or_false] at hq; rcases hq with rfl | rfl | rfl | rfl <;> simp [he]) (ih25 (k + 1) T2 (by omega) (by omega) hq2 hA2)
              · have hsk := hsr k (by omega)
                refine am_iinc (q := 73) rfl (by omega) (by decide) (ls2 := [(2, am_i (((sumN (surB σ) k) + 1))), (3, am_i ((k : Int))), (0, am_r 0), (1, am_i n)]) rfl (am_tab tk_X9_sure 36 rfl) rfl ?_
                refine am_iinc (q := 76) rfl (by omega) (by decide) (ls2 := [(3, am_i (((k : Int) + 1))), (2, am_i (((sumN (surB σ) k) + 1))), (0, am_r 0), (1, am_i n)]) rfl (am_tab tk_X9_sure 37 rfl) rfl ?_
                refine am_goto (t := 25) (am_tab tk_X9_sure 38 rfl) (by decide) ?_
                have he : sumN (surB σ) (k + 1) = ((sumN (surB σ) k) + 1) := by
                  show sumN (surB σ) k + surB σ k = _
                  unfold surB
                  rw [hg_bc hGk.1 hck]
                  rw [if_pos ⟨by omega, by omega⟩]
                exact am_less (by intro q hq; simp only [List.mem_cons, List.not_mem_nil, or_false] at hq; rcases hq with rfl | rfl | rfl | rfl <;> simp [he]) (ih25 (k + 1) T2 (by omega) (by omega) hq2 hA2)
      refine am_less (by intro q hq; simp only [List.mem_cons, List.not_mem_nil, or_false] at hq; rcases hq with rfl | rfl | rfl | rfl <;> simp [sumN]) (L25 (_ + 1) 0 S0 (by exact Nat.lt_succ_self _) (by omega) hq0 hA0)
    · exact absurd ah (b01z h5)
  · refine am_if_ne (q := 8) (t := 10) (am_tab tk_X9_sure 3 rfl) (by decide) rfl (fun h5 => ?_) (fun h5 => ?_)
    · exact absurd (b01n h5) ah
    · replace h5 := b01z h5
      refine am_iconst (q := 9) (n := (-1)) (by decide) (am_tab tk_X9_sure 4 rfl) rfl ?_
      refine am_iret (Or.inl rfl) (Nat.le_of_ble_eq_true rfl) (Nat.le_of_ble_eq_true rfl) (am_tab tk_X9_sure 5 rfl) ?_
      refine hQ _ _ ?_
      refine ⟨congrArg (fun z => some (am_i z)) ?_, CQ.refl σ⟩
      unfold surM
      rw [if_neg ah]
theorem c_priceOf_15 (σ S : am_H) (hC : CI 15 σ) (hq : CQ σ S) (x : Int) (hxr : 0 ≤ x ∧ x < 256) : am_met M_X9_priceOf [am_r 0, am_i x] S (fun r σ' => r = some (am_i (coM σ x)) ∧ σ' = S) := by
  refine am_qq (fun Q hQ => ?_)
  refine am_enter (show plainFor yX9_priceOf = true by decide +kernel) rfl (Nat.le_of_ble_eq_true rfl) (fun _ _ _ => trivial) ?_
  have h8 : pN σ ≤ 8 := by have := hC.G.R.P; unfold pN; omega
  have hpn : (pN σ : Int) = σ.2.1 85 5 := by have := hC.G.R.P; unfold pN; omega
  have hsr : ∀ k : Nat, k ≤ 8 → 0 ≤ sumN (fun p => if tb x p = 1 then σ.2.1 88 (8 + p) else 0) k ∧ sumN (fun p => if tb x p = 1 then σ.2.1 88 (8 + p) else 0) k ≤ k * 99 := fun k hk => sumN_rng k (fun i hi => by have := hC.G.R.ask i (by omega); split <;> omega)
  refine am_iconst (q := 1) (n := 0) (by decide) (am_tab tk_X9_priceOf 0 rfl) rfl ?_
  refine am_istore_n (q := 2) (by decide) (ls2 := [(2, am_i 0), (0, am_r 0), (1, am_i x)]) rfl (am_tab tk_X9_priceOf 1 rfl) rfl ?_
  refine am_iconst (q := 3) (n := 0) (by decide) (am_tab tk_X9_priceOf 2 rfl) rfl ?_
  refine am_istore_n (q := 4) (by decide) (ls2 := [(3, am_i 0), (2, am_i 0), (0, am_r 0), (1, am_i x)]) rfl (am_tab tk_X9_priceOf 3 rfl) rfl ?_
  have L4 : ∀ (n4 : Nat) (p : Nat), 8 - p < n4 → p ≤ pN σ → am_wp M_X9_priceOf Q 0 0 4 [(3, am_i ((p : Int))), (2, am_i ((sumN (fun p => if tb x p = 1 then σ.2.1 88 (8 + p) else 0) p))), (0, am_r 0), (1, am_i x)] [] S := by
    intro n4
    induction n4 with
    | zero => intro p hn4; exact absurd hn4 (Nat.not_lt_zero _)
    | succ n4 ih4 =>
      intro p hn4 hp
      refine am_iload_n (q := 5) rfl (am_tab tk_X9_priceOf 4 rfl) rfl ?_
      refine am_aload_n (q := 6) rfl (am_tab tk_X9_priceOf 5 rfl) rfl ?_
      refine am_getR (q := 9) (a := 0) (k := 9) (n := 17) (j := 2) (r := some (15)) (Ls_0 (hq.L hC.G.L)) (by decide) rfl ((hq.2.1 0 2 (by omega)).trans hC.t) (by decide) (Or.inl kf_X9_19) (am_tab tk_X9_priceOf 6 rfl) rfl ?_
      refine am_getI (q := 12) (a := 15) (k := 8) (n := 17) (j := 2) (x := (σ.2.1 85 5)) (Ls_15 (hq.L hC.G.L)) (by decide) rfl (hC.W.cq hq (by decide)).people (by decide) (Or.inr kf_X9_126) (am_tab tk_X9_priceOf 7 rfl) rfl ?_
      refine am_icmp_ge (q := 15) (t := 39) (am_tab tk_X9_priceOf 8 rfl) (by decide) rfl (fun h12 => ?_) (fun h12 => ?_)
      · refine am_iload_n (q := 40) rfl (am_tab tk_X9_priceOf 23 rfl) rfl ?_
        refine am_iret (Or.inl rfl) (Nat.le_of_ble_eq_true rfl) (Nat.le_of_ble_eq_true rfl) (am_tab tk_X9_priceOf 24 rfl) ?_
        refine hQ _ _ ?_
        unfold coM
        rw [show p = pN σ by omega]
        exact ⟨rfl, rfl⟩
      · have hpp : p < pN σ := by omega
        have ha9 := hC.G.R.ask p (by omega)
        have hs9 := hsr p (by omega)
        have htb : tb x (p : Int) * σ.2.1 88 (8 + p) = if tb x p = 1 then σ.2.1 88 (8 + p) else 0 := by
          rcases tb_01 x p with h | h <;> rw [h] <;> simp
        have hit : 0 ≤ (if tb x p = 1 then σ.2.1 88 (8 + p) else 0) ∧ (if tb x p = 1 then σ.2.1 88 (8 + p) else 0) ≤ 99 := by split <;> omega
        refine am_iload_n (q := 16) rfl (am_tab tk_X9_priceOf 9 rfl) rfl ?_
        refine am_iload_n (q := 17) rfl (am_tab tk_X9_priceOf 10 rfl) rfl ?_
        refine am_iload_n (q := 18) rfl (am_tab tk_X9_priceOf 11 rfl) rfl ?_
        refine am_callS0 (q := 21) (me2 := M_X9_bit) (As := [am_i x, am_i ((p : Int))]) (rest := [am_i ((sumN (fun p => if tb x p = 1 then σ.2.1 88 (8 + p) else 0) p))]) (out := [am_i (tb x (p : Int)), am_i ((sumN (fun p => if tb x p = 1 then σ.2.1 88 (8 + p) else 0) p))]) (c_bit S x (p : Int) (hxr) (by omega)) ⟨rfl, rfl⟩ ⟨Or.inl km_X9_185, kc_X9_bit, kn_X9, kd_X9_bit, ⟨(Nat.le_of_ble_eq_true rfl), (Nat.le_of_ble_eq_true rfl)⟩, ⟨(Nat.le_of_ble_eq_true rfl), (Nat.le_of_ble_eq_true rfl)⟩, (Nat.le_of_ble_eq_true rfl)⟩ ki_X9_bit rfl rfl (am_tab tk_X9_priceOf 12 rfl) rfl ?_
        refine am_aload_n (q := 22) rfl (am_tab tk_X9_priceOf 13 rfl) rfl ?_
        refine am_getR (q := 25) (a := 0) (k := 9) (n := 17) (j := 2) (r := some (15)) (Ls_0 (hq.L hC.G.L)) (by decide) rfl ((hq.2.1 0 2 (by omega)).trans hC.t) (by decide) (Or.inl kf_X9_19) (am_tab tk_X9_priceOf 14 rfl) rfl ?_
        refine am_getR (q := 28) (a := 15) (k := 8) (n := 17) (j := 10) (r := some (18)) (Ls_15 (hq.L hC.G.L)) (by decide) rfl (Lr_15_10 (hq.L hC.G.L)) (by decide) (Or.inr kf_X9_176) (am_tab tk_X9_priceOf 15 rfl) rfl ?_
        refine am_iload_n (q := 29) rfl (am_tab tk_X9_priceOf 16 rfl) rfl ?_
        refine am_iald (q := 30) (a := 18) (n := 8) (x := (σ.2.1 88 (8 + p))) (Ls_18 (hq.L hC.G.L)) (by omega) (by omega) (by rw [show Int.toNat (p : Int) = p by omega]; exact (hC.W.cq hq (by decide)).asks p hpp) (am_tab tk_X9_priceOf 17 rfl) rfl ?_
        refine am_imul (q := 31) (by rw [htb]; omega) (am_tab tk_X9_priceOf 18 rfl) rfl ?_
        refine am_iadd (q := 32) (by rw [htb]; omega) (am_tab tk_X9_priceOf 19 rfl) rfl ?_
        refine am_istore_n (q := 33) (by decide) (ls2 := [(2, am_i (((sumN (fun p => if tb x p = 1 then σ.2.1 88 (8 + p) else 0) p) + ((tb x (p : Int)) * (σ.2.1 88 (8 + p)))))), (3, am_i ((p : Int))), (0, am_r 0), (1, am_i x)]) rfl (am_tab tk_X9_priceOf 20 rfl) rfl ?_
        refine am_iinc (q := 36) rfl (by omega) (by decide) (ls2 := [(3, am_i (((p : Int) + 1))), (2, am_i (((sumN (fun p => if tb x p = 1 then σ.2.1 88 (8 + p) else 0) p) + ((tb x (p : Int)) * (σ.2.1 88 (8 + p)))))), (0, am_r 0), (1, am_i x)]) rfl (am_tab tk_X9_priceOf 21 rfl) rfl ?_
        refine am_goto (t := 4) (am_tab tk_X9_priceOf 22 rfl) (by decide) ?_
        have he : sumN (fun p => if tb x p = 1 then σ.2.1 88 (8 + p) else 0) (p + 1) = ((sumN (fun p => if tb x p = 1 then σ.2.1 88 (8 + p) else 0) p) + ((tb x (p : Int)) * (σ.2.1 88 (8 + p)))) := by
          rw [htb]
          rfl
        exact am_less (by intro q hq; simp only [List.mem_cons, List.not_mem_nil, or_false] at hq; rcases hq with rfl | rfl | rfl | rfl <;> simp [he]) (ih4 (p + 1) (by omega) (by omega))
  refine am_less (by intro q hq; simp only [List.mem_cons, List.not_mem_nil, or_false] at hq; rcases hq with rfl | rfl | rfl | rfl <;> simp [sumN]) (L4 (_ + 1) 0 (by exact Nat.lt_succ_self _) (Nat.zero_le _))
theorem c_costs_15 (σ : am_H) (hC : CI 15 σ) (n : Int)  : am_met M_X9_costs [am_r 0, am_i n] σ (fun r σ' => r = some (am_i (cosM σ n)) ∧ CQ σ σ') := by
  refine am_qq (fun Q hQ => ?_)
  refine am_enter (show plainFor yX9_costs = true by decide +kernel) rfl (Nat.le_of_ble_eq_true rfl) (fun _ _ _ => trivial) ?_
  have hL := hC.G.L
  by_cases ah : (1 ≤ n ∧ n ≤ 120) ∧ n ≤ dlM σ
  · refine am_aload_n (q := 1) rfl (am_tab tk_X9_costs 0 rfl) rfl ?_
    refine am_iload_n (q := 2) rfl (am_tab tk_X9_costs 1 rfl) rfl ?_
    refine am_callVr (q := 5) (me2 := M_X9_foresee) (b := 0) (kb := 9) (nb := 17) (As := [am_i n]) (rest := []) (c_foresee_15 σ hC n) ⟨rfl, rfl⟩ (Ls_0 hL) (by decide) ⟨Or.inl km_X9_219, kc_X9_foresee, kn_X9, kd_X9_foresee, ⟨(Nat.le_of_ble_eq_true rfl), (Nat.le_of_ble_eq_true rfl)⟩, ⟨(Nat.le_of_ble_eq_true rfl), (Nat.le_of_ble_eq_true rfl)⟩, (Nat.le_of_ble_eq_true rfl)⟩ ki_X9_foresee ks_X9_foresee rfl (am_tab tk_X9_costs 2 rfl) rfl ?_
    rintro r S hfo
    rw [if_pos ah] at hfo
    obtain ⟨rfl, hq, hA, hFS⟩ := hfo
    have hc9 := itS_cc hC.G (n := n.toNat - 1) (by omega)
    have hG9 := itS_GD hC.G (n.toNat - 1) (by omega)
    have hs9 := sfD_rng hG9.1 hc9
    refine am_st (st2 := [am_i 1]) rfl ?_
    refine am_if_eq (q := 8) (t := 22) (am_tab tk_X9_costs 3 rfl) (by decide) rfl (fun h5 => ?_) (fun h5 => ?_)
    · exact absurd h5 (by decide)
    · refine am_aload_n (q := 9) rfl (am_tab tk_X9_costs 4 rfl) rfl ?_
      refine am_aload_n (q := 10) rfl (am_tab tk_X9_costs 5 rfl) rfl ?_
      refine am_getR (q := 13) (a := 0) (k := 9) (n := 17) (j := 7) (r := some (44)) (Ls_0 (hq.L hC.G.L)) (by decide) rfl (Lr_0_7 (hq.L hC.G.L)) (by decide) (Or.inl kf_X9_57) (am_tab tk_X9_costs 6 rfl) rfl ?_
      refine am_getI (q := 16) (a := 44) (k := 0) (n := 14) (j := 4) (x := (sfD (itS (n.toNat - 1) σ))) (Ls_44 (hq.L hC.G.L)) (by decide) rfl hFS.2.2.1 (by decide) (Or.inr kf_X9_222) (am_tab tk_X9_costs 7 rfl) rfl ?_
      refine am_callV0 (q := 19) (me2 := M_X9_priceOf) (b := 0) (kb := 9) (nb := 17) (As := [am_i ((sfD (itS (n.toNat - 1) σ)))]) (rest := []) (out := [am_i (coM σ (sfD (itS (n.toNat - 1) σ)))]) (c_priceOf_15 σ S hC hq (sfD (itS (n.toNat - 1) σ)) hs9) ⟨rfl, rfl⟩ (Ls_0 (hq.L hC.G.L)) (by decide) ⟨Or.inl km_X9_263, kc_X9_priceOf, kn_X9, kd_X9_priceOf, ⟨(Nat.le_of_ble_eq_true rfl), (Nat.le_of_ble_eq_true rfl)⟩, ⟨(Nat.le_of_ble_eq_true rfl), (Nat.le_of_ble_eq_true rfl)⟩, (Nat.le_of_ble_eq_true rfl)⟩ ki_X9_priceOf ks_X9_priceOf rfl rfl (am_tab tk_X9_costs 8 rfl) rfl ?_
      refine am_goto (t := 23) (am_tab tk_X9_costs 9 rfl) (by decide) ?_
      refine am_iret (Or.inl rfl) (Nat.le_of_ble_eq_true rfl) (Nat.le_of_ble_eq_true rfl) (am_tab tk_X9_costs 11 rfl) ?_
      refine hQ _ _ ?_
      refine ⟨congrArg (fun z => some (am_i z)) ?_, hq⟩
      unfold cosM
      rw [if_pos ah]
  · refine am_aload_n (q := 1) rfl (am_tab tk_X9_costs 0 rfl) rfl ?_
    refine am_iload_n (q := 2) rfl (am_tab tk_X9_costs 1 rfl) rfl ?_
    refine am_callVr (q := 5) (me2 := M_X9_foresee) (b := 0) (kb := 9) (nb := 17) (As := [am_i n]) (rest := []) (c_foresee_15 σ hC n) ⟨rfl, rfl⟩ (Ls_0 hL) (by decide) ⟨Or.inl km_X9_219, kc_X9_foresee, kn_X9, kd_X9_foresee, ⟨(Nat.le_of_ble_eq_true rfl), (Nat.le_of_ble_eq_true rfl)⟩, ⟨(Nat.le_of_ble_eq_true rfl), (Nat.le_of_ble_eq_true rfl)⟩, (Nat.le_of_ble_eq_true rfl)⟩ ki_X9_foresee ks_X9_foresee rfl (am_tab tk_X9_costs 2 rfl) rfl ?_
    rintro r S hfo
    rw [if_neg ah] at hfo
    obtain ⟨rfl, hSS⟩ := hfo
    rw [hSS]
    refine am_st (st2 := [am_i 0]) rfl ?_
    refine am_if_eq (q := 8) (t := 22) (am_tab tk_X9_costs 3 rfl) (by decide) rfl (fun h5 => ?_) (fun h5 => ?_)
    · refine am_iconst (q := 23) (n := (-1)) (by decide) (am_tab tk_X9_costs 10 rfl) rfl ?_
      refine am_iret (Or.inl rfl) (Nat.le_of_ble_eq_true rfl) (Nat.le_of_ble_eq_true rfl) (am_tab tk_X9_costs 11 rfl) ?_
      refine hQ _ _ ?_
      refine ⟨congrArg (fun z => some (am_i z)) ?_, CQ.refl σ⟩
      unfold cosM
      rw [if_neg ah]
    · exact absurd h5 (by decide)
set_option maxRecDepth 100000 in
theorem c_chanceOf_15 (σ S : am_H) (hC : CI 15 σ) (hq : CQ σ S) (k : Nat) (hk8 : k ≤ 8) : am_met M_X9_chanceOfNobody [am_r 0, am_i ((k : Int))] S (fun r σ' => r = some (am_i (slV (σ.2.1 92 2) k)) ∧ σ' = S) := by
  refine am_qq (fun Q hQ => ?_)
  refine am_enter (show plainFor yX9_chanceOfNobody = true by decide +kernel) rfl (Nat.le_of_ble_eq_true rfl) (fun _ _ _ => trivial) ?_
  have hsl := hC.G.R.slip
  have hps := fun i => pws hsl i
  refine am_lconst1 (q := 1) (am_tab tk_X9_chanceOfNobody 0 rfl) rfl ?_
  refine am_lstore_n (q := 2) (by decide) (ls2 := [(2, am_l 1), (0, am_r 0), (1, am_i ((k : Int)))]) rfl (am_tab tk_X9_chanceOfNobody 1 rfl) rfl ?_
  refine am_lconst1 (q := 3) (am_tab tk_X9_chanceOfNobody 2 rfl) rfl ?_
  refine am_lstore (q := 5) (by decide) (ls2 := [(4, am_l 1), (2, am_l 1), (0, am_r 0), (1, am_i ((k : Int)))]) rfl (am_tab tk_X9_chanceOfNobody 3 rfl) rfl ?_
  refine am_ldcw (q := 8) (n := 1000000) (by decide) kk_X9_342 (am_tab tk_X9_chanceOfNobody 4 rfl) rfl ?_
  refine am_istore (q := 10) (by decide) (ls2 := [(6, am_i 1000000), (4, am_l 1), (2, am_l 1), (0, am_r 0), (1, am_i ((k : Int)))]) rfl (am_tab tk_X9_chanceOfNobody 5 rfl) rfl ?_
  refine am_iconst (q := 11) (n := 0) (by decide) (am_tab tk_X9_chanceOfNobody 6 rfl) rfl ?_
  refine am_istore (q := 13) (by decide) (ls2 := [(7, am_i 0), (6, am_i 1000000), (4, am_l 1), (2, am_l 1), (0, am_r 0), (1, am_i ((k : Int)))]) rfl (am_tab tk_X9_chanceOfNobody 7 rfl) rfl ?_
  have L13 : ∀ (n13 : Nat) (i : Nat), 8 - i < n13 → i ≤ k → am_wp M_X9_chanceOfNobody Q 0 0 13 [(7, am_i ((i : Int))), (6, am_i ((cnM i))), (4, am_l ((cnW i))), (2, am_l ((cnP (σ.2.1 92 2) i))), (0, am_r 0), (1, am_i ((k : Int)))] [] S := by
    intro n13
    induction n13 with
    | zero => intro i hn13; exact absurd hn13 (Nat.not_lt_zero _)
    | succ n13 ih13 =>
      intro i hn13 hi
      refine am_iload (q := 15) rfl (am_tab tk_X9_chanceOfNobody 8 rfl) rfl ?_
      refine am_iload_n (q := 16) rfl (am_tab tk_X9_chanceOfNobody 9 rfl) rfl ?_
      refine am_icmp_ge (q := 19) (t := 67) (am_tab tk_X9_chanceOfNobody 10 rfl) (by decide) rfl (fun h16 => ?_) (fun h16 => ?_)
      · have ei : i = k := by omega
        subst ei
        have hce := cn_end hsl hk8
        have hw1 := cnW_rng hk8
        refine am_lload_n (q := 68) rfl (am_tab tk_X9_chanceOfNobody 35 rfl) rfl ?_
        refine am_iload (q := 70) rfl (am_tab tk_X9_chanceOfNobody 36 rfl) rfl ?_
        refine am_i2l (q := 71) (am_tab tk_X9_chanceOfNobody 37 rfl) rfl ?_
        refine am_lmul (q := 72) (by omega) (am_tab tk_X9_chanceOfNobody 38 rfl) rfl ?_
        refine am_lload (q := 74) rfl (am_tab tk_X9_chanceOfNobody 39 rfl) rfl ?_
        refine am_ldiv (q := 75) (by omega) (by omega) (am_tab tk_X9_chanceOfNobody 40 rfl) rfl ?_
        refine am_l2i (q := 76) (y := (slV (σ.2.1 92 2) i)) (by rw [← hce.2.1]; exact (l2i_eq (by omega)).symm) (am_tab tk_X9_chanceOfNobody 41 rfl) rfl ?_
        refine am_iret (Or.inl rfl) (Nat.le_of_ble_eq_true rfl) (Nat.le_of_ble_eq_true rfl) (am_tab tk_X9_chanceOfNobody 42 rfl) ?_
        refine hQ _ _ ?_
        exact ⟨rfl, rfl⟩
      · refine am_iload (q := 21) rfl (am_tab tk_X9_chanceOfNobody 11 rfl) rfl ?_
        refine am_bipush (q := 23) (n := 8) (by decide) rfl (am_tab tk_X9_chanceOfNobody 12 rfl) rfl ?_
        refine am_icmp_ge (q := 26) (t := 67) (am_tab tk_X9_chanceOfNobody 13 rfl) (by decide) rfl (fun h23 => ?_) (fun h23 => ?_)
        · have ei : i = k := by omega
          subst ei
          have hce := cn_end hsl hk8
          have hw1 := cnW_rng hk8
          refine am_lload_n (q := 68) rfl (am_tab tk_X9_chanceOfNobody 35 rfl) rfl ?_
          refine am_iload (q := 70) rfl (am_tab tk_X9_chanceOfNobody 36 rfl) rfl ?_
          refine am_i2l (q := 71) (am_tab tk_X9_chanceOfNobody 37 rfl) rfl ?_
          refine am_lmul (q := 72) (by omega) (am_tab tk_X9_chanceOfNobody 38 rfl) rfl ?_
          refine am_lload (q := 74) rfl (am_tab tk_X9_chanceOfNobody 39 rfl) rfl ?_
          refine am_ldiv (q := 75) (by omega) (by omega) (am_tab tk_X9_chanceOfNobody 40 rfl) rfl ?_
          refine am_l2i (q := 76) (y := (slV (σ.2.1 92 2) i)) (by rw [← hce.2.1]; exact (l2i_eq (by omega)).symm) (am_tab tk_X9_chanceOfNobody 41 rfl) rfl ?_
          refine am_iret (Or.inl rfl) (Nat.le_of_ble_eq_true rfl) (Nat.le_of_ble_eq_true rfl) (am_tab tk_X9_chanceOfNobody 42 rfl) ?_
          refine hQ _ _ ?_
          exact ⟨rfl, rfl⟩
        · have hp1 := cnP_rng hsl (i := i) (by omega)
          have hp2 := cnP_rng hsl (i := i + 1) (by omega)
          have hp3 : cnP (σ.2.1 92 2) (i + 1) = cnP (σ.2.1 92 2) i * σ.2.1 92 2 := Int.pow_succ ..
          have hw1 := cnW_rng (i := i) (by omega)
          have hw2 := cnW_rng (i := i + 1) (by omega)
          have hm1 := cnM_rng i
          refine am_lload_n (q := 27) rfl (am_tab tk_X9_chanceOfNobody 14 rfl) rfl ?_
          refine am_aload_n (q := 28) rfl (am_tab tk_X9_chanceOfNobody 15 rfl) rfl ?_
          refine am_getR (q := 31) (a := 0) (k := 9) (n := 17) (j := 2) (r := some (15)) (Ls_0 (hq.L hC.G.L)) (by decide) rfl ((hq.2.1 0 2 (by omega)).trans hC.t) (by decide) (Or.inl kf_X9_19) (am_tab tk_X9_chanceOfNobody 16 rfl) rfl ?_
          refine am_getI (q := 34) (a := 15) (k := 8) (n := 17) (j := 6) (x := (σ.2.1 92 2)) (Ls_15 (hq.L hC.G.L)) (by decide) rfl (hC.W.cq hq (by decide)).1.2.2.1 (by decide) (Or.inr kf_X9_343) (am_tab tk_X9_chanceOfNobody 17 rfl) rfl ?_
          refine am_i2l (q := 35) (am_tab tk_X9_chanceOfNobody 18 rfl) rfl ?_
          refine am_lmul (q := 36) (by omega) (am_tab tk_X9_chanceOfNobody 19 rfl) rfl ?_
          refine am_lstore_n (q := 37) (by decide) (ls2 := [(2, am_l (((cnP (σ.2.1 92 2) i) * (σ.2.1 92 2)))), (7, am_i ((i : Int))), (6, am_i ((cnM i))), (4, am_l ((cnW i))), (0, am_r 0), (1, am_i ((k : Int)))]) rfl (am_tab tk_X9_chanceOfNobody 20 rfl) rfl ?_
          refine am_iload (q := 39) rfl (am_tab tk_X9_chanceOfNobody 21 rfl) rfl ?_
          refine am_iconst (q := 40) (n := 3) (by decide) (am_tab tk_X9_chanceOfNobody 22 rfl) rfl ?_
          refine am_icmp_ge (q := 43) (t := 53) (am_tab tk_X9_chanceOfNobody 23 rfl) (by decide) rfl (fun h40 => ?_) (fun h40 => ?_)
          · refine am_lload (q := 55) rfl (am_tab tk_X9_chanceOfNobody 29 rfl) rfl ?_
            refine am_ldc2 (q := 58) (n := 100) (by decide) kk_X9_346 (am_tab tk_X9_chanceOfNobody 30 rfl) rfl ?_
            refine am_lmul (q := 59) (by have h6 := cnW_on (i := i) (by omega); omega) (am_tab tk_X9_chanceOfNobody 31 rfl) rfl ?_
            refine am_lstore (q := 61) (by decide) (ls2 := [(4, am_l (((cnW i) * 100))), (2, am_l (((cnP (σ.2.1 92 2) i) * (σ.2.1 92 2)))), (7, am_i ((i : Int))), (6, am_i ((cnM i))), (0, am_r 0), (1, am_i ((k : Int)))]) rfl (am_tab tk_X9_chanceOfNobody 32 rfl) rfl ?_
            refine am_iinc (q := 64) rfl (by omega) (by decide) (ls2 := [(7, am_i (((i : Int) + 1))), (4, am_l (((cnW i) * 100))), (2, am_l (((cnP (σ.2.1 92 2) i) * (σ.2.1 92 2)))), (6, am_i ((cnM i))), (0, am_r 0), (1, am_i ((k : Int)))]) rfl (am_tab tk_X9_chanceOfNobody 33 rfl) rfl ?_
            refine am_goto (t := 13) (am_tab tk_X9_chanceOfNobody 34 rfl) (by decide) ?_
            have e2 : cnM (i + 1) = (cnM i) := by first | exact cnM_on (by omega) | exact cnM_st (by omega)
            have e3 : cnW (i + 1) = ((cnW i) * 100) := by first | exact cnW_st (by omega) | exact cnW_on (by omega)
            exact am_less (by intro q hq; simp only [List.mem_cons, List.not_mem_nil, or_false] at hq; rcases hq with rfl | rfl | rfl | rfl | rfl | rfl <;> simp [hp3, e2, e3]) (ih13 (i + 1) (by omega) (by omega))
          · refine am_iload (q := 45) rfl (am_tab tk_X9_chanceOfNobody 24 rfl) rfl ?_
            refine am_bipush (q := 47) (n := 100) (by decide) rfl (am_tab tk_X9_chanceOfNobody 25 rfl) rfl ?_
            refine am_idiv (q := 48) (by omega) (by omega) (am_tab tk_X9_chanceOfNobody 26 rfl) rfl ?_
            refine am_istore (q := 50) (by decide) (ls2 := [(6, am_i ((Int.tdiv (cnM i) 100))), (2, am_l (((cnP (σ.2.1 92 2) i) * (σ.2.1 92 2)))), (7, am_i ((i : Int))), (4, am_l ((cnW i))), (0, am_r 0), (1, am_i ((k : Int)))]) rfl (am_tab tk_X9_chanceOfNobody 27 rfl) rfl ?_
            refine am_goto (t := 61) (am_tab tk_X9_chanceOfNobody 28 rfl) (by decide) ?_
            refine am_iinc (q := 64) rfl (by omega) (by decide) (ls2 := [(7, am_i (((i : Int) + 1))), (6, am_i ((Int.tdiv (cnM i) 100))), (2, am_l (((cnP (σ.2.1 92 2) i) * (σ.2.1 92 2)))), (4, am_l ((cnW i))), (0, am_r 0), (1, am_i ((k : Int)))]) rfl (am_tab tk_X9_chanceOfNobody 33 rfl) rfl ?_
            refine am_goto (t := 13) (am_tab tk_X9_chanceOfNobody 34 rfl) (by decide) ?_
            have e2 : cnM (i + 1) = (Int.tdiv (cnM i) 100) := by first | exact cnM_on (by omega) | exact cnM_st (by omega)
            have e3 : cnW (i + 1) = (cnW i) := by first | exact cnW_st (by omega) | exact cnW_on (by omega)
            exact am_less (by intro q hq; simp only [List.mem_cons, List.not_mem_nil, or_false] at hq; rcases hq with rfl | rfl | rfl | rfl | rfl | rfl <;> simp [hp3, e2, e3]) (ih13 (i + 1) (by omega) (by omega))
  refine am_less (by intro q hq; simp only [List.mem_cons, List.not_mem_nil, or_false] at hq; rcases hq with rfl | rfl | rfl | rfl | rfl | rfl <;> simp [cnM, cnW, cnP]) (L13 (_ + 1) 0 (by exact Nat.lt_succ_self _) (Nat.zero_le _))
theorem c_slips_15 (σ : am_H) (hC : CI 15 σ) (n : Int)  : am_met M_X9_slips [am_r 0, am_i n] σ (fun r σ' => r = some (am_i (slpM σ n)) ∧ CQ σ σ') := by
  refine am_qq (fun Q hQ => ?_)
  refine am_enter (show plainFor yX9_slips = true by decide +kernel) rfl (Nat.le_of_ble_eq_true rfl) (fun _ _ _ => trivial) ?_
  have hL := hC.G.L
  by_cases ah : (1 ≤ n ∧ n ≤ 120) ∧ n ≤ dlM σ
  · refine am_aload_n (q := 1) rfl (am_tab tk_X9_slips 0 rfl) rfl ?_
    refine am_iload_n (q := 2) rfl (am_tab tk_X9_slips 1 rfl) rfl ?_
    refine am_callVr (q := 5) (me2 := M_X9_foresee) (b := 0) (kb := 9) (nb := 17) (As := [am_i n]) (rest := []) (c_foresee_15 σ hC n) ⟨rfl, rfl⟩ (Ls_0 hL) (by decide) ⟨Or.inl km_X9_219, kc_X9_foresee, kn_X9, kd_X9_foresee, ⟨(Nat.le_of_ble_eq_true rfl), (Nat.le_of_ble_eq_true rfl)⟩, ⟨(Nat.le_of_ble_eq_true rfl), (Nat.le_of_ble_eq_true rfl)⟩, (Nat.le_of_ble_eq_true rfl)⟩ ki_X9_foresee ks_X9_foresee rfl (am_tab tk_X9_slips 2 rfl) rfl ?_
    rintro r S hfo
    rw [if_pos ah] at hfo
    obtain ⟨rfl, hq, hA, hFS⟩ := hfo
    have hc9 := itS_cc hC.G (n := n.toNat - 1) (by omega)
    have hG9 := itS_GD hC.G (n.toNat - 1) (by omega)
    have hs9 := sfD_rng hG9.1 hc9
    refine am_st (st2 := [am_i 1]) rfl ?_
    refine am_if_eq (q := 8) (t := 25) (am_tab tk_X9_slips 3 rfl) (by decide) rfl (fun h5 => ?_) (fun h5 => ?_)
    · exact absurd h5 (by decide)
    · refine am_aload_n (q := 9) rfl (am_tab tk_X9_slips 4 rfl) rfl ?_
      refine am_aload_n (q := 10) rfl (am_tab tk_X9_slips 5 rfl) rfl ?_
      refine am_getR (q := 13) (a := 0) (k := 9) (n := 17) (j := 7) (r := some (44)) (Ls_0 (hq.L hC.G.L)) (by decide) rfl (Lr_0_7 (hq.L hC.G.L)) (by decide) (Or.inl kf_X9_57) (am_tab tk_X9_slips 6 rfl) rfl ?_
      refine am_getI (q := 16) (a := 44) (k := 0) (n := 14) (j := 4) (x := (sfD (itS (n.toNat - 1) σ))) (Ls_44 (hq.L hC.G.L)) (by decide) rfl hFS.2.2.1 (by decide) (Or.inr kf_X9_222) (am_tab tk_X9_slips 7 rfl) rfl ?_
      refine am_callSr (q := 19) (me2 := M_J6_bitCount_0f7a4) (As := [am_i ((sfD (itS (n.toNat - 1) σ)))]) (rest := [am_r 0]) (c_bc S (sfD (itS (n.toNat - 1) σ)) hs9) ⟨rfl, rfl⟩ ⟨Or.inl km_X9_133, kc_J6_bitCount_0f7a4, kn_J6, kd_J6_bitCount_0f7a4, ⟨(Nat.le_of_ble_eq_true rfl), (Nat.le_of_ble_eq_true rfl)⟩, ⟨(Nat.le_of_ble_eq_true rfl), (Nat.le_of_ble_eq_true rfl)⟩, (Nat.le_of_ble_eq_true rfl)⟩ ki_J6_bitCount_0f7a4 rfl (am_tab tk_X9_slips 8 rfl) rfl ?_
      rintro r τ ⟨hr9, hτ⟩
      have hb9 := (bc1_eq hs9).2
      rw [show bc (sfD (itS (n.toNat - 1) σ)) = ((bc (sfD (itS (n.toNat - 1) σ))).toNat : Int) by omega] at hr9
      rw [hr9, hτ]
      refine am_st (st2 := [am_i (((bc (sfD (itS (n.toNat - 1) σ))).toNat : Int)), am_r 0]) rfl ?_
      refine am_callV0 (q := 22) (me2 := M_X9_chanceOfNobody) (b := 0) (kb := 9) (nb := 17) (As := [am_i (((bc (sfD (itS (n.toNat - 1) σ))).toNat : Int))]) (rest := []) (out := [am_i (slV (σ.2.1 92 2) (bc (sfD (itS (n.toNat - 1) σ))).toNat)]) (c_chanceOf_15 σ S hC hq (bc (sfD (itS (n.toNat - 1) σ))).toNat (by omega)) ⟨rfl, rfl⟩ (Ls_0 (hq.L hC.G.L)) (by decide) ⟨Or.inl km_X9_260, kc_X9_chanceOfNobody, kn_X9, kd_X9_chanceOfNobody, ⟨(Nat.le_of_ble_eq_true rfl), (Nat.le_of_ble_eq_true rfl)⟩, ⟨(Nat.le_of_ble_eq_true rfl), (Nat.le_of_ble_eq_true rfl)⟩, (Nat.le_of_ble_eq_true rfl)⟩ ki_X9_chanceOfNobody ks_X9_chanceOfNobody rfl rfl (am_tab tk_X9_slips 9 rfl) rfl ?_
      refine am_goto (t := 26) (am_tab tk_X9_slips 10 rfl) (by decide) ?_
      refine am_iret (Or.inl rfl) (Nat.le_of_ble_eq_true rfl) (Nat.le_of_ble_eq_true rfl) (am_tab tk_X9_slips 12 rfl) ?_
      refine hQ _ _ ?_
      refine ⟨congrArg (fun z => some (am_i z)) ?_, hq⟩
      unfold slpM
      rw [if_pos ah]
  · refine am_aload_n (q := 1) rfl (am_tab tk_X9_slips 0 rfl) rfl ?_
    refine am_iload_n (q := 2) rfl (am_tab tk_X9_slips 1 rfl) rfl ?_
    refine am_callVr (q := 5) (me2 := M_X9_foresee) (b := 0) (kb := 9) (nb := 17) (As := [am_i n]) (rest := []) (c_foresee_15 σ hC n) ⟨rfl, rfl⟩ (Ls_0 hL) (by decide) ⟨Or.inl km_X9_219, kc_X9_foresee, kn_X9, kd_X9_foresee, ⟨(Nat.le_of_ble_eq_true rfl), (Nat.le_of_ble_eq_true rfl)⟩, ⟨(Nat.le_of_ble_eq_true rfl), (Nat.le_of_ble_eq_true rfl)⟩, (Nat.le_of_ble_eq_true rfl)⟩ ki_X9_foresee ks_X9_foresee rfl (am_tab tk_X9_slips 2 rfl) rfl ?_
    rintro r S hfo
    rw [if_neg ah] at hfo
    obtain ⟨rfl, hSS⟩ := hfo
    rw [hSS]
    refine am_st (st2 := [am_i 0]) rfl ?_
    refine am_if_eq (q := 8) (t := 25) (am_tab tk_X9_slips 3 rfl) (by decide) rfl (fun h5 => ?_) (fun h5 => ?_)
    · refine am_iconst (q := 26) (n := (-1)) (by decide) (am_tab tk_X9_slips 11 rfl) rfl ?_
      refine am_iret (Or.inl rfl) (Nat.le_of_ble_eq_true rfl) (Nat.le_of_ble_eq_true rfl) (am_tab tk_X9_slips 12 rfl) ?_
      refine hQ _ _ ?_
      refine ⟨congrArg (fun z => some (am_i z)) ?_, CQ.refl σ⟩
      unfold slpM
      rw [if_neg ah]
    · exact absurd h5 (by decide)
theorem c_first_15 (σ : am_H) (hC : CI 15 σ) (w : Int)  : am_met M_X9_first [am_r 0, am_i w] σ (fun r σ' => r = some (am_i (firM σ w)) ∧ CQ σ σ') := by
  refine am_qq (fun Q hQ => ?_)
  refine am_enter (show plainFor yX9_first = true by decide +kernel) rfl (Nat.le_of_ble_eq_true rfl) (fun _ _ _ => trivial) ?_
  have hL := hC.G.L
  refine am_iload_n (q := 1) rfl (am_tab tk_X9_first 0 rfl) rfl ?_
  refine am_if_eq (q := 4) (t := 11) (am_tab tk_X9_first 1 rfl) (by decide) rfl (fun h1 => ?_) (fun h1 => ?_)
  · refine am_bipush (q := 13) (n := 120) (by decide) rfl (am_tab tk_X9_first 7 rfl) rfl ?_
    refine am_aload_n (q := 14) rfl (am_tab tk_X9_first 8 rfl) rfl ?_
    refine am_getR (q := 17) (a := 0) (k := 9) (n := 17) (j := 4) (r := some (32)) (Ls_0 hL) (by decide) rfl (Lr_0_4 hL) (by decide) (Or.inl kf_X9_38) (am_tab tk_X9_first 9 rfl) rfl ?_
    refine am_aload_n (q := 18) rfl (am_tab tk_X9_first 10 rfl) rfl ?_
    refine am_getR (q := 21) (a := 0) (k := 9) (n := 17) (j := 2) (r := some (15)) (Ls_0 hL) (by decide) rfl hC.t (by decide) (Or.inl kf_X9_19) (am_tab tk_X9_first 11 rfl) rfl ?_
    refine am_callV0 (q := 24) (me2 := M_X1_daysLeft) (b := 32) (kb := 1) (nb := 11) (As := [am_r 15]) (rest := [am_i 120]) (out := [am_i (dlM σ), am_i 120]) (c_daysLeft_15_32 σ σ hL hC.G hC.W hC.F) ⟨rfl, rfl⟩ (Ls_32 hL) (by decide) ⟨Or.inr km_X9_234, kc_X1_daysLeft, kn_X1, kd_X1_daysLeft, ⟨(Nat.le_of_ble_eq_true rfl), (Nat.le_of_ble_eq_true rfl)⟩, ⟨(Nat.le_of_ble_eq_true rfl), (Nat.le_of_ble_eq_true rfl)⟩, (Nat.le_of_ble_eq_true rfl)⟩ ki_X1_daysLeft ks_X1_daysLeft rfl rfl (am_tab tk_X9_first 12 rfl) rfl ?_
    refine am_callS0 (q := 27) (me2 := M_J9_min_7cf53) (As := [am_i 120, am_i (dlM σ)]) (rest := []) (out := [am_i (min 120 (dlM σ))]) (c_min σ 120 (dlM σ)) ⟨rfl, rfl⟩ ⟨Or.inl km_X9_238, kc_J9_min_7cf53, kn_J9, kd_J9_min_7cf53, ⟨(Nat.le_of_ble_eq_true rfl), (Nat.le_of_ble_eq_true rfl)⟩, ⟨(Nat.le_of_ble_eq_true rfl), (Nat.le_of_ble_eq_true rfl)⟩, (Nat.le_of_ble_eq_true rfl)⟩ ki_J9_min_7cf53 rfl rfl (am_tab tk_X9_first 13 rfl) rfl ?_
    refine am_istore_n (q := 28) (by decide) (ls2 := [(2, am_i (min 120 (dlM σ))), (0, am_r 0), (1, am_i w)]) rfl (am_tab tk_X9_first 14 rfl) rfl ?_
    refine am_aload_n (q := 29) rfl (am_tab tk_X9_first 15 rfl) rfl ?_
    refine am_getR (q := 32) (a := 0) (k := 9) (n := 17) (j := 5) (r := some (37)) (Ls_0 hL) (by decide) rfl (Lr_0_5 hL) (by decide) (Or.inl kf_X9_42) (am_tab tk_X9_first 16 rfl) rfl ?_
    refine am_aload_n (q := 33) rfl (am_tab tk_X9_first 17 rfl) rfl ?_
    refine am_getR (q := 36) (a := 0) (k := 9) (n := 17) (j := 4) (r := some (32)) (Ls_0 hL) (by decide) rfl (Lr_0_4 hL) (by decide) (Or.inl kf_X9_38) (am_tab tk_X9_first 18 rfl) rfl ?_
    refine am_callVr (q := 39) (me2 := M_X1_copyFrom) (b := 37) (kb := 1) (nb := 11) (As := [am_r 32]) (rest := []) (c_copy_37_32 σ hC.G.L) ⟨rfl, rfl⟩ (Ls_37 hL) (by decide) ⟨Or.inr km_X9_243, kc_X1_copyFrom, kn_X1, kd_X1_copyFrom, ⟨(Nat.le_of_ble_eq_true rfl), (Nat.le_of_ble_eq_true rfl)⟩, ⟨(Nat.le_of_ble_eq_true rfl), (Nat.le_of_ble_eq_true rfl)⟩, (Nat.le_of_ble_eq_true rfl)⟩ ki_X1_copyFrom ks_X1_copyFrom rfl (am_tab tk_X9_first 19 rfl) rfl ?_
    rintro r S0 ⟨rfl, hCP, hFc⟩
    have hq0 : CQ σ S0 := hFc.cq (by unfold W_li W_cq; omega)
    have hA0 : LF0 37 S0 (fun j9 => (itS 0 σ).2.1 96 j9) := hCP.lf hC.F
    refine am_st (st2 := []) rfl ?_
    refine am_iconst (q := 40) (n := 1) (by decide) (am_tab tk_X9_first 20 rfl) rfl ?_
    refine am_istore_n (q := 41) (by decide) (ls2 := [(3, am_i 1), (2, am_i (min 120 (dlM σ))), (0, am_r 0), (1, am_i w)]) rfl (am_tab tk_X9_first 21 rfl) rfl ?_
    have L41 : ∀ (n41 : Nat) (k : Nat) (S : am_H), 120 - k < n41 → ((k : Int) ≤ min 120 (dlM σ) ∨ k = 0) → CQ σ S → LF0 37 S (fun j9 => (itS k σ).2.1 96 j9) → anyB (fgB σ w) k = false → am_wp M_X9_first Q 0 0 41 [(3, am_i (((k : Int) + 1))), (2, am_i ((min 120 (dlM σ)))), (0, am_r 0), (1, am_i w)] [] S := by
      intro n41
      induction n41 with
      | zero => intro k S hn41; exact absurd hn41 (Nat.not_lt_zero _)
      | succ n41 ih41 =>
        intro k S hn41 hk hq hA hno
        refine am_iload_n (q := 42) rfl (am_tab tk_X9_first 22 rfl) rfl ?_
        refine am_iload_n (q := 43) rfl (am_tab tk_X9_first 23 rfl) rfl ?_
        refine am_icmp_gt (q := 46) (t := 108) (am_tab tk_X9_first 24 rfl) (by decide) rfl (fun h43 => ?_) (fun h43 => ?_)
        · refine am_iconst (q := 109) (n := (-1)) (by decide) (am_tab tk_X9_first 53 rfl) rfl ?_
          refine am_iret (Or.inl rfl) (Nat.le_of_ble_eq_true rfl) (Nat.le_of_ble_eq_true rfl) (am_tab tk_X9_first 54 rfl) ?_
          refine hQ _ _ ?_
          exact ⟨congrArg (fun z => some (am_i z)) (fir_no hno (by omega) (by omega)).symm, hq⟩
        · have hGk := itS_GD hC.G k (by omega)
          have hck := itS_cc hC.G (n := k) (by omega)
          refine am_aload_n (q := 47) rfl (am_tab tk_X9_first 25 rfl) rfl ?_
          refine am_getR (q := 50) (a := 0) (k := 9) (n := 17) (j := 7) (r := some (44)) (Ls_0 (hq.L hC.G.L)) (by decide) rfl (Lr_0_7 (hq.L hC.G.L)) (by decide) (Or.inl kf_X9_57) (am_tab tk_X9_first 26 rfl) rfl ?_
          refine am_aload_n (q := 51) rfl (am_tab tk_X9_first 27 rfl) rfl ?_
          refine am_getR (q := 54) (a := 0) (k := 9) (n := 17) (j := 2) (r := some (15)) (Ls_0 (hq.L hC.G.L)) (by decide) rfl ((hq.2.1 0 2 (by omega)).trans hC.t) (by decide) (Or.inl kf_X9_19) (am_tab tk_X9_first 28 rfl) rfl ?_
          refine am_aload_n (q := 55) rfl (am_tab tk_X9_first 29 rfl) rfl ?_
          refine am_getR (q := 58) (a := 0) (k := 9) (n := 17) (j := 5) (r := some (37)) (Ls_0 (hq.L hC.G.L)) (by decide) rfl (Lr_0_5 (hq.L hC.G.L)) (by decide) (Or.inl kf_X9_42) (am_tab tk_X9_first 30 rfl) rfl ?_
          refine am_callVr (q := 61) (me2 := M_X0_lookAt) (b := 44) (kb := 0) (nb := 14) (As := [am_r 15, am_r 37]) (rest := []) (c_lookAt_15_37 S (itS k σ) (hq.L hC.G.L) hGk.1 ((hC.W.cq hq (by decide)).it k) hA) ⟨rfl, rfl⟩ (Ls_44 (hq.L hC.G.L)) (by decide) ⟨Or.inr km_X9_247, kc_X0_lookAt, kn_X0, kd_X0_lookAt, ⟨(Nat.le_of_ble_eq_true rfl), (Nat.le_of_ble_eq_true rfl)⟩, ⟨(Nat.le_of_ble_eq_true rfl), (Nat.le_of_ble_eq_true rfl)⟩, (Nat.le_of_ble_eq_true rfl)⟩ ki_X0_lookAt ks_X0_lookAt rfl (am_tab tk_X9_first 31 rfl) rfl ?_
          rintro r T1 hlk
          rw [if_pos (by rw [hGk.2]; omega)] at hlk
          obtain ⟨rfl, hDA, hF1⟩ := hlk
          have hq1 : CQ σ T1 := hq.trans (CQ.base hF1)
          have hA1 : LF0 37 T1 (fun j9 => (itS k σ).2.1 96 j9) := LF0.fr (σ := am_setR (am_setR S 44 8 (some 15)) 44 9 (some 37)) hA hF1 (by unfold W_da; omega)
          refine am_st (st2 := [am_i 1]) rfl ?_
          refine am_pop (q := 62) rfl (am_tab tk_X9_first 32 rfl) rfl ?_
          refine am_aload_n (q := 63) rfl (am_tab tk_X9_first 33 rfl) rfl ?_
          refine am_getR (q := 66) (a := 0) (k := 9) (n := 17) (j := 7) (r := some (44)) (Ls_0 (hq1.L hC.G.L)) (by decide) rfl (Lr_0_7 (hq1.L hC.G.L)) (by decide) (Or.inl kf_X9_57) (am_tab tk_X9_first 34 rfl) rfl ?_
          refine am_callVr (q := 69) (me2 := M_X0_settle) (b := 44) (kb := 0) (nb := 14) (As := []) (rest := []) (c_settle_15_37 T1 (itS k σ) (hq1.L hC.G.L) hGk.1 hck hA1 _ hDA) ⟨rfl, rfl⟩ (Ls_44 (hq1.L hC.G.L)) (by decide) ⟨Or.inr km_X9_251, kc_X0_settle, kn_X0, kd_X0_settle, ⟨(Nat.le_of_ble_eq_true rfl), (Nat.le_of_ble_eq_true rfl)⟩, ⟨(Nat.le_of_ble_eq_true rfl), (Nat.le_of_ble_eq_true rfl)⟩, (Nat.le_of_ble_eq_true rfl)⟩ ki_X0_settle ks_X0_settle rfl (am_tab tk_X9_first 35 rfl) rfl ?_
          rintro r T2 ⟨rfl, hA2, hF2⟩
          have hq2 : CQ σ T2 := hq1.trans (hF2.cq (by unfold W_se W_cq; omega))
          have hFS : FS 15 σ k T2 := hDA.FS hF2 (by decide)
          refine am_st (st2 := []) rfl ?_
          refine am_iload_n (q := 70) rfl (am_tab tk_X9_first 36 rfl) rfl ?_
          refine am_if_ne (q := 73) (t := 86) (am_tab tk_X9_first 37 rfl) (by decide) rfl (fun h70 => ?_) (fun h70 => ?_)
          · refine am_aload_n (q := 87) rfl (am_tab tk_X9_first 43 rfl) rfl ?_
            refine am_getR (q := 90) (a := 0) (k := 9) (n := 17) (j := 7) (r := some (44)) (Ls_0 (hq2.L hC.G.L)) (by decide) rfl (Lr_0_7 (hq2.L hC.G.L)) (by decide) (Or.inl kf_X9_57) (am_tab tk_X9_first 44 rfl) rfl ?_
            refine am_getI (q := 93) (a := 44) (k := 0) (n := 14) (j := 5) (x := (thD (itS k σ))) (Ls_44 (hq2.L hC.G.L)) (by decide) rfl hFS.2.2.2.1 (by decide) (Or.inr kf_X9_225) (am_tab tk_X9_first 45 rfl) rfl ?_
            refine am_callS0 (q := 96) (me2 := M_J6_bitCount_0f7a4) (As := [am_i ((thD (itS k σ)))]) (rest := []) (out := [am_i (bc (thD (itS k σ)))]) (c_bc T2 (thD (itS k σ)) (thD_rng hGk.1 hck)) ⟨rfl, rfl⟩ ⟨Or.inl km_X9_133, kc_J6_bitCount_0f7a4, kn_J6, kd_J6_bitCount_0f7a4, ⟨(Nat.le_of_ble_eq_true rfl), (Nat.le_of_ble_eq_true rfl)⟩, ⟨(Nat.le_of_ble_eq_true rfl), (Nat.le_of_ble_eq_true rfl)⟩, (Nat.le_of_ble_eq_true rfl)⟩ ki_J6_bitCount_0f7a4 rfl rfl (am_tab tk_X9_first 46 rfl) rfl ?_
            refine am_iconst (q := 97) (n := 1) (by decide) (am_tab tk_X9_first 47 rfl) rfl ?_
            refine am_icmp_ne (q := 100) (t := 102) (am_tab tk_X9_first 48 rfl) (by decide) rfl (fun h97 => ?_) (fun h97 => ?_)
            · refine am_iinc (q := 105) rfl (by omega) (by decide) (ls2 := [(3, am_i ((((k : Int) + 1) + 1))), (2, am_i ((min 120 (dlM σ)))), (0, am_r 0), (1, am_i w)]) rfl (am_tab tk_X9_first 51 rfl) rfl ?_
              refine am_goto (t := 41) (am_tab tk_X9_first 52 rfl) (by decide) ?_
              exact am_less (by intro q hq; simp only [List.mem_cons, List.not_mem_nil, or_false] at hq; rcases hq with rfl | rfl | rfl | rfl <;> simp) (ih41 (k + 1) T2 (by omega) (by omega) hq2 hA2 (anyB_f hno (by unfold fgB; rw [decide_eq_false_iff_not]; first | (rw [if_pos (by omega)]; omega) | (rw [if_neg (by omega)]; omega))))
            · refine am_iload_n (q := 101) rfl (am_tab tk_X9_first 49 rfl) rfl ?_
              refine am_iret (Or.inl rfl) (Nat.le_of_ble_eq_true rfl) (Nat.le_of_ble_eq_true rfl) (am_tab tk_X9_first 50 rfl) ?_
              refine hQ _ _ ?_
              refine ⟨congrArg (fun z => some (am_i z)) ?_, hq2⟩
              rw [fir_at (j := k) (by unfold fgB; rw [decide_eq_true_eq]; first | (rw [if_pos (by omega)]; have := fsD01 (itS k σ); omega) | (rw [if_neg (by omega)]; omega)) hno (by omega) (by omega)]
          · refine am_aload_n (q := 74) rfl (am_tab tk_X9_first 38 rfl) rfl ?_
            refine am_getR (q := 77) (a := 0) (k := 9) (n := 17) (j := 7) (r := some (44)) (Ls_0 (hq2.L hC.G.L)) (by decide) rfl (Lr_0_7 (hq2.L hC.G.L)) (by decide) (Or.inl kf_X9_57) (am_tab tk_X9_first 39 rfl) rfl ?_
            refine am_getI (q := 80) (a := 44) (k := 0) (n := 14) (j := 6) (x := (fsD (itS k σ))) (Ls_44 (hq2.L hC.G.L)) (by decide) rfl hFS.2.2.2.2.1 (by decide) (Or.inr kf_X9_230) (am_tab tk_X9_first 40 rfl) rfl ?_
            refine am_if_eq (q := 83) (t := 102) (am_tab tk_X9_first 41 rfl) (by decide) rfl (fun h80 => ?_) (fun h80 => ?_)
            · refine am_iinc (q := 105) rfl (by omega) (by decide) (ls2 := [(3, am_i ((((k : Int) + 1) + 1))), (2, am_i ((min 120 (dlM σ)))), (0, am_r 0), (1, am_i w)]) rfl (am_tab tk_X9_first 51 rfl) rfl ?_
              refine am_goto (t := 41) (am_tab tk_X9_first 52 rfl) (by decide) ?_
              exact am_less (by intro q hq; simp only [List.mem_cons, List.not_mem_nil, or_false] at hq; rcases hq with rfl | rfl | rfl | rfl <;> simp) (ih41 (k + 1) T2 (by omega) (by omega) hq2 hA2 (anyB_f hno (by unfold fgB; rw [decide_eq_false_iff_not]; first | (rw [if_pos (by omega)]; omega) | (rw [if_neg (by omega)]; omega))))
            · refine am_goto (t := 100) (am_tab tk_X9_first 42 rfl) (by decide) ?_
              refine am_iload_n (q := 101) rfl (am_tab tk_X9_first 49 rfl) rfl ?_
              refine am_iret (Or.inl rfl) (Nat.le_of_ble_eq_true rfl) (Nat.le_of_ble_eq_true rfl) (am_tab tk_X9_first 50 rfl) ?_
              refine hQ _ _ ?_
              refine ⟨congrArg (fun z => some (am_i z)) ?_, hq2⟩
              rw [fir_at (j := k) (by unfold fgB; rw [decide_eq_true_eq]; first | (rw [if_pos (by omega)]; have := fsD01 (itS k σ); omega) | (rw [if_neg (by omega)]; omega)) hno (by omega) (by omega)]
    refine am_less (by intro q hq; simp only [List.mem_cons, List.not_mem_nil, or_false] at hq; rcases hq with rfl | rfl | rfl | rfl <;> simp) (L41 (_ + 1) 0 S0 (by exact Nat.lt_succ_self _) (Or.inr rfl) hq0 hA0 rfl)
  · refine am_iload_n (q := 5) rfl (am_tab tk_X9_first 2 rfl) rfl ?_
    refine am_iconst (q := 6) (n := 1) (by decide) (am_tab tk_X9_first 3 rfl) rfl ?_
    refine am_icmp_eq (q := 9) (t := 11) (am_tab tk_X9_first 4 rfl) (by decide) rfl (fun h6 => ?_) (fun h6 => ?_)
    · refine am_bipush (q := 13) (n := 120) (by decide) rfl (am_tab tk_X9_first 7 rfl) rfl ?_
      refine am_aload_n (q := 14) rfl (am_tab tk_X9_first 8 rfl) rfl ?_
      refine am_getR (q := 17) (a := 0) (k := 9) (n := 17) (j := 4) (r := some (32)) (Ls_0 hL) (by decide) rfl (Lr_0_4 hL) (by decide) (Or.inl kf_X9_38) (am_tab tk_X9_first 9 rfl) rfl ?_
      refine am_aload_n (q := 18) rfl (am_tab tk_X9_first 10 rfl) rfl ?_
      refine am_getR (q := 21) (a := 0) (k := 9) (n := 17) (j := 2) (r := some (15)) (Ls_0 hL) (by decide) rfl hC.t (by decide) (Or.inl kf_X9_19) (am_tab tk_X9_first 11 rfl) rfl ?_
      refine am_callV0 (q := 24) (me2 := M_X1_daysLeft) (b := 32) (kb := 1) (nb := 11) (As := [am_r 15]) (rest := [am_i 120]) (out := [am_i (dlM σ), am_i 120]) (c_daysLeft_15_32 σ σ hL hC.G hC.W hC.F) ⟨rfl, rfl⟩ (Ls_32 hL) (by decide) ⟨Or.inr km_X9_234, kc_X1_daysLeft, kn_X1, kd_X1_daysLeft, ⟨(Nat.le_of_ble_eq_true rfl), (Nat.le_of_ble_eq_true rfl)⟩, ⟨(Nat.le_of_ble_eq_true rfl), (Nat.le_of_ble_eq_true rfl)⟩, (Nat.le_of_ble_eq_true rfl)⟩ ki_X1_daysLeft ks_X1_daysLeft rfl rfl (am_tab tk_X9_first 12 rfl) rfl ?_
      refine am_callS0 (q := 27) (me2 := M_J9_min_7cf53) (As := [am_i 120, am_i (dlM σ)]) (rest := []) (out := [am_i (min 120 (dlM σ))]) (c_min σ 120 (dlM σ)) ⟨rfl, rfl⟩ ⟨Or.inl km_X9_238, kc_J9_min_7cf53, kn_J9, kd_J9_min_7cf53, ⟨(Nat.le_of_ble_eq_true rfl), (Nat.le_of_ble_eq_true rfl)⟩, ⟨(Nat.le_of_ble_eq_true rfl), (Nat.le_of_ble_eq_true rfl)⟩, (Nat.le_of_ble_eq_true rfl)⟩ ki_J9_min_7cf53 rfl rfl (am_tab tk_X9_first 13 rfl) rfl ?_
      refine am_istore_n (q := 28) (by decide) (ls2 := [(2, am_i (min 120 (dlM σ))), (0, am_r 0), (1, am_i w)]) rfl (am_tab tk_X9_first 14 rfl) rfl ?_
      refine am_aload_n (q := 29) rfl (am_tab tk_X9_first 15 rfl) rfl ?_
      refine am_getR (q := 32) (a := 0) (k := 9) (n := 17) (j := 5) (r := some (37)) (Ls_0 hL) (by decide) rfl (Lr_0_5 hL) (by decide) (Or.inl kf_X9_42) (am_tab tk_X9_first 16 rfl) rfl ?_
      refine am_aload_n (q := 33) rfl (am_tab tk_X9_first 17 rfl) rfl ?_
      refine am_getR (q := 36) (a := 0) (k := 9) (n := 17) (j := 4) (r := some (32)) (Ls_0 hL) (by decide) rfl (Lr_0_4 hL) (by decide) (Or.inl kf_X9_38) (am_tab tk_X9_first 18 rfl) rfl ?_
      refine am_callVr (q := 39) (me2 := M_X1_copyFrom) (b := 37) (kb := 1) (nb := 11) (As := [am_r 32]) (rest := []) (c_copy_37_32 σ hC.G.L) ⟨rfl, rfl⟩ (Ls_37 hL) (by decide) ⟨Or.inr km_X9_243, kc_X1_copyFrom, kn_X1, kd_X1_copyFrom, ⟨(Nat.le_of_ble_eq_true rfl), (Nat.le_of_ble_eq_true rfl)⟩, ⟨(Nat.le_of_ble_eq_true rfl), (Nat.le_of_ble_eq_true rfl)⟩, (Nat.le_of_ble_eq_true rfl)⟩ ki_X1_copyFrom ks_X1_copyFrom rfl (am_tab tk_X9_first 19 rfl) rfl ?_
      rintro r S0 ⟨rfl, hCP, hFc⟩
      have hq0 : CQ σ S0 := hFc.cq (by unfold W_li W_cq; omega)
      have hA0 : LF0 37 S0 (fun j9 => (itS 0 σ).2.1 96 j9) := hCP.lf hC.F
      refine am_st (st2 := []) rfl ?_
      refine am_iconst (q := 40) (n := 1) (by decide) (am_tab tk_X9_first 20 rfl) rfl ?_
      refine am_istore_n (q := 41) (by decide) (ls2 := [(3, am_i 1), (2, am_i (min 120 (dlM σ))), (0, am_r 0), (1, am_i w)]) rfl (am_tab tk_X9_first 21 rfl) rfl ?_
      have L41 : ∀ (n41 : Nat) (k : Nat) (S : am_H), 120 - k < n41 → ((k : Int) ≤ min 120 (dlM σ) ∨ k = 0) → CQ σ S → LF0 37 S (fun j9 => (itS k σ).2.1 96 j9) → anyB (fgB σ w) k = false → am_wp M_X9_first Q 0 0 41 [(3, am_i (((k : Int) + 1))), (2, am_i ((min 120 (dlM σ)))), (0, am_r 0), (1, am_i w)] [] S := by
        intro n41
        induction n41 with
        | zero => intro k S hn41; exact absurd hn41 (Nat.not_lt_zero _)
        | succ n41 ih41 =>
          intro k S hn41 hk hq hA hno
          refine am_iload_n (q := 42) rfl (am_tab tk_X9_first 22 rfl) rfl ?_
          refine am_iload_n (q := 43) rfl (am_tab tk_X9_first 23 rfl) rfl ?_
          refine am_icmp_gt (q := 46) (t := 108) (am_tab tk_X9_first 24 rfl) (by decide) rfl (fun h43 => ?_) (fun h43 => ?_)
          · refine am_iconst (q := 109) (n := (-1)) (by decide) (am_tab tk_X9_first 53 rfl) rfl ?_
            refine am_iret (Or.inl rfl) (Nat.le_of_ble_eq_true rfl) (Nat.le_of_ble_eq_true rfl) (am_tab tk_X9_first 54 rfl) ?_
            refine hQ _ _ ?_
            exact ⟨congrArg (fun z => some (am_i z)) (fir_no hno (by omega) (by omega)).symm, hq⟩
          · have hGk := itS_GD hC.G k (by omega)
            have hck := itS_cc hC.G (n := k) (by omega)
            refine am_aload_n (q := 47) rfl (am_tab tk_X9_first 25 rfl) rfl ?_
            refine am_getR (q := 50) (a := 0) (k := 9) (n := 17) (j := 7) (r := some (44)) (Ls_0 (hq.L hC.G.L)) (by decide) rfl (Lr_0_7 (hq.L hC.G.L)) (by decide) (Or.inl kf_X9_57) (am_tab tk_X9_first 26 rfl) rfl ?_
            refine am_aload_n (q := 51) rfl (am_tab tk_X9_first 27 rfl) rfl ?_
            refine am_getR (q := 54) (a := 0) (k := 9) (n := 17) (j := 2) (r := some (15)) (Ls_0 (hq.L hC.G.L)) (by decide) rfl ((hq.2.1 0 2 (by omega)).trans hC.t) (by decide) (Or.inl kf_X9_19) (am_tab tk_X9_first 28 rfl) rfl ?_
            refine am_aload_n (q := 55) rfl (am_tab tk_X9_first 29 rfl) rfl ?_
            refine am_getR (q := 58) (a := 0) (k := 9) (n := 17) (j := 5) (r := some (37)) (Ls_0 (hq.L hC.G.L)) (by decide) rfl (Lr_0_5 (hq.L hC.G.L)) (by decide) (Or.inl kf_X9_42) (am_tab tk_X9_first 30 rfl) rfl ?_
            refine am_callVr (q := 61) (me2 := M_X0_lookAt) (b := 44) (kb := 0) (nb := 14) (As := [am_r 15, am_r 37]) (rest := []) (c_lookAt_15_37 S (itS k σ) (hq.L hC.G.L) hGk.1 ((hC.W.cq hq (by decide)).it k) hA) ⟨rfl, rfl⟩ (Ls_44 (hq.L hC.G.L)) (by decide) ⟨Or.inr km_X9_247, kc_X0_lookAt, kn_X0, kd_X0_lookAt, ⟨(Nat.le_of_ble_eq_true rfl), (Nat.le_of_ble_eq_true rfl)⟩, ⟨(Nat.le_of_ble_eq_true rfl), (Nat.le_of_ble_eq_true rfl)⟩, (Nat.le_of_ble_eq_true rfl)⟩ ki_X0_lookAt ks_X0_lookAt rfl (am_tab tk_X9_first 31 rfl) rfl ?_
            rintro r T1 hlk
            rw [if_pos (by rw [hGk.2]; omega)] at hlk
            obtain ⟨rfl, hDA, hF1⟩ := hlk
            have hq1 : CQ σ T1 := hq.trans (CQ.base hF1)
            have hA1 : LF0 37 T1 (fun j9 => (itS k σ).2.1 96 j9) := LF0.fr (σ := am_setR (am_setR S 44 8 (some 15)) 44 9 (some 37)) hA hF1 (by unfold W_da; omega)
            refine am_st (st2 := [am_i 1]) rfl ?_
            refine am_pop (q := 62) rfl (am_tab tk_X9_first 32 rfl) rfl ?_
            refine am_aload_n (q := 63) rfl (am_tab tk_X9_first 33 rfl) rfl ?_
            refine am_getR (q := 66) (a := 0) (k := 9) (n := 17) (j := 7) (r := some (44)) (Ls_0 (hq1.L hC.G.L)) (by decide) rfl (Lr_0_7 (hq1.L hC.G.L)) (by decide) (Or.inl kf_X9_57) (am_tab tk_X9_first 34 rfl) rfl ?_
            refine am_callVr (q := 69) (me2 := M_X0_settle) (b := 44) (kb := 0) (nb := 14) (As := []) (rest := []) (c_settle_15_37 T1 (itS k σ) (hq1.L hC.G.L) hGk.1 hck hA1 _ hDA) ⟨rfl, rfl⟩ (Ls_44 (hq1.L hC.G.L)) (by decide) ⟨Or.inr km_X9_251, kc_X0_settle, kn_X0, kd_X0_settle, ⟨(Nat.le_of_ble_eq_true rfl), (Nat.le_of_ble_eq_true rfl)⟩, ⟨(Nat.le_of_ble_eq_true rfl), (Nat.le_of_ble_eq_true rfl)⟩, (Nat.le_of_ble_eq_true rfl)⟩ ki_X0_settle ks_X0_settle rfl (am_tab tk_X9_first 35 rfl) rfl ?_
            rintro r T2 ⟨rfl, hA2, hF2⟩
            have hq2 : CQ σ T2 := hq1.trans (hF2.cq (by unfold W_se W_cq; omega))
            have hFS : FS 15 σ k T2 := hDA.FS hF2 (by decide)
            refine am_st (st2 := []) rfl ?_
            refine am_iload_n (q := 70) rfl (am_tab tk_X9_first 36 rfl) rfl ?_
            refine am_if_ne (q := 73) (t := 86) (am_tab tk_X9_first 37 rfl) (by decide) rfl (fun h70 => ?_) (fun h70 => ?_)
            · refine am_aload_n (q := 87) rfl (am_tab tk_X9_first 43 rfl) rfl ?_
              refine am_getR (q := 90) (a := 0) (k := 9) (n := 17) (j := 7) (r := some (44)) (Ls_0 (hq2.L hC.G.L)) (by decide) rfl (Lr_0_7 (hq2.L hC.G.L)) (by decide) (Or.inl kf_X9_57) (am_tab tk_X9_first 44 rfl) rfl ?_
              refine am_getI (q := 93) (a := 44) (k := 0) (n := 14) (j := 5) (x := (thD (itS k σ))) (Ls_44 (hq2.L hC.G.L)) (by decide) rfl hFS.2.2.2.1 (by decide) (Or.inr kf_X9_225) (am_tab tk_X9_first 45 rfl) rfl ?_
              refine am_callS0 (q := 96) (me2 := M_J6_bitCount_0f7a4) (As := [am_i ((thD (itS k σ)))]) (rest := []) (out := [am_i (bc (thD (itS k σ)))]) (c_bc T2 (thD (itS k σ)) (thD_rng hGk.1 hck)) ⟨rfl, rfl⟩ ⟨Or.inl km_X9_133, kc_J6_bitCount_0f7a4, kn_J6, kd_J6_bitCount_0f7a4, ⟨(Nat.le_of_ble_eq_true rfl), (Nat.le_of_ble_eq_true rfl)⟩, ⟨(Nat.le_of_ble_eq_true rfl), (Nat.le_of_ble_eq_true rfl)⟩, (Nat.le_of_ble_eq_true rfl)⟩ ki_J6_bitCount_0f7a4 rfl rfl (am_tab tk_X9_first 46 rfl) rfl ?_
              refine am_iconst (q := 97) (n := 1) (by decide) (am_tab tk_X9_first 47 rfl) rfl ?_
              refine am_icmp_ne (q := 100) (t := 102) (am_tab tk_X9_first 48 rfl) (by decide) rfl (fun h97 => ?_) (fun h97 => ?_)
              · refine am_iinc (q := 105) rfl (by omega) (by decide) (ls2 := [(3, am_i ((((k : Int) + 1) + 1))), (2, am_i ((min 120 (dlM σ)))), (0, am_r 0), (1, am_i w)]) rfl (am_tab tk_X9_first 51 rfl) rfl ?_
                refine am_goto (t := 41) (am_tab tk_X9_first 52 rfl) (by decide) ?_
                exact am_less (by intro q hq; simp only [List.mem_cons, List.not_mem_nil, or_false] at hq; rcases hq with rfl | rfl | rfl | rfl <;> simp) (ih41 (k + 1) T2 (by omega) (by omega) hq2 hA2 (anyB_f hno (by unfold fgB; rw [decide_eq_false_iff_not]; first | (rw [if_pos (by omega)]; omega) | (rw [if_neg (by omega)]; omega))))
              · refine am_iload_n (q := 101) rfl (am_tab tk_X9_first 49 rfl) rfl ?_
                refine am_iret (Or.inl rfl) (Nat.le_of_ble_eq_true rfl) (Nat.le_of_ble_eq_true rfl) (am_tab tk_X9_first 50 rfl) ?_
                refine hQ _ _ ?_
                refine ⟨congrArg (fun z => some (am_i z)) ?_, hq2⟩
                rw [fir_at (j := k) (by unfold fgB; rw [decide_eq_true_eq]; first | (rw [if_pos (by omega)]; have := fsD01 (itS k σ); omega) | (rw [if_neg (by omega)]; omega)) hno (by omega) (by omega)]
            · refine am_aload_n (q := 74) rfl (am_tab tk_X9_first 38 rfl) rfl ?_
              refine am_getR (q := 77) (a := 0) (k := 9) (n := 17) (j := 7) (r := some (44)) (Ls_0 (hq2.L hC.G.L)) (by decide) rfl (Lr_0_7 (hq2.L hC.G.L)) (by decide) (Or.inl kf_X9_57) (am_tab tk_X9_first 39 rfl) rfl ?_
              refine am_getI (q := 80) (a := 44) (k := 0) (n := 14) (j := 6) (x := (fsD (itS k σ))) (Ls_44 (hq2.L hC.G.L)) (by decide) rfl hFS.2.2.2.2.1 (by decide) (Or.inr kf_X9_230) (am_tab tk_X9_first 40 rfl) rfl ?_
              refine am_if_eq (q := 83) (t := 102) (am_tab tk_X9_first 41 rfl) (by decide) rfl (fun h80 => ?_) (fun h80 => ?_)
              · refine am_iinc (q := 105) rfl (by omega) (by decide) (ls2 := [(3, am_i ((((k : Int) + 1) + 1))), (2, am_i ((min 120 (dlM σ)))), (0, am_r 0), (1, am_i w)]) rfl (am_tab tk_X9_first 51 rfl) rfl ?_
                refine am_goto (t := 41) (am_tab tk_X9_first 52 rfl) (by decide) ?_
                exact am_less (by intro q hq; simp only [List.mem_cons, List.not_mem_nil, or_false] at hq; rcases hq with rfl | rfl | rfl | rfl <;> simp) (ih41 (k + 1) T2 (by omega) (by omega) hq2 hA2 (anyB_f hno (by unfold fgB; rw [decide_eq_false_iff_not]; first | (rw [if_pos (by omega)]; omega) | (rw [if_neg (by omega)]; omega))))
              · refine am_goto (t := 100) (am_tab tk_X9_first 42 rfl) (by decide) ?_
                refine am_iload_n (q := 101) rfl (am_tab tk_X9_first 49 rfl) rfl ?_
                refine am_iret (Or.inl rfl) (Nat.le_of_ble_eq_true rfl) (Nat.le_of_ble_eq_true rfl) (am_tab tk_X9_first 50 rfl) ?_
                refine hQ _ _ ?_
                refine ⟨congrArg (fun z => some (am_i z)) ?_, hq2⟩
                rw [fir_at (j := k) (by unfold fgB; rw [decide_eq_true_eq]; first | (rw [if_pos (by omega)]; have := fsD01 (itS k σ); omega) | (rw [if_neg (by omega)]; omega)) hno (by omega) (by omega)]
      refine am_less (by intro q hq; simp only [List.mem_cons, List.not_mem_nil, or_false] at hq; rcases hq with rfl | rfl | rfl | rfl <;> simp) (L41 (_ + 1) 0 S0 (by exact Nat.lt_succ_self _) (Or.inr rfl) hq0 hA0 rfl)
    · refine am_iconst (q := 10) (n := (-1)) (by decide) (am_tab tk_X9_first 5 rfl) rfl ?_
      refine am_iret (Or.inl rfl) (Nat.le_of_ble_eq_true rfl) (Nat.le_of_ble_eq_true rfl) (am_tab tk_X9_first 6 rfl) ?_
      refine hQ _ _ ?_
      refine ⟨congrArg (fun z => some (am_i z)) ?_, CQ.refl σ⟩
      unfold firM
      rw [if_neg (by omega)]
