theorem sb_1 : ∀ p : Nat, p < 8 → sb (ao_shl 1 (p : Int)) = 1 := by decide +kernel
theorem hk_sb {σ : am_H} (hG : GD σ) {kn : Int} (hk : 0 ≤ kn ∧ kn < 256) : ∀ i : Nat, i ≤ 8 → hkF σ kn i = kn ∨ sb kn + 1 ≤ sb (hkF σ kn i)
  | 0, _ => Or.inl rfl
  | i + 1, hi => by
    have ih := hk_sb hG hk i (by omega)
    have hr := hkF_rng hG.R hk i (by omega)
    unfold hkF
    split
    · have h1 := sb_or (x := hkF σ kn i) (y := ao_and (σ.2.1 89 (8 + i)) (lvM σ)) (by omega) (and_tb (hG.R.rem i (by omega)) (lvM_rng hG.R)).1
      rcases h1 with h1 | h1
      · rw [h1]; exact ih
      · rcases ih with h2 | h2
        · rw [h2] at h1 ⊢; exact Or.inr h1
        · exact Or.inr (by omega)
    · exact ih
def HRI (σ : am_H) (p h : Nat) (kn : Int) : Prop := (hoM σ p = hrF σ (257 - h) kn (h : Int) ∧ (h : Int) + 1 ≤ sb kn) ∨ (hoM σ p = -1 ∧ hkF σ kn (pN σ) = kn ∧ ¬ kn = lvM σ)
theorem HRI.on {σ : am_H} (hG : GD σ) {p h : Nat} {kn : Int} (hk : 0 ≤ kn ∧ kn < 256) (hh : h < 8) (hi : HRI σ p h kn) (hne : ¬ kn = lvM σ) : HRI σ p (h + 1) (hkF σ kn (pN σ)) := by
  have h8 : pN σ ≤ 8 := by have := hG.R.P; unfold pN; omega
  rcases hi with ⟨h1, h2⟩ | ⟨h1, h2, h3⟩
  · have e : 257 - h = (257 - (h + 1)) + 1 := by omega
    rw [e] at h1
    unfold hrF at h1
    rw [if_neg hne] at h1
    by_cases h3 : hkF σ kn (pN σ) = kn
    · rw [if_pos h3] at h1
      exact Or.inr ⟨h1, by rw [h3]; exact h3, by rw [h3]; exact hne⟩
    · rw [if_neg h3] at h1
      rcases hk_sb hG hk (pN σ) h8 with h4 | h4
      · exact absurd h4 h3
      · have e9 : (((h + 1 : Nat)) : Int) = (h : Int) + 1 := by omega
        exact Or.inl ⟨by rw [e9]; exact h1, by rw [e9]; omega⟩
  · exact Or.inr ⟨h1, by rw [h2]; exact h2, by rw [h2]; exact h3⟩
theorem HRI.eq {σ : am_H} {p h : Nat} {kn : Int} (hh : h < 9) (hi : HRI σ p h kn) (he : kn = lvM σ) : hoM σ p = h := by
  rcases hi with ⟨h1, _⟩ | ⟨_, _, h3⟩
  · have e : 257 - h = (257 - (h + 1)) + 1 := by omega
    rw [e] at h1
    unfold hrF at h1
    rw [if_pos he] at h1
    exact h1
  · exact absurd he h3
theorem HRI.no {σ : am_H} {p : Nat} {kn : Int} (hi : HRI σ p 8 kn) : hoM σ p = -1 := by
  rcases hi with ⟨_, h2⟩ | ⟨h1, _⟩
  · have := sb_8 kn
    omega
  · exact h1
set_option maxRecDepth 100000 in
theorem c_hoursFrom_3 (σ : am_H) (hC : CI 3 σ) (p : Nat) (hpp : p < pN σ) : am_met M_X9_hoursFrom [am_r 0, am_i ((p : Int)), am_i (lvM σ)] σ (fun r σ' => r = some (am_i (hoM σ p)) ∧ σ' = σ) := by
  refine am_qq (fun Q hQ => ?_)
  refine am_enter (show plainFor yX9_hoursFrom = true by decide +kernel) rfl (Nat.le_of_ble_eq_true rfl) (fun _ _ _ => trivial) ?_
  have hL := hC.G.L
  have h8 : pN σ ≤ 8 := by have := hC.G.R.P; unfold pN; omega
  have hpn : (pN σ : Int) = σ.2.1 85 5 := by have := hC.G.R.P; unfold pN; omega
  have hlv := lvM_rng hC.G.R
  refine am_iconst (q := 1) (n := 1) (by decide) (am_tab tk_X9_hoursFrom 0 rfl) rfl ?_
  refine am_iload_n (q := 2) rfl (am_tab tk_X9_hoursFrom 1 rfl) rfl ?_
  refine am_ishl (q := 3) (am_tab tk_X9_hoursFrom 2 rfl) rfl ?_
  refine am_istore_n (q := 4) (by decide) (ls2 := [(3, am_i ((ao_shl 1 (p : Int)))), (0, am_r 0), (1, am_i ((p : Int))), (2, am_i (lvM σ))]) rfl (am_tab tk_X9_hoursFrom 3 rfl) rfl ?_
  refine am_iconst (q := 5) (n := 0) (by decide) (am_tab tk_X9_hoursFrom 4 rfl) rfl ?_
  refine am_istore (q := 7) (by decide) (ls2 := [(4, am_i 0), (3, am_i ((ao_shl 1 (p : Int)))), (0, am_r 0), (1, am_i ((p : Int))), (2, am_i (lvM σ))]) rfl (am_tab tk_X9_hoursFrom 5 rfl) rfl ?_
  have L7 : ∀ (n7 : Nat) (h : Nat) (kn : Int), 8 - h < n7 → h ≤ 8 → (0 ≤ kn ∧ kn < 256) → HRI σ p h kn → am_wp M_X9_hoursFrom Q 0 0 7 [(4, am_i ((h : Int))), (3, am_i kn), (0, am_r 0), (1, am_i ((p : Int))), (2, am_i (lvM σ))] [] σ := by
    intro n7
    induction n7 with
    | zero => intro h kn hn7; exact absurd hn7 (Nat.not_lt_zero _)
    | succ n7 ih7 =>
      intro h kn hn7 hh hkn hri
      refine am_iload (q := 9) rfl (am_tab tk_X9_hoursFrom 6 rfl) rfl ?_
      refine am_bipush (q := 11) (n := 8) (by decide) rfl (am_tab tk_X9_hoursFrom 7 rfl) rfl ?_
      refine am_icmp_ge (q := 14) (t := 82) (am_tab tk_X9_hoursFrom 8 rfl) (by decide) rfl (fun h11 => ?_) (fun h11 => ?_)
      · refine am_iconst (q := 83) (n := (-1)) (by decide) (am_tab tk_X9_hoursFrom 44 rfl) rfl ?_
        refine am_iret (Or.inl rfl) (Nat.le_of_ble_eq_true rfl) (Nat.le_of_ble_eq_true rfl) (am_tab tk_X9_hoursFrom 45 rfl) ?_
        refine hQ _ _ ?_
        refine ⟨congrArg (fun z => some (am_i z)) ?_, rfl⟩
        have e8 : h = 8 := by omega
        subst e8
        exact hri.no.symm
      · refine am_iload_n (q := 15) rfl (am_tab tk_X9_hoursFrom 9 rfl) rfl ?_
        refine am_iload_n (q := 16) rfl (am_tab tk_X9_hoursFrom 10 rfl) rfl ?_
        refine am_icmp_ne (q := 19) (t := 22) (am_tab tk_X9_hoursFrom 11 rfl) (by decide) rfl (fun h16 => ?_) (fun h16 => ?_)
        · refine am_iload_n (q := 23) rfl (am_tab tk_X9_hoursFrom 14 rfl) rfl ?_
          refine am_istore (q := 25) (by decide) (ls2 := [(5, am_i kn), (4, am_i ((h : Int))), (3, am_i kn), (0, am_r 0), (1, am_i ((p : Int))), (2, am_i (lvM σ))]) rfl (am_tab tk_X9_hoursFrom 15 rfl) rfl ?_
          refine am_iconst (q := 26) (n := 0) (by decide) (am_tab tk_X9_hoursFrom 16 rfl) rfl ?_
          refine am_istore (q := 28) (by decide) (ls2 := [(6, am_i 0), (5, am_i kn), (4, am_i ((h : Int))), (3, am_i kn), (0, am_r 0), (1, am_i ((p : Int))), (2, am_i (lvM σ))]) rfl (am_tab tk_X9_hoursFrom 17 rfl) rfl ?_
          have L28 : ∀ (n28 : Nat) (i : Nat), 8 - i < n28 → i ≤ pN σ → am_wp M_X9_hoursFrom Q 0 0 28 [(6, am_i ((i : Int))), (5, am_i ((hkF σ kn i))), (4, am_i ((h : Int))), (3, am_i kn), (0, am_r 0), (1, am_i ((p : Int))), (2, am_i (lvM σ))] [] σ := by
            intro n28
            induction n28 with
            | zero => intro i hn28; exact absurd hn28 (Nat.not_lt_zero _)
            | succ n28 ih28 =>
              intro i hn28 hi
              refine am_iload (q := 30) rfl (am_tab tk_X9_hoursFrom 18 rfl) rfl ?_
              refine am_aload_n (q := 31) rfl (am_tab tk_X9_hoursFrom 19 rfl) rfl ?_
              refine am_getR (q := 34) (a := 0) (k := 9) (n := 17) (j := 2) (r := some (3)) (Ls_0 hL) (by decide) rfl hC.t (by decide) (Or.inl kf_X9_19) (am_tab tk_X9_hoursFrom 20 rfl) rfl ?_
              refine am_getI (q := 37) (a := 3) (k := 8) (n := 17) (j := 2) (x := (σ.2.1 85 5)) (Ls_3 hL) (by decide) rfl hC.W.people (by decide) (Or.inr kf_X9_126) (am_tab tk_X9_hoursFrom 21 rfl) rfl ?_
              refine am_icmp_ge (q := 40) (t := 73) (am_tab tk_X9_hoursFrom 22 rfl) (by decide) rfl (fun h37 => ?_) (fun h37 => ?_)
              · refine am_iload (q := 75) rfl (am_tab tk_X9_hoursFrom 40 rfl) rfl ?_
                refine am_istore_n (q := 76) (by decide) (ls2 := [(3, am_i ((hkF σ kn i))), (6, am_i ((i : Int))), (5, am_i ((hkF σ kn i))), (4, am_i ((h : Int))), (0, am_r 0), (1, am_i ((p : Int))), (2, am_i (lvM σ))]) rfl (am_tab tk_X9_hoursFrom 41 rfl) rfl ?_
                refine am_iinc (q := 79) rfl (by omega) (by decide) (ls2 := [(4, am_i (((h : Int) + 1))), (3, am_i ((hkF σ kn i))), (6, am_i ((i : Int))), (5, am_i ((hkF σ kn i))), (0, am_r 0), (1, am_i ((p : Int))), (2, am_i (lvM σ))]) rfl (am_tab tk_X9_hoursFrom 42 rfl) rfl ?_
                refine am_goto (t := 7) (am_tab tk_X9_hoursFrom 43 rfl) (by decide) ?_
                have ei : i = pN σ := by omega
                rw [ei]
                exact am_less (by intro q hq; simp only [List.mem_cons, List.not_mem_nil, or_false] at hq; rcases hq with rfl | rfl | rfl | rfl | rfl <;> simp) (ih7 (h + 1) (hkF σ kn (pN σ)) (by omega) (by omega) (by have := hkF_rng hC.G.R hkn (pN σ) h8; omega) (hri.on hC.G hkn (by omega) h16))
              · refine am_iload_n (q := 41) rfl (am_tab tk_X9_hoursFrom 23 rfl) rfl ?_
                refine am_iload (q := 43) rfl (am_tab tk_X9_hoursFrom 24 rfl) rfl ?_
                refine am_callS0 (q := 46) (me2 := M_X9_bit) (As := [am_i kn, am_i ((i : Int))]) (rest := []) (out := [am_i (tb kn (i : Int))]) (c_bit σ kn (i : Int) (hkn) (by omega)) ⟨rfl, rfl⟩ ⟨Or.inl km_X9_185, kc_X9_bit, kn_X9, kd_X9_bit, ⟨(Nat.le_of_ble_eq_true rfl), (Nat.le_of_ble_eq_true rfl)⟩, ⟨(Nat.le_of_ble_eq_true rfl), (Nat.le_of_ble_eq_true rfl)⟩, (Nat.le_of_ble_eq_true rfl)⟩ ki_X9_bit rfl rfl (am_tab tk_X9_hoursFrom 25 rfl) rfl ?_
                refine am_iconst (q := 47) (n := 1) (by decide) (am_tab tk_X9_hoursFrom 26 rfl) rfl ?_
                refine am_icmp_ne (q := 50) (t := 67) (am_tab tk_X9_hoursFrom 27 rfl) (by decide) rfl (fun h47 => ?_) (fun h47 => ?_)
                · refine am_iinc (q := 70) rfl (by omega) (by decide) (ls2 := [(6, am_i (((i : Int) + 1))), (5, am_i ((hkF σ kn i))), (4, am_i ((h : Int))), (3, am_i kn), (0, am_r 0), (1, am_i ((p : Int))), (2, am_i (lvM σ))]) rfl (am_tab tk_X9_hoursFrom 38 rfl) rfl ?_
                  refine am_goto (t := 28) (am_tab tk_X9_hoursFrom 39 rfl) (by decide) ?_
                  have he : hkF σ kn (i + 1) = (hkF σ kn i) := by
                    show (if _ then _ else _) = _
                    first | rw [if_pos h47] | rw [if_neg h47]
                  exact am_less (by intro q hq; simp only [List.mem_cons, List.not_mem_nil, or_false] at hq; rcases hq with rfl | rfl | rfl | rfl | rfl | rfl | rfl <;> simp [he]) (ih28 (i + 1) (by omega) (by omega))
                · refine am_iload (q := 52) rfl (am_tab tk_X9_hoursFrom 28 rfl) rfl ?_
                  refine am_aload_n (q := 53) rfl (am_tab tk_X9_hoursFrom 29 rfl) rfl ?_
                  refine am_getR (q := 56) (a := 0) (k := 9) (n := 17) (j := 2) (r := some (3)) (Ls_0 hL) (by decide) rfl hC.t (by decide) (Or.inl kf_X9_19) (am_tab tk_X9_hoursFrom 30 rfl) rfl ?_
                  refine am_getR (q := 59) (a := 3) (k := 8) (n := 17) (j := 11) (r := some (7)) (Ls_3 hL) (by decide) rfl (Lr_3_11 hL) (by decide) (Or.inr kf_X9_189) (am_tab tk_X9_hoursFrom 31 rfl) rfl ?_
                  refine am_iload (q := 61) rfl (am_tab tk_X9_hoursFrom 32 rfl) rfl ?_
                  refine am_iald (q := 62) (a := 7) (n := 8) (x := (σ.2.1 89 (8 + i))) (Ls_7 hL) (by omega) (by omega) (by rw [show Int.toNat (i : Int) = i by omega]; exact hC.W.rems i (by omega)) (am_tab tk_X9_hoursFrom 33 rfl) rfl ?_
                  refine am_iload_n (q := 63) rfl (am_tab tk_X9_hoursFrom 34 rfl) rfl ?_
                  refine am_iand (q := 64) (am_tab tk_X9_hoursFrom 35 rfl) rfl ?_
                  refine am_ior (q := 65) (am_tab tk_X9_hoursFrom 36 rfl) rfl ?_
                  refine am_istore (q := 67) (by decide) (ls2 := [(5, am_i ((ao_or (hkF σ kn i) (ao_and (σ.2.1 89 (8 + i)) (lvM σ))))), (6, am_i ((i : Int))), (4, am_i ((h : Int))), (3, am_i kn), (0, am_r 0), (1, am_i ((p : Int))), (2, am_i (lvM σ))]) rfl (am_tab tk_X9_hoursFrom 37 rfl) rfl ?_
                  refine am_iinc (q := 70) rfl (by omega) (by decide) (ls2 := [(6, am_i (((i : Int) + 1))), (5, am_i ((ao_or (hkF σ kn i) (ao_and (σ.2.1 89 (8 + i)) (lvM σ))))), (4, am_i ((h : Int))), (3, am_i kn), (0, am_r 0), (1, am_i ((p : Int))), (2, am_i (lvM σ))]) rfl (am_tab tk_X9_hoursFrom 38 rfl) rfl ?_
                  refine am_goto (t := 28) (am_tab tk_X9_hoursFrom 39 rfl) (by decide) ?_
                  have he : hkF σ kn (i + 1) = (ao_or (hkF σ kn i) (ao_and (σ.2.1 89 (8 + i)) (lvM σ))) := by
                    show (if _ then _ else _) = _
                    first | rw [if_pos h47] | rw [if_neg h47]
                  exact am_less (by intro q hq; simp only [List.mem_cons, List.not_mem_nil, or_false] at hq; rcases hq with rfl | rfl | rfl | rfl | rfl | rfl | rfl <;> simp [he]) (ih28 (i + 1) (by omega) (by omega))
          refine am_less (by intro q hq; simp only [List.mem_cons, List.not_mem_nil, or_false] at hq; rcases hq with rfl | rfl | rfl | rfl | rfl | rfl | rfl <;> simp [hkF]) (L28 (_ + 1) 0 (by exact Nat.lt_succ_self _) (Nat.zero_le _))
        · refine am_iload (q := 21) rfl (am_tab tk_X9_hoursFrom 12 rfl) rfl ?_
          refine am_iret (Or.inl rfl) (Nat.le_of_ble_eq_true rfl) (Nat.le_of_ble_eq_true rfl) (am_tab tk_X9_hoursFrom 13 rfl) ?_
          refine hQ _ _ ?_
          refine ⟨congrArg (fun z => some (am_i z)) ?_, rfl⟩
          exact (hri.eq (by omega) h16).symm
  refine am_less (by intro q hq; simp only [List.mem_cons, List.not_mem_nil, or_false] at hq; rcases hq with rfl | rfl | rfl | rfl | rfl <;> simp) (L7 (_ + 1) 0 (ao_shl 1 (p : Int)) (by exact Nat.lt_succ_self _) (by omega) (shl_rng p (by omega)) (Or.inl ⟨rfl, by rw [sb_1 p (by omega)]; decide⟩))
set_option maxRecDepth 100000 in
theorem c_hours_3 (σ : am_H) (hC : CI 3 σ) (n : Int)  : am_met M_X9_hours [am_r 0, am_i n] σ (fun r σ' => r = some (am_i (houM σ n)) ∧ σ' = σ) := by
  refine am_qq (fun Q hQ => ?_)
  refine am_enter (show plainFor yX9_hours = true by decide +kernel) rfl (Nat.le_of_ble_eq_true rfl) (fun _ _ _ => trivial) ?_
  have hL := hC.G.L
  have h8 : pN σ ≤ 8 := by have := hC.G.R.P; unfold pN; omega
  have hpn : (pN σ : Int) = σ.2.1 85 5 := by have := hC.G.R.P; unfold pN; omega
  have hlv := lvM_rng hC.G.R
  refine am_aload_n (q := 1) rfl (am_tab tk_X9_hours 0 rfl) rfl ?_
  refine am_callVr (q := 4) (me2 := M_X9_living) (b := 0) (kb := 9) (nb := 17) (As := []) (rest := []) (c_living_3 σ hC) ⟨rfl, rfl⟩ (Ls_0 hL) (by decide) ⟨Or.inl km_X9_129, kc_X9_living, kn_X9, kd_X9_living, ⟨(Nat.le_of_ble_eq_true rfl), (Nat.le_of_ble_eq_true rfl)⟩, ⟨(Nat.le_of_ble_eq_true rfl), (Nat.le_of_ble_eq_true rfl)⟩, (Nat.le_of_ble_eq_true rfl)⟩ ki_X9_living ks_X9_living rfl (am_tab tk_X9_hours 1 rfl) rfl ?_
  rintro r τ ⟨hr9, hτ⟩
  rw [liv_eq hC.G hC.F] at hr9
  rw [hr9, hτ]
  refine am_st (st2 := [am_i (lvM σ)]) rfl ?_
  refine am_istore_n (q := 5) (by decide) (ls2 := [(2, am_i (lvM σ)), (0, am_r 0), (1, am_i n)]) rfl (am_tab tk_X9_hours 2 rfl) rfl ?_
  refine am_iload_n (q := 6) rfl (am_tab tk_X9_hours 3 rfl) rfl ?_
  refine am_iconst (q := 7) (n := 1) (by decide) (am_tab tk_X9_hours 4 rfl) rfl ?_
  refine am_icmp_lt (q := 10) (t := 20) (am_tab tk_X9_hours 5 rfl) (by decide) rfl (fun h7 => ?_) (fun h7 => ?_)
  · refine am_iconst (q := 21) (n := (-1)) (by decide) (am_tab tk_X9_hours 11 rfl) rfl ?_
    refine am_iret (Or.inl rfl) (Nat.le_of_ble_eq_true rfl) (Nat.le_of_ble_eq_true rfl) (am_tab tk_X9_hours 12 rfl) ?_
    refine hQ _ _ ?_
    refine ⟨congrArg (fun z => some (am_i z)) ?_, rfl⟩
    unfold houM
    rw [if_neg (by omega)]
  · refine am_iload_n (q := 11) rfl (am_tab tk_X9_hours 6 rfl) rfl ?_
    refine am_bipush (q := 13) (n := 20) (by decide) rfl (am_tab tk_X9_hours 7 rfl) rfl ?_
    refine am_icmp_gt (q := 16) (t := 20) (am_tab tk_X9_hours 8 rfl) (by decide) rfl (fun h13 => ?_) (fun h13 => ?_)
    · refine am_iconst (q := 21) (n := (-1)) (by decide) (am_tab tk_X9_hours 11 rfl) rfl ?_
      refine am_iret (Or.inl rfl) (Nat.le_of_ble_eq_true rfl) (Nat.le_of_ble_eq_true rfl) (am_tab tk_X9_hours 12 rfl) ?_
      refine hQ _ _ ?_
      refine ⟨congrArg (fun z => some (am_i z)) ?_, rfl⟩
      unfold houM
      rw [if_neg (by omega)]
    · refine am_iload_n (q := 17) rfl (am_tab tk_X9_hours 9 rfl) rfl ?_
      refine am_if_ne (q := 20) (t := 22) (am_tab tk_X9_hours 10 rfl) (by decide) rfl (fun h17 => ?_) (fun h17 => ?_)
      · refine am_iconst (q := 23) (n := 0) (by decide) (am_tab tk_X9_hours 13 rfl) rfl ?_
        refine am_istore_n (q := 24) (by decide) (ls2 := [(3, am_i 0), (2, am_i (lvM σ)), (0, am_r 0), (1, am_i n)]) rfl (am_tab tk_X9_hours 14 rfl) rfl ?_
        refine am_iconst (q := 25) (n := 0) (by decide) (am_tab tk_X9_hours 15 rfl) rfl ?_
        refine am_istore (q := 27) (by decide) (ls2 := [(4, am_i 0), (3, am_i 0), (2, am_i (lvM σ)), (0, am_r 0), (1, am_i n)]) rfl (am_tab tk_X9_hours 16 rfl) rfl ?_
        have L27 : ∀ (n27 : Nat) (p : Nat), 8 - p < n27 → p ≤ pN σ → ¬ hmF σ p = -1 → (0 ≤ hmF σ p ∧ hmF σ p ≤ 256) → am_wp M_X9_hours Q 0 0 27 [(4, am_i ((p : Int))), (3, am_i ((hmF σ p))), (2, am_i (lvM σ)), (0, am_r 0), (1, am_i n)] [] σ := by
          intro n27
          induction n27 with
          | zero => intro p hn27; exact absurd hn27 (Nat.not_lt_zero _)
          | succ n27 ih27 =>
            intro p hn27 hp hmn hmr
            refine am_iload (q := 29) rfl (am_tab tk_X9_hours 17 rfl) rfl ?_
            refine am_aload_n (q := 30) rfl (am_tab tk_X9_hours 18 rfl) rfl ?_
            refine am_getR (q := 33) (a := 0) (k := 9) (n := 17) (j := 2) (r := some (3)) (Ls_0 hL) (by decide) rfl hC.t (by decide) (Or.inl kf_X9_19) (am_tab tk_X9_hours 19 rfl) rfl ?_
            refine am_getI (q := 36) (a := 3) (k := 8) (n := 17) (j := 2) (x := (σ.2.1 85 5)) (Ls_3 hL) (by decide) rfl hC.W.people (by decide) (Or.inr kf_X9_126) (am_tab tk_X9_hours 20 rfl) rfl ?_
            refine am_icmp_ge (q := 39) (t := 79) (am_tab tk_X9_hours 21 rfl) (by decide) rfl (fun h36 => ?_) (fun h36 => ?_)
            · refine am_iload_n (q := 80) rfl (am_tab tk_X9_hours 43 rfl) rfl ?_
              refine am_iload_n (q := 81) rfl (am_tab tk_X9_hours 44 rfl) rfl ?_
              refine am_imul (q := 82) (by have h7 : n * hmF σ p = hmF σ p * n := Int.mul_comm ..; have := mul_rng (x := n) (y := hmF σ p) (by omega) (by omega); (have h9 : (n * hmF σ p).natAbs ≤ 20 * 256 := by (rw [Int.natAbs_mul]; exact Nat.mul_le_mul (by omega) (by omega))); omega) (am_tab tk_X9_hours 45 rfl) rfl ?_
              refine am_iret (Or.inl rfl) (Nat.le_of_ble_eq_true rfl) (Nat.le_of_ble_eq_true rfl) (am_tab tk_X9_hours 46 rfl) ?_
              refine hQ _ _ ?_
              refine ⟨congrArg (fun z => some (am_i z)) ?_, rfl⟩
              unfold houM
              have ep : p = pN σ := by omega
              rw [← ep]
              rw [if_pos (by omega), if_neg hmn]
            · have hpp : p < pN σ := by omega
              refine am_iload_n (q := 40) rfl (am_tab tk_X9_hours 22 rfl) rfl ?_
              refine am_iload (q := 42) rfl (am_tab tk_X9_hours 23 rfl) rfl ?_
              refine am_callS0 (q := 45) (me2 := M_X9_bit) (As := [am_i (lvM σ), am_i ((p : Int))]) (rest := []) (out := [am_i (tb (lvM σ) (p : Int))]) (c_bit σ (lvM σ) (p : Int) (hlv) (by omega)) ⟨rfl, rfl⟩ ⟨Or.inl km_X9_185, kc_X9_bit, kn_X9, kd_X9_bit, ⟨(Nat.le_of_ble_eq_true rfl), (Nat.le_of_ble_eq_true rfl)⟩, ⟨(Nat.le_of_ble_eq_true rfl), (Nat.le_of_ble_eq_true rfl)⟩, (Nat.le_of_ble_eq_true rfl)⟩ ki_X9_bit rfl rfl (am_tab tk_X9_hours 24 rfl) rfl ?_
              refine am_iconst (q := 46) (n := 1) (by decide) (am_tab tk_X9_hours 25 rfl) rfl ?_
              refine am_icmp_ne (q := 49) (t := 73) (am_tab tk_X9_hours 26 rfl) (by decide) rfl (fun h46 => ?_) (fun h46 => ?_)
              · refine am_iinc (q := 76) rfl (by omega) (by decide) (ls2 := [(4, am_i (((p : Int) + 1))), (3, am_i ((hmF σ p))), (2, am_i (lvM σ)), (0, am_r 0), (1, am_i n)]) rfl (am_tab tk_X9_hours 41 rfl) rfl ?_
                refine am_goto (t := 27) (am_tab tk_X9_hours 42 rfl) (by decide) ?_
                have hdp : σ.2.1 96 (12 + p) = 1 := Classical.byContradiction (fun hx => h46 (by rw [lv_tb hC.G (by omega), if_pos ⟨hpp, hx⟩]))
                have he : hmF σ (p + 1) = (hmF σ p) := by
                  show (if _ then _ else _) = _
                  rw [if_neg hmn, if_pos hdp]
                have hmn2 : ¬ hmF σ (p + 1) = -1 := by
                  rw [he]
                  omega
                exact am_less (by intro q hq; simp only [List.mem_cons, List.not_mem_nil, or_false] at hq; rcases hq with rfl | rfl | rfl | rfl | rfl <;> simp [he]) (ih27 (p + 1) (by omega) (by omega) hmn2 (by rw [he]; omega))
              · have hdp : ¬ σ.2.1 96 (12 + p) = 1 := fun hx => by
                  rw [lv_tb hC.G (by omega), if_neg (fun z => z.2 hx)] at h46
                  exact absurd h46 (by decide)
                have hor := hoM_rng hC.G.R (p := p) (by omega)
                refine am_aload_n (q := 50) rfl (am_tab tk_X9_hours 27 rfl) rfl ?_
                refine am_iload (q := 52) rfl (am_tab tk_X9_hours 28 rfl) rfl ?_
                refine am_iload_n (q := 53) rfl (am_tab tk_X9_hours 29 rfl) rfl ?_
                refine am_callV0 (q := 56) (me2 := M_X9_hoursFrom) (b := 0) (kb := 9) (nb := 17) (As := [am_i ((p : Int)), am_i (lvM σ)]) (rest := []) (out := [am_i (hoM σ p)]) (c_hoursFrom_3 σ hC p hpp) ⟨rfl, rfl⟩ (Ls_0 hL) (by decide) ⟨Or.inl km_X9_288, kc_X9_hoursFrom, kn_X9, kd_X9_hoursFrom, ⟨(Nat.le_of_ble_eq_true rfl), (Nat.le_of_ble_eq_true rfl)⟩, ⟨(Nat.le_of_ble_eq_true rfl), (Nat.le_of_ble_eq_true rfl)⟩, (Nat.le_of_ble_eq_true rfl)⟩ ki_X9_hoursFrom ks_X9_hoursFrom rfl rfl (am_tab tk_X9_hours 30 rfl) rfl ?_
                refine am_istore (q := 58) (by decide) (ls2 := [(5, am_i (hoM σ p)), (4, am_i ((p : Int))), (3, am_i ((hmF σ p))), (2, am_i (lvM σ)), (0, am_r 0), (1, am_i n)]) rfl (am_tab tk_X9_hours 31 rfl) rfl ?_
                refine am_iload (q := 60) rfl (am_tab tk_X9_hours 32 rfl) rfl ?_
                refine am_iconst (q := 61) (n := (-1)) (by decide) (am_tab tk_X9_hours 33 rfl) rfl ?_
                refine am_icmp_ne (q := 64) (t := 66) (am_tab tk_X9_hours 34 rfl) (by decide) rfl (fun h61 => ?_) (fun h61 => ?_)
                · refine am_iload_n (q := 67) rfl (am_tab tk_X9_hours 37 rfl) rfl ?_
                  refine am_iload (q := 69) rfl (am_tab tk_X9_hours 38 rfl) rfl ?_
                  refine am_callS0 (q := 72) (me2 := M_J9_max_7cf53) (As := [am_i ((hmF σ p)), am_i (hoM σ p)]) (rest := []) (out := [am_i (max (hmF σ p) (hoM σ p))]) (c_max σ (hmF σ p) (hoM σ p)) ⟨rfl, rfl⟩ ⟨Or.inl km_X9_291, kc_J9_max_7cf53, kn_J9, kd_J9_max_7cf53, ⟨(Nat.le_of_ble_eq_true rfl), (Nat.le_of_ble_eq_true rfl)⟩, ⟨(Nat.le_of_ble_eq_true rfl), (Nat.le_of_ble_eq_true rfl)⟩, (Nat.le_of_ble_eq_true rfl)⟩ ki_J9_max_7cf53 rfl rfl (am_tab tk_X9_hours 39 rfl) rfl ?_
                  refine am_istore_n (q := 73) (by decide) (ls2 := [(3, am_i (max (hmF σ p) (hoM σ p))), (5, am_i (hoM σ p)), (4, am_i ((p : Int))), (2, am_i (lvM σ)), (0, am_r 0), (1, am_i n)]) rfl (am_tab tk_X9_hours 40 rfl) rfl ?_
                  refine am_iinc (q := 76) rfl (by omega) (by decide) (ls2 := [(4, am_i (((p : Int) + 1))), (3, am_i (max (hmF σ p) (hoM σ p))), (5, am_i (hoM σ p)), (2, am_i (lvM σ)), (0, am_r 0), (1, am_i n)]) rfl (am_tab tk_X9_hours 41 rfl) rfl ?_
                  refine am_goto (t := 27) (am_tab tk_X9_hours 42 rfl) (by decide) ?_
                  have he : hmF σ (p + 1) = max (hmF σ p) (hoM σ p) := by
                    show (if _ then _ else _) = _
                    rw [if_neg hmn, if_neg hdp, if_neg h61]
                    split <;> omega
                  have hmn2 : ¬ hmF σ (p + 1) = -1 := by
                    rw [he]
                    omega
                  exact am_less (by intro q hq; simp only [List.mem_cons, List.not_mem_nil, or_false] at hq; rcases hq with rfl | rfl | rfl | rfl | rfl <;> simp [he]) (ih27 (p + 1) (by omega) (by omega) hmn2 (by rw [he]; omega))
                · refine am_iconst (q := 65) (n := (-1)) (by decide) (am_tab tk_X9_hours 35 rfl) rfl ?_
                  refine am_iret (Or.inl rfl) (Nat.le_of_ble_eq_true rfl) (Nat.le_of_ble_eq_true rfl) (am_tab tk_X9_hours 36 rfl) ?_
                  refine hQ _ _ ?_
                  refine ⟨congrArg (fun z => some (am_i z)) ?_, rfl⟩
                  unfold houM
                  have hst : hmF σ (p + 1) = -1 := by
                    show (if _ then _ else _) = _
                    rw [if_neg hmn, if_neg hdp, if_pos h61]
                  have h9 := hm_stop hst (pN σ - (p + 1))
                  rw [show p + 1 + (pN σ - (p + 1)) = pN σ by omega] at h9
                  rw [if_pos (by omega), if_pos h9]
        refine am_less (by intro q hq; simp only [List.mem_cons, List.not_mem_nil, or_false] at hq; rcases hq with rfl | rfl | rfl | rfl | rfl <;> simp [hmF]) (L27 (_ + 1) 0 (by exact Nat.lt_succ_self _) (Nat.zero_le _) (by show ¬ (0 : Int) = -1; decide) (by show (0 : Int) ≤ 0 ∧ (0 : Int) ≤ 256; decide))
      · refine am_iconst (q := 21) (n := (-1)) (by decide) (am_tab tk_X9_hours 11 rfl) rfl ?_
        refine am_iret (Or.inl rfl) (Nat.le_of_ble_eq_true rfl) (Nat.le_of_ble_eq_true rfl) (am_tab tk_X9_hours 12 rfl) ?_
        refine hQ _ _ ?_
        refine ⟨congrArg (fun z => some (am_i z)) ?_, rfl⟩
        unfold houM
        rw [if_neg (by omega)]
set_option maxRecDepth 100000 in
theorem c_hoursFrom_15 (σ : am_H) (hC : CI 15 σ) (p : Nat) (hpp : p < pN σ) : am_met M_X9_hoursFrom [am_r 0, am_i ((p : Int)), am_i (lvM σ)] σ (fun r σ' => r = some (am_i (hoM σ p)) ∧ σ' = σ) := by
  refine am_qq (fun Q hQ => ?_)
  refine am_enter (show plainFor yX9_hoursFrom = true by decide +kernel) rfl (Nat.le_of_ble_eq_true rfl) (fun _ _ _ => trivial) ?_
  have hL := hC.G.L
  have h8 : pN σ ≤ 8 := by have := hC.G.R.P; unfold pN; omega
  have hpn : (pN σ : Int) = σ.2.1 85 5 := by have := hC.G.R.P; unfold pN; omega
  have hlv := lvM_rng hC.G.R
  refine am_iconst (q := 1) (n := 1) (by decide) (am_tab tk_X9_hoursFrom 0 rfl) rfl ?_
  refine am_iload_n (q := 2) rfl (am_tab tk_X9_hoursFrom 1 rfl) rfl ?_
  refine am_ishl (q := 3) (am_tab tk_X9_hoursFrom 2 rfl) rfl ?_
  refine am_istore_n (q := 4) (by decide) (ls2 := [(3, am_i ((ao_shl 1 (p : Int)))), (0, am_r 0), (1, am_i ((p : Int))), (2, am_i (lvM σ))]) rfl (am_tab tk_X9_hoursFrom 3 rfl) rfl ?_
  refine am_iconst (q := 5) (n := 0) (by decide) (am_tab tk_X9_hoursFrom 4 rfl) rfl ?_
  refine am_istore (q := 7) (by decide) (ls2 := [(4, am_i 0), (3, am_i ((ao_shl 1 (p : Int)))), (0, am_r 0), (1, am_i ((p : Int))), (2, am_i (lvM σ))]) rfl (am_tab tk_X9_hoursFrom 5 rfl) rfl ?_
  have L7 : ∀ (n7 : Nat) (h : Nat) (kn : Int), 8 - h < n7 → h ≤ 8 → (0 ≤ kn ∧ kn < 256) → HRI σ p h kn → am_wp M_X9_hoursFrom Q 0 0 7 [(4, am_i ((h : Int))), (3, am_i kn), (0, am_r 0), (1, am_i ((p : Int))), (2, am_i (lvM σ))] [] σ := by
    intro n7
    induction n7 with
    | zero => intro h kn hn7; exact absurd hn7 (Nat.not_lt_zero _)
    | succ n7 ih7 =>
      intro h kn hn7 hh hkn hri
      refine am_iload (q := 9) rfl (am_tab tk_X9_hoursFrom 6 rfl) rfl ?_
      refine am_bipush (q := 11) (n := 8) (by decide) rfl (am_tab tk_X9_hoursFrom 7 rfl) rfl ?_
      refine am_icmp_ge (q := 14) (t := 82) (am_tab tk_X9_hoursFrom 8 rfl) (by decide) rfl (fun h11 => ?_) (fun h11 => ?_)
      · refine am_iconst (q := 83) (n := (-1)) (by decide) (am_tab tk_X9_hoursFrom 44 rfl) rfl ?_
        refine am_iret (Or.inl rfl) (Nat.le_of_ble_eq_true rfl) (Nat.le_of_ble_eq_true rfl) (am_tab tk_X9_hoursFrom 45 rfl) ?_
        refine hQ _ _ ?_
        refine ⟨congrArg (fun z => some (am_i z)) ?_, rfl⟩
        have e8 : h = 8 := by omega
        subst e8
        exact hri.no.symm
      · refine am_iload_n (q := 15) rfl (am_tab tk_X9_hoursFrom 9 rfl) rfl ?_
        refine am_iload_n (q := 16) rfl (am_tab tk_X9_hoursFrom 10 rfl) rfl ?_
        refine am_icmp_ne (q := 19) (t := 22) (am_tab tk_X9_hoursFrom 11 rfl) (by decide) rfl (fun h16 => ?_) (fun h16 => ?_)
        · refine am_iload_n (q := 23) rfl (am_tab tk_X9_hoursFrom 14 rfl) rfl ?_
          refine am_istore (q := 25) (by decide) (ls2 := [(5, am_i kn), (4, am_i ((h : Int))), (3, am_i kn), (0, am_r 0), (1, am_i ((p : Int))), (2, am_i (lvM σ))]) rfl (am_tab tk_X9_hoursFrom 15 rfl) rfl ?_
          refine am_iconst (q := 26) (n := 0) (by decide) (am_tab tk_X9_hoursFrom 16 rfl) rfl ?_
          refine am_istore (q := 28) (by decide) (ls2 := [(6, am_i 0), (5, am_i kn), (4, am_i ((h : Int))), (3, am_i kn), (0, am_r 0), (1, am_i ((p : Int))), (2, am_i (lvM σ))]) rfl (am_tab tk_X9_hoursFrom 17 rfl) rfl ?_
          have L28 : ∀ (n28 : Nat) (i : Nat), 8 - i < n28 → i ≤ pN σ → am_wp M_X9_hoursFrom Q 0 0 28 [(6, am_i ((i : Int))), (5, am_i ((hkF σ kn i))), (4, am_i ((h : Int))), (3, am_i kn), (0, am_r 0), (1, am_i ((p : Int))), (2, am_i (lvM σ))] [] σ := by
            intro n28
            induction n28 with
            | zero => intro i hn28; exact absurd hn28 (Nat.not_lt_zero _)
            | succ n28 ih28 =>
              intro i hn28 hi
              refine am_iload (q := 30) rfl (am_tab tk_X9_hoursFrom 18 rfl) rfl ?_
              refine am_aload_n (q := 31) rfl (am_tab tk_X9_hoursFrom 19 rfl) rfl ?_
              refine am_getR (q := 34) (a := 0) (k := 9) (n := 17) (j := 2) (r := some (15)) (Ls_0 hL) (by decide) rfl hC.t (by decide) (Or.inl kf_X9_19) (am_tab tk_X9_hoursFrom 20 rfl) rfl ?_
              refine am_getI (q := 37) (a := 15) (k := 8) (n := 17) (j := 2) (x := (σ.2.1 85 5)) (Ls_15 hL) (by decide) rfl hC.W.people (by decide) (Or.inr kf_X9_126) (am_tab tk_X9_hoursFrom 21 rfl) rfl ?_
              refine am_icmp_ge (q := 40) (t := 73) (am_tab tk_X9_hoursFrom 22 rfl) (by decide) rfl (fun h37 => ?_) (fun h37 => ?_)
              · refine am_iload (q := 75) rfl (am_tab tk_X9_hoursFrom 40 rfl) rfl ?_
                refine am_istore_n (q := 76) (by decide) (ls2 := [(3, am_i ((hkF σ kn i))), (6, am_i ((i : Int))), (5, am_i ((hkF σ kn i))), (4, am_i ((h : Int))), (0, am_r 0), (1, am_i ((p : Int))), (2, am_i (lvM σ))]) rfl (am_tab tk_X9_hoursFrom 41 rfl) rfl ?_
                refine am_iinc (q := 79) rfl (by omega) (by decide) (ls2 := [(4, am_i (((h : Int) + 1))), (3, am_i ((hkF σ kn i))), (6, am_i ((i : Int))), (5, am_i ((hkF σ kn i))), (0, am_r 0), (1, am_i ((p : Int))), (2, am_i (lvM σ))]) rfl (am_tab tk_X9_hoursFrom 42 rfl) rfl ?_
                refine am_goto (t := 7) (am_tab tk_X9_hoursFrom 43 rfl) (by decide) ?_
                have ei : i = pN σ := by omega
                rw [ei]
                exact am_less (by intro q hq; simp only [List.mem_cons, List.not_mem_nil, or_false] at hq; rcases hq with rfl | rfl | rfl | rfl | rfl <;> simp) (ih7 (h + 1) (hkF σ kn (pN σ)) (by omega) (by omega) (by have := hkF_rng hC.G.R hkn (pN σ) h8; omega) (hri.on hC.G hkn (by omega) h16))
              · refine am_iload_n (q := 41) rfl (am_tab tk_X9_hoursFrom 23 rfl) rfl ?_
                refine am_iload (q := 43) rfl (am_tab tk_X9_hoursFrom 24 rfl) rfl ?_
                refine am_callS0 (q := 46) (me2 := M_X9_bit) (As := [am_i kn, am_i ((i : Int))]) (rest := []) (out := [am_i (tb kn (i : Int))]) (c_bit σ kn (i : Int) (hkn) (by omega)) ⟨rfl, rfl⟩ ⟨Or.inl km_X9_185, kc_X9_bit, kn_X9, kd_X9_bit, ⟨(Nat.le_of_ble_eq_true rfl), (Nat.le_of_ble_eq_true rfl)⟩, ⟨(Nat.le_of_ble_eq_true rfl), (Nat.le_of_ble_eq_true rfl)⟩, (Nat.le_of_ble_eq_true rfl)⟩ ki_X9_bit rfl rfl (am_tab tk_X9_hoursFrom 25 rfl) rfl ?_
                refine am_iconst (q := 47) (n := 1) (by decide) (am_tab tk_X9_hoursFrom 26 rfl) rfl ?_
                refine am_icmp_ne (q := 50) (t := 67) (am_tab tk_X9_hoursFrom 27 rfl) (by decide) rfl (fun h47 => ?_) (fun h47 => ?_)
                · refine am_iinc (q := 70) rfl (by omega) (by decide) (ls2 := [(6, am_i (((i : Int) + 1))), (5, am_i ((hkF σ kn i))), (4, am_i ((h : Int))), (3, am_i kn), (0, am_r 0), (1, am_i ((p : Int))), (2, am_i (lvM σ))]) rfl (am_tab tk_X9_hoursFrom 38 rfl) rfl ?_
                  refine am_goto (t := 28) (am_tab tk_X9_hoursFrom 39 rfl) (by decide) ?_
                  have he : hkF σ kn (i + 1) = (hkF σ kn i) := by
                    show (if _ then _ else _) = _
                    first | rw [if_pos h47] | rw [if_neg h47]
                  exact am_less (by intro q hq; simp only [List.mem_cons, List.not_mem_nil, or_false] at hq; rcases hq with rfl | rfl | rfl | rfl | rfl | rfl | rfl <;> simp [he]) (ih28 (i + 1) (by omega) (by omega))
                · refine am_iload (q := 52) rfl (am_tab tk_X9_hoursFrom 28 rfl) rfl ?_
                  refine am_aload_n (q := 53) rfl (am_tab tk_X9_hoursFrom 29 rfl) rfl ?_
                  refine am_getR (q := 56) (a := 0) (k := 9) (n := 17) (j := 2) (r := some (15)) (Ls_0 hL) (by decide) rfl hC.t (by decide) (Or.inl kf_X9_19) (am_tab tk_X9_hoursFrom 30 rfl) rfl ?_
                  refine am_getR (q := 59) (a := 15) (k := 8) (n := 17) (j := 11) (r := some (19)) (Ls_15 hL) (by decide) rfl (Lr_15_11 hL) (by decide) (Or.inr kf_X9_189) (am_tab tk_X9_hoursFrom 31 rfl) rfl ?_
                  refine am_iload (q := 61) rfl (am_tab tk_X9_hoursFrom 32 rfl) rfl ?_
                  refine am_iald (q := 62) (a := 19) (n := 8) (x := (σ.2.1 89 (8 + i))) (Ls_19 hL) (by omega) (by omega) (by rw [show Int.toNat (i : Int) = i by omega]; exact hC.W.rems i (by omega)) (am_tab tk_X9_hoursFrom 33 rfl) rfl ?_
                  refine am_iload_n (q := 63) rfl (am_tab tk_X9_hoursFrom 34 rfl) rfl ?_
                  refine am_iand (q := 64) (am_tab tk_X9_hoursFrom 35 rfl) rfl ?_
                  refine am_ior (q := 65) (am_tab tk_X9_hoursFrom 36 rfl) rfl ?_
                  refine am_istore (q := 67) (by decide) (ls2 := [(5, am_i ((ao_or (hkF σ kn i) (ao_and (σ.2.1 89 (8 + i)) (lvM σ))))), (6, am_i ((i : Int))), (4, am_i ((h : Int))), (3, am_i kn), (0, am_r 0), (1, am_i ((p : Int))), (2, am_i (lvM σ))]) rfl (am_tab tk_X9_hoursFrom 37 rfl) rfl ?_
                  refine am_iinc (q := 70) rfl (by omega) (by decide) (ls2 := [(6, am_i (((i : Int) + 1))), (5, am_i ((ao_or (hkF σ kn i) (ao_and (σ.2.1 89 (8 + i)) (lvM σ))))), (4, am_i ((h : Int))), (3, am_i kn), (0, am_r 0), (1, am_i ((p : Int))), (2, am_i (lvM σ))]) rfl (am_tab tk_X9_hoursFrom 38 rfl) rfl ?_
                  refine am_goto (t := 28) (am_tab tk_X9_hoursFrom 39 rfl) (by decide) ?_
                  have he : hkF σ kn (i + 1) = (ao_or (hkF σ kn i) (ao_and (σ.2.1 89 (8 + i)) (lvM σ))) := by
                    show (if _ then _ else _) = _
                    first | rw [if_pos h47] | rw [if_neg h47]
                  exact am_less (by intro q hq; simp only [List.mem_cons, List.not_mem_nil, or_false] at hq; rcases hq with rfl | rfl | rfl | rfl | rfl | rfl | rfl <;> simp [he]) (ih28 (i + 1) (by omega) (by omega))
          refine am_less (by intro q hq; simp only [List.mem_cons, List.not_mem_nil, or_false] at hq; rcases hq with rfl | rfl | rfl | rfl | rfl | rfl | rfl <;> simp [hkF]) (L28 (_ + 1) 0 (by exact Nat.lt_succ_self _) (Nat.zero_le _))
        · refine am_iload (q := 21) rfl (am_tab tk_X9_hoursFrom 12 rfl) rfl ?_
          refine am_iret (Or.inl rfl) (Nat.le_of_ble_eq_true rfl) (Nat.le_of_ble_eq_true rfl) (am_tab tk_X9_hoursFrom 13 rfl) ?_
          refine hQ _ _ ?_
          refine ⟨congrArg (fun z => some (am_i z)) ?_, rfl⟩
          exact (hri.eq (by omega) h16).symm
  refine am_less (by intro q hq; simp only [List.mem_cons, List.not_mem_nil, or_false] at hq; rcases hq with rfl | rfl | rfl | rfl | rfl <;> simp) (L7 (_ + 1) 0 (ao_shl 1 (p : Int)) (by exact Nat.lt_succ_self _) (by omega) (shl_rng p (by omega)) (Or.inl ⟨rfl, by rw [sb_1 p (by omega)]; decide⟩))
set_option maxRecDepth 100000 in
theorem c_hours_15 (σ : am_H) (hC : CI 15 σ) (n : Int)  : am_met M_X9_hours [am_r 0, am_i n] σ (fun r σ' => r = some (am_i (houM σ n)) ∧ σ' = σ) := by
  refine am_qq (fun Q hQ => ?_)
  refine am_enter (show plainFor yX9_hours = true by decide +kernel) rfl (Nat.le_of_ble_eq_true rfl) (fun _ _ _ => trivial) ?_
  have hL := hC.G.L
  have h8 : pN σ ≤ 8 := by have := hC.G.R.P; unfold pN; omega
  have hpn : (pN σ : Int) = σ.2.1 85 5 := by have := hC.G.R.P; unfold pN; omega
  have hlv := lvM_rng hC.G.R
  refine am_aload_n (q := 1) rfl (am_tab tk_X9_hours 0 rfl) rfl ?_
  refine am_callVr (q := 4) (me2 := M_X9_living) (b := 0) (kb := 9) (nb := 17) (As := []) (rest := []) (c_living_15 σ hC) ⟨rfl, rfl⟩ (Ls_0 hL) (by decide) ⟨Or.inl km_X9_129, kc_X9_living, kn_X9, kd_X9_living, ⟨(Nat.le_of_ble_eq_true rfl), (Nat.le_of_ble_eq_true rfl)⟩, ⟨(Nat.le_of_ble_eq_true rfl), (Nat.le_of_ble_eq_true rfl)⟩, (Nat.le_of_ble_eq_true rfl)⟩ ki_X9_living ks_X9_living rfl (am_tab tk_X9_hours 1 rfl) rfl ?_
  rintro r τ ⟨hr9, hτ⟩
  rw [liv_eq hC.G hC.F] at hr9
  rw [hr9, hτ]
  refine am_st (st2 := [am_i (lvM σ)]) rfl ?_
  refine am_istore_n (q := 5) (by decide) (ls2 := [(2, am_i (lvM σ)), (0, am_r 0), (1, am_i n)]) rfl (am_tab tk_X9_hours 2 rfl) rfl ?_
  refine am_iload_n (q := 6) rfl (am_tab tk_X9_hours 3 rfl) rfl ?_
  refine am_iconst (q := 7) (n := 1) (by decide) (am_tab tk_X9_hours 4 rfl) rfl ?_
  refine am_icmp_lt (q := 10) (t := 20) (am_tab tk_X9_hours 5 rfl) (by decide) rfl (fun h7 => ?_) (fun h7 => ?_)
  · refine am_iconst (q := 21) (n := (-1)) (by decide) (am_tab tk_X9_hours 11 rfl) rfl ?_
    refine am_iret (Or.inl rfl) (Nat.le_of_ble_eq_true rfl) (Nat.le_of_ble_eq_true rfl) (am_tab tk_X9_hours 12 rfl) ?_
    refine hQ _ _ ?_
    refine ⟨congrArg (fun z => some (am_i z)) ?_, rfl⟩
    unfold houM
    rw [if_neg (by omega)]
  · refine am_iload_n (q := 11) rfl (am_tab tk_X9_hours 6 rfl) rfl ?_
    refine am_bipush (q := 13) (n := 20) (by decide) rfl (am_tab tk_X9_hours 7 rfl) rfl ?_
    refine am_icmp_gt (q := 16) (t := 20) (am_tab tk_X9_hours 8 rfl) (by decide) rfl (fun h13 => ?_) (fun h13 => ?_)
    · refine am_iconst (q := 21) (n := (-1)) (by decide) (am_tab tk_X9_hours 11 rfl) rfl ?_
      refine am_iret (Or.inl rfl) (Nat.le_of_ble_eq_true rfl) (Nat.le_of_ble_eq_true rfl) (am_tab tk_X9_hours 12 rfl) ?_
      refine hQ _ _ ?_
      refine ⟨congrArg (fun z => some (am_i z)) ?_, rfl⟩
      unfold houM
      rw [if_neg (by omega)]
    · refine am_iload_n (q := 17) rfl (am_tab tk_X9_hours 9 rfl) rfl ?_
      refine am_if_ne (q := 20) (t := 22) (am_tab tk_X9_hours 10 rfl) (by decide) rfl (fun h17 => ?_) (fun h17 => ?_)
      · refine am_iconst (q := 23) (n := 0) (by decide) (am_tab tk_X9_hours 13 rfl) rfl ?_
        refine am_istore_n (q := 24) (by decide) (ls2 := [(3, am_i 0), (2, am_i (lvM σ)), (0, am_r 0), (1, am_i n)]) rfl (am_tab tk_X9_hours 14 rfl) rfl ?_
        refine am_iconst (q := 25) (n := 0) (by decide) (am_tab tk_X9_hours 15 rfl) rfl ?_
        refine am_istore (q := 27) (by decide) (ls2 := [(4, am_i 0), (3, am_i 0), (2, am_i (lvM σ)), (0, am_r 0), (1, am_i n)]) rfl (am_tab tk_X9_hours 16 rfl) rfl ?_
        have L27 : ∀ (n27 : Nat) (p : Nat), 8 - p < n27 → p ≤ pN σ → ¬ hmF σ p = -1 → (0 ≤ hmF σ p ∧ hmF σ p ≤ 256) → am_wp M_X9_hours Q 0 0 27 [(4, am_i ((p : Int))), (3, am_i ((hmF σ p))), (2, am_i (lvM σ)), (0, am_r 0), (1, am_i n)] [] σ := by
          intro n27
          induction n27 with
          | zero => intro p hn27; exact absurd hn27 (Nat.not_lt_zero _)
          | succ n27 ih27 =>
            intro p hn27 hp hmn hmr
            refine am_iload (q := 29) rfl (am_tab tk_X9_hours 17 rfl) rfl ?_
            refine am_aload_n (q := 30) rfl (am_tab tk_X9_hours 18 rfl) rfl ?_
            refine am_getR (q := 33) (a := 0) (k := 9) (n := 17) (j := 2) (r := some (15)) (Ls_0 hL) (by decide) rfl hC.t (by decide) (Or.inl kf_X9_19) (am_tab tk_X9_hours 19 rfl) rfl ?_
            refine am_getI (q := 36) (a := 15) (k := 8) (n := 17) (j := 2) (x := (σ.2.1 85 5)) (Ls_15 hL) (by decide) rfl hC.W.people (by decide) (Or.inr kf_X9_126) (am_tab tk_X9_hours 20 rfl) rfl ?_
            refine am_icmp_ge (q := 39) (t := 79) (am_tab tk_X9_hours 21 rfl) (by decide) rfl (fun h36 => ?_) (fun h36 => ?_)
            · refine am_iload_n (q := 80) rfl (am_tab tk_X9_hours 43 rfl) rfl ?_
              refine am_iload_n (q := 81) rfl (am_tab tk_X9_hours 44 rfl) rfl ?_
              refine am_imul (q := 82) (by have h7 : n * hmF σ p = hmF σ p * n := Int.mul_comm ..; have := mul_rng (x := n) (y := hmF σ p) (by omega) (by omega); (have h9 : (n * hmF σ p).natAbs ≤ 20 * 256 := by (rw [Int.natAbs_mul]; exact Nat.mul_le_mul (by omega) (by omega))); omega) (am_tab tk_X9_hours 45 rfl) rfl ?_
              refine am_iret (Or.inl rfl) (Nat.le_of_ble_eq_true rfl) (Nat.le_of_ble_eq_true rfl) (am_tab tk_X9_hours 46 rfl) ?_
              refine hQ _ _ ?_
              refine ⟨congrArg (fun z => some (am_i z)) ?_, rfl⟩
              unfold houM
              have ep : p = pN σ := by omega
              rw [← ep]
              rw [if_pos (by omega), if_neg hmn]
            · have hpp : p < pN σ := by omega
              refine am_iload_n (q := 40) rfl (am_tab tk_X9_hours 22 rfl) rfl ?_
              refine am_iload (q := 42) rfl (am_tab tk_X9_hours 23 rfl) rfl ?_
              refine am_callS0 (q := 45) (me2 := M_X9_bit) (As := [am_i (lvM σ), am_i ((p : Int))]) (rest := []) (out := [am_i (tb (lvM σ) (p : Int))]) (c_bit σ (lvM σ) (p : Int) (hlv) (by omega)) ⟨rfl, rfl⟩ ⟨Or.inl km_X9_185, kc_X9_bit, kn_X9, kd_X9_bit, ⟨(Nat.le_of_ble_eq_true rfl), (Nat.le_of_ble_eq_true rfl)⟩, ⟨(Nat.le_of_ble_eq_true rfl), (Nat.le_of_ble_eq_true rfl)⟩, (Nat.le_of_ble_eq_true rfl)⟩ ki_X9_bit rfl rfl (am_tab tk_X9_hours 24 rfl) rfl ?_
              refine am_iconst (q := 46) (n := 1) (by decide) (am_tab tk_X9_hours 25 rfl) rfl ?_
              refine am_icmp_ne (q := 49) (t := 73) (am_tab tk_X9_hours 26 rfl) (by decide) rfl (fun h46 => ?_) (fun h46 => ?_)
              · refine am_iinc (q := 76) rfl (by omega) (by decide) (ls2 := [(4, am_i (((p : Int) + 1))), (3, am_i ((hmF σ p))), (2, am_i (lvM σ)), (0, am_r 0), (1, am_i n)]) rfl (am_tab tk_X9_hours 41 rfl) rfl ?_
                refine am_goto (t := 27) (am_tab tk_X9_hours 42 rfl) (by decide) ?_
                have hdp : σ.2.1 96 (12 + p) = 1 := Classical.byContradiction (fun hx => h46 (by rw [lv_tb hC.G (by omega), if_pos ⟨hpp, hx⟩]))
                have he : hmF σ (p + 1) = (hmF σ p) := by
                  show (if _ then _ else _) = _
                  rw [if_neg hmn, if_pos hdp]
                have hmn2 : ¬ hmF σ (p + 1) = -1 := by
                  rw [he]
                  omega
                exact am_less (by intro q hq; simp only [List.mem_cons, List.not_mem_nil, or_false] at hq; rcases hq with rfl | rfl | rfl | rfl | rfl <;> simp [he]) (ih27 (p + 1) (by omega) (by omega) hmn2 (by rw [he]; omega))
              · have hdp : ¬ σ.2.1 96 (12 + p) = 1 := fun hx => by
                  rw [lv_tb hC.G (by omega), if_neg (fun z => z.2 hx)] at h46
                  exact absurd h46 (by decide)
                have hor := hoM_rng hC.G.R (p := p) (by omega)
                refine am_aload_n (q := 50) rfl (am_tab tk_X9_hours 27 rfl) rfl ?_
                refine am_iload (q := 52) rfl (am_tab tk_X9_hours 28 rfl) rfl ?_
                refine am_iload_n (q := 53) rfl (am_tab tk_X9_hours 29 rfl) rfl ?_
                refine am_callV0 (q := 56) (me2 := M_X9_hoursFrom) (b := 0) (kb := 9) (nb := 17) (As := [am_i ((p : Int)), am_i (lvM σ)]) (rest := []) (out := [am_i (hoM σ p)]) (c_hoursFrom_15 σ hC p hpp) ⟨rfl, rfl⟩ (Ls_0 hL) (by decide) ⟨Or.inl km_X9_288, kc_X9_hoursFrom, kn_X9, kd_X9_hoursFrom, ⟨(Nat.le_of_ble_eq_true rfl), (Nat.le_of_ble_eq_true rfl)⟩, ⟨(Nat.le_of_ble_eq_true rfl), (Nat.le_of_ble_eq_true rfl)⟩, (Nat.le_of_ble_eq_true rfl)⟩ ki_X9_hoursFrom ks_X9_hoursFrom rfl rfl (am_tab tk_X9_hours 30 rfl) rfl ?_
                refine am_istore (q := 58) (by decide) (ls2 := [(5, am_i (hoM σ p)), (4, am_i ((p : Int))), (3, am_i ((hmF σ p))), (2, am_i (lvM σ)), (0, am_r 0), (1, am_i n)]) rfl (am_tab tk_X9_hours 31 rfl) rfl ?_
                refine am_iload (q := 60) rfl (am_tab tk_X9_hours 32 rfl) rfl ?_
                refine am_iconst (q := 61) (n := (-1)) (by decide) (am_tab tk_X9_hours 33 rfl) rfl ?_
                refine am_icmp_ne (q := 64) (t := 66) (am_tab tk_X9_hours 34 rfl) (by decide) rfl (fun h61 => ?_) (fun h61 => ?_)
                · refine am_iload_n (q := 67) rfl (am_tab tk_X9_hours 37 rfl) rfl ?_
                  refine am_iload (q := 69) rfl (am_tab tk_X9_hours 38 rfl) rfl ?_
                  refine am_callS0 (q := 72) (me2 := M_J9_max_7cf53) (As := [am_i ((hmF σ p)), am_i (hoM σ p)]) (rest := []) (out := [am_i (max (hmF σ p) (hoM σ p))]) (c_max σ (hmF σ p) (hoM σ p)) ⟨rfl, rfl⟩ ⟨Or.inl km_X9_291, kc_J9_max_7cf53, kn_J9, kd_J9_max_7cf53, ⟨(Nat.le_of_ble_eq_true rfl), (Nat.le_of_ble_eq_true rfl)⟩, ⟨(Nat.le_of_ble_eq_true rfl), (Nat.le_of_ble_eq_true rfl)⟩, (Nat.le_of_ble_eq_true rfl)⟩ ki_J9_max_7cf53 rfl rfl (am_tab tk_X9_hours 39 rfl) rfl ?_
                  refine am_istore_n (q := 73) (by decide) (ls2 := [(3, am_i (max (hmF σ p) (hoM σ p))), (5, am_i (hoM σ p)), (4, am_i ((p : Int))), (2, am_i (lvM σ)), (0, am_r 0), (1, am_i n)]) rfl (am_tab tk_X9_hours 40 rfl) rfl ?_
                  refine am_iinc (q := 76) rfl (by omega) (by decide) (ls2 := [(4, am_i (((p : Int) + 1))), (3, am_i (max (hmF σ p) (hoM σ p))), (5, am_i (hoM σ p)), (2, am_i (lvM σ)), (0, am_r 0), (1, am_i n)]) rfl (am_tab tk_X9_hours 41 rfl) rfl ?_
                  refine am_goto (t := 27) (am_tab tk_X9_hours 42 rfl) (by decide) ?_
                  have he : hmF σ (p + 1) = max (hmF σ p) (hoM σ p) := by
                    show (if _ then _ else _) = _
                    rw [if_neg hmn, if_neg hdp, if_neg h61]
                    split <;> omega
                  have hmn2 : ¬ hmF σ (p + 1) = -1 := by
                    rw [he]
                    omega
                  exact am_less (by intro q hq; simp only [List.mem_cons, List.not_mem_nil, or_false] at hq; rcases hq with rfl | rfl | rfl | rfl | rfl <;> simp [he]) (ih27 (p + 1) (by omega) (by omega) hmn2 (by rw [he]; omega))
                · refine am_iconst (q := 65) (n := (-1)) (by decide) (am_tab tk_X9_hours 35 rfl) rfl ?_
                  refine am_iret (Or.inl rfl) (Nat.le_of_ble_eq_true rfl) (Nat.le_of_ble_eq_true rfl) (am_tab tk_X9_hours 36 rfl) ?_
                  refine hQ _ _ ?_
                  refine ⟨congrArg (fun z => some (am_i z)) ?_, rfl⟩
                  unfold houM
                  have hst : hmF σ (p + 1) = -1 := by
                    show (if _ then _ else _) = _
                    rw [if_neg hmn, if_neg hdp, if_pos h61]
                  have h9 := hm_stop hst (pN σ - (p + 1))
                  rw [show p + 1 + (pN σ - (p + 1)) = pN σ by omega] at h9
                  rw [if_pos (by omega), if_pos h9]
        refine am_less (by intro q hq; simp only [List.mem_cons, List.not_mem_nil, or_false] at hq; rcases hq with rfl | rfl | rfl | rfl | rfl <;> simp [hmF]) (L27 (_ + 1) 0 (by exact Nat.lt_succ_self _) (Nat.zero_le _) (by show ¬ (0 : Int) = -1; decide) (by show (0 : Int) ≤ 0 ∧ (0 : Int) ≤ 256; decide))
      · refine am_iconst (q := 21) (n := (-1)) (by decide) (am_tab tk_X9_hours 11 rfl) rfl ?_
        refine am_iret (Or.inl rfl) (Nat.le_of_ble_eq_true rfl) (Nat.le_of_ble_eq_true rfl) (am_tab tk_X9_hours 12 rfl) ?_
        refine hQ _ _ ?_
        refine ⟨congrArg (fun z => some (am_i z)) ?_, rfl⟩
        unfold houM
        rw [if_neg (by omega)]
