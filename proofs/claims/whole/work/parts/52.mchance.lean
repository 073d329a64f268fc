/-- deaths by the seed, one by one: the time, the seed, how many died -/
def dF (f : Nat → Int) (x mo : Int) : Nat → (Nat → Int) × Int × Int
  | 0 => (f, x, 0)
  | p + 1 => if (dF f x mo p).1 (12 + p) = 1 then dF f x mo p else if drw (nxS (dF f x mo p).2.1) 1000 < mo then ((fun k => if k = 12 + p then 1 else (dF f x mo p).1 k), nxS (dF f x mo p).2.1, (dF f x mo p).2.2 + 1) else ((dF f x mo p).1, nxS (dF f x mo p).2.1, (dF f x mo p).2.2)
theorem dF_in (f : Nat → Int) (x mo : Int) : ∀ (p k : Nat), (dF f x mo p).1 k = f k ∨ ((dF f x mo p).1 k = 1 ∧ 12 ≤ k ∧ k < 12 + p)
  | 0, k => Or.inl rfl
  | p + 1, k => by
    have ih := dF_in f x mo p k
    unfold dF
    split
    · rcases ih with h | h
      · exact Or.inl h
      · exact Or.inr ⟨h.1, h.2.1, by omega⟩
    · split
      · show (if k = 12 + p then 1 else (dF f x mo p).1 k) = f k ∨ _
        by_cases hk : k = 12 + p
        · exact Or.inr ⟨by show (if k = 12 + p then 1 else _) = 1; rw [if_pos hk], by omega, by omega⟩
        · rcases ih with h | h
          · exact Or.inl (by rw [if_neg hk]; exact h)
          · exact Or.inr ⟨by show (if k = 12 + p then 1 else _) = 1; rw [if_neg hk]; exact h.1, h.2.1, by omega⟩
      · rcases ih with h | h
        · exact Or.inl h
        · exact Or.inr ⟨h.1, h.2.1, by omega⟩
theorem dF_seed {f : Nat → Int} {x mo : Int} (hx : 0 ≤ x ∧ x < 2147483648) : ∀ p, 0 ≤ (dF f x mo p).2.1 ∧ (dF f x mo p).2.1 < 2147483648
  | 0 => hx
  | p + 1 => by
    have ih := dF_seed (f := f) (mo := mo) hx p
    unfold dF
    split
    · exact ih
    · split
      · exact nxS_rng ih
      · exact nxS_rng ih
theorem dF_n (f : Nat → Int) (x mo : Int) : ∀ p : Nat, 0 ≤ (dF f x mo p).2.2 ∧ (dF f x mo p).2.2 ≤ p
  | 0 => ⟨Int.le_refl _, Int.le_refl _⟩
  | p + 1 => by
    have ih := dF_n f x mo p
    unfold dF
    split
    · omega
    · split
      · show 0 ≤ (dF f x mo p).2.2 + 1 ∧ (dF f x mo p).2.2 + 1 ≤ _
        omega
      · show 0 ≤ (dF f x mo p).2.2 ∧ (dF f x mo p).2.2 ≤ _
        omega
theorem dF_MN {Y : Int} {f : Nat → Int} (h : MN Y f) (x mo : Int) {p : Nat} (hp : p ≤ 8) : MN Y (dF f x mo p).1 := by
  have hk : ∀ k, ¬ (12 ≤ k ∧ k < 20) → (dF f x mo p).1 k = f k := fun k hk => by
    rcases dF_in f x mo p k with h | h
    · exact h
    · omega
  refine ⟨?_, ?_, ?_, ?_, ?_, ?_, ?_, ?_, ?_, ?_⟩
  · rw [hk 0 (by omega)]; exact h.1
  · rw [hk 1 (by omega)]; exact h.2.1
  · rw [hk 2 (by omega)]; exact h.2.2.1
  · rw [hk 3 (by omega)]; exact h.2.2.2.1
  · intro q hq; rw [hk _ (by omega)]; exact h.2.2.2.2.1 q hq
  · intro q hq
    rcases dF_in f x mo p (12 + q) with h1 | h1
    · rw [h1]; exact h.2.2.2.2.2.1 q hq
    · exact Or.inr h1.1
  · intro q hq; rw [hk _ (by omega)]; exact h.2.2.2.2.2.2.1 q hq
  · intro q hq; rw [hk _ (by omega)]; exact h.2.2.2.2.2.2.2.1 q hq
  · rw [hk _ (by omega)]; exact h.2.2.2.2.2.2.2.2.1
  · intro q hq; rw [hk _ (by omega)]; exact h.2.2.2.2.2.2.2.2.2 q hq
/-- days by the seed: the heap, the seed, how many died -/
def chS (σ : am_H) : Nat → am_H × Int × Int
  | 0 => (σ, σ.2.1 55 71, 0)
  | k + 1 => (dyS (am_setA (chS σ k).1 96 (dF (fun j => (chS σ k).1.2.1 96 j) (chS σ k).2.1 (σ.2.1 92 3) (pN σ)).1), (dF (fun j => (chS σ k).1.2.1 96 j) (chS σ k).2.1 (σ.2.1 92 3) (pN σ)).2.1, (chS σ k).2.2 + (dF (fun j => (chS σ k).1.2.1 96 j) (chS σ k).2.1 (σ.2.1 92 3) (pN σ)).2.2)
def deS (σ : am_H) (k p : Nat) : (Nat → Int) × Int × Int := dF (fun j => (chS σ k).1.2.1 96 j) (chS σ k).2.1 (σ.2.1 92 3) p
theorem chS_GD {σ : am_H} (hG : GD σ) (hx : 0 ≤ σ.2.1 55 71 ∧ σ.2.1 55 71 < 2147483648) : ∀ n : Nat, (n : Int) ≤ dlM σ → (GD (chS σ n).1 ∧ dlM (chS σ n).1 = dlM σ - n) ∧ (0 ≤ (chS σ n).2.1 ∧ (chS σ n).2.1 < 2147483648) ∧ (0 ≤ (chS σ n).2.2 ∧ (chS σ n).2.2 ≤ 8 * n) ∧ (∀ a j, ¬ a = 96 → (chS σ n).1.2.1 a j = σ.2.1 a j)
  | 0, _ => ⟨⟨hG, by show dlM σ = _; omega⟩, hx, ⟨Int.le_refl _, Int.le_refl _⟩, fun _ _ _ => rfl⟩
  | n + 1, h => by
    obtain ⟨⟨h1, h2⟩, h3, h4, h5⟩ := chS_GD hG hx n (by omega)
    have h8 := pN_8 hG.R
    have hb := dF_n (fun j => (chS σ n).1.2.1 96 j) (chS σ n).2.1 (σ.2.1 92 3) (pN σ)
    have hN := dF_MN h1.R.N (chS σ n).2.1 (σ.2.1 92 3) h8
    have hg : GD (am_setA (chS σ n).1 96 (dF (fun j => (chS σ n).1.2.1 96 j) (chS σ n).2.1 (σ.2.1 92 3) (pN σ)).1) := GD_now h1 h1.L rfl rfl hN h1.o h1.t
    have hk : ∀ k, ¬ (12 ≤ k ∧ k < 20) → (dF (fun j => (chS σ n).1.2.1 96 j) (chS σ n).2.1 (σ.2.1 92 3) (pN σ)).1 k = (chS σ n).1.2.1 96 k := fun k hk => by
      rcases dF_in (fun j => (chS σ n).1.2.1 96 j) (chS σ n).2.1 (σ.2.1 92 3) (pN σ) k with h | h
      · exact h
      · omega
    have hd : dlM (am_setA (chS σ n).1 96 (dF (fun j => (chS σ n).1.2.1 96 j) (chS σ n).2.1 (σ.2.1 92 3) (pN σ)).1) = dlM (chS σ n).1 := by
      have e : dlM (am_setA (chS σ n).1 96 (dF (fun j => (chS σ n).1.2.1 96 j) (chS σ n).2.1 (σ.2.1 92 3) (pN σ)).1) = if (chS σ n).1.2.1 55 52 = 0 then 0 else (999 - (dF (fun j => (chS σ n).1.2.1 96 j) (chS σ n).2.1 (σ.2.1 92 3) (pN σ)).1 0) * (chS σ n).1.2.1 85 9 + (chS σ n).1.2.1 85 9 - (dF (fun j => (chS σ n).1.2.1 96 j) (chS σ n).2.1 (σ.2.1 92 3) (pN σ)).1 1 := rfl
      rw [e, hk 0 (by omega), hk 1 (by omega)]
      rfl
    have hc := cc_of hg.R (by omega)
    refine ⟨⟨dyS_GD hg hc, ?_⟩, dF_seed h3 _, ?_, ?_⟩
    · show dlM (dyS _) = _
      rw [dl_step hg.R hc, hd, h2]
      omega
    · show 0 ≤ (chS σ n).2.2 + _ ∧ (chS σ n).2.2 + _ ≤ _
      omega
    · intro a j ha
      show (if a = 96 then _ else (if a = 96 then _ else (chS σ n).1.2.1 a j)) = _
      rw [if_neg ha, if_neg ha]
      exact h5 a j ha
def W_ch (a j : Nat) : Prop := a = 96 ∨ a = 129 ∨ (a = 55 ∧ ((56 ≤ j ∧ j ≤ 62) ∨ j = 71 ∨ j = 103))
def chC (σ : am_H) (n : Int) : Prop := (¬ σ.2.1 55 52 = 0 ∧ (1 ≤ n ∧ n ≤ 100)) ∧ n ≤ dlM σ
theorem c_X10_chance (σ : am_H) (hG : GD σ) (n : Int) (hn : 0 ≤ σ.2.1 55 70 ∧ σ.2.1 55 70 ≤ 19) (hu : 0 ≤ σ.2.1 55 69 ∧ σ.2.1 55 69 ≤ 20) (hr : 0 ≤ σ.2.1 57 2 ∧ σ.2.1 57 2 ≤ 100000) (hx : 0 ≤ σ.2.1 55 71 ∧ σ.2.1 55 71 < 2147483648) : am_met M_X10_chance [am_r 55, am_i n] σ (fun r σ' => (chC σ n ∧ r = some (am_i (chS σ n.toNat).2.2) ∧ frw W_ch (keH σ) σ' ∧ cn σ' = cn (chS σ n.toNat).1 ∧ GD σ' ∧ σ'.2.1 55 71 = (chS σ n.toNat).2.1) ∨ (¬ chC σ n ∧ r = some (am_i (-1)) ∧ σ' = am_setN σ 57 2 (σ.2.1 57 2 + 1))) := by
  refine am_qq (fun Q hQ => ?_)
  refine am_enter (show plainFor yX10_chance = true by decide +kernel) rfl (Nat.le_of_ble_eq_true rfl) (fun _ _ _ => trivial) ?_
  have hL := hG.L
  have hD90 : 0 ≤ σ.2.1 96 1 ∧ σ.2.1 96 1 ≤ 90 := ⟨hG.R.day.1, by have := hG.R.day; have := hG.R.Y; omega⟩
  have hN := pN_eq hG.R
  have h8 := pN_8 hG.R
  have hmo := hG.R.mort
  refine am_aload_n (q := 1) rfl (am_tab tk_X10_chance 0 rfl) rfl ?_
  refine am_getI (q := 4) (a := 55) (k := 10) (n := 108) (j := 52) (x := (σ.2.1 55 52)) (Ls_55 hL) (by decide) rfl rfl (by decide) (Or.inl kf_X10_384) (am_tab tk_X10_chance 1 rfl) rfl ?_
  refine am_if_eq (q := 7) (t := 27) (am_tab tk_X10_chance 2 rfl) (by decide) rfl (fun h4 => ?_) (fun h4 => ?_)
  · refine am_aload_n (q := 28) rfl (am_tab tk_X10_chance 13 rfl) rfl ?_
    refine am_iconst (q := 29) (n := 2) (by decide) (am_tab tk_X10_chance 14 rfl) rfl ?_
    refine am_callV0 (q := 32) (me2 := M_X10_refuses) (b := 55) (kb := 10) (nb := 108) (As := [am_i 2]) (rest := []) (out := [am_i ((-1))]) (c_X10_refuses σ hL 2 (by omega) hr) ⟨rfl, rfl⟩ (Ls_55 hL) (by decide) ⟨Or.inl km_X10_567, kc_X10_refuses, kn_X10, kd_X10_refuses, ⟨(Nat.le_of_ble_eq_true rfl), (Nat.le_of_ble_eq_true rfl)⟩, ⟨(Nat.le_of_ble_eq_true rfl), (Nat.le_of_ble_eq_true rfl)⟩, (Nat.le_of_ble_eq_true rfl)⟩ ki_X10_refuses ks_X10_refuses rfl rfl (am_tab tk_X10_chance 15 rfl) rfl ?_
    refine am_iret (Or.inl rfl) (Nat.le_of_ble_eq_true rfl) (Nat.le_of_ble_eq_true rfl) (am_tab tk_X10_chance 16 rfl) ?_
    refine hQ _ _ ?_
    refine Or.inr ⟨fun hx => ?_, rfl, rfl⟩
    first | exact absurd (by assumption) hx.1.1 | exact absurd hx.1.2 (by assumption) | exact absurd hx.2 (by omega)
  · refine am_iload_n (q := 8) rfl (am_tab tk_X10_chance 3 rfl) rfl ?_
    refine am_i2l (q := 9) (am_tab tk_X10_chance 4 rfl) rfl ?_
    refine am_lconst1 (q := 10) (am_tab tk_X10_chance 5 rfl) rfl ?_
    refine am_ldc2 (q := 13) (n := 100) (by decide) kk_X10_526 (am_tab tk_X10_chance 6 rfl) rfl ?_
    refine am_callS0 (q := 16) (me2 := M_X10_isIn) (As := [am_l n, am_l 1, am_l 100]) (rest := []) (out := [am_i (if 1 ≤ n ∧ n ≤ 100 then 1 else 0)]) (c_X10_isIn σ hL n 1 100 ) ⟨rfl, rfl⟩ ⟨Or.inl km_X10_291, kc_X10_isIn, kn_X10, kd_X10_isIn, ⟨(Nat.le_of_ble_eq_true rfl), (Nat.le_of_ble_eq_true rfl)⟩, ⟨(Nat.le_of_ble_eq_true rfl), (Nat.le_of_ble_eq_true rfl)⟩, (Nat.le_of_ble_eq_true rfl)⟩ ki_X10_isIn rfl rfl (am_tab tk_X10_chance 7 rfl) rfl ?_
    refine am_if_eq (q := 19) (t := 27) (am_tab tk_X10_chance 8 rfl) (by decide) rfl (fun h16 => ?_) (fun h16 => ?_)
    · replace h16 := b01z h16
      refine am_aload_n (q := 28) rfl (am_tab tk_X10_chance 13 rfl) rfl ?_
      refine am_iconst (q := 29) (n := 2) (by decide) (am_tab tk_X10_chance 14 rfl) rfl ?_
      refine am_callV0 (q := 32) (me2 := M_X10_refuses) (b := 55) (kb := 10) (nb := 108) (As := [am_i 2]) (rest := []) (out := [am_i ((-1))]) (c_X10_refuses σ hL 2 (by omega) hr) ⟨rfl, rfl⟩ (Ls_55 hL) (by decide) ⟨Or.inl km_X10_567, kc_X10_refuses, kn_X10, kd_X10_refuses, ⟨(Nat.le_of_ble_eq_true rfl), (Nat.le_of_ble_eq_true rfl)⟩, ⟨(Nat.le_of_ble_eq_true rfl), (Nat.le_of_ble_eq_true rfl)⟩, (Nat.le_of_ble_eq_true rfl)⟩ ki_X10_refuses ks_X10_refuses rfl rfl (am_tab tk_X10_chance 15 rfl) rfl ?_
      refine am_iret (Or.inl rfl) (Nat.le_of_ble_eq_true rfl) (Nat.le_of_ble_eq_true rfl) (am_tab tk_X10_chance 16 rfl) ?_
      refine hQ _ _ ?_
      refine Or.inr ⟨fun hx => ?_, rfl, rfl⟩
      first | exact absurd (by assumption) hx.1.1 | exact absurd hx.1.2 (by assumption) | exact absurd hx.2 (by omega)
    · replace h16 := b01n h16
      refine am_iload_n (q := 20) rfl (am_tab tk_X10_chance 9 rfl) rfl ?_
      refine am_aload_n (q := 21) rfl (am_tab tk_X10_chance 10 rfl) rfl ?_
      refine am_callV0 (q := 24) (me2 := M_X10_daysLeft) (b := 55) (kb := 10) (nb := 108) (As := []) (rest := [am_i n]) (out := [am_i (dlM σ), am_i n]) (c_X10_daysLeft σ hL hG.R.year hD90 hG.R.Y) ⟨rfl, rfl⟩ (Ls_55 hL) (by decide) ⟨Or.inl km_X10_481, kc_X10_daysLeft, kn_X10, kd_X10_daysLeft, ⟨(Nat.le_of_ble_eq_true rfl), (Nat.le_of_ble_eq_true rfl)⟩, ⟨(Nat.le_of_ble_eq_true rfl), (Nat.le_of_ble_eq_true rfl)⟩, (Nat.le_of_ble_eq_true rfl)⟩ ki_X10_daysLeft ks_X10_daysLeft rfl rfl (am_tab tk_X10_chance 11 rfl) rfl ?_
      refine am_icmp_le (q := 27) (t := 33) (am_tab tk_X10_chance 12 rfl) (by decide) rfl (fun h24 => ?_) (fun h24 => ?_)
      · refine am_aload_n (q := 34) rfl (am_tab tk_X10_chance 17 rfl) rfl ?_
        refine am_callV0 (q := 37) (me2 := M_X10_keeps) (b := 55) (kb := 10) (nb := 108) (As := []) (rest := []) (out := []) (c_X10_keeps σ hL hn hu) ⟨rfl, rfl⟩ (Ls_55 hL) (by decide) ⟨Or.inl km_X10_570, kc_X10_keeps, kn_X10, kd_X10_keeps, ⟨(Nat.le_of_ble_eq_true rfl), (Nat.le_of_ble_eq_true rfl)⟩, ⟨(Nat.le_of_ble_eq_true rfl), (Nat.le_of_ble_eq_true rfl)⟩, (Nat.le_of_ble_eq_true rfl)⟩ ki_X10_keeps ks_X10_keeps rfl rfl (am_tab tk_X10_chance 18 rfl) rfl ?_
        refine am_iconst (q := 38) (n := 0) (by decide) (am_tab tk_X10_chance 19 rfl) rfl ?_
        refine am_istore_n (q := 39) (by decide) (ls2 := [(2, am_i 0), (0, am_r 55), (1, am_i n)]) rfl (am_tab tk_X10_chance 20 rfl) rfl ?_
        refine am_iconst (q := 40) (n := 0) (by decide) (am_tab tk_X10_chance 21 rfl) rfl ?_
        refine am_istore_n (q := 41) (by decide) (ls2 := [(3, am_i 0), (2, am_i 0), (0, am_r 55), (1, am_i n)]) rfl (am_tab tk_X10_chance 22 rfl) rfl ?_
        have L41 : ∀ (n41 : Nat) (i : Nat) (S : am_H) (dd : Int), n.toNat - i < n41 → (i : Int) ≤ n → frw W_ch (keH σ) S → cn S = cn (chS σ i).1 → GD S → S.2.1 55 71 = (chS σ i).2.1 → dd = (chS σ i).2.2 → am_wp M_X10_chance Q 0 0 41 [(3, am_i ((i : Int))), (2, am_i dd), (0, am_r 55), (1, am_i n)] [] S := by
          intro n41
          induction n41 with
          | zero => intro i S dd hn41; exact absurd hn41 (Nat.not_lt_zero _)
          | succ n41 ih41 =>
            intro i S dd hn41 hi hF hcn hGS h71 hdd
            have hLS := hGS.L
            have hci := chS_GD hG hx i (by omega)
            refine am_iload_n (q := 42) rfl (am_tab tk_X10_chance 23 rfl) rfl ?_
            refine am_iload_n (q := 43) rfl (am_tab tk_X10_chance 24 rfl) rfl ?_
            refine am_icmp_ge (q := 46) (t := 116) (am_tab tk_X10_chance 25 rfl) (by decide) rfl (fun h43 => ?_) (fun h43 => ?_)
            · refine am_iload_n (q := 117) rfl (am_tab tk_X10_chance 59 rfl) rfl ?_
              refine am_iret (Or.inl rfl) (Nat.le_of_ble_eq_true rfl) (Nat.le_of_ble_eq_true rfl) (am_tab tk_X10_chance 60 rfl) ?_
              refine hQ _ _ ?_
              rw [← show i = n.toNat by omega]
              exact Or.inl ⟨⟨⟨h4, h16⟩, by omega⟩, by rw [hdd], hF, hcn, hGS, h71⟩
            · refine am_iconst (q := 47) (n := 0) (by decide) (am_tab tk_X10_chance 26 rfl) rfl ?_
              refine am_istore (q := 49) (by decide) (ls2 := [(4, am_i 0), (3, am_i ((i : Int))), (2, am_i dd), (0, am_r 55), (1, am_i n)]) rfl (am_tab tk_X10_chance 27 rfl) rfl ?_
              have L49 : ∀ (n49 : Nat) (p : Nat) (S : am_H) (dd : Int), pN σ - p < n49 → p ≤ pN σ → frw W_ch (keH σ) S → (∀ k, S.2.1 96 k = (deS σ i p).1 k) → S.2.1 55 71 = (deS σ i p).2.1 → (0 ≤ S.2.1 55 61 ∧ S.2.1 55 61 < 256) → (0 ≤ S.2.1 55 59 ∧ S.2.1 55 59 ≤ 99) → dd = (chS σ i).2.2 + (deS σ i p).2.2 → am_wp M_X10_chance Q 0 0 49 [(4, am_i ((p : Int))), (3, am_i ((i : Int))), (2, am_i dd), (0, am_r 55), (1, am_i n)] [] S := by
                intro n49
                induction n49 with
                | zero => intro p S dd hn49; exact absurd hn49 (Nat.not_lt_zero _)
                | succ n49 ih49 =>
                  intro p S dd hn49 hp hF h96 h71 h61 h59 hdd
                  have hLS : lay S := hF.L (keH_GD hG).L
                  have e12 : ((12 : Int) + (p : Int)).toNat = 12 + p := by omega
                  have hsd : 0 ≤ (deS σ i p).2.1 ∧ (deS σ i p).2.1 < 2147483648 := dF_seed hci.2.1 p
                  have hdn : 0 ≤ (deS σ i p).2.2 ∧ (deS σ i p).2.2 ≤ p := dF_n _ _ _ p
                  refine am_iload (q := 51) rfl (am_tab tk_X10_chance 28 rfl) rfl ?_
                  refine am_aload_n (q := 52) rfl (am_tab tk_X10_chance 29 rfl) rfl ?_
                  refine am_callV0 (q := 55) (me2 := M_X10_peopleMany) (b := 55) (kb := 10) (nb := 108) (As := []) (rest := [am_i ((p : Int))]) (out := [am_i (S.2.1 85 5), am_i ((p : Int))]) (c_X10_peopleMany S hLS) ⟨rfl, rfl⟩ (Ls_55 hLS) (by decide) ⟨Or.inl km_X10_394, kc_X10_peopleMany, kn_X10, kd_X10_peopleMany, ⟨(Nat.le_of_ble_eq_true rfl), (Nat.le_of_ble_eq_true rfl)⟩, ⟨(Nat.le_of_ble_eq_true rfl), (Nat.le_of_ble_eq_true rfl)⟩, (Nat.le_of_ble_eq_true rfl)⟩ ki_X10_peopleMany ks_X10_peopleMany rfl rfl (am_tab tk_X10_chance 30 rfl) rfl ?_
                  refine am_st (st2 := [am_i ((σ.2.1 85 5)), am_i ((p : Int))]) (by simp only [(show S.2.1 85 5 = σ.2.1 85 5 from (Eq.trans (hF.2.2 85 5 (by unfold W_ch; omega)) ((keH_fr σ).2.2 85 5 (by unfold W_ke; omega))))]) ?_
                  refine am_icmp_ge (q := 58) (t := 106) (am_tab tk_X10_chance 31 rfl) (by decide) rfl (fun h55 => ?_) (fun h55 => ?_)
                  · have epN : p = pN σ := by omega
                    have hcS0 : cn S = cn (am_setA (chS σ i).1 96 (deS σ i p).1) := cn_eq (fun a j h1 h2 => by
                        show _ = (if a = 96 then _ else (chS σ i).1.2.1 a j)
                        by_cases ha : a = 96
                        · subst ha; rw [if_pos rfl]; exact h96 j
                        · rw [if_neg ha, hci.2.2.2 a j ha]; exact (hF.2.2 a j (by unfold W_ch; omega)).trans ((keH_fr σ).2.2 a j (by unfold W_ke; omega)))
                    have hGS2 : GD S := GD_now hci.1.1 hLS hcS0 ((hF.2.2 55 52 (by unfold W_ch; omega)).trans (((keH_fr σ).2.2 55 52 (by unfold W_ke; omega)).trans (hci.2.2.2 55 52 (by decide)).symm)) (dF_MN hci.1.1.R.N _ _ (by omega)) h59 h61
                    have hk9 : ∀ k, k < 2 → (deS σ i p).1 k = (chS σ i).1.2.1 96 k := fun k hk => by
                      rcases dF_in (fun j => (chS σ i).1.2.1 96 j) (chS σ i).2.1 (σ.2.1 92 3) p k with h | h
                      · exact h
                      · omega
                    have hcS : cc (am_setA (chS σ i).1 96 (deS σ i p).1) := by
                      have h9 := cc_of hci.1.1.R (by omega)
                      unfold cc at *
                      show 5 ≤ (chS σ i).1.2.1 85 9 ∧ ((deS σ i p).1 0 < 999 ∨ (deS σ i p).1 1 < (chS σ i).1.2.1 85 9)
                      rw [hk9 0 (by omega), hk9 1 (by omega)]
                      exact h9
                    have hOS : GO S (am_setA (chS σ i).1 96 (deS σ i p).1) S := ⟨frw.refl _ _, hcS0, hGS2⟩
                    refine am_aload_n (q := 107) rfl (am_tab tk_X10_chance 55 rfl) rfl ?_
                    refine am_callVr (q := 110) (me2 := M_X10_dayGoes) (b := 55) (kb := 10) (nb := 108) (As := []) (rest := []) (c_dayG hOS hcS) ⟨rfl, rfl⟩ (Ls_55 hLS) (by decide) ⟨Or.inl km_X10_476, kc_X10_dayGoes, kn_X10, kd_X10_dayGoes, ⟨(Nat.le_of_ble_eq_true rfl), (Nat.le_of_ble_eq_true rfl)⟩, ⟨(Nat.le_of_ble_eq_true rfl), (Nat.le_of_ble_eq_true rfl)⟩, (Nat.le_of_ble_eq_true rfl)⟩ ki_X10_dayGoes ks_X10_dayGoes rfl (am_tab tk_X10_chance 56 rfl) rfl ?_
                    rintro r S2 ⟨rfl, hO2, e60, e61, e62⟩
                    refine am_st (st2 := []) rfl ?_
                    refine am_iinc (q := 113) rfl (by omega) (by decide) (ls2 := [(3, am_i (((i : Int) + 1))), (4, am_i ((p : Int))), (2, am_i dd), (0, am_r 55), (1, am_i n)]) rfl (am_tab tk_X10_chance 57 rfl) rfl ?_
                    refine am_goto (t := 41) (am_tab tk_X10_chance 58 rfl) (by decide) ?_
                    have hst9 : chS σ (i + 1) = (dyS (am_setA (chS σ i).1 96 (deS σ i p).1), (deS σ i p).2.1, (chS σ i).2.2 + (deS σ i p).2.2) := by
                      rw [epN]
                      rfl
                    exact am_less (by intro q hq; simp only [List.mem_cons, List.not_mem_nil, or_false] at hq; rcases hq with rfl | rfl | rfl | rfl <;> simp) (ih41 (i + 1) S2 dd (by omega) (by omega) (hF.trans (hO2.1.mono (by unfold W_day W_ch; omega))) (by rw [hst9]; exact hO2.2.1) hO2.2.2 ((hO2.1.2.2 55 71 (by unfold W_day; omega)).trans (by rw [h71, hst9])) (by rw [hdd, hst9]))
                  · refine am_aload_n (q := 59) rfl (am_tab tk_X10_chance 32 rfl) rfl ?_
                    refine am_iload (q := 61) rfl (am_tab tk_X10_chance 33 rfl) rfl ?_
                    refine am_callV0 (q := 64) (me2 := M_X10_isDead) (b := 55) (kb := 10) (nb := 108) (As := [am_i ((p : Int))]) (rest := []) (out := [am_i (if S.2.1 96 (12 + (p : Int)).toNat = 1 then 1 else 0)]) (c_X10_isDead S hLS (p : Int) (by omega)) ⟨rfl, rfl⟩ (Ls_55 hLS) (by decide) ⟨Or.inl km_X10_400, kc_X10_isDead, kn_X10, kd_X10_isDead, ⟨(Nat.le_of_ble_eq_true rfl), (Nat.le_of_ble_eq_true rfl)⟩, ⟨(Nat.le_of_ble_eq_true rfl), (Nat.le_of_ble_eq_true rfl)⟩, (Nat.le_of_ble_eq_true rfl)⟩ ki_X10_isDead ks_X10_isDead rfl rfl (am_tab tk_X10_chance 34 rfl) rfl ?_
                    refine am_st (st2 := [am_i (if ((deS σ i p).1 (12 + p)) = 1 then 1 else 0)]) (by simp only [(show S.2.1 96 (12 + (p : Int)).toNat = ((deS σ i p).1 (12 + p)) from (by rw [e12]; exact h96 _))]) ?_
                    refine am_if_ne (q := 67) (t := 100) (am_tab tk_X10_chance 35 rfl) (by decide) rfl (fun h64 => ?_) (fun h64 => ?_)
                    · replace h64 := b01n h64
                      refine am_iinc (q := 103) rfl (by omega) (by decide) (ls2 := [(4, am_i (((p : Int) + 1))), (3, am_i ((i : Int))), (2, am_i dd), (0, am_r 55), (1, am_i n)]) rfl (am_tab tk_X10_chance 53 rfl) rfl ?_
                      refine am_goto (t := 49) (am_tab tk_X10_chance 54 rfl) (by decide) ?_
                      have hst : deS σ i (p + 1) = deS σ i p := by
                        have h9 := h64
                        unfold deS at h9
                        show (if _ then _ else _) = _
                        rw [if_pos h9]; rfl
                      exact am_less (by intro q hq; simp only [List.mem_cons, List.not_mem_nil, or_false] at hq; rcases hq with rfl | rfl | rfl | rfl | rfl <;> simp) (ih49 (p + 1) S dd (by omega) (by omega) hF (fun k => by rw [hst]; exact h96 k) (by rw [hst]; exact h71) h61 h59 (by rw [hst]; exact hdd))
                    · replace h64 := b01z h64
                      refine am_aload_n (q := 68) rfl (am_tab tk_X10_chance 36 rfl) rfl ?_
                      refine am_sipush (q := 71) (n := 1000) (by decide) rfl (am_tab tk_X10_chance 37 rfl) rfl ?_
                      refine am_callV0 (q := 74) (me2 := M_X10_drawOf) (b := 55) (kb := 10) (nb := 108) (As := [am_i 1000]) (rest := []) (out := [am_i (drw (nxS (S.2.1 55 71)) 1000)]) (c_X10_drawOf S hLS 1000 (by omega) (by rw [h71]; exact hsd)) ⟨rfl, rfl⟩ (Ls_55 hLS) (by decide) ⟨Or.inl km_X10_582, kc_X10_drawOf, kn_X10, kd_X10_drawOf, ⟨(Nat.le_of_ble_eq_true rfl), (Nat.le_of_ble_eq_true rfl)⟩, ⟨(Nat.le_of_ble_eq_true rfl), (Nat.le_of_ble_eq_true rfl)⟩, (Nat.le_of_ble_eq_true rfl)⟩ ki_X10_drawOf ks_X10_drawOf rfl rfl (am_tab tk_X10_chance 38 rfl) rfl ?_
                      refine am_st (st2 := [am_i (drw (nxS (((deS σ i p).2.1))) 1000)]) (by simp only [(show S.2.1 55 71 = ((deS σ i p).2.1) from h71)]) ?_
                      refine am_aload_n (q := 75) rfl (am_tab tk_X10_chance 39 rfl) rfl ?_
                      refine am_getR (q := 78) (a := 55) (k := 10) (n := 108) (j := 46) (r := some (92)) (Ls_55 hLS) (by decide) rfl (Lr_55_46 hLS) (by decide) (Or.inl kf_X10_124) (am_tab tk_X10_chance 40 rfl) rfl ?_
                      refine am_iconst (q := 79) (n := 3) (by decide) (am_tab tk_X10_chance 41 rfl) rfl ?_
                      refine am_iald (q := 80) (a := 92) (n := 4) (x := (σ.2.1 92 3)) (Ls_92 hLS) (by omega) (by omega) (Eq.trans (hF.2.2 92 3 (by unfold W_ch; omega)) ((keH_fr σ).2.2 92 3 (by unfold W_ke; omega))) (am_tab tk_X10_chance 42 rfl) rfl ?_
                      refine am_icmp_lt (q := 83) (t := 86) (am_tab tk_X10_chance 43 rfl) (by decide) rfl (fun h80 => ?_) (fun h80 => ?_)
                      · refine am_aload_n (q := 87) rfl (am_tab tk_X10_chance 45 rfl) rfl ?_
                        refine am_getR (q := 90) (a := 55) (k := 10) (n := 108) (j := 54) (r := some (96)) (Ls_55 hLS) (by decide) rfl (Lr_55_54 hLS) (by decide) (Or.inl kf_X10_136) (am_tab tk_X10_chance 46 rfl) rfl ?_
                        refine am_bipush (q := 92) (n := 12) (by decide) rfl (am_tab tk_X10_chance 47 rfl) rfl ?_
                        refine am_iload (q := 94) rfl (am_tab tk_X10_chance 48 rfl) rfl ?_
                        refine am_iadd (q := 95) (by omega) (am_tab tk_X10_chance 49 rfl) rfl ?_
                        refine am_iconst (q := 96) (n := 1) (by decide) (am_tab tk_X10_chance 50 rfl) rfl ?_
                        refine am_iast (q := 97) (a := 96) (n := 443) (Ls_96 hLS) (by omega) (by omega) (am_tab tk_X10_chance 51 rfl) rfl ?_
                        refine am_iinc (q := 100) rfl (by omega) (by decide) (ls2 := [(2, am_i ((dd + 1))), (4, am_i ((p : Int))), (3, am_i ((i : Int))), (0, am_r 55), (1, am_i n)]) rfl (am_tab tk_X10_chance 52 rfl) rfl ?_
                        refine am_iinc (q := 103) rfl (by omega) (by decide) (ls2 := [(4, am_i (((p : Int) + 1))), (2, am_i ((dd + 1))), (3, am_i ((i : Int))), (0, am_r 55), (1, am_i n)]) rfl (am_tab tk_X10_chance 53 rfl) rfl ?_
                        refine am_goto (t := 49) (am_tab tk_X10_chance 54 rfl) (by decide) ?_
                        have hst : deS σ i (p + 1) = ((fun k => if k = 12 + p then 1 else (deS σ i p).1 k), nxS (deS σ i p).2.1, (deS σ i p).2.2 + 1) := by
                          have h9 := h64
                          have h10 := h80
                          unfold deS at h9 h10
                          show (if _ then _ else _) = _
                          rw [if_neg h9, if_pos (by omega)]; rfl
                        have h96n : ∀ k, ((am_setN (am_setN S 55 71 (nxS (S.2.1 55 71))) 96 (Int.toNat (12 + (p : Int))) 1)).2.1 96 k = (deS σ i (p + 1)).1 k := by
                          intro k
                          rw [hst]
                          show (if 96 = 96 ∧ k = Int.toNat (12 + (p : Int)) then 1 else S.2.1 96 k) = (if k = 12 + p then 1 else (deS σ i p).1 k)
                          rw [e12, h96 k]
                          by_cases hk : k = 12 + p
                          · rw [if_pos ⟨rfl, hk⟩, if_pos hk]
                          · rw [if_neg (fun hc => hk hc.2), if_neg hk]
                        exact am_less (by intro q hq; simp only [List.mem_cons, List.not_mem_nil, or_false] at hq; rcases hq with rfl | rfl | rfl | rfl | rfl <;> simp) (ih49 (p + 1) (am_setN (am_setN S 55 71 (nxS (S.2.1 55 71))) 96 (Int.toNat (12 + (p : Int))) 1) (dd + 1) (by omega) (by omega) ((hF.setN (by unfold W_ch; omega)).setN (by unfold W_ch; omega)) h96n (by rw [hst]; show nxS (S.2.1 55 71) = _; rw [h71]) h61 h59 (by rw [hst]; show dd + 1 = (chS σ i).2.2 + ((deS σ i p).2.2 + 1); omega))
                      · refine am_goto (t := 100) (am_tab tk_X10_chance 44 rfl) (by decide) ?_
                        refine am_iinc (q := 103) rfl (by omega) (by decide) (ls2 := [(4, am_i (((p : Int) + 1))), (3, am_i ((i : Int))), (2, am_i dd), (0, am_r 55), (1, am_i n)]) rfl (am_tab tk_X10_chance 53 rfl) rfl ?_
                        refine am_goto (t := 49) (am_tab tk_X10_chance 54 rfl) (by decide) ?_
                        have hst : deS σ i (p + 1) = ((deS σ i p).1, nxS (deS σ i p).2.1, (deS σ i p).2.2) := by
                          have h9 := h64
                          have h10 := h80
                          unfold deS at h9 h10
                          show (if _ then _ else _) = _
                          rw [if_neg h9, if_neg (by omega)]; rfl
                        exact am_less (by intro q hq; simp only [List.mem_cons, List.not_mem_nil, or_false] at hq; rcases hq with rfl | rfl | rfl | rfl | rfl <;> simp) (ih49 (p + 1) (am_setN S 55 71 (nxS (S.2.1 55 71))) dd (by omega) (by omega) (hF.setN (by unfold W_ch; omega)) (fun k => by rw [hst]; exact h96 k) (by rw [hst]; show nxS (S.2.1 55 71) = _; rw [h71]) h61 h59 (by rw [hst]; exact hdd))
              refine am_less (by intro q hq; simp only [List.mem_cons, List.not_mem_nil, or_false] at hq; rcases hq with rfl | rfl | rfl | rfl | rfl <;> simp) (L49 (_ + 1) 0 S dd (by exact Nat.lt_succ_self _) (by omega) hF (fun k => cn_at hcn 96 k (by decide) (by decide)) h71 hGS.t hGS.o (by rw [hdd]; show _ = _ + (0 : Int); omega))
        refine am_less (by intro q hq; simp only [List.mem_cons, List.not_mem_nil, or_false] at hq; rcases hq with rfl | rfl | rfl | rfl <;> simp) (L41 (_ + 1) 0 (keH σ) 0 (by exact Nat.lt_succ_self _) (by omega) (frw.refl _ _) (keH_cn σ) (keH_GD hG) ((keH_fr σ).2.2 55 71 (by unfold W_ke; omega)) rfl)
      · refine am_aload_n (q := 28) rfl (am_tab tk_X10_chance 13 rfl) rfl ?_
        refine am_iconst (q := 29) (n := 2) (by decide) (am_tab tk_X10_chance 14 rfl) rfl ?_
        refine am_callV0 (q := 32) (me2 := M_X10_refuses) (b := 55) (kb := 10) (nb := 108) (As := [am_i 2]) (rest := []) (out := [am_i ((-1))]) (c_X10_refuses σ hL 2 (by omega) hr) ⟨rfl, rfl⟩ (Ls_55 hL) (by decide) ⟨Or.inl km_X10_567, kc_X10_refuses, kn_X10, kd_X10_refuses, ⟨(Nat.le_of_ble_eq_true rfl), (Nat.le_of_ble_eq_true rfl)⟩, ⟨(Nat.le_of_ble_eq_true rfl), (Nat.le_of_ble_eq_true rfl)⟩, (Nat.le_of_ble_eq_true rfl)⟩ ki_X10_refuses ks_X10_refuses rfl rfl (am_tab tk_X10_chance 15 rfl) rfl ?_
        refine am_iret (Or.inl rfl) (Nat.le_of_ble_eq_true rfl) (Nat.le_of_ble_eq_true rfl) (am_tab tk_X10_chance 16 rfl) ?_
        refine hQ _ _ ?_
        refine Or.inr ⟨fun hx => ?_, rfl, rfl⟩
        first | exact absurd (by assumption) hx.1.1 | exact absurd hx.1.2 (by assumption) | exact absurd hx.2 (by omega)
