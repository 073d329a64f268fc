theorem bc_sb_all : (List.range 256).all (fun x => decide (bc (x : Nat) = sb (x : Nat))) = true := by decide +kernel
theorem bc_sb {x : Int} (hx : 0 ≤ x ∧ x < 256) : bc x = sb x := by
  obtain ⟨a, rfl⟩ : ∃ n : Nat, x = n := ⟨x.toNat, by omega⟩
  exact of_decide_eq_true (List.all_eq_true.mp bc_sb_all a (List.mem_range.mpr (by omega)))
/-- how many are dead -/
def nd (g : Nat → Int) : Int := g 12 + g 13 + g 14 + g 15 + g 16 + g 17 + g 18 + g 19
theorem LF0.nd {l : Nat} {σ : am_H} {g : Nat → Int} (h : LF0 l σ g) : bc (σ.2.1 l 4) = nd g := by
  have e := h.2.2.1
  have e0 := e 0 (by decide)
  have e1 := e 1 (by decide)
  have e2 := e 2 (by decide)
  have e3 := e 3 (by decide)
  have e4 := e 4 (by decide)
  have e5 := e 5 (by decide)
  have e6 := e 6 (by decide)
  have e7 := e 7 (by decide)
  rw [bc_sb h.2.1]
  show tb _ ((0 : Nat) : Int) + tb _ ((1 : Nat) : Int) + tb _ ((2 : Nat) : Int) + tb _ ((3 : Nat) : Int) + tb _ ((4 : Nat) : Int) + tb _ ((5 : Nat) : Int) + tb _ ((6 : Nat) : Int) + tb _ ((7 : Nat) : Int) = _
  rw [e0, e1, e2, e3, e4, e5, e6, e7]
  rfl
theorem nd_up {g : Nat → Int} {p : Nat} (hp : p < 8) (h0 : g (12 + p) = 0) : nd (fun k => if k = 12 + p then 1 else g k) = nd g + 1 := by
  unfold nd
  rcases (show p = 0 ∨ p = 1 ∨ p = 2 ∨ p = 3 ∨ p = 4 ∨ p = 5 ∨ p = 6 ∨ p = 7 by omega) with rfl | rfl | rfl | rfl | rfl | rfl | rfl | rfl <;> simp at h0 ⊢ <;> omega
theorem dF_nd {f : Nat → Int} {x mo : Int} (hf : ∀ p : Nat, p < 8 → f (12 + p) = 0 ∨ f (12 + p) = 1) : ∀ p : Nat, p ≤ 8 → nd (dF f x mo p).1 = nd f + (dF f x mo p).2.2
  | 0, _ => by show nd f = nd f + 0; omega
  | p + 1, h => by
    have ih := dF_nd (x := x) (mo := mo) hf p (by omega)
    have hi := dF_in f x mo p (12 + p)
    have h01 := hf p (by omega)
    unfold dF
    by_cases c1 : (dF f x mo p).1 (12 + p) = 1
    · rw [if_pos c1]; exact ih
    · rw [if_neg c1]
      by_cases c2 : drw (nxS (dF f x mo p).2.1) 1000 < mo
      · rw [if_pos c2]
        show nd (fun k => if k = 12 + p then 1 else (dF f x mo p).1 k) = nd f + ((dF f x mo p).2.2 + 1)
        rw [nd_up (by omega) (by omega), ih]
        omega
      · rw [if_neg c2]
        exact ih
/-- ahead of a day by the seed, the deaths done -/
def chD (σ : am_H) (n : Nat) : am_H := am_setA (chS σ n).1 96 (dF (fun j => (chS σ n).1.2.1 96 j) (chS σ n).2.1 (σ.2.1 92 3) (pN σ)).1
theorem chD_ok {σ : am_H} (hG : GD σ) (hx : 0 ≤ σ.2.1 55 71 ∧ σ.2.1 55 71 < 2147483648) (n : Nat) (h : (n : Int) + 1 ≤ dlM σ) : GD (chD σ n) ∧ 1 ≤ dlM (chD σ n) ∧ cc (chD σ n) ∧ (∀ k, ¬ (12 ≤ k ∧ k < 20) → (chD σ n).2.1 96 k = (chS σ n).1.2.1 96 k) ∧ (∀ a j, ¬ a = 96 → (chD σ n).2.1 a j = σ.2.1 a j) ∧ nd (fun j => (chS σ (n + 1)).1.2.1 96 j) = nd (fun j => (chS σ n).1.2.1 96 j) + (dF (fun j => (chS σ n).1.2.1 96 j) (chS σ n).2.1 (σ.2.1 92 3) (pN σ)).2.2 := by
  obtain ⟨⟨h1, h2⟩, h3, h4, h5⟩ := chS_GD hG hx n (by omega)
  have h8 := pN_8 hG.R
  have hN := dF_MN h1.R.N (chS σ n).2.1 (σ.2.1 92 3) h8
  have hg : GD (chD σ n) := GD_now h1 h1.L rfl rfl hN h1.o h1.t
  have hk : ∀ k, ¬ (12 ≤ k ∧ k < 20) → (dF (fun j => (chS σ n).1.2.1 96 j) (chS σ n).2.1 (σ.2.1 92 3) (pN σ)).1 k = (chS σ n).1.2.1 96 k := fun k hk => by
    rcases dF_in (fun j => (chS σ n).1.2.1 96 j) (chS σ n).2.1 (σ.2.1 92 3) (pN σ) k with h | h
    · exact h
    · omega
  have hd : dlM (chD σ n) = dlM (chS σ n).1 := by
    have e : dlM (chD σ n) = if (chS σ n).1.2.1 55 52 = 0 then 0 else (999 - (dF (fun j => (chS σ n).1.2.1 96 j) (chS σ n).2.1 (σ.2.1 92 3) (pN σ)).1 0) * (chS σ n).1.2.1 85 9 + (chS σ n).1.2.1 85 9 - (dF (fun j => (chS σ n).1.2.1 96 j) (chS σ n).2.1 (σ.2.1 92 3) (pN σ)).1 1 := rfl
    rw [e, hk 0 (by omega), hk 1 (by omega)]
    rfl
  have hc := cc_of hg.R (by omega)
  refine ⟨hg, by omega, hc, fun k hk2 => ?_, fun a j ha => ?_, ?_⟩
  · exact setA_eq.trans (hk k hk2)
  · show (if a = 96 then _ else (chS σ n).1.2.1 a j) = _
    rw [if_neg ha]; exact h5 a j ha
  · have e : ∀ k, 12 ≤ k → k < 20 → (chS σ (n + 1)).1.2.1 96 k = (dF (fun j => (chS σ n).1.2.1 96 j) (chS σ n).2.1 (σ.2.1 92 3) (pN σ)).1 k := fun k g1 g2 => by
      show nwD (chD σ n) k = _
      have hb := bg1_rng hg hc
      have hag : ¬ k = 2 := by omega
      have hY := hg.R.Y
      have hP := pN_8 hg.R
      rw [nwD_lt (by omega), noD_far (by omega) (by omega) (by omega), bgN_far (by omega)]
      exact setA_eq
    have hn := dF_nd (x := (chS σ n).2.1) (mo := σ.2.1 92 3) (f := fun j => (chS σ n).1.2.1 96 j) (fun p hp => h1.R.dead p hp) (pN σ) h8
    rw [← hn]
    show (chS σ (n + 1)).1.2.1 96 12 + (chS σ (n + 1)).1.2.1 96 13 + (chS σ (n + 1)).1.2.1 96 14 + (chS σ (n + 1)).1.2.1 96 15 + (chS σ (n + 1)).1.2.1 96 16 + (chS σ (n + 1)).1.2.1 96 17 + (chS σ (n + 1)).1.2.1 96 18 + (chS σ (n + 1)).1.2.1 96 19 = _
    rw [e 12 (by decide) (by decide), e 13 (by decide) (by decide), e 14 (by decide) (by decide), e 15 (by decide) (by decide), e 16 (by decide) (by decide), e 17 (by decide) (by decide), e 18 (by decide) (by decide), e 19 (by decide) (by decide)]
    rfl
def W_cb (a j : Nat) : Prop := W_ca a j ∨ (a = 0 ∧ j = 16)
def CB (σ τ : am_H) : Prop := τ.1 = σ.1 ∧ (∀ a j, ¬ (a = 44 ∧ (j = 8 ∨ j = 9)) → τ.2.2 a j = σ.2.2 a j) ∧ ∀ a j, ¬ W_cb a j → τ.2.1 a j = σ.2.1 a j
theorem CB.refl (σ : am_H) : CB σ σ := ⟨rfl, fun _ _ _ => rfl, fun _ _ _ => rfl⟩
theorem CB.trans {σ τ υ : am_H} (h1 : CB σ τ) (h2 : CB τ υ) : CB σ υ := ⟨h2.1.trans h1.1, fun a j h => (h2.2.1 a j h).trans (h1.2.1 a j h), fun a j h => (h2.2.2 a j h).trans (h1.2.2 a j h)⟩
theorem CA.cb {σ τ : am_H} (h : CA σ τ) : CB σ τ := ⟨h.1, h.2.1, fun a j hh => h.2.2 a j (fun hw => hh (Or.inl hw))⟩
theorem dd_cb {σ τ : am_H} (h : frw W_dd σ τ) : CB σ τ := ⟨h.1, fun a j _ => by rw [h.2.1], fun a j hh => h.2.2 a j (fun hw => hh (by unfold W_dd at hw; unfold W_cb W_ca; omega))⟩
theorem RT_n44 : RT.all (fun q => decide (¬ (q.1 = 44 ∧ (q.2.1 = 8 ∨ q.2.1 = 9)))) = true := by decide +kernel
theorem CB.L {σ τ : am_H} (h : CB σ τ) (hL : lay σ) : lay τ := by
  refine ⟨fun k hk => by rw [h.1]; exact hL.1 k hk, fun i q hq => ?_⟩
  have hm : q ∈ RT := List.mem_of_getElem? hq
  rw [h.2.1 _ _ (of_decide_eq_true (List.all_eq_true.mp RT_n44 q hm))]
  exact hL.2 i q hq
theorem TWr.cb {t : Nat} {σ τ H : am_H} (ht : t = 3 ∨ t = 15) (h : TWr t σ H) (hB : CB σ τ) : TWr t τ H := by
  have c1 : ∀ r, r = t + 8 ∨ r = t + 10 → ∀ c, σ.2.2 r 0 = some c → c = 12 ∨ c = 14 ∨ c = 24 ∨ c = 26 ∨ c = 29 ∨ 131 ≤ c := fun r hr c hc => by
    rcases hr with rfl | rfl
    · obtain ⟨_, x, m, g2, _, g4, _⟩ := h.thinks
      rw [g2] at hc; rw [← Option.some.inj hc]; exact g4
    · obtain ⟨_, x, m, g2, _, g4, _⟩ := h.hears
      rw [g2] at hc; rw [← Option.some.inj hc]; exact g4
  refine h.cells (fun a q ha => by rw [hB.1]; exact ha) (fun r hr => hB.2.1 r 0 (by omega)) (fun a j ha => hB.2.2 a j (by unfold W_cb W_ca; omega)) (fun r hr c hc i => hB.2.2 c i ?_)
  have := c1 r hr c hc
  unfold W_cb W_ca
  omega
