def bc1 (x : Int) : Bool := (List.range 8).any (fun q => (List.range 8).all (fun k => decide (tb x (k : Nat) = if k = q then 1 else 0)))
theorem bc1_all : (List.range 256).all (fun x => decide ((bc (x : Nat) = 1 ↔ bc1 (x : Nat) = true) ∧ (0 ≤ bc (x : Nat) ∧ bc (x : Nat) ≤ 8))) = true := by decide +kernel
theorem bc1_eq {x : Int} (hx : 0 ≤ x ∧ x < 256) : (bc x = 1 ↔ ∃ q : Nat, q < 8 ∧ ∀ k : Nat, k < 8 → tb x k = if k = q then 1 else 0) ∧ (0 ≤ bc x ∧ bc x ≤ 8) := by
  obtain ⟨n, rfl⟩ := toN hx.1
  have h1 := of_decide_eq_true (List.all_eq_true.mp bc1_all n (List.mem_range.mpr (by omega)))
  refine ⟨?_, h1.2⟩
  rw [h1.1]
  unfold bc1
  rw [List.any_eq_true]
  constructor
  · rintro ⟨q, hq, h⟩
    exact ⟨q, List.mem_range.mp hq, fun k hk => of_decide_eq_true (List.all_eq_true.mp h k (List.mem_range.mpr hk))⟩
  · rintro ⟨q, hq, h⟩
    exact ⟨q, List.mem_range.mpr hq, List.all_eq_true.mpr (fun k hk => decide_eq_true (h k (List.mem_range.mp hk)))⟩
theorem tb0 (q : Int) : tb 0 q = 0 := by unfold tb; simp
theorem anyB_no {g : Nat → Bool} : ∀ n, (∀ i, i < n → g i = false) → anyB g n = false
  | 0, _ => rfl
  | n + 1, h => anyB_f (anyB_no n (fun i hi => h i (by omega))) (h n (by omega))
theorem rpE_0 {B : am_H} {ts bs : Int} : ∀ n, rpE B ts bs 0 n = 0
  | 0 => rfl
  | n + 1 => by
    unfold rpE
    rw [rpE_0 n, if_neg]
    unfold rgB
    rw [decide_eq_true_eq]
    rintro ⟨_, _, _, h, _⟩
    refine h (firstQ_none ?_)
    refine anyB_no _ (fun q _ => ?_)
    rw [tb0]; simp
theorem rmE_0 {B : am_H} {ts bs own : Int} (h8 : pN B ≤ 8) (h : 0 ≤ own ∧ own < 256) : rmE B ts own bs = 0 ↔ own = 0 := by
  have hge : ∀ k s, 0 ≤ s ∧ s < 256 → s ≤ rdE B ts bs k s := by
    intro k
    induction k with
    | zero => intro s _; exact Int.le_refl _
    | succ k ih =>
      intro s hs
      unfold rdE
      split
      · exact Int.le_refl _
      · have h1 := rpE_in (B := B) (ts := ts) (bs := bs) hs (pN B) h8
        have h2 := ih (rpE B ts bs s (pN B)) (by omega)
        omega
  constructor
  · intro h0
    have := hge 256 own h
    unfold rmE at h0
    omega
  · intro h0
    rw [h0]
    exact rdE_fix (rpE_0 _) 256
theorem wt_tb {H : am_H} (hG : GD H) (hc : cc H) {p q : Nat} (hp : p < 8) (hq : q < 8) : tb (wtD H p) q = if q = p then 1 else tb (bsD H) q := by
  have h1 := or_sh (bsD_rng hG.R hc) (Or.inr rfl) hp
  have h2 := h1.2 q hq
  by_cases g : q = p
  · rw [if_pos ⟨g, rfl⟩] at h2; rw [if_pos g]; exact h2
  · rw [if_neg (fun z => g z.1)] at h2; rw [if_neg g]; exact h2
theorem sf_tb {H : am_H} (h8 : pN H ≤ 8) (bs : Int) {q : Nat} (hq : q < 8) : tb (selE (bgS H) (tsD H) bs) q = if q < pN H ∧ slB (bgS H) (tsD H) bs q = true then 1 else 0 := mkS_tb _ _ h8 q hq
/-- a day hangs on one only if he alone thinks of himself -/
theorem hg_bc {H : am_H} (hG : GD H) (hc : cc H) : hgM H = if bc (sfD H) = 1 then sfD H else 0 := by
  have h8 : pN H ≤ 8 := by have := hG.R.P; unfold pN; omega
  have hr := sfD_rng hG hc
  have hth : thD H = 0 ↔ sfD H = 0 := rmE_0 (B := bgS H) h8 hr
  unfold hgM
  by_cases h0 : sfD H = 0
  · rw [if_pos (hth.mpr h0), h0]; decide
  · rw [if_neg (fun h => h0 (hth.mp h))]
    have key : ∀ p : Nat, p < pN H → (hgB H p = true ↔ tb (sfD H) p = 1 ∧ ∀ q : Nat, q < 8 → tb (sfD H) q = 1 → q = p) := by
      intro p hp
      have hsel : rmE (bgS H) (tsD H) (selE (bgS H) (tsD H) (wtD H p)) (wtD H p) = 0 ↔ ∀ q : Nat, q < 8 → tb (sfD H) q = 1 → q = p := by
        rw [rmE_0 (B := bgS H) h8 (selE_rng (bgS_GD hG hc).R _ _)]
        have hq9 : ∀ q : Nat, q < 8 → tb (selE (bgS H) (tsD H) (wtD H p)) q = if q = p then 0 else tb (sfD H) q := by
          intro q hq
          have e2 : tb (sfD H) q = if q < pN H ∧ slB (bgS H) (tsD H) (bsD H) q = true then 1 else 0 := sf_tb h8 _ hq
          rw [sf_tb h8 _ hq, e2]
          unfold slB
          rw [wt_tb hG hc (by omega) hq]
          by_cases g : q = p
          · rw [if_pos g, if_pos g, if_neg]
            rintro ⟨_, h3⟩
            rw [decide_eq_true_eq] at h3
            exact h3.2.1 rfl
          · rw [if_neg g, if_neg g]
        constructor
        · intro hz q hq h1
          have h3 := hq9 q hq
          rw [hz, tb0] at h3
          by_cases g : q = p
          · exact g
          · rw [if_neg g] at h3; omega
        · intro hz
          refine set_ext (selE_rng (bgS_GD hG hc).R _ _) (by decide) (fun q hq => ?_)
          rw [hq9 q hq, tb0]
          by_cases g : q = p
          · rw [if_pos g]
          · rw [if_neg g]
            have := tb_01 (sfD H) q
            have h5 : ¬ tb (sfD H) q = 1 := fun h => g (hz q hq h)
            omega
      unfold hgB
      rw [decide_eq_true_eq, hsel]
      constructor
      · rintro ⟨_, h2⟩
        refine ⟨?_, h2⟩
        have hex : ∃ q : Nat, q < 8 ∧ tb (sfD H) q = 1 := by
          refine Classical.byContradiction (fun hn => h0 (set_ext hr (by decide) (fun q hq => ?_)))
          rw [tb0]
          have := tb_01 (sfD H) q
          have h5 : ¬ tb (sfD H) q = 1 := fun h => hn ⟨q, hq, h⟩
          omega
        obtain ⟨q, hq, h1⟩ := hex
        rw [← h2 q hq h1]; exact h1
      · rintro ⟨h1, h2⟩
        refine ⟨?_, h2⟩
        have e2 : tb (sfD H) p = if p < pN H ∧ slB (bgS H) (tsD H) (bsD H) p = true then 1 else 0 := sf_tb h8 _ (by omega)
        have h3 : slB (bgS H) (tsD H) (bsD H) p = true := by
          refine Classical.byContradiction (fun hn => ?_)
          rw [if_neg (fun z => hn z.2)] at e2
          omega
        unfold slB at h3
        rw [decide_eq_true_eq] at h3
        rw [← show (bgS H).2.1 96 (12 + p) = H.2.1 96 (12 + p) from bgN_far (by omega)]
        exact h3.1
    by_cases hb : bc (sfD H) = 1
    · rw [if_pos hb]
      obtain ⟨q, hq, h1⟩ := (bc1_eq hr).1.mp hb
      refine (mkS_ext hr h8 (fun k hk => ?_)).symm
      have hle : tb (sfD H) k = 1 → k < pN H := by
        intro h2
        have e2 : tb (sfD H) k = if k < pN H ∧ slB (bgS H) (tsD H) (bsD H) k = true then 1 else 0 := sf_tb h8 _ hk
        by_cases g : k < pN H
        · exact g
        · rw [if_neg (fun z => g z.1)] at e2; omega
      by_cases g : tb (sfD H) k = 1
      · have hone : ∀ j : Nat, j < 8 → tb (sfD H) j = 1 → j = q := fun j hj h5 => by
          by_cases a : j = q
          · exact a
          · rw [h1 j hj, if_neg a] at h5; omega
        have hkk := hone k hk g
        rw [if_pos ⟨hle g, (key k (hle g)).mpr ⟨g, fun j hj h5 => (hone j hj h5).trans hkk.symm⟩⟩, g]
      · rw [if_neg (fun z => g ((key k z.1).mp z.2).1)]
        have := tb_01 (sfD H) k
        omega
    · rw [if_neg hb]
      refine (mkS_ext (by decide) h8 (fun k hk => ?_)).symm
      rw [tb0, if_neg]
      rintro ⟨h1, h2⟩
      obtain ⟨h3, h4⟩ := (key k h1).mp h2
      refine hb ((bc1_eq hr).1.mpr ⟨k, hk, fun j hj => ?_⟩)
      by_cases g : j = k
      · rw [if_pos g, g]; exact h3
      · rw [if_neg g]
        have := tb_01 (sfD H) j
        have h5 : ¬ tb (sfD H) j = 1 := fun h => g (h4 j hj h)
        omega
