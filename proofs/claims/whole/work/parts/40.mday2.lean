theorem am_mono {me : am_M} {As : List am_V} {σ : am_H} {Q Q2 : Option am_V → am_H → Prop} (h : am_met me As σ Q) (hq : ∀ r τ, Q r τ → Q2 r τ) : am_met me As σ Q2 := by
  intro l base D ρ ss p e ha hc hk s m args below hf happ hP hK
  obtain ⟨n, o, h1, h2, h3, ⟨⟨r, σ', ρ', b1, b2, b3, b4, b5, b6⟩, h6⟩, h5⟩ := h l base D ρ ss p e ha hc hk s m args below hf happ hP hK
  exact ⟨n, o, h1, h2, h3, ⟨⟨r, σ', ρ', b1, b2, b3, b4, hq _ _ b5, b6⟩, h6⟩, h5⟩
theorem GD_fr {W : Nat → Nat → Prop} {σ τ : am_H} (h : GD σ) (hF : frw W σ τ) (hW : ∀ a j, (85 ≤ a ∧ a ≤ 96) ∨ (a = 55 ∧ j = 52) → ¬ W a j) (ho : 0 ≤ τ.2.1 55 59 ∧ τ.2.1 55 59 ≤ 99) (ht : 0 ≤ τ.2.1 55 61 ∧ τ.2.1 55 61 < 256) : GD τ := by
  have hc : cn τ = cn (am_setA σ 96 (fun k => σ.2.1 96 k)) := by
    rw [am_setA_self]
    exact cn_eq (fun a j h1 h2 => hF.2.2 a j (hW a j (Or.inl ⟨h1, h2⟩)))
  exact ⟨hF.L h.L, h.R.up hc (hF.2.2 55 52 (hW 55 52 (Or.inr ⟨rfl, rfl⟩))) h.R.N, h.K.up hc, h.O.up hc, ho, ht⟩
theorem GD_now {σ τ : am_H} {f : Nat → Int} (h : GD σ) (hL : lay τ) (hc : cn τ = cn (am_setA σ 96 f)) (h52 : τ.2.1 55 52 = σ.2.1 55 52) (hN : MN (σ.2.1 85 9) f) (ho : 0 ≤ τ.2.1 55 59 ∧ τ.2.1 55 59 ≤ 99) (ht : 0 ≤ τ.2.1 55 61 ∧ τ.2.1 55 61 < 256) : GD τ :=
  ⟨hL, h.R.up hc h52 hN, h.K.up hc, h.O.up hc, ho, ht⟩
def W_sel (a j : Nat) : Prop := a = 129 ∨ (a = 55 ∧ (j = 56 ∨ j = 57 ∨ j = 58 ∨ j = 103))
def W_rem (a j : Nat) : Prop := a = 129 ∨ (a = 55 ∧ (j = 59 ∨ j = 103))
def W_day (a j : Nat) : Prop := a = 96 ∨ a = 129 ∨ (a = 55 ∧ ((56 ≤ j ∧ j ≤ 62) ∨ j = 103))
theorem rmE_eq {σ τ : am_H} (h : cn τ = cn σ) (ts own bs : Int) : rmE τ ts own bs = rmE σ ts own bs := by rw [← rmE_cn τ, h, rmE_cn]
theorem selE_eq {σ τ : am_H} (h : cn τ = cn σ) (ts bs : Int) : selE τ ts bs = selE σ ts bs := by rw [← selE_cn τ, h, selE_cn]
theorem ffM_cn (σ : am_H) : ffM (cn σ) = ffM σ := rfl
theorem fzM_cn (σ : am_H) : fzM (cn σ) = fzM σ := rfl
theorem ffM_eq {σ τ : am_H} (h : cn τ = cn σ) : ffM τ = ffM σ := by rw [← ffM_cn τ, h, ffM_cn]
theorem fzM_eq {σ τ : am_H} (h : cn τ = cn σ) : fzM τ = fzM σ := by rw [← fzM_cn τ, h, fzM_cn]
theorem pN_cn (σ : am_H) : pN (cn σ) = pN σ := rfl
theorem pN_eq2 {σ τ : am_H} (h : cn τ = cn σ) : pN τ = pN σ := by rw [← pN_cn τ, h, pN_cn]
theorem ff01 (σ : am_H) : 0 ≤ ffM σ ∧ ffM σ ≤ 1 := if01
theorem fz01 (σ : am_H) : 0 ≤ fzM σ ∧ fzM σ ≤ 1 := if01
theorem c_sel2 (σ : am_H) (hG : GD σ) (ts bs : Int) (hts : 0 ≤ ts ∧ ts < 256) (hbs : 0 ≤ bs ∧ bs < 256) : am_met M_X10_selves [am_r 55, am_i ts, am_i bs] σ (fun r τ => r = some (am_i (selE σ ts bs)) ∧ frw W_sel σ τ ∧ τ.2.1 55 56 = ts ∧ τ.2.1 55 57 = ffM σ ∧ τ.2.1 55 58 = fzM σ) := by
  refine am_mono (c_X10_selves σ hG.L ts bs hG.R hG.K hts hbs hG.t hG.o) (fun r τ h => ?_)
  obtain ⟨hr, g, z, rfl⟩ := h
  refine ⟨by rw [hr, selM_E hG.K hG.O], ?_, rfl, rfl, rfl⟩
  exact ((((((frw.refl _ σ).setN (by unfold W_sel; omega)).setN (by unfold W_sel; omega)).setN (by unfold W_sel; omega)).setA (fun j => by unfold W_sel; omega)).setN (by unfold W_sel; omega))
theorem c_rem2 (σ : am_H) (hG : GD σ) (own bs : Int) (ts : Int) (hown : 0 ≤ own ∧ own < 256) (hbs : 0 ≤ bs ∧ bs < 256) (hts : 0 ≤ ts ∧ ts < 256) (h1 : σ.2.1 55 56 = ts) (h2 : σ.2.1 55 57 = ffM σ) (h3 : σ.2.1 55 58 = fzM σ) : am_met M_X10_reminded [am_r 55, am_i own, am_i bs] σ (fun r τ => r = some (am_i (rmE σ ts own bs)) ∧ frw W_rem σ τ ∧ (0 ≤ τ.2.1 55 59 ∧ τ.2.1 55 59 ≤ 99)) := by
  refine am_mono (c_X10_reminded σ hG.L own bs hG.R hG.K hown hbs (by rw [h1]; exact hts) hG.t hG.o (by rw [h2]; exact ff01 σ) (by rw [h3]; exact fz01 σ)) (fun r τ h => ?_)
  obtain ⟨hr, o, g, z, ho, rfl⟩ := h
  refine ⟨by rw [hr, rmM_E hG.K h1 h2 h3], ?_, ho⟩
  exact (((frw.refl _ σ).setN (by unfold W_rem; omega)).setA (fun j => by unfold W_rem; omega)).setN (by unfold W_rem; omega)
theorem rmE_rng {σ : am_H} (hR : MR σ) (ts bs : Int) {own : Int} (h : 0 ≤ own ∧ own < 256) : 0 ≤ rmE σ ts own bs ∧ rmE σ ts own bs < 256 := by
  have hs : ∀ (s : Int), 0 ≤ s ∧ s < 256 → ∀ n, n ≤ 8 → s ≤ rpE σ ts bs s n ∧ rpE σ ts bs s n < 256 := by
    intro s h n
    induction n with
    | zero => intro _; exact ⟨Int.le_refl _, h.2⟩
    | succ n ih =>
      intro hn
      have ih := ih (by omega)
      unfold rpE
      split
      · rename_i hg
        have h1 : ¬ tb (rpE σ ts bs s n) n = 1 := by
          unfold rgB at hg
          simp only [decide_eq_true_eq] at hg
          exact hg.2.2.1
        have h2 := tb_01 (rpE σ ts bs s n) n
        have h3 := (ob_eq (s := rpE σ ts bs s n) (p := n) (by omega) (by omega) (by omega)).2
        have h4 := pow_pos8 n
        omega
      · exact ih
  have hd : ∀ (k : Nat) (s : Int), 0 ≤ s ∧ s < 256 → s ≤ rdE σ ts bs k s ∧ rdE σ ts bs k s < 256 := by
    intro k
    induction k with
    | zero => intro s h; exact ⟨Int.le_refl _, h.2⟩
    | succ k ih =>
      intro s h
      have h1 := hs s h (pN σ) (pN_8 hR)
      unfold rdE
      split
      · exact ⟨Int.le_refl _, h.2⟩
      · have h2 := ih (rpE σ ts bs s (pN σ)) (by omega)
        omega
  have := hd 256 own h
  unfold rmE
  omega
theorem selE_rng {σ : am_H} (hR : MR σ) (ts bs : Int) : 0 ≤ selE σ ts bs ∧ selE σ ts bs < 256 := mkS_256 _ (pN_8 hR)
/-- the time as the next day begins -/
def bgN (σ : am_H) (k : Nat) : Int := if σ.2.1 96 1 + 1 ≤ σ.2.1 85 9 then (if k = 1 then σ.2.1 96 1 + 1 else σ.2.1 96 k) else (if k = 0 then σ.2.1 96 0 + 1 else if k = 1 then 1 else if k = 2 then 0 else σ.2.1 96 k)
def bgS (σ : am_H) : am_H := am_setA σ 96 (bgN σ)
theorem begH_S (σ : am_H) : begH σ = bgS σ := by
  unfold begH bgS bgN
  by_cases h : σ.2.1 96 1 + 1 ≤ σ.2.1 85 9
  · simp only [if_pos h]
    rw [am_setN_A]
  · simp only [if_neg h]
    rw [am_setN_A σ, am_setA_N, am_setA_N, am_setA_N]
    congr 1
    funext k
    repeat' split
    all_goals first | rfl | omega
/-- a day can come -/
def cc (σ : am_H) : Prop := 5 ≤ σ.2.1 85 9 ∧ (σ.2.1 96 0 < 999 ∨ σ.2.1 96 1 < σ.2.1 85 9)
theorem bgN_MN {σ : am_H} (hR : MR σ) (hc : cc σ) : MN (σ.2.1 85 9) (bgN σ) := by
  have h1 := hR.year
  have h2 := hR.day
  have h3 := hR.feast
  unfold cc at hc
  have hb : ∀ k, 3 ≤ k → bgN σ k = σ.2.1 96 k := fun k hk => by
    unfold bgN
    repeat' split
    all_goals first | rfl | omega
  refine ⟨?_, ?_, ?_, ?_, ?_, ?_, ?_, ?_, ?_, ?_⟩
  · unfold bgN; split <;> simp <;> omega
  · unfold bgN; split <;> simp <;> omega
  · unfold bgN; split <;> simp <;> omega
  · rw [hb 3 (by omega)]; exact hR.coins
  · intro p hp; rw [hb _ (by omega)]; exact hR.ago p hp
  · intro p hp; rw [hb _ (by omega)]; exact hR.dead p hp
  · intro p hp; rw [hb _ (by omega)]; exact hR.told p hp
  · intro p hp; rw [hb _ (by omega)]; exact hR.brib p hp
  · rw [hb 202 (by omega)]; exact hR.kept
  · intro p hp; rw [hb _ (by omega)]; exact hR.kday p hp
theorem bgN_day {σ : am_H} (hR : MR σ) (hc : cc σ) : 1 ≤ bgN σ 1 ∧ bgN σ 1 ≤ 90 := by
  have h2 := hR.day
  have h3 := hR.Y
  unfold cc at hc
  unfold bgN
  split <;> simp <;> omega
theorem bgS_GD {σ : am_H} (hG : GD σ) (hc : cc σ) : GD (bgS σ) := ⟨hG.L, hG.R.up (f := bgN σ) rfl rfl (bgN_MN hG.R hc), hG.K, hG.O, hG.o, hG.t⟩
def tsD (σ : am_H) : Int := bgN σ (Int.toNat (20 + bgN σ 1))
def bsD (σ : am_H) : Int := bgN σ (Int.toNat (111 + bgN σ 1))
theorem tsD_rng {σ : am_H} (hR : MR σ) (hc : cc σ) : 0 ≤ tsD σ ∧ tsD σ < 256 := by
  have h1 := bgN_day hR hc
  have h2 := (bgN_MN hR hc).2.2.2.2.2.2.1 (bgN σ 1).toNat (by omega)
  unfold tsD
  rw [show Int.toNat (20 + bgN σ 1) = 20 + (bgN σ 1).toNat by omega]
  exact h2
theorem bsD_rng {σ : am_H} (hR : MR σ) (hc : cc σ) : 0 ≤ bsD σ ∧ bsD σ < 256 := by
  have h1 := bgN_day hR hc
  have h2 := (bgN_MN hR hc).2.2.2.2.2.2.2.1 (bgN σ 1).toNat (by omega)
  unfold bsD
  rw [show Int.toNat (111 + bgN σ 1) = 111 + (bgN σ 1).toNat by omega]
  exact h2
/-- the next day: who think of themselves, who think, whether it is the feast -/
def sfD (σ : am_H) : Int := selE (bgS σ) (tsD σ) (bsD σ)
def thD (σ : am_H) : Int := rmE (bgS σ) (tsD σ) (sfD σ) (bsD σ)
def fsD (σ : am_H) : Int := if bgN σ 2 = 0 ∧ thD σ = 0 then 1 else 0
def agD (σ : am_H) (p : Nat) : Int := if fsD σ = 1 ∨ tb (thD σ) p = 1 then 0 else if bgN σ (4 + p) < 99 then bgN σ (4 + p) + 1 else 99
def bsN (σ : am_H) (k : Nat) : Int := if k = 2 then (if fsD σ = 1 then bgN σ 1 else bgN σ 2) else bgN σ k
def noD (σ : am_H) (k : Nat) : Int := if k = 111 + (bgN σ 1).toNat then 0 else if 4 ≤ k ∧ k < 4 + pN σ then agD σ (k - 4) else bsN σ k
/-- the time behind the next day -/
def nwD (σ : am_H) : Nat → Int := kpA (noD σ) (noD σ 0) (noD σ 1) (bc (thD σ)) (fsD σ)
theorem sfD_rng {σ : am_H} (hG : GD σ) (hc : cc σ) : 0 ≤ sfD σ ∧ sfD σ < 256 := selE_rng (bgS_GD hG hc).R _ _
theorem thD_rng {σ : am_H} (hG : GD σ) (hc : cc σ) : 0 ≤ thD σ ∧ thD σ < 256 := rmE_rng (bgS_GD hG hc).R _ _ (sfD_rng hG hc)
theorem fsD_01 (σ : am_H) : fsD σ = 0 ∨ fsD σ = 1 := by unfold fsD; split <;> simp
theorem agD_rng {σ : am_H} (hR : MR σ) (hc : cc σ) {p : Nat} (hp : p < 8) : 0 ≤ agD σ p ∧ agD σ p ≤ 99 := by
  have h := (bgN_MN hR hc).2.2.2.2.1 p hp
  unfold agD
  repeat' split
  all_goals omega
theorem noD_MN {σ : am_H} (hR : MR σ) (hc : cc σ) : MN (σ.2.1 85 9) (noD σ) := by
  have h := bgN_MN hR hc
  have hd := bgN_day hR hc
  have h8 := pN_8 hR
  have hlow : ∀ k, k < 111 → noD σ k = if 4 ≤ k ∧ k < 4 + pN σ then agD σ (k - 4) else bsN σ k := fun k hk => by unfold noD; rw [if_neg (by omega)]
  have hb : ∀ k, ¬ k = 2 → bsN σ k = bgN σ k := fun k hk => by unfold bsN; rw [if_neg hk]
  refine ⟨?_, ?_, ?_, ?_, ?_, ?_, ?_, ?_, ?_, ?_⟩
  · rw [hlow 0 (by omega), if_neg (by omega), hb 0 (by omega)]; exact h.1
  · rw [hlow 1 (by omega), if_neg (by omega), hb 1 (by omega)]; exact h.2.1
  · rw [hlow 2 (by omega), if_neg (by omega)]
    have := h.2.2.1
    unfold bsN
    rw [if_pos rfl]
    split <;> omega
  · rw [hlow 3 (by omega), if_neg (by omega), hb 3 (by omega)]; exact h.2.2.2.1
  · intro p hp
    rw [hlow (4 + p) (by omega)]
    split
    · rw [show 4 + p - 4 = p by omega]; exact agD_rng hR hc hp
    · rw [hb (4 + p) (by omega)]; exact h.2.2.2.2.1 p hp
  · intro p hp
    rw [hlow (12 + p) (by omega), if_neg (by omega), hb (12 + p) (by omega)]; exact h.2.2.2.2.2.1 p hp
  · intro p hp
    rw [hlow (20 + p) (by omega), if_neg (by omega), hb (20 + p) (by omega)]; exact h.2.2.2.2.2.2.1 p hp
  · intro p hp
    unfold noD
    split
    · omega
    · rw [if_neg (by omega), hb (111 + p) (by omega)]; exact h.2.2.2.2.2.2.2.1 p hp
  · unfold noD
    rw [if_neg (by omega), if_neg (by omega), hb 202 (by omega)]; exact h.2.2.2.2.2.2.2.2.1
  · intro p hp
    unfold noD
    rw [if_neg (by omega), if_neg (by omega), hb (204 + 4 * p) (by omega)]; exact h.2.2.2.2.2.2.2.2.2 p hp
theorem kpA_MN {Y : Int} {f : Nat → Int} (h : MN Y f) {y d n b : Int} (hd : 0 ≤ d ∧ d ≤ 90) : MN Y (kpA f y d n b) := by
  have hk := h.2.2.2.2.2.2.2.2.1
  have hlow : ∀ k, k < 202 → kpA f y d n b k = f k := by
    intro k hk2
    unfold kpA
    repeat' split
    all_goals first | rfl | omega
  refine ⟨?_, ?_, ?_, ?_, ?_, ?_, ?_, ?_, ?_, ?_⟩
  · rw [hlow 0 (by omega)]; exact h.1
  · rw [hlow 1 (by omega)]; exact h.2.1
  · rw [hlow 2 (by omega)]; exact h.2.2.1
  · rw [hlow 3 (by omega)]; exact h.2.2.2.1
  · intro p hp; rw [hlow _ (by omega)]; exact h.2.2.2.2.1 p hp
  · intro p hp; rw [hlow _ (by omega)]; exact h.2.2.2.2.2.1 p hp
  · intro p hp; rw [hlow _ (by omega)]; exact h.2.2.2.2.2.2.1 p hp
  · intro p hp; rw [hlow _ (by omega)]; exact h.2.2.2.2.2.2.2.1 p hp
  · unfold kpA
    repeat' split
    all_goals omega
  · intro p hp
    have h1 := h.2.2.2.2.2.2.2.2.2 p hp
    unfold kpA
    by_cases h6 : f 202 = 60
    · rw [if_pos h6]
      by_cases h59 : p = 59
      · subst h59; simp; exact hd
      · have h2 := h.2.2.2.2.2.2.2.2.2 (p + 1) (by omega)
        rw [if_neg (by omega), if_neg (by omega), if_neg (by omega), if_neg (by omega), if_pos (by omega), show 204 + 4 * p + 4 = 204 + 4 * (p + 1) by omega]
        exact h2
    · rw [if_neg h6, if_neg (by omega), if_neg (by omega)]
      split
      · exact hd
      · rw [if_neg (by omega), if_neg (by omega)]; exact h1
theorem nwD_MN {σ : am_H} (hR : MR σ) (hc : cc σ) : MN (σ.2.1 85 9) (nwD σ) := by
  have h := noD_MN hR hc
  have hY := hR.Y
  exact kpA_MN h ⟨by have := h.2.1; omega, by have := h.2.1; omega⟩
