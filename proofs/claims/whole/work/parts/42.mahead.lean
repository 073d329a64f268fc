theorem bgN_cn (σ : am_H) : bgN (cn σ) = bgN σ := rfl
theorem bgS_cn (σ : am_H) : cn (bgS (cn σ)) = cn (bgS σ) := cn_eq (fun a j h1 h2 => by
  show (if a = 96 then bgN (cn σ) j else (if 85 ≤ a ∧ a ≤ 96 then σ.2.1 a j else 0)) = (if a = 96 then bgN σ j else σ.2.1 a j)
  rw [if_pos (show 85 ≤ a ∧ a ≤ 96 from ⟨h1, h2⟩), bgN_cn])
theorem sfD_cn (σ : am_H) : sfD (cn σ) = sfD σ := selE_eq (bgS_cn σ) _ _
theorem thD_cn (σ : am_H) : thD (cn σ) = thD σ := by
  unfold thD
  rw [sfD_cn, rmE_eq (bgS_cn σ)]
  rfl
theorem fsD_cn (σ : am_H) : fsD (cn σ) = fsD σ := by unfold fsD; rw [thD_cn]; rfl
theorem agD_cn (σ : am_H) : agD (cn σ) = agD σ := by funext p; unfold agD; rw [fsD_cn, thD_cn]; rfl
theorem bsN_cn (σ : am_H) : bsN (cn σ) = bsN σ := by funext p; unfold bsN; rw [fsD_cn]; rfl
theorem noD_cn (σ : am_H) : noD (cn σ) = noD σ := by funext p; unfold noD; rw [agD_cn, bsN_cn]; rfl
theorem nwD_cn (σ : am_H) : nwD (cn σ) = nwD σ := by unfold nwD; rw [noD_cn, thD_cn, fsD_cn]
theorem sfD_eq {σ τ : am_H} (h : cn τ = cn σ) : sfD τ = sfD σ := by rw [← sfD_cn τ, h, sfD_cn]
theorem thD_eq {σ τ : am_H} (h : cn τ = cn σ) : thD τ = thD σ := by rw [← thD_cn τ, h, thD_cn]
theorem fsD_eq {σ τ : am_H} (h : cn τ = cn σ) : fsD τ = fsD σ := by rw [← fsD_cn τ, h, fsD_cn]
theorem nwD_eq {σ τ : am_H} (h : cn τ = cn σ) : nwD τ = nwD σ := by rw [← nwD_cn τ, h, nwD_cn]
/-- the heap behind n days -/
def dyS (σ : am_H) : am_H := am_setA σ 96 (nwD σ)
def itS : Nat → am_H → am_H
  | 0, σ => σ
  | n + 1, σ => dyS (itS n σ)
theorem dyS_eq {σ τ : am_H} (h : cn τ = cn σ) : cn (dyS τ) = cn (dyS σ) := cn_eq (fun a j h1 h2 => by
  show (if a = 96 then nwD τ j else τ.2.1 a j) = (if a = 96 then nwD σ j else σ.2.1 a j)
  rw [nwD_eq h, cn_at h a j h1 h2])
theorem nwD_top (σ : am_H) (hR : MR σ) (hc : cc σ) (k : Nat) (hk : 443 ≤ k) : nwD σ k = σ.2.1 96 k := by
  have hd := bgN_day hR hc
  have h8 := pN_8 hR
  have h1 : noD σ k = σ.2.1 96 k := by
    unfold noD bsN bgN
    rw [if_neg (by unfold bgN at hd; omega), if_neg (by omega), if_neg (by omega)]
    repeat' split
    all_goals first | rfl | omega
  have h2 := (noD_MN hR hc).2.2.2.2.2.2.2.2.1
  unfold nwD kpA
  rw [h1]
  repeat' split
  all_goals first | rfl | omega
theorem nwD_0 {σ : am_H} (hR : MR σ) (hc : cc σ) : nwD σ 0 = bgN σ 0 ∧ nwD σ 1 = bgN σ 1 := by
  have hd := bgN_day hR hc
  have h1 : noD σ 0 = bgN σ 0 := by unfold noD bsN; rw [if_neg (by omega), if_neg (by omega), if_neg (by omega)]
  have h2 : noD σ 1 = bgN σ 1 := by unfold noD bsN; rw [if_neg (by omega), if_neg (by omega), if_neg (by omega)]
  have h3 : ∀ k, k < 202 → nwD σ k = noD σ k := by
    intro k hk2
    unfold nwD kpA
    repeat' split
    all_goals first | rfl | omega
  exact ⟨(h3 0 (by omega)).trans h1, (h3 1 (by omega)).trans h2⟩
theorem cc_of {σ : am_H} (hR : MR σ) (h : 1 ≤ dlM σ) : cc σ := by
  unfold dlM at h
  by_cases h0 : σ.2.1 55 52 = 0
  · rw [if_pos h0] at h; omega
  · rw [if_neg h0] at h
    have hT := hR.T
    have hy := hR.year
    refine ⟨by omega, ?_⟩
    by_cases h9 : σ.2.1 96 0 < 999
    · exact Or.inl h9
    · rw [show σ.2.1 96 0 = 999 by omega] at h
      simp at h
      exact Or.inr (by omega)
theorem of_cc {σ : am_H} (hR : MR σ) (h : cc σ) : 1 ≤ dlM σ := by
  have hT := hR.T
  have hy := hR.year
  have hd := hR.day
  have hm := dl_mul hy hR.Y
  unfold cc at h
  unfold dlM
  rw [if_neg (by omega)]
  rcases h.2 with h2 | h2
  · obtain ⟨z, hz⟩ : ∃ z : Int, 999 - σ.2.1 96 0 = z + 1 := ⟨998 - σ.2.1 96 0, by omega⟩
    have hz2 : 0 ≤ z * σ.2.1 85 9 := Int.mul_nonneg (by omega) (by omega)
    rw [hz, Int.add_mul]
    omega
  · omega
theorem dl_step {σ : am_H} (hR : MR σ) (hc : cc σ) : dlM (dyS σ) = dlM σ - 1 := by
  have h1 := nwD_0 hR hc
  have hd := hR.day
  have hT := hR.T
  have e : dlM (dyS σ) = if σ.2.1 55 52 = 0 then 0 else (999 - nwD σ 0) * σ.2.1 85 9 + σ.2.1 85 9 - nwD σ 1 := rfl
  unfold cc at hc
  rw [e, h1.1, h1.2]
  unfold dlM
  rw [if_neg (by omega), if_neg (by omega)]
  unfold bgN
  by_cases h9 : σ.2.1 96 1 + 1 ≤ σ.2.1 85 9
  · rw [if_pos h9, if_pos h9, if_neg (by decide), if_pos rfl]
    omega
  · rw [if_neg h9, if_neg h9, if_pos rfl, if_neg (by decide), if_pos rfl]
    rw [show 999 - (σ.2.1 96 0 + 1) = (999 - σ.2.1 96 0) - 1 by omega, Int.sub_mul]
    omega
theorem dyS_GD {σ : am_H} (hG : GD σ) (hc : cc σ) : GD (dyS σ) := GD_now (f := nwD σ) hG hG.L rfl rfl (nwD_MN hG.R hc) hG.o hG.t
theorem itS_GD {σ : am_H} (hG : GD σ) : ∀ n : Nat, (n : Int) ≤ dlM σ → GD (itS n σ) ∧ dlM (itS n σ) = dlM σ - n
  | 0, _ => ⟨hG, by show dlM σ = _; omega⟩
  | n + 1, h => by
    obtain ⟨h1, h2⟩ := itS_GD hG n (by omega)
    have hc := cc_of h1.R (by omega)
    exact ⟨dyS_GD h1 hc, by show dlM (dyS (itS n σ)) = _; rw [dl_step h1.R hc, h2]; omega⟩
theorem itS_cc {σ : am_H} (hG : GD σ) {n : Nat} (h : (n : Int) + 1 ≤ dlM σ) : cc (itS n σ) := by
  obtain ⟨h1, h2⟩ := itS_GD hG n (by omega)
  exact cc_of h1.R (by omega)
theorem itS_top {σ : am_H} (hG : GD σ) (k : Nat) (hk : 443 ≤ k) : ∀ n : Nat, (n : Int) ≤ dlM σ → (itS n σ).2.1 96 k = σ.2.1 96 k
  | 0, _ => rfl
  | n + 1, h => by
    have h1 := itS_GD hG n (by omega)
    have hc := itS_cc hG (n := n) (by omega)
    show nwD (itS n σ) k = _
    rw [nwD_top _ h1.1.R hc k hk, itS_top hG k hk n (by omega)]
/-- n days behind, all else aside -/
def W_ah (a j : Nat) : Prop := (96 ≤ a ∧ a ≤ 99) ∨ a = 129 ∨ (a = 55 ∧ ((56 ≤ j ∧ j ≤ 62) ∨ j = 103))
def W_pub (a j : Nat) : Prop := (97 ≤ a ∧ a ≤ 99) ∨ a = 101 ∨ a = 129 ∨ (a = 55 ∧ ((56 ≤ j ∧ j ≤ 62) ∨ j = 103))
def DS (σ : am_H) (n : Nat) (S : am_H) : Prop := frw W_ah σ S ∧ cn S = cn (itS n σ) ∧ GD S ∧ (∀ k, k < 443 → S.2.1 97 k = σ.2.1 96 k)
/-- a question's end: nothing has changed but what is at hand -/
def PQ (σ τ : am_H) : Prop := frw W_pub σ τ ∧ GD τ
def LD (σ : am_H) (m : Nat) (S : am_H) : Prop := S.2.1 55 60 = sfD (itS m σ) ∧ S.2.1 55 61 = thD (itS m σ) ∧ S.2.1 55 62 = fsD (itS m σ)
theorem PQ.refl {σ : am_H} (h : GD σ) : PQ σ σ := ⟨frw.refl _ σ, h⟩
theorem c_aside (σ : am_H) (hG : GD σ) : am_met M_X10_putsAside [am_r 55] σ (fun r τ => r = none ∧ DS σ 0 τ) := by
  refine am_mono (c_X10_putsAside σ hG.L) (fun r τ h => ?_)
  obtain ⟨rfl, rfl⟩ := h
  refine ⟨rfl, (frw.refl _ σ).setA (fun j => by unfold W_ah; omega), cn_setA (by omega), ?_, fun k hk => ?_⟩
  · exact GD_fr (W := fun a _ => a = 97) hG ((frw.refl _ σ).setA (fun j => rfl)) (by omega) hG.o hG.t
  · show (if k < 443 then σ.2.1 96 k else σ.2.1 97 k) = _
    rw [if_pos hk]
theorem c_back (σ : am_H) (hG : GD σ) (n : Nat) (hn : (n : Int) ≤ dlM σ) (S : am_H) (hD : DS σ n S) : am_met M_X10_takesBack [am_r 55] S (fun r τ => r = none ∧ PQ σ τ) := by
  refine am_mono (c_X10_takesBack S hD.2.2.1.L) (fun r τ h => ?_)
  obtain ⟨rfl, rfl⟩ := h
  have hF : frw W_pub σ (am_setA S 96 (fun k => if k < 443 then S.2.1 97 k else S.2.1 96 k)) := by
    refine ⟨hD.1.1, hD.1.2.1, fun a j hw => ?_⟩
    show (if a = 96 then (if j < 443 then S.2.1 97 j else S.2.1 96 j) else S.2.1 a j) = _
    by_cases ha : a = 96
    · subst ha
      rw [if_pos rfl]
      by_cases hj : j < 443
      · rw [if_pos hj]; exact hD.2.2.2 j hj
      · rw [if_neg hj, cn_at hD.2.1 96 j (by decide) (by decide)]
        exact itS_top hG j (by omega) n hn
    · rw [if_neg ha]
      exact hD.1.2.2 a j (by unfold W_ah; unfold W_pub at hw; omega)
  exact ⟨rfl, hF, GD_fr hG hF (by unfold W_pub; omega) hD.2.2.1.o hD.2.2.1.t⟩
theorem c_day (σ : am_H) (hG : GD σ) (n : Nat) (hn : (n : Int) + 1 ≤ dlM σ) (S : am_H) (hD : DS σ n S) : am_met M_X10_dayGoes [am_r 55] S (fun r τ => r = none ∧ DS σ (n + 1) τ ∧ LD σ n τ) := by
  have hc0 := itS_cc hG hn
  have h85 : S.2.1 85 9 = (itS n σ).2.1 85 9 := cn_at hD.2.1 85 9 (by decide) (by decide)
  have hc : cc S := by
    unfold cc at *
    rw [h85, cn_at hD.2.1 96 0 (by decide) (by decide), cn_at hD.2.1 96 1 (by decide) (by decide)]
    exact hc0
  refine am_mono (c_X10_dayGoes S hD.2.2.1 hc) (fun r τ h => ?_)
  obtain ⟨rfl, hF, h96, h60, h61, h62, h59⟩ := h
  have hcn : cn τ = cn (dyS S) := cn_eq (fun a j h1 h2 => by
    show _ = (if a = 96 then nwD S j else S.2.1 a j)
    by_cases ha : a = 96
    · subst ha; rw [if_pos rfl]; exact h96 j
    · rw [if_neg ha]; exact hF.2.2 a j (by unfold W_day; omega))
  refine ⟨rfl, ⟨?_, ?_, ?_, ?_⟩, ?_, ?_, ?_⟩
  · exact hD.1.trans (hF.mono (by unfold W_day W_ah; omega))
  · rw [hcn]; exact dyS_eq hD.2.1
  · refine GD_now (f := nwD S) hD.2.2.1 (hF.L hD.2.2.1.L) hcn (hF.2.2 55 52 (by unfold W_day; omega)) (nwD_MN hD.2.2.1.R hc) h59 ?_
    rw [h61]; exact thD_rng hD.2.2.1 hc
  · intro k hk
    rw [hF.2.2 97 k (by unfold W_day; omega)]; exact hD.2.2.2 k hk
  · rw [h60]; exact sfD_eq hD.2.1
  · rw [h61]; exact thD_eq hD.2.1
  · rw [h62]; exact fsD_eq hD.2.1
