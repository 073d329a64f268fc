theorem factB_r {b : Nat → Int} {E : Nat} {Q : Option ((SX → SX) × (SX → SX))} {S : SX → SX} (hS : ∀ q, S (.inr q) = .inr q) (q : (Int × Int) × Int) : factB b E Q S (.inr q) = .inr q := by
  have hk : kdS b E (.inr q) = 6 := rfl
  have hf : ftS b E 1 (.inr q) = .inr q := rfl
  unfold factB
  rw [hk, if_neg (by decide), if_neg (by decide), if_neg (by decide), hS, hk, if_neg (by decide), hf, hS]
  rfl
theorem factX_r {b : Nat → Int} {E : Nat} {tk : Int} : ∀ n q, factX b E tk n (.inr q) = .inr q
  | 0, q => by unfold factX; exact factB_r (fun z => sumB_r (partX_r 0) z) q
  | n + 1, q => by unfold factX; exact factB_r (fun z => sumB_r (partX_r (n + 1)) z) q
theorem testX_r {b : Nat → Int} {E : Nat} {tk : Int} (n : Nat) (q : (Int × Int) × Int) : testB b E (factX b E tk n) (.inr q) = .inr q := by
  unfold testB
  rw [factX_r, tsL_r]
theorem tk_iz {b : Nat → Int} {E : Nat} {cv : Nat → Int} {M : Nat} {σ : am_H} (h : TKc b E cv M σ) : ∀ i, i ≤ M → i ≤ zP b E i := by
  intro i
  induction i with
  | zero => intro _; exact Nat.zero_le _
  | succ i ih => intro hi; exact zP_on (h.2.2.2.2.2 i (by omega)) (ih (by omega))
/-- a rule's codes in the reading half -/
def rlN (H : am_H) (wh : Nat) : List Int := if H.2.1 93 wh = -1 then [] else (List.range ((H.2.1 94 wh).toNat - (H.2.1 93 wh).toNat)).map (fun i => H.2.1 95 ((H.2.1 93 wh).toNat + i))
def RG (H : am_H) : Prop := 0 ≤ H.2.1 55 50 ∧ ∀ wh, wh < 2 → H.2.1 93 wh = -1 ∨ (0 ≤ H.2.1 93 wh ∧ H.2.1 93 wh < H.2.1 94 wh ∧ H.2.1 94 wh ≤ H.2.1 55 50)
def RRr (t : Nat) (σ H : am_H) : Prop := RLr (t + 8) σ (rlN H 0) ∧ RLr (t + 10) σ (rlN H 1) ∧ RG H
theorem rlN_0 {H : am_H} (h : RG H) {wh : Nat} (hw : wh < 2) : ((rlN H wh).length : Int) = 0 ↔ H.2.1 93 wh = -1 := by
  unfold rlN
  rcases h.2 wh hw with g | g
  · rw [if_pos g]; exact ⟨fun _ => g, fun _ => rfl⟩
  · rw [if_neg (by omega), List.length_map, List.length_range]
    constructor
    · intro h1; omega
    · intro h1; omega
theorem rlN_eq {H K : am_H} (h : ∀ a j, 93 ≤ a → a ≤ 95 → K.2.1 a j = H.2.1 a j) (wh : Nat) : rlN K wh = rlN H wh := by
  unfold rlN
  rw [h 93 wh (by decide) (by decide), h 94 wh (by decide) (by decide)]
  simp only [h 95 _ (by decide) (by decide)]
theorem RG_eq {H K : am_H} (h : ∀ a j, 93 ≤ a → a ≤ 95 → K.2.1 a j = H.2.1 a j) (h5 : K.2.1 55 50 = H.2.1 55 50) (hg : RG H) : RG K := by
  unfold RG
  rw [h5]
  refine ⟨hg.1, fun wh hw => ?_⟩
  rw [h 93 wh (by decide) (by decide), h 94 wh (by decide) (by decide)]
  exact hg.2 wh hw
theorem RLr.fr2 {W : Nat → Nat → Prop} {r : Nat} {σ τ : am_H} {cs : List Int} (h : RLr r σ cs) (hc : ∀ c, σ.2.2 r 0 = some c → cdC0 c) (hF : frw W σ τ) (hr : ¬ W r 1) (hW : ∀ a j, cdC0 a → ¬ W a j) : RLr r τ cs := by
  obtain ⟨h1, c, m, h2, h3, h4, h5, h6, h7⟩ := h
  refine ⟨by rw [hF.1]; exact h1, c, m, by rw [hF.2.1]; exact h2, by rw [hF.1]; exact h3, h4, h5, by rw [hF.2.2 r 1 hr]; exact h6, fun i hi => ?_⟩
  rw [hF.2.2 c i (hW c i (hc c h2))]
  exact h7 i hi
theorem CDt.c0 {t : Nat} {σ : am_H} (h : CDt t σ) : ∀ r, r = t + 8 ∨ r = t + 10 → ∀ c, σ.2.2 r 0 = some c → cdC0 c := by
  obtain ⟨c, m, d, k, ⟨a1, _, a3, _⟩, ⟨b1, _, b3, _⟩, _⟩ := h
  intro r hr z hz
  rcases hr with rfl | rfl
  · rw [← Option.some.inj (a1.symm.trans hz)]; exact a3
  · rw [← Option.some.inj (b1.symm.trans hz)]; exact b3
theorem RRr.fr {W : Nat → Nat → Prop} {t : Nat} {σ τ H : am_H} (h : RRr t σ H) (hC : CDt t σ) (hF : frw W σ τ) (hW : ∀ a j, W a j → (t ≤ a ∧ a ≤ t + 7) ∨ (27 ≤ a ∧ a ≤ 31)) (ht : t = 3 ∨ t = 15) : RRr t τ H := by
  have hw : ∀ a j, cdC0 a → ¬ W a j := fun a j ha hw => by have := hW a j hw; unfold cdC0 at ha; omega
  exact ⟨h.1.fr2 (hC.c0 _ (Or.inl rfl)) hF (fun z => by have := hW _ _ z; omega) hw, h.2.1.fr2 (hC.c0 _ (Or.inr rfl)) hF (fun z => by have := hW _ _ z; omega) hw, h.2.2⟩
theorem RRr.H {t : Nat} {σ H K : am_H} (h : RRr t σ H) (hK : ∀ a j, 93 ≤ a → a ≤ 95 → K.2.1 a j = H.2.1 a j) (h5 : K.2.1 55 50 = H.2.1 55 50) : RRr t σ K := by
  unfold RRr
  rw [rlN_eq hK, rlN_eq hK]
  exact ⟨h.1, h.2.1, RG_eq hK h5 h.2.2⟩
theorem tyR_ne {tk : Int} {cs : List Int} (h : tyR tk [] cs = some [true]) : ¬ cs = [] := by
  intro e
  rw [e] at h
  exact absurd h (by simp [tyR])
theorem map_getD (l : List Int) : (List.range l.length).map (fun i => l.getD i 0) = l := by
  apply List.ext_getElem
  · simp
  · intro i h1 h2
    simp [List.getD, List.getElem?_eq_getElem h2]
theorem rlN_cd {H : am_H} {wh : Nat} {rc : List Int} (hw : wh < 2) (hg : RG H) (hH : H.2.1 93 wh = -1) (hr : ¬ rc = []) : rlN (cdH H (wh : Int) rc) wh = rc.reverse ∧ rlN (cdH H (wh : Int) rc) (1 - wh) = rlN H (1 - wh) ∧ RG (cdH H (wh : Int) rc) := by
  have hlen : 0 < rc.length := List.length_pos_iff.mpr hr
  obtain ⟨u, hu⟩ := Int.eq_ofNat_of_zero_le hg.1
  have e93 : ∀ j, (cdH H (wh : Int) rc).2.1 93 j = if j = wh then (u : Int) else H.2.1 93 j := fun j => by
    unfold cdH
    rw [set_nn (by omega), set_nn (by omega), setA_nn (by omega), hu, show ((wh : Int)).toNat = wh by omega]
    by_cases g : j = wh
    · rw [g, set_eq, if_pos rfl]
    · rw [set_nn (by omega), if_neg g]
  have e94 : ∀ j, (cdH H (wh : Int) rc).2.1 94 j = if j = wh then (u : Int) + (rc.length : Int) else H.2.1 94 j := fun j => by
    unfold cdH
    rw [hu, show ((wh : Int)).toNat = wh by omega]
    by_cases g : j = wh
    · rw [g, set_eq, if_pos rfl]
    · rw [set_nn (by omega), set_nn (by omega), setA_nn (by omega), set_nn (by omega), if_neg g]
  have e50 : (cdH H (wh : Int) rc).2.1 55 50 = (u : Int) + (rc.length : Int) := by
    unfold cdH
    rw [set_nn (by omega), set_eq, hu]
  have e95 : ∀ j, (cdH H (wh : Int) rc).2.1 95 j = if u ≤ j ∧ j < u + rc.length then rc.reverse.getD (j - u) 0 else H.2.1 95 j := fun j => by
    unfold cdH
    rw [set_nn (by omega), set_nn (by omega), setA_eq]
    unfold cdA
    rw [hu, show ((u : Int)).toNat = u by omega]
  refine ⟨?_, ?_, ?_⟩
  · unfold rlN
    rw [e93, e94, if_pos rfl, if_pos rfl, if_neg (by omega), show ((u : Int)).toNat = u by omega, show ((u : Int) + (rc.length : Int)).toNat - u = rc.length by omega]
    rw [← List.length_reverse (as := rc)]
    refine Eq.trans (List.map_congr_left (fun i hi => ?_)) (map_getD rc.reverse)
    rw [List.mem_range, List.length_reverse] at hi
    rw [e95, if_pos (by omega), show u + i - u = i by omega]
  · unfold rlN
    have hn1 : ¬ 1 - wh = wh := by omega
    rw [e93, e94, if_neg hn1, if_neg hn1]
    rcases hg.2 (1 - wh) (by omega) with g | g
    · rw [if_pos g, if_pos g]
    · rw [if_neg (by omega), if_neg (by omega)]
      refine List.map_congr_left (fun i hi => ?_)
      rw [List.mem_range] at hi
      rw [e95, if_neg (by omega)]
  · unfold RG
    rw [e50]
    refine ⟨by omega, fun w hw2 => ?_⟩
    rw [e93, e94]
    by_cases g : w = wh
    · rw [if_pos g, if_pos g]; right; omega
    · rw [if_neg g, if_neg g]
      have := hg.2 w hw2
      omega
