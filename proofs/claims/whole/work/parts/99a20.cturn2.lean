theorem anyB_iff {g : Nat → Bool} {n : Nat} : anyB g n = true ↔ ∃ i, i < n ∧ g i = true := ⟨anyB_mem, fun ⟨i, h1, h2⟩ => anyB_t h2 h1⟩
theorem bool_ext {a b : Bool} (h : a = true ↔ b = true) : a = b := by cases a <;> cases b <;> simp_all
def OF (σ : am_H) (b : Int) : Int := ao_and (lvM σ) (ao_xor b (-1))
theorem of_tb {σ : am_H} (hG : GD σ) {b : Int} (hb : 0 ≤ b ∧ b < 256) : (0 ≤ OF σ b ∧ OF σ b < 256) ∧ ∀ p : Nat, p < 8 → tb (OF σ b) p = if tb (lvM σ) p = 1 ∧ ¬ tb b p = 1 then 1 else 0 := dif_tb (lvM_rng hG.R) hb
theorem rm_tb {f : Int} {p q : Nat} (hf : 0 ≤ f ∧ f < 256) (hp : p < 8) (hq : q < 8) : tb (rmB9 f p) q = if tb f q = 1 ∧ ¬ q = p then 1 else 0 := by
  unfold rmB9
  rw [(dif_tb hf (shl_rng p hp)).2 q hq, shl_tb p hp q hq]
  by_cases h : q = p <;> simp [h]
theorem of_or {σ : am_H} (hG : GD σ) {b : Int} (hb : 0 ≤ b ∧ b < 256) {p : Nat} (hp : p < 8) : OF σ (ao_or b (ao_shl 1 (p : Int))) = rmB9 (OF σ b) p := by
  have h1 := or_sh hb (Or.inr rfl) hp
  refine set_ext (of_tb hG h1.1).1 (rmB9_rng (of_tb hG hb).1 hp) (fun q hq => ?_)
  rw [(of_tb hG h1.1).2 q hq, rm_tb (of_tb hG hb).1 hp hq, (of_tb hG hb).2 q hq, h1.2 q hq]
  by_cases h : q = p <;> by_cases h2 : tb (lvM σ) q = 1 <;> by_cases h3 : tb b q = 1 <;> simp [h, h2, h3] <;> simp_all
theorem of_0 {σ : am_H} (hG : GD σ) : OF σ 0 = lvM σ := by
  refine set_ext (of_tb hG (by decide)).1 (lvM_rng hG.R) (fun q hq => ?_)
  rw [(of_tb hG (by decide)).2 q hq, tb0]
  have := tb_01 (lvM σ) q
  by_cases h : tb (lvM σ) q = 1
  · rw [if_pos ⟨h, by decide⟩, h]
  · rw [if_neg (fun z => h z.1)]; omega
theorem or_0 {p : Nat} (hp : p < 8) : ao_or 0 (ao_shl 1 (p : Int)) = ao_shl 1 (p : Int) := by
  have h1 := or_sh (x := 0) (by decide) (Or.inr rfl) hp
  refine set_ext h1.1 (shl_rng p hp) (fun q hq => ?_)
  rw [h1.2 q hq, shl_tb p hp q hq, tb0]
  by_cases h : q = p <;> simp [h]
theorem tdE_tb {B : am_H} {s s2 ff fz o : Int} {wh p : Nat} (h : tb s p = tb s2 p) : tdE B s ff fz o wh p = tdE B s2 ff fz o wh p := by
  unfold tdE
  rw [show pe B s ff fz o p = pe B s2 ff fz o p from funext (fun w => by unfold pe; rw [h])]
def tuU (σ : am_H) : Int := mkS (owB (bgS σ) (lvM σ) 0) (pN σ)
def tuT (σ : am_H) : Int := mkS (owB (bgS σ) (lvM σ) (lvM σ)) (pN σ)
theorem lv_p {σ : am_H} (hG : GD σ) {p : Nat} (hp : p < 8) : tb (lvM σ) p = 1 ↔ p < pN σ ∧ ¬ σ.2.1 96 (12 + p) = 1 := by
  rw [lv_tb hG hp]
  by_cases h : p < pN σ ∧ ¬ σ.2.1 96 (12 + p) = 1
  · rw [if_pos h]; exact ⟨fun _ => h, fun _ => rfl⟩
  · rw [if_neg h]; exact ⟨fun h2 => absurd h2 (by decide), fun h2 => absurd h2 h⟩
theorem sel_ut {σ : am_H} (hG : GD σ) {t b : Int} (ht : 0 ≤ t ∧ t < 256) (hb : 0 ≤ b ∧ b < 256) : selE (bgS σ) t b = ao_and (ao_or (ao_and (tuU σ) (OF σ t)) (ao_and (tuT σ) (ao_xor (OF σ t) (-1)))) (OF σ b) := by
  have h8 : pN σ ≤ 8 := by have := hG.R.P; unfold pN; omega
  have hU : 0 ≤ tuU σ ∧ tuU σ < 256 := mkS_256 _ h8
  have hT : 0 ≤ tuT σ ∧ tuT σ < 256 := mkS_256 _ h8
  have f1 := of_tb hG ht
  have o1 := of_tb hG hb
  have a1 := and_tb hU f1.1
  have a2 := dif_tb hT f1.1
  have a3 := or_tb a1.1 a2.1
  have a4 := and_tb a3.1 o1.1
  refine set_ext (mkS_256 _ h8) a4.1 (fun p hp => ?_)
  have e0 : tb (selE (bgS σ) t b) p = if p < pN σ ∧ slB (bgS σ) t b p = true then 1 else 0 := mkS_tb _ _ h8 p hp
  have eU : tb (tuU σ) p = if p < pN σ ∧ owB (bgS σ) (lvM σ) 0 p = true then 1 else 0 := mkS_tb _ _ h8 p hp
  have eT : tb (tuT σ) p = if p < pN σ ∧ owB (bgS σ) (lvM σ) (lvM σ) p = true then 1 else 0 := mkS_tb _ _ h8 p hp
  rw [e0, a4.2 p, a3.2 p, a1.2 p, a2.2 p hp, f1.2 p hp, o1.2 p hp, eU, eT]
  have hd : (bgS σ).2.1 96 (12 + p) = σ.2.1 96 (12 + p) := bgN_far (by omega)
  have hlv := lv_p hG hp
  unfold slB owB
  rw [hd]
  by_cases hl : tb (lvM σ) p = 1
  · obtain ⟨hp1, hp2⟩ := hlv.mp hl
    by_cases hbp : tb b p = 1
    · simp [hbp]
    · by_cases htp : tb t p = 1
      · have e1 : tdE (bgS σ) (lvM σ) (ffM (bgS σ)) (fzM (bgS σ)) 0 0 p = tdE (bgS σ) t (ffM (bgS σ)) (fzM (bgS σ)) 0 0 p := tdE_tb (hl.trans htp.symm)
        by_cases hn : (bgS σ).2.1 93 2 = -1 <;> simp [hl, hp1, hp2, hbp, htp, e1, hn]
      · have e1 : tdE (bgS σ) 0 (ffM (bgS σ)) (fzM (bgS σ)) 0 0 p = tdE (bgS σ) t (ffM (bgS σ)) (fzM (bgS σ)) 0 0 p := tdE_tb (by rw [tb0]; have := tb_01 t p; omega)
        by_cases hn : (bgS σ).2.1 93 2 = -1 <;> simp [hl, hp1, hp2, hbp, htp, e1, tb0, hn]
  · have hx : ¬ (p < pN σ ∧ ¬ σ.2.1 96 (12 + p) = 1) := fun h => hl (hlv.mpr h)
    by_cases hp1 : p < pN σ
    · have hp2 : σ.2.1 96 (12 + p) = 1 := Classical.byContradiction (fun h => hx ⟨hp1, h⟩)
      simp [hl, hp2]
    · simp [hl, hp1]
theorem at_eq {σ : am_H} (hG : GD σ) {t b : Int} (ht : 0 ≤ t ∧ t < 256) (hb : 0 ≤ b ∧ b < 256) : atM σ t b = sbF (tuU σ) (tuT σ) 0 (OF σ t) (OF σ b) := by
  have h8 : pN σ ≤ 8 := by have := hG.R.P; unfold pN; omega
  have h1 := rmE_0 (B := bgS σ) (ts := t) (bs := b) (own := selE (bgS σ) t b) h8 (mkS_256 _ h8)
  unfold atM sbF
  rw [← sel_ut hG ht hb]
  exact decide_eq_decide.mpr (not_congr h1)
theorem any_move {X : Int → Bool} {o : Int} {n : Nat} (hn : n ≤ 8) (ho : 0 ≤ o ∧ o < 256) (hon : ∀ q : Nat, q < 8 → tb o q = 1 → q < n) : (if o = 0 then !(X o) else anyB (fun p => decide (tb o p = 1) && !(X (rmB9 o p))) n) = anyB (fun q => cnT o q && !(X (rmB9 o q))) 8 := by
  by_cases h0 : o = 0
  · rw [if_pos h0]
    subst h0
    have hr : rmB9 0 0 = 0 := by decide
    refine bool_ext ?_
    rw [anyB_iff]
    constructor
    · intro h
      exact ⟨0, by decide, by rw [hr]; show (cnT 0 0 && !(X 0)) = true; rw [h]; decide⟩
    · rintro ⟨q, hq, h⟩
      rw [Bool.and_eq_true] at h
      have hq0 : q = 0 := by
        have h1 := h.1
        unfold cnT at h1
        rw [tb0] at h1
        simpa using h1
      subst hq0
      rw [hr] at h
      exact h.2
  · rw [if_neg h0]
    refine bool_ext ?_
    rw [anyB_iff, anyB_iff]
    have hc : ∀ q : Nat, cnT o q = decide (tb o q = 1) := fun q => by unfold cnT; simp [h0]
    constructor
    · rintro ⟨q, hq, h⟩
      exact ⟨q, by omega, by rw [hc]; exact h⟩
    · rintro ⟨q, hq, h⟩
      rw [hc] at h
      have h1 := h
      rw [Bool.and_eq_true, decide_eq_true_eq] at h1
      exact ⟨q, hon q hq h1.1, h⟩
theorem of_in {σ : am_H} (hG : GD σ) {b : Int} (hb : 0 ≤ b ∧ b < 256) (q : Nat) (hq : q < 8) (h : tb (OF σ b) q = 1) : q < pN σ := by
  rw [(of_tb hG hb).2 q hq] at h
  by_cases h1 : tb (lvM σ) q = 1
  · exact ((lv_p hG hq).mp h1).1
  · rw [if_neg (fun z => h1 z.1)] at h; exact absurd h (by decide)
theorem anyB_cg {f g : Nat → Bool} {n : Nat} (h : ∀ q, q < n → f q = g q) : anyB f n = anyB g n := anyB_congr n h
theorem bl_eq {σ : am_H} (hG : GD σ) {t b : Int} (ht : 0 ≤ t ∧ t < 256) (hb : 0 ≤ b ∧ b < 256) : blM σ t b = csF (tuU σ) (tuT σ) 0 (OF σ t) (OF σ b) := by
  have h8 : pN σ ≤ 8 := by have := hG.R.P; unfold pN; omega
  have h := any_move (X := fun o => sbF (tuU σ) (tuT σ) 0 (OF σ t) o) h8 (of_tb hG hb).1 (of_in hG hb)
  show _ = anyB _ 8
  unfold csF at *
  rw [← h]
  unfold blM
  show (if OF σ b = 0 then _ else _) = _
  rw [← at_eq hG ht hb]
  by_cases h0 : OF σ b = 0
  · rw [if_pos h0, if_pos h0]
  · rw [if_neg h0, if_neg h0]
    refine anyB_cg (fun p hp => ?_)
    show (decide (tb (OF σ b) p = 1) && _) = _
    rw [at_eq hG ht (or_sh hb (Or.inr rfl) (show p < 8 by omega)).1, of_or hG hb (by omega)]
theorem tl_eq {σ : am_H} (hG : GD σ) {t b : Int} (ht : 0 ≤ t ∧ t < 256) (hb : 0 ≤ b ∧ b < 256) : tlM σ t b = sbF (tuU σ) (tuT σ) 1 (OF σ t) (OF σ b) := by
  have h8 : pN σ ≤ 8 := by have := hG.R.P; unfold pN; omega
  have h := any_move (X := fun f => csF (tuU σ) (tuT σ) 0 f (OF σ b)) h8 (of_tb hG ht).1 (of_in hG ht)
  show _ = anyB (fun p => cnT (OF σ t) p && !(csF (tuU σ) (tuT σ) 0 (rmB9 (OF σ t) p) (OF σ b))) 8
  rw [← h]
  unfold tlM
  show (if OF σ t = 0 then _ else _) = _
  rw [← bl_eq hG ht hb]
  by_cases h0 : OF σ t = 0
  · rw [if_pos h0, if_pos h0]
  · rw [if_neg h0, if_neg h0]
    refine anyB_cg (fun p hp => ?_)
    show (decide (tb (OF σ t) p = 1) && _) = _
    rw [bl_eq hG (or_sh ht (Or.inr rfl) (show p < 8 by omega)).1 hb, of_or hG ht (by omega)]
theorem lv_in {σ : am_H} (hG : GD σ) (q : Nat) (hq : q < 8) (h : tb (lvM σ) q = 1) : q < pN σ := ((lv_p hG hq).mp h).1
theorem bf_eq {σ : am_H} (hG : GD σ) {t : Int} (ht : 0 ≤ t ∧ t < 256) : bfM σ t = csF (tuU σ) (tuT σ) 1 (OF σ t) (lvM σ) := by
  have h8 : pN σ ≤ 8 := by have := hG.R.P; unfold pN; omega
  have h := any_move (X := fun o => sbF (tuU σ) (tuT σ) 1 (OF σ t) o) h8 (lvM_rng hG.R) (lv_in hG)
  show _ = anyB (fun q => cnT (lvM σ) q && !(sbF (tuU σ) (tuT σ) 1 (OF σ t) (rmB9 (lvM σ) q))) 8
  rw [← h]
  unfold bfM
  have e0 := tl_eq hG ht (b := 0) (by decide)
  rw [of_0 hG] at e0
  rw [← e0]
  by_cases h0 : lvM σ = 0
  · rw [if_pos h0, if_pos h0]
  · rw [if_neg h0, if_neg h0]
    refine anyB_cg (fun p hp => ?_)
    have e1 := tl_eq hG ht (shl_rng p (by omega))
    have e2 := of_or hG (b := 0) (by decide) (p := p) (by omega)
    rw [or_0 (by omega), of_0 hG] at e2
    rw [e1, e2]
theorem tf_eq {σ : am_H} (hG : GD σ) : tfM σ = sbF (tuU σ) (tuT σ) 2 (lvM σ) (lvM σ) := by
  have h8 : pN σ ≤ 8 := by have := hG.R.P; unfold pN; omega
  have h := any_move (X := fun f => csF (tuU σ) (tuT σ) 1 f (lvM σ)) h8 (lvM_rng hG.R) (lv_in hG)
  show _ = anyB (fun p => cnT (lvM σ) p && !(csF (tuU σ) (tuT σ) 1 (rmB9 (lvM σ) p) (lvM σ))) 8
  rw [← h]
  unfold tfM
  have e0 := bf_eq hG (t := 0) (by decide)
  rw [of_0 hG] at e0
  rw [← e0]
  by_cases h0 : lvM σ = 0
  · rw [if_pos h0, if_pos h0]
  · rw [if_neg h0, if_neg h0]
    refine anyB_cg (fun p hp => ?_)
    have e1 := bf_eq hG (shl_rng p (by omega))
    have e2 := of_or hG (b := 0) (by decide) (p := p) (by omega)
    rw [or_0 (by omega), of_0 hG] at e2
    rw [e1, e2]
theorem trn_eq {σ : am_H} (hG : GD σ) {n : Nat} (hn : n ≤ 2) : (if (n : Int) = 0 then atM σ 0 0 else if (n : Int) = 1 then tlM σ 0 0 else tfM σ) = sbF (tuU σ) (tuT σ) n (lvM σ) (lvM σ) := by
  rcases (show n = 0 ∨ n = 1 ∨ n = 2 by omega) with rfl | rfl | rfl
  · rw [if_pos (by decide), at_eq hG (by decide) (by decide), of_0 hG]
  · rw [if_neg (by decide), if_pos (by decide), tl_eq hG (by decide) (by decide), of_0 hG]
  · rw [if_neg (by decide), if_neg (by decide), tf_eq hG]
