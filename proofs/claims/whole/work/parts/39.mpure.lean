theorem am_qq {me : am_M} {As : List am_V} {σ : am_H} {P : Option am_V → am_H → Prop} (h : ∀ Q : Option am_V → am_H → Prop, (∀ r σ', P r σ' → Q r σ') → am_met me As σ Q) : am_met me As σ P := h P (fun _ _ h => h)
/-- two heaps that agree but where W holds -/
def frw (W : Nat → Nat → Prop) (σ τ : am_H) : Prop := τ.1 = σ.1 ∧ τ.2.2 = σ.2.2 ∧ ∀ a j, ¬ W a j → τ.2.1 a j = σ.2.1 a j
theorem frw.refl (W : Nat → Nat → Prop) (σ : am_H) : frw W σ σ := ⟨rfl, rfl, fun _ _ _ => rfl⟩
theorem frw.trans {W : Nat → Nat → Prop} {σ τ υ : am_H} (h1 : frw W σ τ) (h2 : frw W τ υ) : frw W σ υ := ⟨h2.1.trans h1.1, h2.2.1.trans h1.2.1, fun a j h => (h2.2.2 a j h).trans (h1.2.2 a j h)⟩
theorem frw.mono {W W2 : Nat → Nat → Prop} {σ τ : am_H} (h1 : frw W σ τ) (h : ∀ a j, W a j → W2 a j) : frw W2 σ τ := ⟨h1.1, h1.2.1, fun a j hh => h1.2.2 a j (fun hw => hh (h a j hw))⟩
theorem frw.L {W : Nat → Nat → Prop} {σ τ : am_H} (h : frw W σ τ) (hL : lay σ) : lay τ := by
  unfold lay at *
  rw [h.1, h.2.1]
  exact hL
theorem frw.setN {W : Nat → Nat → Prop} {σ τ : am_H} {a j : Nat} {x : Int} (h : frw W σ τ) (hw : W a j) : frw W σ (am_setN τ a j x) := by
  refine ⟨h.1, h.2.1, fun b i hb => ?_⟩
  show (if b = a ∧ i = j then x else τ.2.1 b i) = _
  rw [if_neg (by rintro ⟨rfl, rfl⟩; exact hb hw)]
  exact h.2.2 b i hb
theorem frw.setA {W : Nat → Nat → Prop} {σ τ : am_H} {a : Nat} {f : Nat → Int} (h : frw W σ τ) (hw : ∀ j, W a j) : frw W σ (am_setA τ a f) := by
  refine ⟨h.1, h.2.1, fun b i hb => ?_⟩
  show (if b = a then f i else τ.2.1 b i) = _
  rw [if_neg (by rintro rfl; exact hb (hw i))]
  exact h.2.2 b i hb
/-- what the day's laws read: the town that stands, and the time -/
def cn (σ : am_H) : am_H := ([], fun a j => if 85 ≤ a ∧ a ≤ 96 then σ.2.1 a j else 0, fun _ _ => none)
theorem cn_eq {σ τ : am_H} (h : ∀ a j, 85 ≤ a → a ≤ 96 → τ.2.1 a j = σ.2.1 a j) : cn τ = cn σ := by
  refine am_Hext rfl (fun a j => ?_) (fun _ _ => rfl)
  show (if _ then _ else _) = (if _ then _ else _)
  split
  · rename_i hh; exact h a j hh.1 hh.2
  · rfl
theorem cn_at {σ τ : am_H} (h : cn τ = cn σ) (a j : Nat) (h1 : 85 ≤ a) (h2 : a ≤ 96) : τ.2.1 a j = σ.2.1 a j := by
  have h3 := congrArg (fun S : am_H => S.2.1 a j) h
  simp only [cn, h1, h2, and_self, if_true] at h3
  exact h3
/-- the ranges of the time's numbers -/
def MN (Y : Int) (f : Nat → Int) : Prop := (1 ≤ f 0 ∧ f 0 ≤ 999) ∧ (0 ≤ f 1 ∧ f 1 ≤ Y) ∧ (0 ≤ f 2 ∧ f 2 ≤ 90) ∧ (0 ≤ f 3 ∧ f 3 ≤ 999999) ∧ (∀ p : Nat, p < 8 → 0 ≤ f (4 + p) ∧ f (4 + p) ≤ 99) ∧ (∀ p : Nat, p < 8 → f (12 + p) = 0 ∨ f (12 + p) = 1) ∧ (∀ d : Nat, d < 91 → 0 ≤ f (20 + d) ∧ f (20 + d) < 256) ∧ (∀ d : Nat, d < 91 → 0 ≤ f (111 + d) ∧ f (111 + d) < 256) ∧ (0 ≤ f 202 ∧ f 202 ≤ 60) ∧ (∀ k : Nat, k < 60 → 0 ≤ f (204 + 4 * k) ∧ f (204 + 4 * k) ≤ 90)
theorem MR.N {σ : am_H} (h : MR σ) : MN (σ.2.1 85 9) (fun k => σ.2.1 96 k) := ⟨h.year, h.day, h.feast, h.coins, h.ago, h.dead, h.told, h.brib, h.kept, h.kday⟩
theorem MR.up {σ τ : am_H} {f : Nat → Int} (h : MR σ) (hc : cn τ = cn (am_setA σ 96 f)) (ht : τ.2.1 55 52 = σ.2.1 55 52) (hN : MN (σ.2.1 85 9) f) : MR τ := by
  have e85 : ∀ j, τ.2.1 85 j = σ.2.1 85 j := fun j => cn_at hc 85 j (by decide) (by decide)
  have e87 : ∀ j, τ.2.1 87 j = σ.2.1 87 j := fun j => cn_at hc 87 j (by decide) (by decide)
  have e88 : ∀ j, τ.2.1 88 j = σ.2.1 88 j := fun j => cn_at hc 88 j (by decide) (by decide)
  have e89 : ∀ j, τ.2.1 89 j = σ.2.1 89 j := fun j => cn_at hc 89 j (by decide) (by decide)
  have e91 : ∀ j, τ.2.1 91 j = σ.2.1 91 j := fun j => cn_at hc 91 j (by decide) (by decide)
  have e92 : ∀ j, τ.2.1 92 j = σ.2.1 92 j := fun j => cn_at hc 92 j (by decide) (by decide)
  have e96 : ∀ j, τ.2.1 96 j = f j := fun j => cn_at hc 96 j (by decide) (by decide)
  unfold MR
  simp only [e85, e87, e88, e89, e91, e92, e96, ht]
  exact ⟨h.P, h.F, h.Y, h.T, h.mind, h.ask, h.rem, h.fro, hN.1, hN.2.1, hN.2.2.1, hN.2.2.2.1, hN.2.2.2.2.1, hN.2.2.2.2.2.1, hN.2.2.2.2.2.2.1, hN.2.2.2.2.2.2.2.1, hN.2.2.2.2.2.2.2.2.1, hN.2.2.2.2.2.2.2.2.2, h.slip, h.mort⟩
theorem RK_cn (σ : am_H) : RK (cn σ) = RK σ := rfl
theorem RK.up {σ τ : am_H} {f : Nat → Int} (h : RK σ) (hc : cn τ = cn (am_setA σ 96 f)) : RK τ := by
  rw [← RK_cn τ, hc]
  exact h
/-- the rule of thinks asks for no other -/
def NO (σ : am_H) : Prop := σ.2.1 93 2 = -1 ∨ ∀ v ∈ ruM σ 0, ¬ v = 47
theorem NO_cn (σ : am_H) : NO (cn σ) = NO σ := rfl
theorem NO.up {σ τ : am_H} {f : Nat → Int} (h : NO σ) (hc : cn τ = cn (am_setA σ 96 f)) : NO τ := by
  rw [← NO_cn τ, hc]
  exact h
/-- what the laws of a day ask of the heap -/
def GD (σ : am_H) : Prop := lay σ ∧ MR σ ∧ RK σ ∧ NO σ ∧ (0 ≤ σ.2.1 55 59 ∧ σ.2.1 55 59 ≤ 99) ∧ (0 ≤ σ.2.1 55 61 ∧ σ.2.1 55 61 < 256)
theorem GD.L {σ : am_H} (h : GD σ) : lay σ := h.1
theorem GD.R {σ : am_H} (h : GD σ) : MR σ := h.2.1
theorem GD.K {σ : am_H} (h : GD σ) : RK σ := h.2.2.1
theorem GD.O {σ : am_H} (h : GD σ) : NO σ := h.2.2.2.1
theorem GD.o {σ : am_H} (h : GD σ) : 0 ≤ σ.2.1 55 59 ∧ σ.2.1 55 59 ≤ 99 := h.2.2.2.2.1
theorem GD.t {σ : am_H} (h : GD σ) : 0 ≤ σ.2.1 55 61 ∧ σ.2.1 55 61 < 256 := h.2.2.2.2.2
theorem evL_congr {e1 e2 : Int → Int} : ∀ (cs : List Int) (ts : List Bool) (st : List Int), okT cs ts = true → (∀ w, 40 + w ∈ cs → 0 ≤ w → w < 8 → e1 w = e2 w) → evL e1 st cs = evL e2 st cs
  | [], _, _, _, _ => rfl
  | v :: cs, ts, st, h, he => by
    unfold okT at h
    cases ht : ty1 ts v with
    | none => rw [ht] at h; exact absurd h (by simp)
    | some t =>
      rw [ht] at h
      simp only [Bool.and_eq_true, decide_eq_true_eq] at h
      have h1 : ev1 e1 st v = ev1 e2 st v := by
        unfold ev1
        by_cases h10 : 1000 ≤ v
        · rw [if_pos h10, if_pos h10]
        · rw [if_neg h10, if_neg h10]
          by_cases h40 : 40 ≤ v
          · rw [if_pos h40, if_pos h40]
            have hv : v < 48 := by
              rcases ty1_shape ht with h | h | h | h | h <;> omega
            rw [he (v - 40) (by rw [show 40 + (v - 40) = v by omega]; exact List.mem_cons_self) (by omega) (by omega)]
          · rw [if_neg h40, if_neg h40]
      unfold evL
      rw [h1]
      exact evL_congr cs t _ h.2 (fun w hw => he w (List.mem_cons_of_mem _ hw))
/-- the parts of a rule, what is asked told beside -/
def pe (σ : am_H) (ts ff fz ot : Int) (p : Nat) (w : Int) : Int := if w = 0 then σ.2.1 96 1 else if w = 1 then tb ts p else if w = 2 then σ.2.1 96 (4 + p) else if w = 3 then σ.2.1 87 (8 + p) else if w = 4 then ff else if w = 5 then σ.2.1 96 0 else if w = 6 then fz else ot
def tdE (σ : am_H) (ts ff fz ot : Int) (wh p : Nat) : Int := (evL (pe σ ts ff fz ot p) [] (ruM σ wh)).headD 0
theorem tdM_E {σ : am_H} (hK : RK σ) {wh : Nat} (hwh : wh < 2) (hn : ¬ σ.2.1 93 (2 + wh) = -1) (p : Nat) : tdM σ wh p = tdE σ (σ.2.1 55 56) (σ.2.1 55 57) (σ.2.1 55 58) (σ.2.1 55 59) wh p := by
  rcases hK wh hwh with h | ⟨_, _, _, h4⟩
  · exact absurd h hn
  · unfold tdM tdE
    rw [evL_congr (e1 := ptM σ p) (e2 := pe σ (σ.2.1 55 56) (σ.2.1 55 57) (σ.2.1 55 58) (σ.2.1 55 59) p) _ _ _ h4]
    intro w _ h0 h8
    rcases (show w = 0 ∨ w = 1 ∨ w = 2 ∨ w = 3 ∨ w = 4 ∨ w = 5 ∨ w = 6 ∨ w = 7 by omega) with rfl | rfl | rfl | rfl | rfl | rfl | rfl | rfl <;> rfl
theorem tdE_o {σ : am_H} (hK : RK σ) (hO : NO σ) (hn : ¬ σ.2.1 93 2 = -1) (ts ff fz o o2 : Int) (p : Nat) : tdE σ ts ff fz o 0 p = tdE σ ts ff fz o2 0 p := by
  rcases hK 0 (by decide) with h | ⟨_, _, _, h4⟩
  · exact absurd h hn
  · unfold tdE
    rw [evL_congr (e1 := pe σ ts ff fz o p) (e2 := pe σ ts ff fz o2 p) _ _ _ h4]
    intro w hw h0 h8
    rcases hO with h | h
    · exact absurd h hn
    · have h9 := h _ hw
      unfold pe
      repeat (split; rfl)
      omega
def ffM (σ : am_H) : Int := if 0 < σ.2.1 96 2 then 1 else 0
def fzM (σ : am_H) : Int := if frM σ (σ.2.1 96 1) = true then 1 else 0
/-- does one think of himself -/
def slB (σ : am_H) (ts bs : Int) (p : Nat) : Bool := decide (¬ σ.2.1 96 (12 + p) = 1 ∧ ¬ tb bs p = 1 ∧ (if σ.2.1 93 2 = -1 then tb ts p = 1 else tdE σ ts (ffM σ) (fzM σ) 0 0 p = 1))
def selE (σ : am_H) (ts bs : Int) : Int := mkS (slB σ ts bs) (pN σ)
theorem selE_cn (σ : am_H) (ts bs : Int) : selE (cn σ) ts bs = selE σ ts bs := rfl
theorem selM_E {σ : am_H} (hK : RK σ) (hO : NO σ) (ts bs : Int) : selM σ ts bs = selE σ ts bs := by
  unfold selM selE
  congr 1
  funext p
  unfold selB slB
  by_cases hn : σ.2.1 93 2 = -1
  · have hn2 : (askH σ ts).2.1 93 2 = -1 := hn
    simp only [if_pos hn, if_pos hn2]
    rfl
  · have hn2 : ¬ (askH σ ts).2.1 93 2 = -1 := hn
    have hK2 : RK (askH σ ts) := hK
    simp only [if_neg hn, if_neg hn2]
    have h1 := tdM_E hK2 (wh := 0) (by decide) hn2 p
    have h2 : tdE (askH σ ts) ((askH σ ts).2.1 55 56) ((askH σ ts).2.1 55 57) ((askH σ ts).2.1 55 58) ((askH σ ts).2.1 55 59) 0 p = tdE σ ts (ffM σ) (fzM σ) (σ.2.1 55 59) 0 p := rfl
    rw [h1, h2, tdE_o hK hO hn ts (ffM σ) (fzM σ) (σ.2.1 55 59) 0 p]
    rfl
def rgB (σ : am_H) (ts bs set : Int) (p : Nat) : Bool := decide (¬ σ.2.1 96 (12 + p) = 1 ∧ ¬ tb bs p = 1 ∧ ¬ tb set p = 1 ∧ ¬ rqM σ p set = -1 ∧ (σ.2.1 93 3 = -1 ∨ tdE σ ts (ffM σ) (fzM σ) (σ.2.1 87 (8 + (rqM σ p set).toNat)) 1 p = 1))
def rpE (σ : am_H) (ts bs set : Int) : Nat → Int
  | 0 => set
  | n + 1 => if rgB σ ts bs (rpE σ ts bs set n) n = true then rpE σ ts bs set n + 2 ^ n else rpE σ ts bs set n
def rdE (σ : am_H) (ts bs : Int) : Nat → Int → Int
  | 0, s => s
  | k + 1, s => if rpE σ ts bs s (pN σ) = s then s else rdE σ ts bs k (rpE σ ts bs s (pN σ))
/-- who think in the end -/
def rmE (σ : am_H) (ts own bs : Int) : Int := rdE σ ts bs 256 own
theorem rpE_cn (σ : am_H) (ts bs set : Int) : ∀ n, rpE (cn σ) ts bs set n = rpE σ ts bs set n
  | 0 => rfl
  | n + 1 => by
    show (if rgB (cn σ) ts bs (rpE (cn σ) ts bs set n) n = true then _ else _) = (if rgB σ ts bs (rpE σ ts bs set n) n = true then _ else _)
    rw [rpE_cn σ ts bs set n]
    rfl
theorem rdE_cn (σ : am_H) (ts bs : Int) : ∀ k s, rdE (cn σ) ts bs k s = rdE σ ts bs k s
  | 0, _ => rfl
  | k + 1, s => by
    show (if rpE (cn σ) ts bs s (pN (cn σ)) = s then s else rdE (cn σ) ts bs k (rpE (cn σ) ts bs s (pN (cn σ)))) = (if rpE σ ts bs s (pN σ) = s then s else rdE σ ts bs k (rpE σ ts bs s (pN σ)))
    rw [rpE_cn, rdE_cn σ ts bs k]
    rfl
theorem rmE_cn (σ : am_H) (ts own bs : Int) : rmE (cn σ) ts own bs = rmE σ ts own bs := rdE_cn σ ts bs 256 own
theorem rg_E {S : am_H} (hK : RK S) {ts : Int} (h1 : S.2.1 55 56 = ts) (h2 : S.2.1 55 57 = ffM S) (h3 : S.2.1 55 58 = fzM S) (bs set : Int) (p : Nat) : rgo S bs set p = rgB S ts bs set p := by
  unfold rgo rgB
  congr 1
  have h4 : (rmV S p set = 1) = (¬ rqM S p set = -1 ∧ (S.2.1 93 3 = -1 ∨ tdE S ts (ffM S) (fzM S) (S.2.1 87 (8 + (rqM S p set).toNat)) 1 p = 1)) := by
    unfold rmV
    by_cases hq : rqM S p set = -1
    · simp [hq]
    · by_cases hh : S.2.1 93 3 = -1
      · simp [hq, hh]
      · have hK2 : RK (am_setN S 55 59 (S.2.1 87 (8 + (rqM S p set).toNat))) := hK
        have h5 := tdM_E hK2 (wh := 1) (by decide) hh p
        have h6 : tdE (am_setN S 55 59 (S.2.1 87 (8 + (rqM S p set).toNat))) ((am_setN S 55 59 (S.2.1 87 (8 + (rqM S p set).toNat))).2.1 55 56) ((am_setN S 55 59 (S.2.1 87 (8 + (rqM S p set).toNat))).2.1 55 57) ((am_setN S 55 59 (S.2.1 87 (8 + (rqM S p set).toNat))).2.1 55 58) ((am_setN S 55 59 (S.2.1 87 (8 + (rqM S p set).toNat))).2.1 55 59) 1 p = tdE S (S.2.1 55 56) (S.2.1 55 57) (S.2.1 55 58) (S.2.1 87 (8 + (rqM S p set).toNat)) 1 p := rfl
        rw [if_neg hq, if_neg hh, h5, h6, h1, h2, h3]
        simp [hq, hh]
  rw [h4]
theorem rp_E {S : am_H} (hK : RK S) {ts : Int} (h1 : S.2.1 55 56 = ts) (h2 : S.2.1 55 57 = ffM S) (h3 : S.2.1 55 58 = fzM S) (bs set : Int) : ∀ n, rps S bs set n = rpE S ts bs set n
  | 0 => rfl
  | n + 1 => by
    show (if rgo S bs (rps S bs set n) n = true then _ else _) = (if rgB S ts bs (rpE S ts bs set n) n = true then _ else _)
    rw [rp_E hK h1 h2 h3 bs set n, rg_E hK h1 h2 h3]
theorem rd_E {S : am_H} (hK : RK S) {ts : Int} (h1 : S.2.1 55 56 = ts) (h2 : S.2.1 55 57 = ffM S) (h3 : S.2.1 55 58 = fzM S) (bs : Int) : ∀ k s, rmd S bs k s = rdE S ts bs k s
  | 0, _ => rfl
  | k + 1, s => by
    show (if rps S bs s (pN S) = s then s else rmd S bs k (rps S bs s (pN S))) = (if rpE S ts bs s (pN S) = s then s else rdE S ts bs k (rpE S ts bs s (pN S)))
    rw [rp_E hK h1 h2 h3, rd_E hK h1 h2 h3 bs k]
theorem rmM_E {S : am_H} (hK : RK S) {ts : Int} (h1 : S.2.1 55 56 = ts) (h2 : S.2.1 55 57 = ffM S) (h3 : S.2.1 55 58 = fzM S) (own bs : Int) : rmM S own bs = rmE S ts own bs := rd_E hK h1 h2 h3 bs 256 own
