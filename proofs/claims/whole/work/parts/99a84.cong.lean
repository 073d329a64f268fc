/-- the model's answers depend on the town and the day alone -/
theorem lvM_eq9 {σ τ : am_H} (h : cn τ = cn σ) : lvM τ = lvM σ := by
  show lvM (cn τ) = lvM (cn σ); rw [h]
theorem cM_eq9 {σ τ : am_H} (h : cn τ = cn σ) (h2 : τ.2.1 55 52 = σ.2.1 55 52) : cM τ = cM σ := by
  unfold cM
  rw [h2, cn_at h 96 0 (by omega) (by omega), cn_at h 96 1 (by omega) (by omega), cn_at h 85 9 (by omega) (by omega)]
theorem stM_eq9 {σ τ : am_H} (h : cn τ = cn σ) (f : Nat) : stM τ f = stM σ f := by
  show stM (cn τ) f = stM (cn σ) f; rw [h]
theorem bsD_eq9 {σ τ : am_H} (h : cn τ = cn σ) : bsD τ = bsD σ := by
  show bsD (cn τ) = bsD (cn σ); rw [h]
theorem tsD_eq9 {σ τ : am_H} (h : cn τ = cn σ) : tsD τ = tsD σ := by
  show tsD (cn τ) = tsD (cn σ); rw [h]
theorem coM_eq9 {σ τ : am_H} (h : cn τ = cn σ) (s : Int) : coM τ s = coM σ s := by
  show coM (cn τ) s = coM (cn σ) s; rw [h]
theorem mayM_eq9 {σ τ : am_H} (h : cn τ = cn σ) : mayM τ = mayM σ := by
  unfold mayM; rw [lvM_eq9 h, bsD_eq9 h]
theorem bg_eq9 {σ τ : am_H} (h : cn τ = cn σ) : cn (bgS τ) = cn (bgS σ) := by
  rw [← bgS_cn τ, h, bgS_cn]
theorem latM_eq9 {σ τ : am_H} (h : cn τ = cn σ) (h2 : τ.2.1 55 52 = σ.2.1 55 52) (n w : Int) : latM τ n w = latM σ n w := by
  unfold latM
  rw [dl_55 h h2, sfD_eq (itS_eq h _), thD_eq (itS_eq h _), fsD_eq (itS_eq h _), cn_at (itS_eq h _) 96 _ (by omega) (by omega)]
theorem cosM_eq9 {σ τ : am_H} (h : cn τ = cn σ) (h2 : τ.2.1 55 52 = σ.2.1 55 52) (n : Int) : cosM τ n = cosM σ n := by
  unfold cosM
  rw [dl_55 h h2, sfD_eq (itS_eq h _), coM_eq9 h]
theorem slpM_eq9 {σ τ : am_H} (h : cn τ = cn σ) (h2 : τ.2.1 55 52 = σ.2.1 55 52) (n : Int) : slpM τ n = slpM σ n := by
  unfold slpM
  rw [dl_55 h h2, sfD_eq (itS_eq h _), cn_at h 92 2 (by omega) (by omega)]
theorem hanM_eq9 {σ τ : am_H} (h : cn τ = cn σ) (h2 : τ.2.1 55 52 = σ.2.1 55 52) (n : Int) : hanM τ n = hanM σ n := by
  unfold hanM
  rw [dl_55 h h2, hgM_eq (itS_eq h _)]
theorem firM_eq9 {σ τ : am_H} (h : cn τ = cn σ) (h2 : τ.2.1 55 52 = σ.2.1 55 52) (w : Int) : firM τ w = firM σ w := by
  have e : fgB τ w = fgB σ w := by
    funext i; unfold fgB; rw [fsD_eq (itS_eq h _), thD_eq (itS_eq h _)]
  unfold firM
  rw [dl_55 h h2, e]
theorem surM_eq9 {σ τ : am_H} (h : cn τ = cn σ) (h2 : τ.2.1 55 52 = σ.2.1 55 52) (n : Int) : surM τ n = surM σ n := by
  have e : surB τ = surB σ := by
    funext i; unfold surB; rw [hgM_eq (itS_eq h _), thD_eq (itS_eq h _)]
  unfold surM
  rw [dl_55 h h2, e]
theorem chF_eq9 {σ τ : am_H} (h : cn τ = cn σ) : ∀ k, chF τ k = chF σ k
  | 0 => by unfold chF; rw [cn_at h 96 1 (by omega) (by omega), cn_at h 85 9 (by omega) (by omega)]
  | i + 1 => by
    unfold chF
    rw [chF_eq9 h i, coM_eq9 h, sfD_eq (itS_eq h _), fsD_eq (itS_eq h _), cn_at (itS_eq h (i + 1)) 96 1 (by omega) (by omega), cn_at h 85 9 (by omega) (by omega)]
theorem cheM_eq9 {σ τ : am_H} (h : cn τ = cn σ) (h2 : τ.2.1 55 52 = σ.2.1 55 52) (w : Int) : cheM τ w = cheM σ w := by
  unfold cheM
  rw [h2, chF_eq9 h, cn_at h 96 1 (by omega) (by omega), cn_at h 96 2 (by omega) (by omega), cn_at h 85 9 (by omega) (by omega)]
theorem enF_eq9 {σ τ : am_H} (h : cn τ = cn σ) : ∀ k, enF τ k = enF σ k
  | 0 => lvM_eq9 h
  | i + 1 => by
    unfold enF
    rw [enF_eq9 h i, lvM_eq9 h, tsD_eq9 h, rmE_eq (bg_eq9 h)]
theorem enoM_eq9 {σ τ : am_H} (h : cn τ = cn σ) (h2 : τ.2.1 55 52 = σ.2.1 55 52) (w : Int) : enoM τ w = enoM σ w := by
  unfold enoM cM
  rw [h2, cn_at h 96 0 (by omega) (by omega), cn_at h 96 1 (by omega) (by omega), cn_at h 85 9 (by omega) (by omega), lvM_eq9 h, enF_eq9 h]
theorem owB_eq9 {σ τ : am_H} (h : cn τ = cn σ) (a b : Int) : owB τ a b = owB σ a b := by
  show owB (cn τ) a b = owB (cn σ) a b; rw [h]
theorem trnM_eq9 {σ τ : am_H} (hG : GD σ) (hG2 : GD τ) (h : cn τ = cn σ) (h2 : τ.2.1 55 52 = σ.2.1 55 52) (n : Int) : trnM τ n = trnM σ n := by
  unfold trnM cM
  rw [h2, cn_at h 96 0 (by omega) (by omega), cn_at h 96 1 (by omega) (by omega), cn_at h 85 9 (by omega) (by omega)]
  by_cases hn : 0 ≤ n ∧ n ≤ 2
  · obtain ⟨m, rfl⟩ := Int.eq_ofNat_of_zero_le hn.1
    have e := trn_eq hG (n := m) (by omega)
    have e2 := trn_eq hG2 (n := m) (by omega)
    unfold tuU tuT at e e2
    rw [lvM_eq9 h, pN_eq2 h, owB_eq9 (bg_eq9 h), owB_eq9 (bg_eq9 h)] at e2
    rw [e, e2]
  · rw [if_neg (fun x => hn x.2), if_neg (fun x => hn x.2)]
theorem skB_eq9 {σ τ : am_H} (h65 : τ.2.1 55 65 = σ.2.1 55 65) (h100 : ∀ j, τ.2.1 100 j = σ.2.1 100 j) (s : Int) : skB τ s = skB σ s := by
  unfold skB
  simp only [h65, h100]
theorem thF_eq9 {σ τ : am_H} (h : cn τ = cn σ) (h65 : τ.2.1 55 65 = σ.2.1 55 65) (h100 : ∀ j, τ.2.1 100 j = σ.2.1 100 j) : ∀ k, thF τ k = thF σ k
  | 0 => by unfold thF; rw [mayM_eq9 h]
  | i + 1 => by
    unfold thF
    rw [thF_eq9 h h65 h100 i, mayM_eq9 h, tsD_eq9 h, bsD_eq9 h, rmE_eq (bg_eq9 h), skB_eq9 h65 h100]
theorem thoM_eq9 {σ τ : am_H} (h : cn τ = cn σ) (h2 : τ.2.1 55 52 = σ.2.1 55 52) (h65 : τ.2.1 55 65 = σ.2.1 55 65) (h100 : ∀ j, τ.2.1 100 j = σ.2.1 100 j) (w : Int) : thoM τ w = thoM σ w := by
  unfold thoM cM
  rw [h2, cn_at h 96 0 (by omega) (by omega), cn_at h 96 1 (by omega) (by omega), cn_at h 85 9 (by omega) (by omega), mayM_eq9 h, thF_eq9 h h65 h100]
theorem lF_eq9 {σ τ : am_H} (h : cn τ = cn σ) : ∀ k, lF τ k = lF σ k
  | 0 => rfl
  | i + 1 => by
    unfold lF
    rw [lF_eq9 h i, lawB_eq h]
theorem lawM_eq9 {σ τ : am_H} (h : cn τ = cn σ) (w : Int) : lawM τ w = lawM σ w := by
  unfold lawM
  rw [lF_eq9 h, cn_at h 96 202 (by omega) (by omega)]
theorem ppL_eq9 {σ τ : am_H} (h : cn τ = cn σ) : ∀ k, ppL τ k = ppL σ k
  | 0 => rfl
  | i + 1 => by
    unfold ppL
    rw [ppL_eq9 h i, cn_at h 96 _ (by omega) (by omega), cn_at h 96 _ (by omega) (by omega)]
theorem imL_eq9 {σ τ : am_H} (h : cn τ = cn σ) : imL τ = imL σ := by
  have e : imB τ = imB σ := by
    unfold imB
    have e96 : ∀ j, τ.2.1 96 j = σ.2.1 96 j := fun j => cn_at h 96 j (by omega) (by omega)
    simp only [e96, ppL_eq9 h, stM_eq9 h, pN_eq2 h]
  unfold imL
  rw [e]
