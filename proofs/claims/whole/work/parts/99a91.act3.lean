theorem IV.act3 {t f c n : Nat} {σ T σ' σ'' : am_H} (h : IV t f c n σ) (hM : RMB f c σ T) (hA : QU W_ac T σ') (hB : frw W_ma (keH σ') σ'') (g : Nat → Int) (hg : ∀ k, σ''.2.1 96 k = g k) (hLF : LF0 32 σ' g) (hRW : RWr 32 σ' g) (hK : LK (σ.2.1 85 9) (pN σ) g) (hF : σ''.2.1 0 16 = σ''.2.1 55 71 ∧ 0 ≤ σ''.2.1 55 71 ∧ σ''.2.1 55 71 < 2147483648) (h59 : 0 ≤ σ''.2.1 55 59 ∧ σ''.2.1 55 59 ≤ 99) (h61 : 0 ≤ σ''.2.1 55 61 ∧ σ''.2.1 55 61 < 256) : INV (n + 1) σ'' := by
  have hke := hM.keep h.H.1 h.C h.cd h.K.1
  have kE := keH_fr σ'
  have E1 : ∀ a j, a ≤ 130 → ¬ (W_ac a j ∨ W_ma a j ∨ a = 102 ∨ (a = 55 ∧ (j = 69 ∨ j = 70)) ∨ (a = 42 ∧ (j = 1 ∨ j = 2))) → σ''.2.1 a j = σ.2.1 a j := fun a j ha hw => by
    rw [hB.2.2 a j (fun z => hw (Or.inr (Or.inl z))), kE.2.2 a j (fun z => hw (by unfold W_ke at z; rcases z with z | z; exact Or.inr (Or.inr (Or.inl z)); exact Or.inr (Or.inr (Or.inr (Or.inl z))))), hA.2.2 a j (fun z => hw (Or.inl z)), hke.2.2.2.2 a j ha (fun z => hw (Or.inr (Or.inr (Or.inr (Or.inr z)))))]
  have EL : ∀ a j, 32 ≤ a ∧ a ≤ 36 → σ''.2.1 a j = σ'.2.1 a j := fun a j ha => by
    rw [hB.2.2 a j (by unfold W_ma; omega), kE.2.2 a j (by unfold W_ke; omega)]
  have hL' : lay σ' := lay_qu hke.1 hA
  have hL : lay σ'' := hB.L (kE.L hL')
  have e9 : (fun k => σ''.2.1 96 k) = g := funext hg
  have hG : GD σ'' := GD_now (f := g) h.G hL (cn_eq (fun a j h1 h2 => by
      by_cases g9 : a = 96
      · subst g9; rw [hg, setA_eq]
      · rw [setA_nn g9]; exact E1 a j (by omega) (by unfold W_ac W_ma; omega))) (E1 55 52 (by omega) (by unfold W_ac W_ma; omega)) hK.1 h59 h61
  refine h.act hM hA hB hG ⟨?_, ?_⟩ ?_ ⟨⟨?_, ?_⟩, hF⟩
  · rw [e9]; exact hLF.cells (fun a j ha => EL a j (by omega))
  · rw [e9]; exact hRW.cells (fun a j ha => EL a j (by omega))
  · rw [e9, show pN σ'' = pN σ by unfold pN; rw [E1 85 5 (by omega) (by unfold W_ac W_ma; omega)], E1 85 9 (by omega) (by unfold W_ac W_ma; omega)]; exact hK
  · rw [E1 0 14 (by omega) (by unfold W_ac W_ma; omega), E1 55 7 (by omega) (by unfold W_ac W_ma; omega)]; exact h.F.1.1
  · rw [E1 0 15 (by omega) (by unfold W_ac W_ma; omega), E1 55 8 (by omega) (by unfold W_ac W_ma; omega)]; exact h.F.1.2
theorem GD.cells {σ τ : am_H} (h : GD σ) (hL : lay τ) (e : ∀ a j, (85 ≤ a ∧ a ≤ 96) ∨ (a = 55 ∧ (j = 52 ∨ j = 59 ∨ j = 61)) → τ.2.1 a j = σ.2.1 a j) : GD τ :=
  GD_now (f := fun k => σ.2.1 96 k) h hL (cn_eq (fun a j h1 h2 => by
    by_cases g9 : a = 96
    · subst g9; rw [setA_eq]; exact e 96 j (by omega)
    · rw [setA_nn g9]; exact e a j (by omega))) (e 55 52 (by omega)) h.R.N (by rw [e 55 59 (by omega)]; exact h.o) (by rw [e 55 61 (by omega)]; exact h.t)
theorem LK_told {Y : Int} {P : Nat} {g : Nat → Int} (h : LK Y P g) {d : Nat} (hd : 1 ≤ d ∧ (d : Int) ≤ Y ∧ d ≤ 90) {v : Int} (hv : 0 ≤ v ∧ v < 256) (hs : sumN (fun i => bc (g (21 + i))) 90 + bc v - bc (g (20 + d)) ≤ 30) : LK Y P (fun k => if k = 20 + d then v else g k) := by
  obtain ⟨⟨a, b, c, e, u, w, x, y, z, o⟩, hO, ⟨z1, z2, z3⟩, hX, s1, s2⟩ := h
  have q : ∀ k, ¬ k = 20 + d → (fun k => if k = 20 + d then v else g k) k = g k := fun k hk => if_neg hk
  refine ⟨⟨by rw [q 0 (by omega)]; exact a, by rw [q 1 (by omega)]; exact b, by rw [q 2 (by omega)]; exact c, by rw [q 3 (by omega)]; exact e, fun p hp => by rw [q _ (by omega)]; exact u p hp, fun p hp => by rw [q _ (by omega)]; exact w p hp, fun i hi => ?_, fun i hi => by rw [q _ (by omega)]; exact y i hi, by rw [q _ (by omega)]; exact z, fun k hk => by rw [q _ (by omega)]; exact o k hk⟩, fun k hk => ?_, ⟨by rw [q _ (by omega)]; exact z1, by rw [q _ (by omega)]; exact z2, fun i hi hy => by rw [q _ (by omega)]; exact z3 i hi hy⟩, fun p hp hq => by rw [q _ (by omega), q _ (by omega)]; exact hX p hp hq, ?_, ?_⟩
  · show 0 ≤ (if 20 + i = 20 + d then v else g (20 + i)) ∧ (if 20 + i = 20 + d then v else g (20 + i)) < 256
    split
    · exact hv
    · exact x i hi
  · rw [q 202 (by omega)] at hk
    rw [q _ (by omega), q _ (by omega), q _ (by omega), q _ (by omega)]
    exact hO k hk
  · have e9 := sumN_up (f := fun i => bc (g (21 + i))) (g := fun i => bc (if 21 + i = 20 + d then v else g (21 + i))) (d := d - 1) 90 (fun i hi hn => by
      show bc (if 21 + i = 20 + d then v else g (21 + i)) = bc (g (21 + i))
      rw [if_neg (by omega)])
    refine ⟨sumN_nn (fun i => bc_nn _) 90, ?_⟩
    show sumN (fun i => bc (if 21 + i = 20 + d then v else g (21 + i))) 90 ≤ 30
    rw [e9, if_pos (by omega), if_pos (by omega), show 21 + (d - 1) = 20 + d by omega]
    omega
  · rw [sumN_cg (g := fun i => bc (g (112 + i))) 90 (fun i hi => by rw [q _ (by omega)])]
    exact s2
theorem LK_brib {Y : Int} {P : Nat} {g : Nat → Int} (h : LK Y P g) {d : Nat} (hd : 1 ≤ d ∧ (d : Int) ≤ Y ∧ d ≤ 90) {v m : Int} (hv : 0 ≤ v ∧ v < 256) (hm : 0 ≤ m ∧ m ≤ 999999) (hs : sumN (fun i => bc (g (112 + i))) 90 + bc v - bc (g (111 + d)) ≤ 30) : LK Y P (fun k => if k = 3 then m else if k = 111 + d then v else g k) := by
  obtain ⟨⟨a, b, c, e, u, w, x, y, z, o⟩, hO, ⟨z1, z2, z3⟩, hX, s1, s2⟩ := h
  have q : ∀ k, ¬ k = 111 + d → ¬ k = 3 → (fun k => if k = 3 then m else if k = 111 + d then v else g k) k = g k := fun k hk hk3 => by
    show (if k = 3 then m else if k = 111 + d then v else g k) = g k
    rw [if_neg hk3, if_neg hk]
  refine ⟨⟨by rw [q 0 (by omega) (by omega)]; exact a, by rw [q 1 (by omega) (by omega)]; exact b, by rw [q 2 (by omega) (by omega)]; exact c, hm, fun p hp => by rw [q _ (by omega) (by omega)]; exact u p hp, fun p hp => by rw [q _ (by omega) (by omega)]; exact w p hp, fun i hi => by rw [q _ (by omega) (by omega)]; exact x i hi, fun i hi => ?_, by rw [q _ (by omega) (by omega)]; exact z, fun k hk => by rw [q _ (by omega) (by omega)]; exact o k hk⟩, fun k hk => ?_, ⟨by rw [q _ (by omega) (by omega)]; exact z1, by rw [q _ (by omega) (by omega)]; exact z2, fun i hi hy => by rw [q _ (by omega) (by omega)]; exact z3 i hi hy⟩, fun p hp hq => by rw [q _ (by omega) (by omega), q _ (by omega) (by omega)]; exact hX p hp hq, ?_, ?_⟩
  · show 0 ≤ (if 111 + i = 3 then m else if 111 + i = 111 + d then v else g (111 + i)) ∧ (if 111 + i = 3 then m else if 111 + i = 111 + d then v else g (111 + i)) < 256
    rw [if_neg (by omega)]
    split
    · exact hv
    · exact y i hi
  · rw [q 202 (by omega) (by omega)] at hk
    rw [q _ (by omega) (by omega), q _ (by omega) (by omega), q _ (by omega) (by omega), q _ (by omega) (by omega)]
    exact hO k hk
  · rw [sumN_cg (g := fun i => bc (g (21 + i))) 90 (fun i hi => by rw [q _ (by omega) (by omega)])]
    exact s1
  · have e9 := sumN_up (f := fun i => bc (g (112 + i))) (g := fun i => bc (if 112 + i = 3 then m else if 112 + i = 111 + d then v else g (112 + i))) (d := d - 1) 90 (fun i hi hn => by
      show bc (if 112 + i = 3 then m else if 112 + i = 111 + d then v else g (112 + i)) = bc (g (112 + i))
      rw [if_neg (by omega), if_neg (by omega)])
    refine ⟨sumN_nn (fun i => bc_nn _) 90, ?_⟩
    show sumN (fun i => bc (if 112 + i = 3 then m else if 112 + i = 111 + d then v else g (112 + i))) 90 ≤ 30
    rw [e9, if_pos (by omega), if_neg (by omega), if_pos (by omega), show 112 + (d - 1) = 111 + d by omega]
    omega
theorem LK_die {Y : Int} {P : Nat} {g : Nat → Int} (h : LK Y P g) {p : Nat} (hp : p < P) (hp8 : p < 8) : LK Y P (fun k => if k = 12 + p then 1 else g k) := by
  have hX : LX Y P (fun k => if k = 12 + p then 1 else g k) := LX_die (f := g) h.2.2 (fun k => by
    by_cases g : k = 12 + p
    · exact Or.inr ⟨by omega, by omega, by omega⟩
    · exact Or.inl (if_neg g))
  obtain ⟨⟨a, b, c, e, u, w, x, y, z, o⟩, hO, -⟩ := h
  have q : ∀ k, ¬ k = 12 + p → (fun k => if k = 12 + p then 1 else g k) k = g k := fun k hk => if_neg hk
  refine ⟨⟨by rw [q 0 (by omega)]; exact a, by rw [q 1 (by omega)]; exact b, by rw [q 2 (by omega)]; exact c, by rw [q 3 (by omega)]; exact e, fun p hp => by rw [q _ (by omega)]; exact u p hp, fun i hi => ?_, fun i hi => by rw [q _ (by omega)]; exact x i hi, fun i hi => by rw [q _ (by omega)]; exact y i hi, by rw [q _ (by omega)]; exact z, fun k hk => by rw [q _ (by omega)]; exact o k hk⟩, fun k hk => ?_, hX⟩
  · show (if 12 + i = 12 + p then 1 else g (12 + i)) = 0 ∨ (if 12 + i = 12 + p then 1 else g (12 + i)) = 1
    split
    · exact Or.inr rfl
    · exact w i hi
  · rw [q 202 (by omega)] at hk
    rw [q _ (by omega), q _ (by omega), q _ (by omega), q _ (by omega)]
    exact hO k hk
