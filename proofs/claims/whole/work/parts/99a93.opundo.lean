theorem op_undo : OPI M_X9_undo M_X10_undo [] := by
  intro k σ hk ⟨t, f, c, h⟩
  have hKc := h.K.2.1
  have hfc := h.K.1.2.1
  obtain ⟨L, hLs⟩ : ∃ L, 1 ≤ c → σ.2.2 43 ((f + c - 1) % 20) = some L ∧ LF0 L σ (kt σ 0) ∧ RWr L σ (kt σ 0) ∧ LK (σ.2.1 85 9) (pN σ) (kt σ 0) := by
    by_cases g : 1 ≤ c
    · obtain ⟨L, l1, l2⟩ := h.K.2.2.2 0 (by omega)
      exact ⟨L, fun _ => ⟨l1, l2⟩⟩
    · exact ⟨0, fun g2 => absurd g2 g⟩
  refine am_mono (c_undo σ f c L h.G.L h.K.1.1.1 h.K.1.1.2 hfc.1 hfc.2 (fun hc1 => ?_) (h.rf hk 4 (by omega))) (fun r σ' hh => ?_)
  · have h9 := h.K.1.2.2.1 _ L (Nat.mod_lt _ (by decide)) (hLs hc1).1
    exact ⟨(hLs hc1).1, h9.2.1, h9.1⟩
  rcases hh with ⟨g1, g2, g3, g4, g5⟩ | ⟨g1, g2, g3⟩
  · refine ⟨_, g2, ?_⟩
    obtain ⟨l1, l2, l3, l4⟩ := hLs g1
    have E0 : ∀ a j, ¬ (32 ≤ a ∧ a ≤ 36) → ¬ (a = 42 ∧ j = 2) → σ'.2.1 a j = σ.2.1 a j := fun a j h1 h2 => g4.2.2 a j (fun z => by rcases z with z | z; unfold W_li at z; omega; omega)
    obtain ⟨hG', E1, h70, h69, h57⟩ := h.mid9 hk (g4.L h.G.L) (fun a j h1 h2 => E0 a j (by omega) (by omega))
    refine ⟨hG'.L, am_mono (c_X10_undo σ' hG'.L h70 h69 (h57 4 (by omega))) (fun r2 σ'' h2 => ?_)⟩
    rcases h2 with ⟨k1, k2, k3⟩ | ⟨k1, -⟩
    · refine ⟨k2, t, f, c - 1, ?_⟩
      have q70 := E0 55 70 (by omega) (by omega)
      have q69 : σ'.2.1 55 69 = (c : Int) := (E0 55 69 (by omega) (by omega)).trans hKc
      have h70' := h.K.2.2.1
      have k4 : σ'' = am_setN (am_setN (am_setA σ' 96 (unF σ' (σ'.2.1 55 70).toNat 443)) 55 70 ((σ'.2.1 55 70 + 20 - 1).tmod 20)) 55 69 (σ'.2.1 55 69 - 1) := k3
      have x96 : ∀ k, σ''.2.1 96 k = if k < 443 then σ.2.1 102 (443 * (σ.2.1 55 70).toNat + k) else σ.2.1 96 k := fun k => by
        rw [k4, set_nn (by omega), set_nn (by omega), setA_eq]
        unfold unF
        rw [E0 102 _ (by omega) (by omega), E0 96 _ (by omega) (by omega), q70]
      have x70 : σ''.2.1 55 70 = (((σ.2.1 55 70).toNat + 19) % 20 : Nat) := by
        rw [k4, set_nn (by omega), set_eq, q70, Int.tmod_eq_emod_of_nonneg (by omega)]
        omega
      have x69 : σ''.2.1 55 69 = ((c - 1 : Nat) : Int) := by rw [k4, set_eq, q69]; omega
      have E : ∀ a j, ¬ a = 96 → ¬ (a = 55 ∧ (j = 69 ∨ j = 70)) → σ''.2.1 a j = σ'.2.1 a j := fun a j h1 h2 => by
        rw [k4, set_nn (by omega), set_nn (by omega), setA_nn h1]
      have Es : ∀ a j, ¬ a = 96 → ¬ (a = 55 ∧ (j = 69 ∨ j = 70)) → ¬ (32 ≤ a ∧ a ≤ 36) → ¬ (a = 42 ∧ j = 2) → σ''.2.1 a j = σ.2.1 a j := fun a j h1 h2 h3 h4 => (E a j h1 h2).trans (E0 a j h3 h4)
      have S1 : σ''.1 = σ.1 := by rw [k4]; exact g4.1
      have S2 : σ''.2.2 = σ.2.2 := by rw [k4]; exact g4.2.1
      have hL : lay σ'' := by
        have hx : frw (fun _ _ => True) σ σ'' := ⟨S1, S2, fun a j h => absurd trivial h⟩
        exact hx.L h.G.L
      have kt0 : ∀ k, k < 443 → σ''.2.1 96 k = kt σ 0 k := fun k hk => by
        rw [x96, if_pos hk]
        unfold kt
        rw [show ((σ.2.1 55 70).toNat + 20 - 0) % 20 = (σ.2.1 55 70).toNat by omega]
      have e85 : ∀ j, σ''.2.1 85 j = σ.2.1 85 j := fun j => Es 85 j (by omega) (by omega) (by omega) (by omega)
      have ePN : pN σ'' = pN σ := by unfold pN; rw [e85]
      have hKn : LK (σ.2.1 85 9) (pN σ) (fun k => σ''.2.1 96 k) := l4.k kt0
      have hG : GD σ'' := GD_now (f := fun k => σ''.2.1 96 k) h.G hL (cn_eq (fun a j h1 h2 => by
        by_cases g9 : a = 96
        · subst g9; rw [setA_eq]
        · rw [setA_nn g9]; exact Es a j g9 (by omega) (by omega) (by omega))) (Es 55 52 (by omega) (by omega) (by omega) (by omega)) hKn.1 (by rw [Es 55 59 (by omega) (by omega) (by omega) (by omega)]; exact h.G.o) (by rw [Es 55 61 (by omega) (by omega) (by omega) (by omega)]; exact h.G.t)
      have e1 : ∀ (a : Nat) (q : Nat × Nat), σ.1[a]? = some q → σ''.1[a]? = some q := fun a q hq => by rw [S1]; exact hq
      have ktj : ∀ j, j < 19 → kt σ'' j = kt σ (j + 1) := fun j hj => by
        unfold kt
        funext k
        rw [x70, Es 102 _ (by omega) (by omega) (by omega) (by omega), show ((((((σ.2.1 55 70).toNat + 19) % 20 : Nat) : Int).toNat + 20 - j) % 20) = ((σ.2.1 55 70).toNat + 20 - (j + 1)) % 20 by omega]
      refine ⟨hG, h.H.c e1 (fun a j _ => by rw [S2]), h.W.c9 h.H e1 (fun r _ => by rw [S2]) (fun a j ha => Es a j (by omega) (by omega) (by omega) (by omega)) (fun r hr x hx hx1 i => Es x i (by omega) (by omega) (by omega) (by omega)), ⟨?_, ?_⟩, ⟨?_, fun q hq => ?_⟩, h.S.c (fun a j ha => Es a j (by omega) (by omega) (by omega) (by omega)), h.T.c (fun a j ha => Es a j (by omega) (by omega) (by omega) (by omega)), h.R.c (by omega) (fun a j ha => Es a j (by omega) (by omega) (by omega) (by omega)), h.F.c (fun a j ha => Es a j (by omega) (by omega) (by omega) (by omega)), h.P.c (fun a j ha => Es a j (by omega) (by omega) (by omega) (by omega)), h.D.c (fun a j ha => Es a j (by omega) (by omega) (by omega) (by omega)), ?_⟩
      · exact ((l2.cpy g3).cells (fun a j ha => E a j (by omega) (by omega))).k kt0
      · exact ((l3.cpy g3).cells (fun a j ha => E a j (by omega) (by omega))).k (by have := l4.1.2.2.2.2.2.2.2.2.1; omega) kt0
      · rw [e85, ePN]; exact hKn
      · rw [e85] at hq
        rw [Es 86 _ (by omega) (by omega) (by omega) (by omega)]
        exact h.Q.2 q hq
      · refine ⟨⟨⟨(Es 42 1 (by omega) (by omega) (by omega) (by omega)).trans h.K.1.1.1, ?_⟩, ⟨hfc.1, by omega⟩, h.K.1.2.2.c9 e1 (fun a j _ => by rw [S2])⟩, x69, by rw [x70]; omega, fun j hj => ?_⟩
        · rw [E 42 2 (by omega) (by omega), g5]; omega
        · obtain ⟨L', o1, o2, o3, o4⟩ := h.K.2.2.2 (j + 1) (by omega)
          have hL1 := (h.K.1.2.2.1 _ L' (Nat.mod_lt _ (by decide)) o1).1
          rw [ktj j (by omega), e85, ePN]
          exact ⟨L', by rw [S2, show f + (c - 1) - 1 - j = f + c - 1 - (j + 1) by omega]; exact o1, o2.cells (fun a j ha => Es a j (by omega) (by omega) (by omega) (by omega)), o3.cells (fun a j ha => Es a j (by omega) (by omega) (by omega) (by omega)), o4⟩
    · exact absurd (show σ.2.1 55 69 = 0 by rw [← E0 55 69 (by omega) (by omega)]; exact k1) (by rw [hKc]; omega)
  · refine ⟨_, g2, ?_⟩
    obtain ⟨hG', E0, h70, h69, h57⟩ := h.midr hk g3
    refine ⟨hG'.L, am_mono (c_X10_undo σ' hG'.L h70 h69 (h57 4 (by omega))) (fun r2 σ'' h2 => ?_)⟩
    rcases h2 with ⟨k1, -⟩ | ⟨k1, k2, k3⟩
    · exact absurd (show σ'.2.1 55 69 = 0 by rw [E0 55 69 (by omega) (by omega), hKc, g1]; rfl) k1
    · exact ⟨k2, t, f, c, by rw [k3, g3, set_nn (show ¬ (57 = 54 ∧ 4 = 4) by omega)]; exact h.ref 4 (by omega)⟩
def mk9 (σ : am_H) : am_H := ([], fun a j => if 55 ≤ a ∧ a ≤ 96 then σ.2.1 a j else 0, fun _ _ => none)
theorem mk9_eq {σ τ : am_H} (e : ∀ a j, 55 ≤ a → a ≤ 96 → τ.2.1 a j = σ.2.1 a j) : mk9 τ = mk9 σ := by
  unfold mk9
  congr 1
  congr 1
  funext a j
  by_cases g : 55 ≤ a ∧ a ≤ 96
  · rw [if_pos g, if_pos g]; exact e a j g.1 g.2
  · rw [if_neg g, if_neg g]
theorem iiC_mk (σ : am_H) (n : Int) : iiC (mk9 σ) n = iiC σ n := rfl
theorem onN_mk (σ : am_H) (k : Nat) : onN (mk9 σ) k = onN σ k := by
  unfold onN
  rw [tkF_eq (σ := σ) (τ := mk9 σ) (fun j => rfl), tkF_eq (σ := σ) (τ := mk9 σ) (fun j => rfl)]
  rfl
theorem as_all {σ : am_H} {F : Nat} {n le : Int} (h : asC σ F n le = true) (k : Nat) (hk : (k : Int) < σ.2.1 56 F) : (1 ≤ aD σ F k ∧ aD σ F k ≤ σ.2.1 85 9) ∧ le < aD σ F k ∧ (0 ≤ aP σ F k ∧ aP σ F k ≤ σ.2.1 85 5 - 1) := by
  have h1 := (asC_get h).2
  have h2 : asB σ F le k = false := by
    rcases hx : asB σ F le k with _ | _
    · rfl
    · rw [anyB_t hx (show k < (σ.2.1 56 F).toNat by omega)] at h1
      exact absurd h1 (by simp)
  unfold asB at h2
  simp only [decide_eq_false_iff_not, Classical.not_not] at h2
  omega
theorem tkF_rng {σ : am_H} {F : Nat} : ∀ n, (∀ k, k < n → 0 ≤ aP σ F k ∧ aP σ F k < 8) → ∀ d, 0 ≤ tkF σ F n d ∧ tkF σ F n d < 256
  | 0, _, d => by show (0 : Int) ≤ 0 ∧ (0 : Int) < 256; omega
  | n + 1, h, d => by
    have ih := tkF_rng n (fun k hk => h k (by omega)) d
    show 0 ≤ (if (d : Int) = aD σ F n then ao_or (tkF σ F n d) (ao_shl 1 (aP σ F n)) else tkF σ F n d) ∧ (if (d : Int) = aD σ F n then ao_or (tkF σ F n d) (ao_shl 1 (aP σ F n)) else tkF σ F n d) < 256
    split
    · exact (xr_get ih (h n (by omega))).2.1
    · exact ih
theorem tkF_no {σ : am_H} {F d : Nat} : ∀ n, (∀ k, k < n → ¬ (d : Int) = aD σ F k) → tkF σ F n d = 0
  | 0, _ => rfl
  | n + 1, h => by
    show (if (d : Int) = aD σ F n then _ else tkF σ F n d) = 0
    rw [if_neg (h n (by omega))]
    exact tkF_no n (fun k hk => h k (by omega))
theorem sumN_z : ∀ n, sumN (fun _ => 0) n = 0
  | 0 => rfl
  | n + 1 => by show sumN (fun _ => 0) n + 0 = 0; rw [sumN_z n]; rfl
theorem tkF_sum {σ : am_H} {F : Nat} : ∀ n, (∀ k, k < n → (1 ≤ aD σ F k ∧ aD σ F k ≤ 90) ∧ 0 ≤ aP σ F k ∧ aP σ F k < 8) → sumN (fun d => bc (tkF σ F n (d + 1))) 90 ≤ n
  | 0, _ => by
    have e : sumN (fun d => bc (tkF σ F 0 (d + 1))) 90 = sumN (fun _ => 0) 90 := sumN_cg 90 (fun d hd => bc_0)
    rw [e, sumN_z]
    exact Int.le_refl 0
  | n + 1, h => by
    have ih := tkF_sum n (fun k hk => h k (by omega))
    have hn := h n (by omega)
    have hr := tkF_rng n (fun k hk => (h k (by omega)).2)
    have e9 := sumN_up (f := fun d => bc (tkF σ F n (d + 1))) (g := fun d => bc (tkF σ F (n + 1) (d + 1))) (d := (aD σ F n).toNat - 1) 90 (fun i hi hne => by
      show bc (if ((i + 1 : Nat) : Int) = aD σ F n then _ else tkF σ F n (i + 1)) = bc (tkF σ F n (i + 1))
      rw [if_neg (by omega)])
    rw [e9, if_pos (by omega)]
    have e8 : bc (tkF σ F (n + 1) ((aD σ F n).toNat - 1 + 1)) ≤ bc (tkF σ F n ((aD σ F n).toNat - 1 + 1)) + 1 := by
      show bc (if (((aD σ F n).toNat - 1 + 1 : Nat) : Int) = aD σ F n then ao_or (tkF σ F n ((aD σ F n).toNat - 1 + 1)) (ao_shl 1 (aP σ F n)) else tkF σ F n ((aD σ F n).toNat - 1 + 1)) ≤ _
      rw [if_pos (by omega)]
      exact (xr_get (hr _) hn.2).2.2
    omega
theorem hd_all {σ : am_H} (h : anyB (hdB σ) (pN σ) = false) {p : Nat} (hp : p < pN σ) : σ.2.1 56 (7 + 2 * p) ≤ 99 ∧ σ.2.1 56 (8 + 2 * p) ≤ 1 := by
  have h2 : hdB σ p = false := by
    rcases hx : hdB σ p with _ | _
    · rfl
    · rw [anyB_t hx hp] at h
      exact absurd h (by simp)
  unfold hdB at h2
  simp only [decide_eq_false_iff_not, Classical.not_not] at h2
  exact h2
theorem onN_hi {σ : am_H} {k : Nat} (hk : 203 ≤ k) (hP : pN σ ≤ 8) : onN σ k = σ.2.1 96 k := by
  unfold onN onA
  rw [if_neg (by omega), if_neg (by omega), if_neg (by omega), if_neg (by omega), if_neg (by omega), if_neg (by omega), if_neg (by omega), if_neg (by omega), if_neg (by omega)]
theorem onN_lo {σ : am_H} {k : Nat} (hk : k < 20) : onN σ k = onA σ (pN σ) k := by
  unfold onN
  rw [if_neg (by omega), if_neg (by omega), if_neg (by omega)]
theorem onN_LK {σ : am_H} (hG : GD σ) (hT : TPR σ) (hK : LK (σ.2.1 85 9) (pN σ) (fun k => σ.2.1 96 k)) (h : iiC σ (σ.2.1 55 1) = true) : LK (σ.2.1 85 9) (pN σ) (onN σ) := by
  obtain ⟨h1, ⟨hd, hpp⟩, ha1, ha2, h5⟩ := iiC_iff.mp h
  have hP := hG.R.P
  have hY := hG.R.Y
  have hP8 : pN σ ≤ 8 := by unfold pN; omega
  have b : ∀ j : Nat, j < 1600 → 0 ≤ σ.2.1 56 j ∧ σ.2.1 56 j ≤ 255 := hT.2
  have q1 : ∀ k : Nat, (k : Int) < σ.2.1 56 (sF σ) → (1 ≤ aD σ (sF σ) k ∧ aD σ (sF σ) k ≤ σ.2.1 85 9) ∧ (0 ≤ aP σ (sF σ) k ∧ aP σ (sF σ) k < 8) := fun k hk => by
    have h9 := as_all ha1 k hk
    omega
  have q2 : ∀ k : Nat, (k : Int) < σ.2.1 56 (sF2 σ) → (1 ≤ aD σ (sF2 σ) k ∧ aD σ (sF2 σ) k ≤ σ.2.1 85 9) ∧ (0 ≤ aP σ (sF2 σ) k ∧ aP σ (sF2 σ) k < 8) := fun k hk => by
    have h9 := as_all ha2 k hk
    omega
  have c1 : σ.2.1 56 (sF σ) ≤ 30 := (asC_get ha1).1.2.1
  have c2 : σ.2.1 56 (sF2 σ) ≤ 30 := (asC_get ha2).1.2.1
  have t20 : ∀ d, d < 91 → onN σ (20 + d) = tkF σ (sF σ) (σ.2.1 56 (sF σ)).toNat d := fun d hd => by
    unfold onN
    rw [if_neg (by omega), if_neg (by omega), if_pos (by omega), show 20 + d - 20 = d by omega]
  have t111 : ∀ d, d < 91 → onN σ (111 + d) = tkF σ (sF2 σ) (σ.2.1 56 (sF2 σ)).toNat d := fun d hd => by
    unfold onN
    rw [if_neg (by omega), if_pos (by omega), show 111 + d - 111 = d by omega]
  obtain ⟨d1, d2, d3, d4, d5⟩ := hd
  have o0 : onN σ 0 = (256 * σ.2.1 56 0) + σ.2.1 56 1 := by rw [onN_lo (by omega)]; unfold onA; rw [if_pos rfl]
  have o1 : onN σ 1 = σ.2.1 56 2 := by rw [onN_lo (by omega)]; unfold onA; rw [if_neg (by omega), if_pos rfl]
  have o2 : onN σ 2 = σ.2.1 56 3 := by rw [onN_lo (by omega)]; unfold onA; rw [if_neg (by omega), if_neg (by omega), if_pos rfl]
  have o3 : onN σ 3 = coT σ := by rw [onN_lo (by omega)]; unfold onA; rw [if_neg (by omega), if_neg (by omega), if_neg (by omega), if_pos rfl]
  have o4 : ∀ p, p < 8 → onN σ (4 + p) = if p < pN σ then σ.2.1 56 (7 + 2 * p) else σ.2.1 96 (4 + p) := fun p hp => by
    rw [onN_lo (by omega)]
    unfold onA
    rw [if_neg (by omega), if_neg (by omega), if_neg (by omega), if_neg (by omega)]
    by_cases g : p < pN σ
    · rw [if_pos (by omega), if_pos g, show 4 + p - 4 = p by omega]
    · rw [if_neg (by omega), if_neg (by omega), if_neg g]
  have o12 : ∀ p, p < 8 → onN σ (12 + p) = if p < pN σ then σ.2.1 56 (8 + 2 * p) else σ.2.1 96 (12 + p) := fun p hp => by
    rw [onN_lo (by omega)]
    unfold onA
    rw [if_neg (by omega), if_neg (by omega), if_neg (by omega), if_neg (by omega), if_neg (by omega)]
    by_cases g : p < pN σ
    · rw [if_pos (by omega), if_pos g, show 12 + p - 12 = p by omega]
    · rw [if_neg (by omega), if_neg g]
  have o202 : onN σ 202 = 0 := by unfold onN; rw [if_pos rfl]
  have r1 := tkF_rng (σ := σ) (F := sF σ) (σ.2.1 56 (sF σ)).toNat (fun k hk => (q1 k (by omega)).2)
  have r2 := tkF_rng (σ := σ) (F := sF2 σ) (σ.2.1 56 (sF2 σ)).toNat (fun k hk => (q2 k (by omega)).2)
  have b0 := b 0 (by omega)
  have b1 := b 1 (by omega)
  have b2 := b 2 (by omega)
  have b3 := b 3 (by omega)
  have b4 := b 4 (by omega)
  have b5 := b 5 (by omega)
  have b6 := b 6 (by omega)
  obtain ⟨⟨m0, m1, m2, m3, m4, m5, m6, m7, m8, m9⟩, hO, hZ, hX, s1, s2⟩ := hK
  refine ⟨⟨by rw [o0]; exact d1, by rw [o1]; omega, by rw [o2]; omega, by rw [o3]; unfold coT at *; omega, fun p hp => ?_, fun p hp => ?_, fun d hd => by rw [t20 d hd]; exact r1 d, fun d hd => by rw [t111 d hd]; exact r2 d, by rw [o202]; omega, fun k hk => by rw [onN_hi (by omega) hP8]; exact m9 k hk⟩, fun k hk => by rw [o202] at hk; omega, ⟨?_, ?_, fun d hd hy => ?_⟩, fun p hp hq => ?_, ?_, ?_⟩
  · rw [o4 p hp]
    split
    · rename_i g
      have := (hd_all hpp g).1
      have := b (7 + 2 * p) (by omega)
      omega
    · exact m4 p hp
  · rw [o12 p hp]
    split
    · rename_i g
      have := (hd_all hpp g).2
      have := b (8 + 2 * p) (by omega)
      omega
    · exact m5 p hp
  · rw [t20 0 (by omega)]
    exact tkF_no _ (fun k hk => by have := q1 k (by omega); omega)
  · rw [t111 0 (by omega)]
    exact tkF_no _ (fun k hk => by have := q2 k (by omega); omega)
  · rw [t20 d hd]
    exact tkF_no _ (fun k hk => by have := q1 k (by omega); omega)
  · rw [o4 p hp, o12 p hp, if_neg (by omega), if_neg (by omega)]
    exact hX p hp hq
  · refine ⟨sumN_nn (fun i => bc_nn _) 90, ?_⟩
    rw [sumN_cg (g := fun d => bc (tkF σ (sF σ) (σ.2.1 56 (sF σ)).toNat (d + 1))) 90 (fun d hd => by rw [show 21 + d = 20 + (d + 1) by omega, t20 (d + 1) (by omega)])]
    have := tkF_sum (σ := σ) (F := sF σ) (σ.2.1 56 (sF σ)).toNat (fun k hk => by have := q1 k (by omega); omega)
    omega
  · refine ⟨sumN_nn (fun i => bc_nn _) 90, ?_⟩
    rw [sumN_cg (g := fun d => bc (tkF σ (sF2 σ) (σ.2.1 56 (sF2 σ)).toNat (d + 1))) 90 (fun d hd => by rw [show 112 + d = 111 + (d + 1) by omega, t111 (d + 1) (by omega)])]
    have := tkF_sum (σ := σ) (F := sF2 σ) (σ.2.1 56 (sF2 σ)).toNat (fun k hk => by have := q2 k (by omega); omega)
    omega
