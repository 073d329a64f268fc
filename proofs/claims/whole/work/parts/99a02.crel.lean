/-- the class's life at l, told by the model's numbers -/
def LF0 (l : Nat) (σ : am_H) (g : Nat → Int) : Prop := (σ.2.1 l 0 = g 0 ∧ σ.2.1 l 1 = g 1 ∧ σ.2.1 l 2 = g 2 ∧ σ.2.1 l 3 = g 3) ∧ (0 ≤ σ.2.1 l 4 ∧ σ.2.1 l 4 < 256) ∧ (∀ p : Nat, p < 8 → tb (σ.2.1 l 4) p = g (12 + p)) ∧ (∀ p : Nat, p < 8 → σ.2.1 (l + 1) p = g (4 + p)) ∧ (∀ d : Nat, d < 91 → σ.2.1 (l + 2) d = g (20 + d)) ∧ (∀ d : Nat, d < 91 → σ.2.1 (l + 3) d = g (111 + d))
/-- the class's ring of what is kept -/
def rwV (g : Nat → Int) (k : Nat) : Int := ((g (203 + 4 * k) * 128 + g (204 + 4 * k)) * 16 + g (205 + 4 * k)) * 2 + g (206 + 4 * k)
def RWr (l : Nat) (σ : am_H) (g : Nat → Int) : Prop := (0 ≤ σ.2.1 l 9 ∧ σ.2.1 l 9 < 60) ∧ σ.2.1 l 10 = g 202 ∧ ∀ k : Nat, (k : Int) < g 202 → σ.2.1 (l + 4) (((σ.2.1 l 9).toNat + k) % 60) = rwV g k
/-- the class's rule at r holds these codes -/
def RLr (r : Nat) (σ : am_H) (cs : List Int) : Prop := σ.1[r]? = some (5, 2) ∧ ∃ c m : Nat, σ.2.2 r 0 = some c ∧ σ.1[c]? = some (11, m) ∧ (c = 12 ∨ c = 14 ∨ c = 24 ∨ c = 26 ∨ c = 29 ∨ 131 ≤ c) ∧ (cs.length ≤ m ∧ m < 2000000) ∧ σ.2.1 r 1 = (cs.length : Int) ∧ ∀ i, i < cs.length → σ.2.1 c i = kap (cs.getD i 0)
def rlB (H : am_H) (wh : Nat) : List Int := if H.2.1 93 (2 + wh) = -1 then [] else ruM H wh
/-- a name of the class (five bits a letter, the first one lowest) and one of the model (base 27) -/
def nmR (c m : Int) : Prop := ∃ ls : List Int, ls.length ≤ 6 ∧ (∀ x ∈ ls, 1 ≤ x ∧ x ≤ 26) ∧ m = ls.foldl (fun a x => 27 * a + x) 0 ∧ c = ls.foldr (fun x a => 32 * a + x) 0
/-- the class's town at t, told by the model's cells of H -/
def TWr (t : Nat) (σ H : am_H) : Prop := (σ.2.1 t 0 = H.2.1 85 9 ∧ σ.2.1 t 2 = H.2.1 85 5 ∧ σ.2.1 t 6 = H.2.1 92 2 ∧ σ.2.1 t 7 = H.2.1 92 3) ∧ (∀ p, p < pN H → nmR (σ.2.1 (t + 1) p) (H.2.1 86 (8 + p))) ∧ (∀ p, p < pN H → σ.2.1 (t + 2) p = H.2.1 87 (8 + p)) ∧ (∀ p, p < pN H → σ.2.1 (t + 3) p = H.2.1 88 (8 + p)) ∧ (∀ p, p < pN H → σ.2.1 (t + 4) p = H.2.1 89 (8 + p)) ∧ (∀ p, p < pN H → (0 ≤ σ.2.1 (t + 5) p ∧ σ.2.1 (t + 5) p < 256) ∧ ∀ q : Nat, q < 8 → tb (σ.2.1 (t + 5) p) q = if q < pN H ∧ tb (H.2.1 89 (8 + q)) p = 1 then 1 else 0) ∧ (∀ d : Nat, d < 91 → 1 ≤ d → (d : Int) ≤ H.2.1 85 9 → σ.2.1 (t + 7) d = if frM H (d : Int) = true then 1 else 0) ∧ RLr (t + 8) σ (rlB H 0) ∧ RLr (t + 10) σ (rlB H 1)
theorem RLr.fr {W : Nat → Nat → Prop} {r : Nat} {σ τ : am_H} {cs : List Int} (h : RLr r σ cs) (hF : frw W σ τ) (hr : ¬ W r 1) (hW : ∀ a j, (a = 12 ∨ a = 14 ∨ a = 24 ∨ a = 26 ∨ a = 29 ∨ 131 ≤ a) → ¬ W a j) : RLr r τ cs := by
  obtain ⟨h1, c, m, h2, h3, h4, h5, h6, h7⟩ := h
  refine ⟨by rw [hF.1]; exact h1, c, m, by rw [hF.2.1]; exact h2, by rw [hF.1]; exact h3, h4, h5, by rw [hF.2.2 r 1 hr]; exact h6, fun i hi => ?_⟩
  rw [hF.2.2 c i (hW c i h4)]
  exact h7 i hi
theorem TWr.fr {W : Nat → Nat → Prop} {t : Nat} {σ τ H : am_H} (h : TWr t σ H) (hF : frw W σ τ) (hW : ∀ a j, (t ≤ a ∧ a ≤ t + 11) ∨ (a = 12 ∨ a = 14 ∨ a = 24 ∨ a = 26 ∨ a = 29 ∨ 131 ≤ a) → ¬ W a j) : TWr t τ H := by
  have e : ∀ i j, i ≤ 11 → τ.2.1 (t + i) j = σ.2.1 (t + i) j := fun i j hi => hF.2.2 (t + i) j (hW _ _ (Or.inl (by omega)))
  have e0 : ∀ j, τ.2.1 t j = σ.2.1 t j := fun j => e 0 j (by omega)
  obtain ⟨h1, h2, h3, h4, h5, h6, h7, h8, h9⟩ := h
  refine ⟨by rw [e0, e0, e0, e0]; exact h1, fun p hp => by rw [e 1 p (by omega)]; exact h2 p hp, fun p hp => by rw [e 2 p (by omega)]; exact h3 p hp, fun p hp => by rw [e 3 p (by omega)]; exact h4 p hp, fun p hp => by rw [e 4 p (by omega)]; exact h5 p hp, fun p hp => by rw [e 5 p (by omega)]; exact h6 p hp, fun d h1 h2 h3 => by rw [e 7 d (by omega)]; exact h7 d h1 h2 h3, ?_, ?_⟩
  · exact h8.fr hF (hW _ _ (Or.inl (by omega))) (fun a j h => hW a j (Or.inr h))
  · exact h9.fr hF (hW _ _ (Or.inl (by omega))) (fun a j h => hW a j (Or.inr h))
theorem LF0.fr {W : Nat → Nat → Prop} {l : Nat} {σ τ : am_H} {g : Nat → Int} (h : LF0 l σ g) (hF : frw W σ τ) (hW : ∀ a j, (l ≤ a ∧ a ≤ l + 3) → ¬ W a j) : LF0 l τ g := by
  have e : ∀ i j, i ≤ 3 → τ.2.1 (l + i) j = σ.2.1 (l + i) j := fun i j hi => hF.2.2 (l + i) j (hW _ _ (by omega))
  have e0 : ∀ j, τ.2.1 l j = σ.2.1 l j := fun j => e 0 j (by omega)
  obtain ⟨h1, h2, h3, h4, h5, h6⟩ := h
  exact ⟨by rw [e0, e0, e0, e0]; exact h1, by rw [e0]; exact h2, fun p hp => by rw [e0]; exact h3 p hp, fun p hp => by rw [e 1 p (by omega)]; exact h4 p hp, fun d hd => by rw [e 2 d (by omega)]; exact h5 d hd, fun d hd => by rw [e 3 d (by omega)]; exact h6 d hd⟩
theorem RWr.fr {W : Nat → Nat → Prop} {l : Nat} {σ τ : am_H} {g : Nat → Int} (h : RWr l σ g) (hF : frw W σ τ) (h9 : ¬ W l 9) (h10 : ¬ W l 10) (hW : ∀ j, ¬ W (l + 4) j) : RWr l τ g := by
  obtain ⟨h1, h2, h3⟩ := h
  refine ⟨by rw [hF.2.2 l 9 h9]; exact h1, by rw [hF.2.2 l 10 h10]; exact h2, fun k hk => ?_⟩
  rw [hF.2.2 l 9 h9, hF.2.2 (l + 4) _ (hW _)]
  exact h3 k hk
theorem TWr.H {t : Nat} {σ H K : am_H} (h : TWr t σ H) (hK : ∀ a j, 85 ≤ a → a ≤ 95 → K.2.1 a j = H.2.1 a j) : TWr t σ K := by
  have hp : pN K = pN H := by unfold pN; rw [hK 85 5 (by decide) (by decide)]
  have hr : ∀ wh, rlB K wh = rlB H wh := fun wh => by
    unfold rlB ruM rE rB
    rw [hK 93 _ (by decide) (by decide), hK 94 _ (by decide) (by decide)]
    congr 1
    refine List.map_congr_left (fun i _ => ?_)
    rw [hK 95 _ (by decide) (by decide)]
  have hf : ∀ d, frM K d = frM H d := fun d => by
    unfold frM fN
    rw [hK 85 8 (by decide) (by decide)]
    congr 1
    funext k
    rw [hK 91 _ (by decide) (by decide), hK 91 _ (by decide) (by decide)]
  obtain ⟨h1, h2, h3, h4, h5, h6, h7, h8, h9⟩ := h
  refine ⟨by rw [hK 85 9 (by decide) (by decide), hK 85 5 (by decide) (by decide), hK 92 2 (by decide) (by decide), hK 92 3 (by decide) (by decide)]; exact h1, fun p hq => by rw [hK 86 _ (by decide) (by decide)]; exact h2 p (hp ▸ hq), fun p hq => by rw [hK 87 _ (by decide) (by decide)]; exact h3 p (hp ▸ hq), fun p hq => by rw [hK 88 _ (by decide) (by decide)]; exact h4 p (hp ▸ hq), fun p hq => by rw [hK 89 _ (by decide) (by decide)]; exact h5 p (hp ▸ hq), fun p hq => ⟨(h6 p (hp ▸ hq)).1, fun q hq2 => by rw [hp, hK 89 _ (by decide) (by decide)]; exact (h6 p (hp ▸ hq)).2 q hq2⟩, fun d a b c => by rw [hf]; exact h7 d a b (by rw [hK 85 9 (by decide) (by decide)] at c; exact c), by rw [hr]; exact h8, by rw [hr]; exact h9⟩
theorem okT_mem : ∀ {cs : List Int} {ts : List Bool}, okT cs ts = true → ∀ v ∈ cs, v < 48 ∨ 1000 ≤ v
  | [], _, _, v, hv => absurd hv (by simp)
  | x :: cs, ts, h, v, hv => by
    unfold okT at h
    split at h
    · rename_i t ht
      simp only [Bool.and_eq_true] at h
      rcases List.mem_cons.mp hv with rfl | h2
      · rcases ty1_shape ht with ⟨c1, c2, c3⟩ | ⟨c1, c2, c3⟩ | ⟨c1, c2⟩ | ⟨c1, c2⟩ | ⟨c1, c2⟩ <;> omega
      · exact okT_mem h.2 v h2
    · cases h
theorem ty1_q {ts t : List Bool} {v : Int} (h : ty1 ts v = some t) : ty1q ts v = some t := by
  unfold ty1q
  rcases ty1_shape h with ⟨c1, c2, c3⟩ | ⟨c1, c2, c3⟩ | ⟨c1, c2⟩ | ⟨c1, c2⟩ | ⟨c1, c2⟩
  · rw [if_neg (by omega), if_neg (by omega)]; exact h
  · rw [if_neg (by omega), if_pos (by omega), if_pos (by omega), c3]
  · rw [if_neg (by omega), if_neg (by omega)]; exact h
  · rw [if_neg (by omega), if_neg (by omega)]; exact h
  · rw [if_neg (by omega), if_neg (by omega)]; exact h
theorem okT_Q : ∀ {cs : List Int} {ts : List Bool}, okT cs ts = true → okQ cs ts = true
  | [], ts, h => by
    unfold okT at h
    have h2 : ts = [true] := by simpa using h
    rw [h2]; rfl
  | x :: cs, ts, h => by
    unfold okT at h
    split at h
    · rename_i t ht
      simp only [Bool.and_eq_true] at h
      unfold okQ
      rw [ty1_q ht]
      simp only [Bool.and_eq_true]
      exact ⟨h.1, okT_Q h.2⟩
    · cases h
theorem ev1_cg {e1 e2 : Int → Int} {st : List Int} {x : Int} (h : x < 40 ∨ 1000 ≤ x) : ev1 e1 st x = ev1 e2 st x := by
  unfold ev1
  by_cases h1 : 1000 ≤ x
  · rw [if_pos h1, if_pos h1]
  · rw [if_neg h1, if_neg h1, if_neg (show ¬ 40 ≤ x by omega), if_neg (show ¬ 40 ≤ x by omega)]
theorem evL_Q {env of : Int → Int} (he : ∀ k, 0 ≤ k → k < 8 → -1000000 ≤ env k ∧ env k ≤ 1000000) : ∀ (cs : List Int) (ts : List Bool) (st : List Int), okT cs ts = true → evQ env of st cs = evL env st cs
  | [], _, _, _ => rfl
  | x :: cs, ts, st, h => by
    unfold okT at h
    split at h
    · rename_i t ht
      simp only [Bool.and_eq_true] at h
      show evQ env of (ev1q env of st x) cs = evL env (ev1 env st x) cs
      have e1 : ev1q env of st x = ev1 env st x := by
        unfold ev1q
        rcases ty1_shape ht with ⟨c1, c2, c3⟩ | ⟨c1, c2, c3⟩ | ⟨c1, c2⟩ | ⟨c1, c2⟩ | ⟨c1, c2⟩
        · rw [if_neg (by omega), if_neg (by omega)]
          exact ev1_cg (by omega)
        · rw [if_neg (by omega), if_pos (by omega), clp_id (he _ (by omega) (by omega))]
          unfold ev1
          rw [if_neg (by omega), if_pos (by omega)]
        · rw [if_neg (by omega), if_neg (by omega)]
          exact ev1_cg (by omega)
        · rw [if_neg (by omega), if_neg (by omega)]
          exact ev1_cg (by omega)
        · rw [if_neg (by omega), if_neg (by omega)]
          exact ev1_cg (by omega)
      rw [e1]
      exact evL_Q he cs t _ h.2
    · cases h
theorem evL_01 {env : Int → Int} (he : ∀ k, 0 ≤ k → k < 8 → -1000000 ≤ env k ∧ env k ≤ 1000000) : ∀ (cs : List Int) (ts : List Bool) (st : List Int), tyOK ts st → okT cs ts = true → (evL env st cs).headD 0 = 0 ∨ (evL env st cs).headD 0 = 1
  | [], ts, st, h, hk => by
    unfold okT at hk
    have h2 : ts = [true] := by simpa using hk
    subst h2
    cases st with
    | nil => exact h.elim
    | cons x s => exact h.1
  | x :: cs, ts, st, h, hk => by
    unfold okT at hk
    split at hk
    · rename_i t ht
      simp only [Bool.and_eq_true] at hk
      exact evL_01 he cs t _ (ty1_ok he h ht) hk.2
    · cases hk
theorem c_rule (σ : am_H) (hL : lay σ) {rr : Nat} {cs : List Int} (hR : RLr rr σ cs) (hr46 : ¬ rr = 46) (hok : okT cs [] = true) (env : Int → Int) (he : ∀ k, 0 ≤ k → k < 8 → -1000000 ≤ env k ∧ env k ≤ 1000000) (hp : ∀ v ∈ cs, 40 ≤ v → v < 48 → σ.2.1 45 (rwP (v - 40)).toNat = env (v - 40)) : am_met M_X5_valueOf [am_r rr, am_r 45, am_r 46] σ (fun r σ' => r = some (am_i ((evL env [] cs).headD 0)) ∧ frw W_46 σ σ') := by
  obtain ⟨h1, c, m, h2, h3, h4, h5, h6, h7⟩ := hR
  have hm := okT_mem hok
  rw [← evL_Q (of := fun _ => 0) he cs [] [] hok]
  exact c_X5_valueOf σ hL rr c m h1 h2 hr46 h3 (by omega) cs env (fun _ => 0) h6 h5 h7 (okT_Q hok) (fun v hv a b => by rw [hp v hv a (by have := hm v hv; omega), clp_id (he _ (by omega) (by have := hm v hv; omega))]) (fun h => absurd (hm 60 h) (by omega))
