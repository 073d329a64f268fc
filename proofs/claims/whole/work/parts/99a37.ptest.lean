theorem opc_c {k : Int} (h : k = 60 ∨ k = 62 ∨ k = 61) : opc k = (if k = 60 then 7 else if k = 62 then 8 else 9) ∧ (opc k = 7 ∨ opc k = 8 ∨ opc k = 9) := by
  rcases h with rfl | rfl | rfl <;> decide
theorem fac_eq {b : Nat → Int} {E : Nat} {tk : Int} {n i p : Nat} {cs : List Int} {o : Int} {Q : Option ((SX → SX) × (SX → SX))} (hE : E ≤ 1600) (htk : tk = 0 ∨ tk = 1 ∨ tk = 2) (ho : o + (n : Int) = 6) (h0 : 0 ≤ o) (hln : cs.length + p ≤ i) (hi : i ≤ zP b E i) (c1 : ¬ zK b E i = 151) (c2 : ¬ zK b E i = 91) :
  RS b E cs o (i + 1) p (fun j ns => TY tk (3 * n + 4) ns true ∧ facF b E tk i cs.reverse o = .inl (j, (cs ++ ns).reverse)) (fun e => facF b E tk i cs.reverse o = .inr e) (factB b E Q (sumB b E (partX b E tk n)) (.inl (i, cs, o))) := by
  have hz := zP_rng b E i
  have c1' : ¬ kdS b E (.inl (i, cs, o)) = 151 := c1
  have c2' : ¬ kdS b E (.inl (i, cs, o)) = 91 := c2
  by_cases c3 : zK b E i = 152
  · have c3' : kdS b E (.inl (i, cs, o)) = 152 := c3
    have hz1 := zP_on (show ¬ zK b E i = 6 by omega) hi
    have hz2 := zP_rng b E (i + 1)
    have e : factB b E Q (sumB b E (partX b E tk n)) (.inl (i, cs, o)) = .inl (i + 1, cs ++ [13], o) := by
      unfold factB; rw [if_neg c1', if_neg c2', if_pos c3']; exact adS_ok (show cs.length < 1600 by omega)
    rw [e]
    refine ⟨rfl, ⟨Nat.le_refl _, hz1, ?_⟩, [13], rfl, fun ts hts => tyR_1 ty2_all (by simp only [List.length_cons]; omega), ?_⟩
    · show (cs ++ [13]).length + p ≤ i + 1
      rw [List.length_append, List.length_singleton]; omega
    · unfold facF; rw [if_pos c3, List.reverse_append]; rfl
  · have c3' : ¬ kdS b E (.inl (i, cs, o)) = 152 := c3
    have e : factB b E Q (sumB b E (partX b E tk n)) (.inl (i, cs, o)) = (fun s1 => adS (opc (kdS b E s1)) (sumB b E (partX b E tk n) (if kdS b E s1 = 60 ∨ kdS b E s1 = 62 ∨ kdS b E s1 = 61 then npS s1 else ftS b E 1 s1))) (sumB b E (partX b E tk n) (.inl (i, cs, o))) := by
      unfold factB; rw [if_neg c1', if_neg c2', if_neg c3']
    rw [e]
    have hs := sum_eq hE htk n i cs o ho h0 (by omega) hi
    cases hr : sumB b E (partX b E tk n) (.inl (i, cs, o)) with
    | inr q =>
      rw [hr] at hs
      obtain ⟨m, hm, hf⟩ := hs
      have h9 := hf (2000 - (m + 1))
      rw [show 2000 - (m + 1) + m + 1 = 2000 by omega] at h9
      have e2 : (fun s1 => adS (opc (kdS b E s1)) (sumB b E (partX b E tk n) (if kdS b E s1 = 60 ∨ kdS b E s1 = 62 ∨ kdS b E s1 = 61 then npS s1 else ftS b E 1 s1))) (.inr q) = .inr q := by
        have hk : kdS b E (.inr q) = 6 := rfl
        show adS (opc (kdS b E (.inr q))) (sumB b E (partX b E tk n) (if kdS b E (.inr q) = 60 ∨ kdS b E (.inr q) = 62 ∨ kdS b E (.inr q) = 61 then npS (.inr q) else ftS b E 1 (.inr q))) = _
        rw [if_neg (by omega)]
        show adS (opc (kdS b E (.inr q))) (sumB b E (partX b E tk n) (.inr q)) = _
        rw [sumB_r (partX_r n)]; rfl
      rw [e2]
      show facF b E tk i cs.reverse o = .inr q.1
      unfold facF
      rw [if_neg c3, h9]
    | inl q =>
      obtain ⟨j, cs1, o1⟩ := q
      rw [hr] at hs
      obtain ⟨ho1, ⟨hL, hzj1, hlen⟩, ns, hcs, hT, m, hm, hf⟩ := hs
      simp only at ho1 hL hzj1 hlen hcs hm hf
      subst ho1
      subst hcs
      have hzj := zP_rng b E j
      have h9 := hf (2000 - (m + 1))
      rw [show 2000 - (m + 1) + m + 1 = 2000 by omega] at h9
      have hl1 := smF_len _ _ _ _ _ _ rfl h9
      simp only [List.length_reverse, List.length_nil] at hl1
      show RS b E cs o1 (i + 1) p _ _ (adS (opc (zK b E j)) (sumB b E (partX b E tk n) (if kdS b E (.inl (j, cs ++ ns, o1)) = 60 ∨ kdS b E (.inl (j, cs ++ ns, o1)) = 62 ∨ kdS b E (.inl (j, cs ++ ns, o1)) = 61 then npS (.inl (j, cs ++ ns, o1)) else ftS b E 1 (.inl (j, cs ++ ns, o1)))))
      by_cases c4 : zK b E j = 60 ∨ zK b E j = 62 ∨ zK b E j = 61
      · have c4' : kdS b E (.inl (j, cs ++ ns, o1)) = 60 ∨ kdS b E (.inl (j, cs ++ ns, o1)) = 62 ∨ kdS b E (.inl (j, cs ++ ns, o1)) = 61 := c4
        rw [if_pos c4']
        show RS b E cs o1 (i + 1) p _ _ (adS (opc (zK b E j)) (sumB b E (partX b E tk n) (.inl (j + 1, cs ++ ns, o1))))
        have hs2 := sum_eq hE htk n (j + 1) (cs ++ ns) o1 ho h0 (by omega) (zP_on (by omega) hzj1)
        have hop := opc_c c4
        cases hr2 : sumB b E (partX b E tk n) (.inl (j + 1, cs ++ ns, o1)) with
        | inr q =>
          rw [hr2] at hs2
          obtain ⟨m2, hm2, hf2⟩ := hs2
          have h92 := hf2 (2000 - (m2 + 1))
          rw [show 2000 - (m2 + 1) + m2 + 1 = 2000 by omega] at h92
          show facF b E tk i cs.reverse o1 = .inr q.1
          unfold facF
          rw [if_neg c3, h9]
          show (if zK b E j = 60 ∨ zK b E j = 62 ∨ zK b E j = 61 then _ else _) = _
          rw [if_pos c4, h92]
        | inl q =>
          obtain ⟨j2, cs2, o2⟩ := q
          rw [hr2] at hs2
          obtain ⟨ho2, ⟨hL2, hzj2, hlen2⟩, ns2, hcs2, hT2, m2, hm2, hf2⟩ := hs2
          simp only at ho2 hL2 hzj2 hlen2 hcs2 hm2 hf2
          subst ho2
          subst hcs2
          have hzj2' := zP_rng b E j2
          have h92 := hf2 (2000 - (m2 + 1))
          rw [show 2000 - (m2 + 1) + m2 + 1 = 2000 by omega] at h92
          have hl2 := smF_len _ _ _ _ _ _ rfl h92
          simp only [List.length_reverse, List.length_nil] at hl2
          rw [adS_ok (by omega)]
          refine ⟨rfl, ⟨by show i + 1 ≤ j2; omega, hzj2, ?_⟩, ns ++ (ns2 ++ [opc (zK b E j)]), ?_, ?_, ?_⟩
          · show ((cs ++ ns ++ ns2) ++ [_]).length + p ≤ j2
            rw [List.length_append, List.length_singleton]; omega
          · simp only [List.append_assoc]
          · intro ts hts
            rw [tyR_app ns ts _ _ (hT ts (by omega)), tyR_app ns2 _ _ _ (hT2 _ (by simp only [List.length_cons]; omega))]
            exact tyR_1 (ty2_cmp hop.2) (by simp only [List.length_cons]; omega)
          · show facF b E tk i cs.reverse o2 = .inl (j2, (cs ++ (ns ++ (ns2 ++ [opc (zK b E j)]))).reverse)
            unfold facF
            rw [if_neg c3, h9]
            show (if zK b E j = 60 ∨ zK b E j = 62 ∨ zK b E j = 61 then _ else _) = _
            rw [if_pos c4, h92, hop.1]
            rw [show cs ++ (ns ++ (ns2 ++ [(if zK b E j = 60 then (7 : Int) else if zK b E j = 62 then 8 else 9)])) = (cs ++ ns ++ ns2) ++ [(if zK b E j = 60 then (7 : Int) else if zK b E j = 62 then 8 else 9)] by simp only [List.append_assoc], List.reverse_append (bs := [_])]
            rfl
      · have c4' : ¬ (kdS b E (.inl (j, cs ++ ns, o1)) = 60 ∨ kdS b E (.inl (j, cs ++ ns, o1)) = 62 ∨ kdS b E (.inl (j, cs ++ ns, o1)) = 61) := c4
        rw [if_neg c4']
        show RS b E cs o1 (i + 1) p _ _ (adS (opc (zK b E j)) (sumB b E (partX b E tk n) (.inr ((1, (zP b E j : Int)), o1))))
        rw [sumB_r (partX_r n)]
        show facF b E tk i cs.reverse o1 = .inr (1, (zP b E j : Int))
        unfold facF
        rw [if_neg c3, h9]
        show (if zK b E j = 60 ∨ zK b E j = 62 ∨ zK b E j = 61 then _ else _) = _
        rw [if_neg c4]
def HS (b : Nat → Int) (E : Nat) (tk : Int) (f i : Nat) (rc ws : List Int) (o : Int) : (Nat × List Int) ⊕ (Int × Int) :=
  match ggF b E 2000 i rc ws o with
  | .inr e => .inr e
  | .inl g => if g.1 = 0 then .inl (g.2.1, daF g.2.2.1 g.2.2.2.1) else tsF b E tk f g.2.1 g.2.2.1 g.2.2.2.1 g.2.2.2.2
theorem tsF_HS {b : Nat → Int} {E : Nat} {tk : Int} {f i : Nat} {rc ws : List Int} {o : Int} {q : Nat × List Int} (h1 : ¬ zK b E i = 91) (h2 : ¬ zK b E i = 151) (h : facF b E tk i rc o = .inl q) : tsF b E tk (f + 1) i rc ws o = HS b E tk f q.1 (dnF q.2 ws o).1 (dnF q.2 ws o).2.1 (dnF q.2 ws o).2.2 := by
  simp only [tsF, if_neg h1, if_neg h2, h]
  rfl
theorem tsF_91 {b : Nat → Int} {E : Nat} {tk : Int} {f i : Nat} {rc ws : List Int} {o : Int} (h1 : zK b E i = 91) : tsF b E tk (f + 1) i rc ws o = if o = 6 then .inr (4, (zP b E i : Int)) else tsF b E tk f (i + 1) rc (25 :: ws) (o + 1) := by
  simp only [tsF, if_pos h1]
theorem tsF_151 {b : Nat → Int} {E : Nat} {tk : Int} {f i : Nat} {rc ws : List Int} {o : Int} (h1 : zK b E i = 151) : tsF b E tk (f + 1) i rc ws o = if o = 6 then .inr (4, (zP b E i : Int)) else tsF b E tk f (i + 1) rc (12 :: ws) (o + 1) := by
  have h0 : ¬ zK b E i = 91 := by omega
  simp only [tsF, if_neg h0, if_pos h1]
theorem drF_le (p : Int → Bool) : ∀ (ws rc : List Int), (drF p rc ws).2.length ≤ ws.length
  | [], _ => Nat.le_refl _
  | w :: t, rc => by
    unfold drF
    split
    · have := drF_le p t (w :: rc)
      simp only [List.length_cons]; omega
    · exact Nat.le_refl _
theorem dnF_le : ∀ (ws rc : List Int) (o : Int), (dnF rc ws o).2.1.length ≤ ws.length
  | [], _, _ => Nat.le_refl _
  | w :: t, rc, o => by
    unfold dnF
    split
    · have := dnF_le t (w :: rc) (o - 1)
      simp only [List.length_cons]; omega
    · exact Nat.le_refl _
theorem gcE_lt {rc ws : List Int} {o : Int} (h : hsq ws = true) : (gcE rc ws o).2.1.length + 1 ≤ ws.length := by
  have h1 := hsq_at ws rc h
  have h2 := drF_le pS ws rc
  have h3 : (drF pS rc ws).2.length = (drF pS rc ws).2.tail.length + 1 := by rw [h1]; simp
  have h4 := dnF_le (drF pS rc ws).2.tail (drF pS rc ws).1 (o - 1)
  show (dnF (drF pS rc ws).1 (drF pS rc ws).2.tail (o - 1)).2.1.length + 1 ≤ ws.length
  omega
theorem gcF_S {b : Nat → Int} {E : Nat} (f i : Nat) (rc ws : List Int) (o : Int) : gcF b E (f + 1) i rc ws o = if zK b E i = 93 ∧ hsq ws = true then gcF b E f (i + 1) (gcE rc ws o).1 (gcE rc ws o).2.1 (gcE rc ws o).2.2 else (i, rc, ws, o) := rfl
theorem gcF_fu {b : Nat → Int} {E : Nat} : ∀ (f g i : Nat) (rc ws : List Int) (o : Int), ws.length ≤ f → ws.length ≤ g → gcF b E f i rc ws o = gcF b E g i rc ws o
  | 0, 0, i, rc, ws, o, hf, hg => rfl
  | 0, g + 1, i, rc, ws, o, hf, hg => by
    have : ws = [] := List.eq_nil_of_length_eq_zero (by omega)
    subst this
    rw [gcF_S, if_neg (fun h => absurd h.2 (by decide))]; rfl
  | f + 1, 0, i, rc, ws, o, hf, hg => by
    have : ws = [] := List.eq_nil_of_length_eq_zero (by omega)
    subst this
    rw [gcF_S, if_neg (fun h => absurd h.2 (by decide))]; rfl
  | f + 1, g + 1, i, rc, ws, o, hf, hg => by
    rw [gcF_S, gcF_S]
    split
    · rename_i h
      have := gcE_lt (rc := rc) (o := o) h.2
      exact gcF_fu f g _ _ _ _ (by omega) (by omega)
    · rfl
theorem HS_cl {b : Nat → Int} {E : Nat} {tk : Int} {f i : Nat} {rc ws : List Int} {o : Int} (hl : ws.length ≤ 1999) (h1 : zK b E i = 93) (h2 : hsq ws = true) : HS b E tk f i rc ws o = HS b E tk f (i + 1) (gcE rc ws o).1 (gcE rc ws o).2.1 (gcE rc ws o).2.2 := by
  have h3 := gcE_lt (rc := rc) (o := o) h2
  have h4 : gcF b E 2000 i rc ws o = gcF b E 2000 (i + 1) (gcE rc ws o).1 (gcE rc ws o).2.1 (gcE rc ws o).2.2 := by
    have : gcF b E (1999 + 1) i rc ws o = gcF b E 1999 (i + 1) (gcE rc ws o).1 (gcE rc ws o).2.1 (gcE rc ws o).2.2 := by
      rw [gcF_S, if_pos ⟨h1, h2⟩]
    exact this.trans (gcF_fu 1999 2000 _ _ _ _ (by omega) (by omega))
  unfold HS ggF
  rw [h4]
theorem HS_gt {b : Nat → Int} {E : Nat} {tk : Int} {f i : Nat} {rc ws : List Int} {o : Int} (h : ¬ (zK b E i = 93 ∧ hsq ws = true)) : HS b E tk f i rc ws o = (match gxF b E i rc ws o with
  | .inr e => .inr e
  | .inl g => if g.1 = 0 then .inl (g.2.1, daF g.2.2.1 g.2.2.2.1) else tsF b E tk f g.2.1 g.2.2.1 g.2.2.2.1 g.2.2.2.2) := by
  have h4 : gcF b E (1999 + 1) i rc ws o = (i, rc, ws, o) := by
    rw [gcF_S, if_neg h]
  have h5 : gcF b E 2000 i rc ws o = (i, rc, ws, o) := h4
  unfold HS ggF
  rw [h5]
def mT (mm : List Int) : Prop := mm = [] ∨ mm = [10]
def aT (w : Int) (aa : List Int) : Prop := (w = 0 ∧ aa = []) ∨ (w = 1 ∧ aa = [11])
def limT (ws : List Int) : Prop := ws = [] ∨ ∃ t, ws = 25 :: t
theorem drA {mm aa ws : List Int} {w : Int} (hm : mT mm) (ha : aT w aa) (hl : limT ws) (rc : List Int) : drF pA rc (mm ++ (aa ++ ws)) = (mm ++ rc, aa ++ ws) := by
  rcases hm with rfl | rfl <;> rcases ha with ⟨_, rfl⟩ | ⟨_, rfl⟩ <;> rcases hl with rfl | ⟨t, rfl⟩ <;> simp [drF, pA]
theorem drO {mm aa ws : List Int} {w : Int} (hm : mT mm) (ha : aT w aa) (hl : limT ws) (rc : List Int) : drF pO rc (mm ++ (aa ++ ws)) = (aa ++ (mm ++ rc), ws) := by
  rcases hm with rfl | rfl <;> rcases ha with ⟨_, rfl⟩ | ⟨_, rfl⟩ <;> rcases hl with rfl | ⟨t, rfl⟩ <;> simp [drF, pO]
theorem drS {mm aa ws : List Int} {w : Int} (hm : mT mm) (ha : aT w aa) (rc : List Int) : drF pS rc (mm ++ (aa ++ (25 :: ws))) = (aa ++ (mm ++ rc), 25 :: ws) := by
  rcases hm with rfl | rfl <;> rcases ha with ⟨_, rfl⟩ | ⟨_, rfl⟩ <;> simp [drF, pS]
theorem hsq_pd {mm aa : List Int} {w : Int} (hm : mT mm) (ha : aT w aa) (ws : List Int) : hsq (mm ++ (aa ++ ws)) = hsq ws := by
  rcases hm with rfl | rfl <;> rcases ha with ⟨_, rfl⟩ | ⟨_, rfl⟩ <;> simp [hsq]
theorem daF_pt {mm aa : List Int} {w : Int} (hm : mT mm) (ha : aT w aa) (rc : List Int) : daF rc (mm ++ aa) = aa ++ (mm ++ rc) := by
  rcases hm with rfl | rfl <;> rcases ha with ⟨_, rfl⟩ | ⟨_, rfl⟩ <;> simp [daF]
theorem HS_and {b : Nat → Int} {E : Nat} {tk : Int} {f j : Nat} {rc mm aa ws : List Int} {o w : Int} (hm : mT mm) (ha : aT w aa) (hl : limT ws) (h : zK b E j = 150) : HS b E tk f j rc (mm ++ (aa ++ ws)) o = tsF b E tk f (j + 1) (mm ++ rc) (10 :: (aa ++ ws)) o := by
  rw [HS_gt (by omega)]
  have e : gxF b E j rc (mm ++ (aa ++ ws)) o = .inl (1, j + 1, mm ++ rc, 10 :: (aa ++ ws), o) := by
    unfold gxF
    rw [if_pos h, drA hm ha hl]
  rw [e]
  rfl
theorem HS_or {b : Nat → Int} {E : Nat} {tk : Int} {f j : Nat} {rc mm aa ws : List Int} {o w : Int} (hm : mT mm) (ha : aT w aa) (hl : limT ws) (h : zK b E j = 149) : HS b E tk f j rc (mm ++ (aa ++ ws)) o = tsF b E tk f (j + 1) (aa ++ (mm ++ rc)) (11 :: ws) o := by
  rw [HS_gt (by omega)]
  have e : gxF b E j rc (mm ++ (aa ++ ws)) o = .inl (1, j + 1, aa ++ (mm ++ rc), 11 :: ws, o) := by
    unfold gxF
    rw [if_neg (by omega), if_pos h, drO hm ha hl]
  rw [e]
  rfl
def noT (k : Int) : Prop := ¬ k = 150 ∧ ¬ k = 149
theorem HS_93 {b : Nat → Int} {E : Nat} {tk : Int} {f j : Nat} {rc mm aa ws : List Int} {o w : Int} (hm : mT mm) (ha : aT w aa) (h : zK b E j = 93) (hl : ws.length ≤ 1990) : HS b E tk f j rc (mm ++ (aa ++ (25 :: ws))) (o + 1) = HS b E tk f (j + 1) (dnF (aa ++ (mm ++ rc)) ws o).1 (dnF (aa ++ (mm ++ rc)) ws o).2.1 (dnF (aa ++ (mm ++ rc)) ws o).2.2 := by
  have hb : hsq (mm ++ (aa ++ (25 :: ws))) = true := by rw [hsq_pd hm ha]; rfl
  have hlm : mm.length ≤ 1 := by rcases hm with rfl | rfl <;> simp
  have hla : aa.length ≤ 1 := by rcases ha with ⟨_, rfl⟩ | ⟨_, rfl⟩ <;> simp
  rw [HS_cl (by simp only [List.length_append, List.length_cons]; omega) h hb]
  have hc : gcE rc (mm ++ (aa ++ (25 :: ws))) (o + 1) = dnF (aa ++ (mm ++ rc)) ws o := by
    unfold gcE
    rw [drS hm ha]
    rw [show o + 1 - 1 = o by omega]
    rfl
  rw [hc]
theorem HS_bad {b : Nat → Int} {E : Nat} {tk : Int} {f j : Nat} {rc mm aa ws : List Int} {o w : Int} (hm : mT mm) (ha : aT w aa) (hs : noT (zK b E j)) (h : ¬ zK b E j = 93) : HS b E tk f j rc (mm ++ (aa ++ (25 :: ws))) o = .inr (1, (zP b E j : Int)) := by
  have hb : hsq (mm ++ (aa ++ (25 :: ws))) = true := by rw [hsq_pd hm ha]; rfl
  rw [HS_gt (fun h2 => h h2.1)]
  unfold gxF
  rw [if_neg hs.1, if_neg hs.2, if_pos hb]
def FCT (b : Nat → Int) (E : Nat) (tk : Int) (n : Nat) (F : SX → SX) : Prop := ∀ (i : Nat) (cs : List Int) (o : Int) (ws : List Int), o + (n : Int) = 6 → 0 ≤ o → cs.length + ws.length ≤ i → i ≤ zP b E i →
  RS b E cs o (i + 1) ws.length
    (fun j ns => TY tk (3 * n + 4) ns true ∧ ∃ m, m + 1 + i ≤ j ∧ ∀ f, tsF b E tk (f + m + 1) i cs.reverse ws o = HS b E tk f j (dnF (cs ++ ns).reverse ws o).1 (dnF (cs ++ ns).reverse ws o).2.1 (dnF (cs ++ ns).reverse ws o).2.2)
    (fun e => ∃ m, m + i ≤ 1600 ∧ ∀ f, tsF b E tk (f + m + 1) i cs.reverse ws o = .inr e) (F (.inl (i, cs, o)))
def TST (b : Nat → Int) (E : Nat) (tk : Int) (n : Nat) (S : SX → SX) : Prop := ∀ (i : Nat) (cs : List Int) (o : Int) (ws : List Int), o + (n : Int) = 6 → 0 ≤ o → limT ws → cs.length + ws.length ≤ i → i ≤ zP b E i →
  RS b E cs o (i + 1) ws.length
    (fun j ns => TY tk (3 * n + 6) ns true ∧ noT (zK b E j) ∧ ∃ mm aa w rc, mT mm ∧ aT w aa ∧ (cs ++ ns).reverse = aa ++ (mm ++ rc) ∧ ∃ m, m + 1 + i ≤ j ∧ ∀ f, tsF b E tk (f + m + 1) i cs.reverse ws o = HS b E tk f j rc (mm ++ (aa ++ ws)) o)
    (fun e => ∃ m, m + i ≤ 1600 ∧ ∀ f, tsF b E tk (f + m + 1) i cs.reverse ws o = .inr e) (S (.inl (i, cs, o)))
def LTT (b : Nat → Int) (E : Nat) (tk : Int) (n : Nat) (cs0 : List Int) (o : Int) (j : Nat) (rc mm aa ws : List Int) : SX → Prop :=
  RS b E cs0 o j ws.length
    (fun j' ns' => TY tk (3 * n + 6) ns' true ∧ noT (zK b E j') ∧ ∃ mm' aa' w' rc', mT mm' ∧ aT w' aa' ∧ (cs0 ++ ns').reverse = aa' ++ (mm' ++ rc') ∧ ∃ m, m + j ≤ j' ∧ ∀ f, HS b E tk (f + m) j rc (mm ++ (aa ++ ws)) o = HS b E tk f j' rc' (mm' ++ (aa' ++ ws)) o)
    (fun e => ∃ m, m + j ≤ 1600 ∧ ∀ f, HS b E tk (f + m) j rc (mm ++ (aa ++ ws)) o = .inr e)
theorem LTT.on {b : Nat → Int} {E : Nat} {tk : Int} {n : Nat} {cs0 : List Int} {o : Int} {j j1 m1 : Nat} {rc mm aa ws rc1 mm1 aa1 : List Int} {s : SX} (h : LTT b E tk n cs0 o j1 rc1 mm1 aa1 ws s) (hm : m1 + j ≤ j1) (hE : ∀ f, HS b E tk (f + m1) j rc (mm ++ (aa ++ ws)) o = HS b E tk f j1 rc1 (mm1 ++ (aa1 ++ ws)) o) : LTT b E tk n cs0 o j rc mm aa ws s := by
  cases s with
  | inl q =>
    obtain ⟨h1, h2, ns, h3, h4, h5, mm', aa', w', rc', h6, h7, h8, m, h9, h10⟩ := h
    refine ⟨h1, ⟨by omega, h2.2⟩, ns, h3, h4, h5, mm', aa', w', rc', h6, h7, h8, m + m1, by omega, fun f => ?_⟩
    rw [show f + (m + m1) = (f + m) + m1 by omega, hE, h10]
  | inr q =>
    obtain ⟨m, h9, h10⟩ := h
    refine ⟨m + m1, by omega, fun f => ?_⟩
    rw [show f + (m + m1) = (f + m) + m1 by omega, hE, h10]
theorem tsL_r {b : Nat → Int} {E : Nat} {F : SX → SX} (f : Nat) (w : Int) (q : (Int × Int) × Int) : tsL b E F f w (.inr q) = .inr q := by
  cases f with
  | zero => simp only [tsL, adS]; split <;> rfl
  | succ f =>
    have hk : kdS b E (.inr q) = 6 := rfl
    unfold tsL
    rw [if_neg (by omega), if_neg (by omega)]
    split <;> rfl
theorem aT_st {w : Int} {aa cs : List Int} {i : Nat} {o : Int} (h : aT w aa) (hl : cs.length + aa.length ≤ 1600) : (if w = 0 then (.inl (i, cs, o) : SX) else adS 11 (.inl (i, cs, o))) = .inl (i, cs ++ aa, o) := by
  rcases h with ⟨rfl, rfl⟩ | ⟨rfl, rfl⟩
  · rw [if_pos rfl, List.append_nil]
  · rw [if_neg (by decide), adS_ok (by simp only [List.length_cons, List.length_nil] at hl; omega)]
theorem aT_rev {w : Int} {aa : List Int} (h : aT w aa) : aa.reverse = aa ∧ aa.length ≤ 1 := by
  rcases h with ⟨rfl, rfl⟩ | ⟨rfl, rfl⟩
  · exact ⟨rfl, by simp⟩
  · exact ⟨rfl, by simp⟩
theorem aT_ty {tk w : Int} {aa ns : List Int} {D : Nat} (h : aT w aa) (hT : ∀ ts, ts.length + D ≤ 60 → tyR tk ts ns = some (if w = 0 then true :: ts else true :: true :: ts)) (hD : 1 ≤ D) : TY tk D (ns ++ aa) true := by
  intro ts hts
  rw [tyR_app ns ts _ aa (hT ts hts)]
  rcases h with ⟨rfl, rfl⟩ | ⟨rfl, rfl⟩
  · rfl
  · exact tyR_1 (ty2_ao (Or.inr rfl)) (by simp only [List.length_cons]; omega)
theorem dnF_lo {rc t : List Int} {x o : Int} (h : ¬ x = 12) : dnF rc (x :: t) o = (rc, x :: t, o) := by
  unfold dnF
  rw [if_neg h]
theorem ts_loop {b : Nat → Int} {E : Nat} {tk : Int} {n : Nat} {F : SX → SX} (hE : E ≤ 1600) (hP : FCT b E tk n F) : ∀ (fu : Nat) (w : Int) (j : Nat) (cs0 ns : List Int) (o : Int) (mm aa rc ws : List Int), o + (n : Int) = 6 → 0 ≤ o → mT mm → aT w aa → limT ws → (cs0 ++ ns).reverse = mm ++ rc → (cs0 ++ ns).length + aa.length + ws.length ≤ j → j ≤ zP b E j → 1600 < fu + j → (∀ ts, ts.length + (3 * n + 6) ≤ 60 → tyR tk ts ns = some (if w = 0 then true :: ts else true :: true :: ts)) → LTT b E tk n cs0 o j rc mm aa ws (tsL b E F fu w (.inl (j, cs0 ++ ns, o)))
  | 0, w, j, cs0, ns, o, mm, aa, rc, ws, ho, h0, hm, ha, hl, hrv, hln, hj, hfu, hT => by
    have := zP_rng b E j
    omega
  | fu + 1, w, j, cs0, ns, o, mm, aa, rc, ws, ho, h0, hm, ha, hl, hrv, hln, hj, hfu, hT => by
    have hz := zP_rng b E j
    have hal := aT_rev ha
    by_cases h1 : zK b E j = 150
    · have h1' : kdS b E (.inl (j, cs0 ++ ns, o)) = 150 := h1
      have e : tsL b E F (fu + 1) w (.inl (j, cs0 ++ ns, o)) = tsL b E F fu w (adS 10 (F (.inl (j + 1, cs0 ++ ns, o)))) := by
        conv => lhs; unfold tsL
        rw [if_pos h1']; rfl
      rw [e]
      have hp := hP (j + 1) (cs0 ++ ns) o (10 :: (aa ++ ws)) ho h0 (by simp only [List.length_cons, List.length_append] at hln ⊢; omega) (zP_on (by omega) hj)
      cases hs : F (.inl (j + 1, cs0 ++ ns, o)) with
      | inr q =>
        rw [hs] at hp
        obtain ⟨m, hm2, hf⟩ := hp
        show LTT b E tk n cs0 o j rc mm aa ws (tsL b E F fu w (.inr q))
        rw [tsL_r]
        exact ⟨m + 1, by omega, fun f => by rw [show f + (m + 1) = f + m + 1 by omega, HS_and hm ha hl h1, ← hrv, hf]⟩
      | inl q =>
        obtain ⟨j1, cs1, o1⟩ := q
        rw [hs] at hp
        obtain ⟨ho1, ⟨hL, hz1, hlen⟩, pn, hcs, hTp, m, hm2, hf⟩ := hp
        simp only at ho1 hL hz1 hlen hcs hm2 hf
        subst ho1
        subst hcs
        have hz2 := zP_rng b E j1
        simp only [List.length_cons, List.length_append] at hlen
        rw [adS_ok (by simp only [List.length_append]; omega)]
        have eq1 : (cs0 ++ ns ++ pn) ++ [10] = cs0 ++ (ns ++ (pn ++ [10])) := by simp only [List.append_assoc]
        rw [eq1]
        have IH := ts_loop hE hP fu w j1 cs0 (ns ++ (pn ++ [10])) o1 [10] aa (cs0 ++ ns ++ pn).reverse ws ho h0 (Or.inr rfl) ha hl (by rw [← eq1, List.reverse_append]; rfl) (by simp only [List.length_cons, List.length_append, List.length_nil]; omega) hz1 (by omega) (by
          intro ts hts
          rw [tyR_app ns ts _ _ (hT ts hts), tyR_app pn _ _ _ (hTp _ (by split <;> simp only [List.length_cons] <;> omega))]
          split
          · exact tyR_1 (ty2_ao (Or.inl rfl)) (by simp only [List.length_cons]; omega)
          · exact tyR_1 (ty2_ao (Or.inl rfl)) (by simp only [List.length_cons]; omega))
        refine IH.on (m1 := m + 1) (by omega) (fun f => ?_)
        rw [show f + (m + 1) = f + m + 1 by omega, HS_and hm ha hl h1, ← hrv, hf, dnF_lo (by decide)]
        rfl
    · have h1' : ¬ kdS b E (.inl (j, cs0 ++ ns, o)) = 150 := h1
      by_cases h2 : zK b E j = 149
      · have h2' : kdS b E (.inl (j, cs0 ++ ns, o)) = 149 := h2
        have e : tsL b E F (fu + 1) w (.inl (j, cs0 ++ ns, o)) = tsL b E F fu 1 (F (.inl (j + 1, (cs0 ++ ns) ++ aa, o))) := by
          conv => lhs; unfold tsL
          rw [if_neg h1', if_pos h2']
          rw [← aT_st ha (by omega)]; rfl
        rw [e]
        have hp := hP (j + 1) ((cs0 ++ ns) ++ aa) o (11 :: ws) ho h0 (by simp only [List.length_cons, List.length_append] at hln ⊢; omega) (zP_on (by omega) hj)
        have hrv2 : ((cs0 ++ ns) ++ aa).reverse = aa ++ (mm ++ rc) := by rw [List.reverse_append, hrv, hal.1]
        cases hs : F (.inl (j + 1, (cs0 ++ ns) ++ aa, o)) with
        | inr q =>
          rw [hs] at hp
          obtain ⟨m, hm2, hf⟩ := hp
          rw [tsL_r]
          exact ⟨m + 1, by omega, fun f => by rw [show f + (m + 1) = f + m + 1 by omega, HS_or hm ha hl h2, ← hrv2, hf]⟩
        | inl q =>
          obtain ⟨j1, cs1, o1⟩ := q
          rw [hs] at hp
          obtain ⟨ho1, ⟨hL, hz1, hlen⟩, pn, hcs, hTp, m, hm2, hf⟩ := hp
          simp only at ho1 hL hz1 hlen hcs hm2 hf
          subst ho1
          subst hcs
          have hz2 := zP_rng b E j1
          simp only [List.length_cons, List.length_append] at hlen
          have eq1 : ((cs0 ++ ns) ++ aa) ++ pn = cs0 ++ ((ns ++ aa) ++ pn) := by simp only [List.append_assoc]
          have IH := ts_loop hE hP fu 1 j1 cs0 ((ns ++ aa) ++ pn) o1 [] [11] (cs0 ++ ((ns ++ aa) ++ pn)).reverse ws ho h0 (Or.inl rfl) (Or.inr ⟨rfl, rfl⟩) hl rfl (by simp only [List.length_cons, List.length_append, List.length_nil]; omega) hz1 (by omega) (by
            intro ts hts
            rw [tyR_app (ns ++ aa) ts _ _ (aT_ty ha hT (by omega) ts hts), if_neg (by omega)]
            exact hTp _ (by simp only [List.length_cons]; omega))
          rw [← eq1] at IH
          refine IH.on (m1 := m + 1) (by omega) (fun f => ?_)
          rw [show f + (m + 1) = f + m + 1 by omega, HS_or hm ha hl h2, ← hrv2, hf, dnF_lo (by decide)]
          rfl
      · have h2' : ¬ kdS b E (.inl (j, cs0 ++ ns, o)) = 149 := h2
        have e : tsL b E F (fu + 1) w (.inl (j, cs0 ++ ns, o)) = .inl (j, (cs0 ++ ns) ++ aa, o) := by
          conv => lhs; unfold tsL
          rw [if_neg h1', if_neg h2', aT_st ha (by omega)]
        rw [e]
        refine ⟨rfl, ⟨Nat.le_refl _, hj, ?_⟩, ns ++ aa, ?_, aT_ty ha hT (by omega), ⟨h1, h2⟩, mm, aa, w, rc, hm, ha, ?_, 0, by omega, fun f => rfl⟩
        · show ((cs0 ++ ns) ++ aa).length + ws.length ≤ j
          rw [List.length_append]; omega
        · simp only [List.append_assoc]
        · rw [← List.append_assoc, List.reverse_append, hrv, hal.1]
theorem TST_of {b : Nat → Int} {E : Nat} {tk : Int} {n : Nat} {F : SX → SX} (hE : E ≤ 1600) (hP : FCT b E tk n F) : TST b E tk n (testB b E F) := by
  intro i cs o ws ho h0 hl hln hi
  have hp := hP i cs o ws ho h0 hln hi
  unfold testB
  cases hs : F (.inl (i, cs, o)) with
  | inr q =>
    rw [hs] at hp
    rw [tsL_r]
    exact hp
  | inl q =>
    obtain ⟨j1, cs1, o1⟩ := q
    rw [hs] at hp
    obtain ⟨ho1, ⟨hL, hz1, hlen⟩, pn, hcs, hTp, m, hm2, hf⟩ := hp
    simp only at ho1 hL hz1 hlen hcs hm2 hf
    subst ho1
    subst hcs
    have hen : dnF (cs ++ pn).reverse ws o1 = ((cs ++ pn).reverse, ws, o1) := by
      rcases hl with rfl | ⟨t, rfl⟩
      · rfl
      · exact dnF_lo (by decide)
    have IH := ts_loop hE hP 1600 0 j1 cs pn o1 [] [] (cs ++ pn).reverse ws ho h0 (Or.inl rfl) (Or.inl ⟨rfl, rfl⟩) hl rfl (by simp only [List.length_nil]; omega) hz1 (by omega) (fun ts hts => by rw [if_pos rfl]; exact hTp ts (by omega))
    cases hs2 : tsL b E F 1600 0 (.inl (j1, cs ++ pn, o1)) with
    | inr q =>
      rw [hs2] at IH
      obtain ⟨m2, h3, h4⟩ := IH
      refine ⟨m2 + m, by omega, fun f => ?_⟩
      rw [show f + (m2 + m) + 1 = (f + m2) + m + 1 by omega, hf, hen]
      exact h4 f
    | inl q =>
      rw [hs2] at IH
      obtain ⟨h1, h2, ns, h3, h4, h5, mm', aa', w', rc', h6, h7, h8, m2, h9, h10⟩ := IH
      refine ⟨h1, ⟨by omega, h2.2⟩, ns, h3, h4, h5, mm', aa', w', rc', h6, h7, h8, m2 + m, by omega, fun f => ?_⟩
      rw [show f + (m2 + m) + 1 = (f + m2) + m + 1 by omega, hf, hen]
      exact h10 f
theorem FCT_lf {b : Nat → Int} {E : Nat} {tk : Int} {n i : Nat} {cs ws : List Int} {o : Int} {Q : Option ((SX → SX) × (SX → SX))} (hE : E ≤ 1600) (htk : tk = 0 ∨ tk = 1 ∨ tk = 2) (ho : o + (n : Int) = 6) (h0 : 0 ≤ o) (hln : cs.length + ws.length ≤ i) (hi : i ≤ zP b E i) (c1 : ¬ zK b E i = 151) (c2 : ¬ zK b E i = 91) :
  RS b E cs o (i + 1) ws.length
    (fun j ns => TY tk (3 * n + 4) ns true ∧ ∃ m, m + 1 + i ≤ j ∧ ∀ f, tsF b E tk (f + m + 1) i cs.reverse ws o = HS b E tk f j (dnF (cs ++ ns).reverse ws o).1 (dnF (cs ++ ns).reverse ws o).2.1 (dnF (cs ++ ns).reverse ws o).2.2)
    (fun e => ∃ m, m + i ≤ 1600 ∧ ∀ f, tsF b E tk (f + m + 1) i cs.reverse ws o = .inr e) (factB b E Q (sumB b E (partX b E tk n)) (.inl (i, cs, o))) := by
  have hz := zP_rng b E i
  have hs := fac_eq (Q := Q) hE htk ho h0 hln hi c1 c2
  cases hr : factB b E Q (sumB b E (partX b E tk n)) (.inl (i, cs, o)) with
  | inr q =>
    rw [hr] at hs
    exact ⟨0, by omega, fun f => tsF_bad1 c2 c1 hs⟩
  | inl q =>
    rw [hr] at hs
    obtain ⟨ho1, hL, ns, hcs, hT, hf⟩ := hs
    refine ⟨ho1, hL, ns, hcs, hT, 0, by omega, fun f => ?_⟩
    have e9 := tsF_HS (f := f + 0) (ws := ws) c2 c1 hf
    exact e9
theorem FCT_0 {b : Nat → Int} {E : Nat} {tk : Int} (hE : E ≤ 1600) (htk : tk = 0 ∨ tk = 1 ∨ tk = 2) : FCT b E tk 0 (factB b E none (sumB b E (partX b E tk 0))) := by
  intro i cs o ws ho h0 hln hi
  have hz := zP_rng b E i
  have ho6 : o = 6 := by omega
  by_cases c1 : zK b E i = 151
  · have c1' : kdS b E (.inl (i, cs, o)) = 151 := c1
    have e : factB b E none (sumB b E (partX b E tk 0)) (.inl (i, cs, o)) = .inr ((4, (zP b E i : Int)), o) := by
      unfold factB; rw [if_pos c1']; rfl
    rw [e]
    exact ⟨0, by omega, fun f => (tsF_151 c1).trans (if_pos ho6)⟩
  · have c1' : ¬ kdS b E (.inl (i, cs, o)) = 151 := c1
    by_cases c2 : zK b E i = 91
    · have c2' : kdS b E (.inl (i, cs, o)) = 91 := c2
      have e : factB b E none (sumB b E (partX b E tk 0)) (.inl (i, cs, o)) = .inr ((4, (zP b E i : Int)), o) := by
        unfold factB; rw [if_neg c1', if_pos c2']; rfl
      rw [e]
      exact ⟨0, by omega, fun f => (tsF_91 c2).trans (if_pos ho6)⟩
    · exact FCT_lf hE htk ho h0 hln hi c1 c2
theorem FCT_S {b : Nat → Int} {E : Nat} {tk : Int} {n : Nat} {F : SX → SX} (hE : E ≤ 1600) (htk : tk = 0 ∨ tk = 1 ∨ tk = 2) (hP : FCT b E tk n F) : FCT b E tk (n + 1) (factB b E (some (F, testB b E F)) (sumB b E (partX b E tk (n + 1)))) := by
  intro i cs o ws ho h0 hln hi
  have hz := zP_rng b E i
  have ho6 : ¬ o = 6 := by omega
  by_cases c1 : zK b E i = 151
  · have c1' : kdS b E (.inl (i, cs, o)) = 151 := c1
    have e : factB b E (some (F, testB b E F)) (sumB b E (partX b E tk (n + 1))) (.inl (i, cs, o)) = ocS (-1) (adS 12 (F (.inl (i + 1, cs, o + 1)))) := by
      unfold factB; rw [if_pos c1']; rfl
    rw [e]
    have hst : ∀ f, tsF b E tk (f + 1) i cs.reverse ws o = tsF b E tk f (i + 1) cs.reverse (12 :: ws) (o + 1) := fun f => (tsF_151 c1).trans (if_neg ho6)
    have hs := hP (i + 1) cs (o + 1) (12 :: ws) (by omega) (by omega) (by simp only [List.length_cons]; omega) (zP_on (by omega) hi)
    cases hr : F (.inl (i + 1, cs, o + 1)) with
    | inr q =>
      rw [hr] at hs
      obtain ⟨m, hm, hf⟩ := hs
      exact ⟨m + 1, by omega, fun f => by rw [show f + (m + 1) + 1 = (f + m + 1) + 1 by omega, hst, hf]⟩
    | inl q =>
      obtain ⟨j, cs1, o1⟩ := q
      rw [hr] at hs
      obtain ⟨ho1, ⟨hL, hzj1, hlen⟩, ns, hcs, hT, m, hm, hf⟩ := hs
      simp only at ho1 hL hzj1 hlen hcs hm hf
      subst ho1
      subst hcs
      have hzj := zP_rng b E j
      simp only [List.length_cons] at hlen
      have e2 : ocS (-1) (adS 12 (.inl (j, cs ++ ns, o + 1))) = .inl (j, (cs ++ ns) ++ [12], o + 1 + -1) := by rw [adS_ok (by omega)]; rfl
      rw [e2]
      refine ⟨(by omega : o + 1 + -1 = o), ⟨by show i + 1 ≤ j; omega, hzj1, ?_⟩, ns ++ [12], ?_, ?_, m + 1, by show m + 1 + 1 + i ≤ j; omega, fun f => ?_⟩
      · show ((cs ++ ns) ++ [12]).length + ws.length ≤ j
        rw [List.length_append, List.length_singleton]; omega
      · simp only [List.append_assoc]
      · intro ts hts
        rw [tyR_app ns ts _ _ (hT ts (by omega))]
        exact tyR_1 ty2_not (by simp only [List.length_cons]; omega)
      · have en : dnF (cs ++ ns).reverse (12 :: ws) (o + 1) = dnF (cs ++ (ns ++ [12])).reverse ws o := by
          rw [show cs ++ (ns ++ [12]) = (cs ++ ns) ++ [12] by simp only [List.append_assoc], List.reverse_append (bs := [12])]
          conv => lhs; unfold dnF
          rw [if_pos rfl, show o + 1 - 1 = o by omega]; rfl
        rw [show f + (m + 1) + 1 = (f + m + 1) + 1 by omega, hst, hf, en]
  · have c1' : ¬ kdS b E (.inl (i, cs, o)) = 151 := c1
    by_cases c2 : zK b E i = 91
    · have c2' : kdS b E (.inl (i, cs, o)) = 91 := c2
      have e : factB b E (some (F, testB b E F)) (sumB b E (partX b E tk (n + 1))) (.inl (i, cs, o)) = ocS (-1) (psK b E 93 (testB b E F (.inl (i + 1, cs, o + 1)))) := by
        unfold factB; rw [if_neg c1', if_pos c2']
        show ocS (-1) (psK b E 93 (testB b E F (ocS 1 (npS (.inl (i, cs, o)))))) = _
        rw [oc1]
      rw [e]
      have hst : ∀ f, tsF b E tk (f + 1) i cs.reverse ws o = tsF b E tk f (i + 1) cs.reverse (25 :: ws) (o + 1) := fun f => (tsF_91 c2).trans (if_neg ho6)
      have hs := TST_of hE hP (i + 1) cs (o + 1) (25 :: ws) (by omega) (by omega) (Or.inr ⟨ws, rfl⟩) (by simp only [List.length_cons]; omega) (zP_on (by omega) hi)
      cases hr : testB b E F (.inl (i + 1, cs, o + 1)) with
      | inr q =>
        rw [hr] at hs
        obtain ⟨m, hm, hf⟩ := hs
        have e2 : ocS (-1) (psK b E 93 (.inr q)) = .inr (q.1, q.2 + (-1)) := rfl
        rw [e2]
        exact ⟨m + 1, by omega, fun f => by rw [show f + (m + 1) + 1 = (f + m + 1) + 1 by omega, hst, hf]⟩
      | inl q =>
        obtain ⟨j, cs1, o1⟩ := q
        rw [hr] at hs
        obtain ⟨ho1, ⟨hL, hzj1, hlen⟩, ns, hcs, hT, hno, mm, aa, w, rc, hmm, haa, hrv, m, hm, hf⟩ := hs
        simp only at ho1 hL hzj1 hlen hcs hm hf hno
        subst ho1
        subst hcs
        have hzj := zP_rng b E j
        simp only [List.length_cons] at hlen
        by_cases c3 : zK b E j = 93
        · have c3' : kdS b E (.inl (j, cs ++ ns, o + 1)) = 93 := c3
          have e2 : ocS (-1) (psK b E 93 (.inl (j, cs ++ ns, o + 1))) = .inl (j + 1, cs ++ ns, o + 1 + -1) := by unfold psK; rw [if_pos c3']; rfl
          rw [e2]
          refine ⟨(by omega : o + 1 + -1 = o), ⟨by show i + 1 ≤ j + 1; omega, zP_on (by omega) hzj1, by show (cs ++ ns).length + ws.length ≤ j + 1; omega⟩, ns, rfl, hT.mono (by omega), m + 1, by show m + 1 + 1 + i ≤ j + 1; omega, fun f => ?_⟩
          rw [show f + (m + 1) + 1 = (f + m + 1) + 1 by omega, hst, hf, HS_93 hmm haa c3 (by omega), hrv]
        · have c3' : ¬ kdS b E (.inl (j, cs ++ ns, o + 1)) = 93 := c3
          have e2 : ocS (-1) (psK b E 93 (.inl (j, cs ++ ns, o + 1))) = .inr ((1, (zP b E j : Int)), o + 1 + -1) := by unfold psK; rw [if_neg c3']; rfl
          rw [e2]
          exact ⟨m + 1, by omega, fun f => by rw [show f + (m + 1) + 1 = (f + m + 1) + 1 by omega, hst, hf, HS_bad hmm haa hno c3]⟩
    · exact FCT_lf hE htk ho h0 hln hi c1 c2
theorem FCT_X {b : Nat → Int} {E : Nat} {tk : Int} (hE : E ≤ 1600) (htk : tk = 0 ∨ tk = 1 ∨ tk = 2) : ∀ n, FCT b E tk n (factX b E tk n)
  | 0 => FCT_0 hE htk
  | n + 1 => FCT_S hE htk (FCT_X hE htk n)
/-- a test at the bottom: the class reads it as the model does -/
theorem test_eq {b : Nat → Int} {E : Nat} {tk : Int} (hE : E ≤ 1600) (htk : tk = 0 ∨ tk = 1 ∨ tk = 2) (n i : Nat) (cs : List Int) (o : Int) (ho : o + (n : Int) = 6) (h0 : 0 ≤ o) (hln : cs.length ≤ i) (hi : i ≤ zP b E i) :
  RS b E cs o (i + 1) 0 (fun j ns => TY tk (3 * n + 6) ns true ∧ ∃ m, m + 1 + i ≤ j ∧ ∀ f, tsF b E tk (f + m + 1) i cs.reverse [] o = .inl (j, (cs ++ ns).reverse)) (fun e => ∃ m, m + i ≤ 1600 ∧ ∀ f, tsF b E tk (f + m + 1) i cs.reverse [] o = .inr e) (testB b E (factX b E tk n) (.inl (i, cs, o))) := by
  have hs := TST_of hE (FCT_X hE htk n) i cs o [] ho h0 (Or.inl rfl) hln hi
  cases hr : testB b E (factX b E tk n) (.inl (i, cs, o)) with
  | inr q => rw [hr] at hs; exact hs
  | inl q =>
    rw [hr] at hs
    obtain ⟨ho1, hL, ns, hcs, hT, hno, mm, aa, w, rc, hmm, haa, hrv, m, hm, hf⟩ := hs
    refine ⟨ho1, hL, ns, hcs, hT, m, hm, fun f => ?_⟩
    have hb : hsq (mm ++ (aa ++ [])) = false := hsq_pd hmm haa []
    rw [hf, HS_gt (by rw [hb]; exact fun h => absurd h.2 (by decide))]
    have e : gxF b E q.1 rc (mm ++ (aa ++ [])) o = .inl (0, q.1, rc, mm ++ (aa ++ []), o) := by
      unfold gxF
      rw [if_neg hno.1, if_neg hno.2, hb, if_neg (by decide)]
    rw [e, hrv]
    show Sum.inl (q.1, daF rc (mm ++ (aa ++ []))) = _
    rw [List.append_nil, daF_pt hmm haa]
