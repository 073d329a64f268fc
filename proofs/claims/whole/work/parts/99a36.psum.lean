def GS (b : Nat → Int) (E : Nat) (tk : Int) (f i : Nat) (rc ws : List Int) (o : Int) : (Nat × List Int) ⊕ (Int × Int) :=
  match goesF b E 2000 i rc ws o with
  | .inr e => .inr e
  | .inl g => if g.1 = 0 then .inl (g.2.1, daF g.2.2.1 g.2.2.2.1) else smF b E tk f g.2.1 g.2.2.1 g.2.2.2.1 g.2.2.2.2
theorem smF_GS {b : Nat → Int} {E : Nat} {tk : Int} {f i : Nat} {rc ws : List Int} {o : Int} {q : QZ} (h : partF b E tk 2000 i rc ws o = .inl q) : smF b E tk (f + 1) i rc ws o = GS b E tk f q.1 q.2.1 q.2.2.1 q.2.2.2 := by
  simp only [smF, h]
  rfl
theorem smF_bx {b : Nat → Int} {E : Nat} {tk : Int} {f i : Nat} {rc ws : List Int} {o : Int} {e : Int × Int} (h : ∀ g, partF b E tk (g + 1) i rc ws o = .inr e) : smF b E tk (f + 1) i rc ws o = .inr e := smF_bad1 (h 1999)
theorem smF_gx {b : Nat → Int} {E : Nat} {tk : Int} {f i : Nat} {rc ws : List Int} {o : Int} {q : QZ} (h : ∀ g, partF b E tk (g + 1) i rc ws o = .inl q) : smF b E tk (f + 1) i rc ws o = GS b E tk f q.1 q.2.1 q.2.2.1 q.2.2.2 := smF_GS (h 1999)
theorem partF_fu {b : Nat → Int} {E : Nat} {tk : Int} : ∀ (f g i : Nat) (rc ws : List Int) (o : Int), o ≤ 6 → 7 ≤ (f : Int) + o → 7 ≤ (g : Int) + o → partF b E tk f i rc ws o = partF b E tk g i rc ws o
  | 0, g, i, rc, ws, o, h6, hf, hg => by omega
  | f + 1, 0, i, rc, ws, o, h6, hf, hg => by omega
  | f + 1, g + 1, i, rc, ws, o, h6, hf, hg => by
    have IH : ¬ o = 6 → ∀ i2 w2, partF b E tk f i2 rc w2 (o + 1) = partF b E tk g i2 rc w2 (o + 1) := fun hn i2 w2 => partF_fu f g i2 rc w2 (o + 1) (by omega) (by omega) (by omega)
    simp only [partF]
    by_cases hn : o = 6
    · simp only [if_pos hn]
    · simp only [if_neg hn, IH hn]
theorem smF_step {b : Nat → Int} {E : Nat} {tk : Int} {f i i2 : Nat} {rc ws ws2 : List Int} {o : Int} (h6 : o ≤ 6) (h0 : 0 ≤ o) (ho : ¬ o = 6) (h : ∀ g, partF b E tk (g + 1) i rc ws o = partF b E tk g i2 rc ws2 (o + 1)) : smF b E tk (f + 1) i rc ws o = smF b E tk (f + 1) i2 rc ws2 (o + 1) := by
  have h2 : partF b E tk 2000 i rc ws o = partF b E tk 2000 i2 rc ws2 (o + 1) := (h 1999).trans (partF_fu 1999 2000 i2 rc ws2 (o + 1) (by omega) (by omega) (by omega))
  simp only [smF, h2]
theorem dtb_le : ∀ (ws rc : List Int), (dtb rc ws).2.length ≤ ws.length
  | [], _ => Nat.le_refl _
  | w :: t, rc => by
    unfold dtb
    split
    · exact Nat.le_refl _
    · have := dtb_le t (w :: rc)
      simp only [List.length_cons]
      omega
theorem clE_lt {rc ws : List Int} {o : Int} (hb : ¬ brF ws = -1) : (clE rc ws o).2.1.length + 1 ≤ ws.length := by
  have h1 := brF_at ws rc hb
  have h2 := dtb_len ws rc
  have h3 := (endF_len (dtb rc ws).2.tail (clR rc ws) (o - 1)).2.2
  have h4 : (dtb rc ws).2.length = (dtb rc ws).2.tail.length + 1 := by rw [h1.1]; simp
  have h5 : (dtb rc ws).2.length ≤ ws.length := dtb_le ws rc
  show (endF (clR rc ws) (dtb rc ws).2.tail (o - 1)).2.1.length + 1 ≤ ws.length
  omega
theorem clsF_S {b : Nat → Int} {E : Nat} (f i : Nat) (rc ws : List Int) (o : Int) : clsF b E (f + 1) i rc ws o = if zK b E i = 41 ∧ (brF ws = 20 ∨ brF ws = 23 ∨ brF ws = 24) then clsF b E f (i + 1) (clE rc ws o).1 (clE rc ws o).2.1 (clE rc ws o).2.2 else (i, rc, ws, o) := rfl
theorem clsF_fu {b : Nat → Int} {E : Nat} : ∀ (f g i : Nat) (rc ws : List Int) (o : Int), ws.length ≤ f → ws.length ≤ g → clsF b E f i rc ws o = clsF b E g i rc ws o
  | 0, 0, i, rc, ws, o, hf, hg => rfl
  | 0, g + 1, i, rc, ws, o, hf, hg => by
    have : ws = [] := List.eq_nil_of_length_eq_zero (by omega)
    subst this
    simp only [clsF]
    rw [if_neg (by have : brF [] = -1 := rfl; omega)]
  | f + 1, 0, i, rc, ws, o, hf, hg => by
    have : ws = [] := List.eq_nil_of_length_eq_zero (by omega)
    subst this
    simp only [clsF]
    rw [if_neg (by have : brF [] = -1 := rfl; omega)]
  | f + 1, g + 1, i, rc, ws, o, hf, hg => by
    simp only [clsF]
    split
    · rename_i h
      have := clE_lt (rc := rc) (o := o) (show ¬ brF ws = -1 by omega)
      exact clsF_fu f g _ _ _ _ (by omega) (by omega)
    · rfl
theorem GS_cl {b : Nat → Int} {E : Nat} {tk : Int} {f i : Nat} {rc ws : List Int} {o : Int} (hl : ws.length ≤ 1999) (h1 : zK b E i = 41) (h2 : brF ws = 20 ∨ brF ws = 23 ∨ brF ws = 24) : GS b E tk f i rc ws o = GS b E tk f (i + 1) (clE rc ws o).1 (clE rc ws o).2.1 (clE rc ws o).2.2 := by
  have h3 := clE_lt (rc := rc) (o := o) (show ¬ brF ws = -1 by omega)
  have h4 : clsF b E 2000 i rc ws o = clsF b E 2000 (i + 1) (clE rc ws o).1 (clE rc ws o).2.1 (clE rc ws o).2.2 := by
    have : clsF b E (1999 + 1) i rc ws o = clsF b E 1999 (i + 1) (clE rc ws o).1 (clE rc ws o).2.1 (clE rc ws o).2.2 := by
      rw [clsF_S, if_pos ⟨h1, h2⟩]
    exact this.trans (clsF_fu 1999 2000 _ _ _ _ (by omega) (by omega))
  unfold GS goesF
  rw [h4]
theorem GS_gt {b : Nat → Int} {E : Nat} {tk : Int} {f i : Nat} {rc ws : List Int} {o : Int} (h : ¬ (zK b E i = 41 ∧ (brF ws = 20 ∨ brF ws = 23 ∨ brF ws = 24))) : GS b E tk f i rc ws o = (match gtF b E i rc ws o with
  | .inr e => .inr e
  | .inl g => if g.1 = 0 then .inl (g.2.1, daF g.2.2.1 g.2.2.2.1) else smF b E tk f g.2.1 g.2.2.1 g.2.2.2.1 g.2.2.2.2) := by
  have h4 : clsF b E (1999 + 1) i rc ws o = (i, rc, ws, o) := by
    rw [clsF_S, if_neg h]
  have h5 : clsF b E 2000 i rc ws o = (i, rc, ws, o) := h4
  unfold GS goesF
  rw [h5]
def mOK (mm : List Int) : Prop := mm = [] ∨ mm = [3] ∨ mm = [4]
def aOK (w : Int) (aa : List Int) : Prop := (w = 0 ∧ aa = []) ∨ (w = 43 ∧ aa = [1]) ∨ (w = 45 ∧ aa = [2])
def lim (ws : List Int) : Prop := ws = [] ∨ ∃ x t, ws = x :: t ∧ 20 ≤ x ∧ x ≤ 24
theorem dr34 {mm aa ws : List Int} {w : Int} (hm : mOK mm) (ha : aOK w aa) (hl : lim ws) (rc : List Int) : drF p34 rc (mm ++ (aa ++ ws)) = (mm ++ rc, aa ++ ws) := by
  rcases hm with rfl | rfl | rfl <;> rcases ha with ⟨_, rfl⟩ | ⟨_, rfl⟩ | ⟨_, rfl⟩ <;> rcases hl with rfl | ⟨x, t, rfl, h1, h2⟩ <;> simp [drF, p34] <;> omega
theorem dr14 {mm aa ws : List Int} {w : Int} (hm : mOK mm) (ha : aOK w aa) (hl : lim ws) (rc : List Int) : drF p14 rc (mm ++ (aa ++ ws)) = (aa ++ (mm ++ rc), ws) := by
  rcases hm with rfl | rfl | rfl <;> rcases ha with ⟨_, rfl⟩ | ⟨_, rfl⟩ | ⟨_, rfl⟩ <;> rcases hl with rfl | ⟨x, t, rfl, h1, h2⟩ <;> simp [drF, p14] <;> omega
theorem br_pd {mm aa : List Int} {w : Int} (hm : mOK mm) (ha : aOK w aa) (ws : List Int) : brF (mm ++ (aa ++ ws)) = brF ws := by
  rcases hm with rfl | rfl | rfl <;> rcases ha with ⟨_, rfl⟩ | ⟨_, rfl⟩ | ⟨_, rfl⟩ <;> simp [brF, isBr]
theorem dtb_pd {mm aa ws : List Int} {w : Int} (hm : mOK mm) (ha : aOK w aa) (hl : lim ws) (rc : List Int) : dtb rc (mm ++ (aa ++ ws)) = (aa ++ (mm ++ rc), ws) := by
  rcases hm with rfl | rfl | rfl <;> rcases ha with ⟨_, rfl⟩ | ⟨_, rfl⟩ | ⟨_, rfl⟩ <;> rcases hl with rfl | ⟨x, t, rfl, h1, h2⟩ <;> simp [dtb, isBr] <;> omega
theorem daF_pd {mm aa : List Int} {w : Int} (hm : mOK mm) (ha : aOK w aa) (rc : List Int) : daF rc (mm ++ aa) = aa ++ (mm ++ rc) := by
  rcases hm with rfl | rfl | rfl <;> rcases ha with ⟨_, rfl⟩ | ⟨_, rfl⟩ | ⟨_, rfl⟩ <;> simp [daF]
theorem opc_m {k : Int} (h : k = 42 ∨ k = 47) : opc k = (if k = 42 then 3 else 4) ∧ mOK [opc k] := by
  rcases h with rfl | rfl
  · exact ⟨rfl, Or.inr (Or.inl rfl)⟩
  · exact ⟨rfl, Or.inr (Or.inr rfl)⟩
theorem opc_a {k : Int} (h : k = 43 ∨ k = 45) : opc k = (if k = 43 then 1 else 2) ∧ aOK k [opc k] := by
  rcases h with rfl | rfl
  · exact ⟨rfl, Or.inr (Or.inl ⟨rfl, rfl⟩)⟩
  · exact ⟨rfl, Or.inr (Or.inr ⟨rfl, rfl⟩)⟩
theorem GS_mul {b : Nat → Int} {E : Nat} {tk : Int} {f j : Nat} {rc mm aa ws : List Int} {o w : Int} (hm : mOK mm) (ha : aOK w aa) (hl : lim ws) (h : zK b E j = 42 ∨ zK b E j = 47) : GS b E tk f j rc (mm ++ (aa ++ ws)) o = smF b E tk f (j + 1) (mm ++ rc) (opc (zK b E j) :: (aa ++ ws)) o := by
  rw [GS_gt (by omega)]
  have e : gtF b E j rc (mm ++ (aa ++ ws)) o = .inl (1, j + 1, mm ++ rc, opc (zK b E j) :: (aa ++ ws), o) := by
    unfold gtF
    rw [if_pos h, dr34 hm ha hl, (opc_m h).1]
  rw [e]
  rfl
theorem GS_add {b : Nat → Int} {E : Nat} {tk : Int} {f j : Nat} {rc mm aa ws : List Int} {o w : Int} (hm : mOK mm) (ha : aOK w aa) (hl : lim ws) (h : zK b E j = 43 ∨ zK b E j = 45) : GS b E tk f j rc (mm ++ (aa ++ ws)) o = smF b E tk f (j + 1) (aa ++ (mm ++ rc)) (opc (zK b E j) :: ws) o := by
  rw [GS_gt (by omega)]
  have e : gtF b E j rc (mm ++ (aa ++ ws)) o = .inl (1, j + 1, aa ++ (mm ++ rc), opc (zK b E j) :: ws, o) := by
    unfold gtF
    rw [if_neg (by omega), if_pos h, dr14 hm ha hl, (opc_a h).1]
  rw [e]
  rfl
def ty2 (tk : Int) (ts : List Bool) (v : Int) : Option (List Bool) := if (tk = 0 ∧ v = 47) ∨ (tk = 2 ∧ 45 ≤ v ∧ v ≤ 47) then none else if tk = 2 then ty1q ts v else ty1 ts v
def tyR (tk : Int) : List Bool → List Int → Option (List Bool)
  | ts, [] => some ts
  | ts, v :: ns => match ty2 tk ts v with
    | some t => if t.length ≤ 60 then tyR tk t ns else none
    | none => none
theorem tyR_app {tk : Int} : ∀ (ns : List Int) (ts t : List Bool) (ms : List Int), tyR tk ts ns = some t → tyR tk ts (ns ++ ms) = tyR tk t ms
  | [], ts, t, ms, h => by
    have : ts = t := Option.some.inj h
    rw [this]; rfl
  | v :: ns, ts, t, ms, h => by
    simp only [List.cons_append, tyR] at h ⊢
    split at h
    · rename_i t2 h2
      split at h
      · rename_i h3
        simp only [if_pos h3]
        exact tyR_app ns t2 t ms h
      · exact absurd h (by simp)
    · exact absurd h (by simp)
theorem tyR_1 {tk : Int} {ts t : List Bool} {v : Int} (h : ty2 tk ts v = some t) (hl : t.length ≤ 60) : tyR tk ts [v] = some t := by
  simp only [tyR, h, if_pos hl]
theorem ty2_num {tk z : Int} {ts : List Bool} (h0 : 0 ≤ z) (h9 : z ≤ 9999) : ty2 tk ts (1000 + z) = some (false :: ts) := by
  unfold ty2
  rw [if_neg (by omega)]
  have e : ty1 ts (1000 + z) = some (false :: ts) := by unfold ty1; rw [if_pos (by omega), if_pos (by omega)]
  split
  · unfold ty1q
    rw [if_neg (by omega), if_neg (by omega)]
    exact e
  · exact e
theorem ty2_part {tk k : Int} {ts : List Bool} (htk : tk = 0 ∨ tk = 1 ∨ tk = 2) (h : ¬ wof tk k 0 11 = -1) : ty2 tk ts (40 + wof tk k 0 11) = some (false :: ts) := by
  have hw := wof_pw h
  have ha : alw tk (pwI k) = true := by
    unfold wof at h
    by_cases hc : 0 ≤ pwI k ∧ pwI k < 11 ∧ alw tk (pwI k) = true
    · exact hc.2.2
    · rw [if_neg hc] at h; exact absurd rfl h
  rw [hw.1]
  generalize pwI k = p at hw ha
  unfold alw at ha
  unfold ty2
  rcases htk with rfl | rfl | rfl
  · rw [if_neg (by decide)] at ha
    have ha2 := of_decide_eq_true ha
    rw [if_neg (by omega), if_neg (by decide)]
    unfold ty1
    rw [if_neg (by omega), if_pos (by omega), if_pos (by omega)]
  · rw [if_neg (by decide)] at ha
    have ha2 := of_decide_eq_true ha
    rw [if_neg (by omega), if_neg (by decide)]
    unfold ty1
    rw [if_neg (by omega), if_pos (by omega), if_pos (by omega)]
  · rw [if_pos rfl] at ha
    have ha2 := of_decide_eq_true ha
    rw [if_neg (by omega), if_pos rfl]
    unfold ty1q
    rw [if_neg (by omega), if_pos (by omega), if_pos (by omega)]
theorem ty2_kn {ts : List Bool} : ty2 2 (false :: ts) 60 = some (false :: ts) := rfl
theorem ty2_low {tk v : Int} {ts : List Bool} (h : v < 40) : ty2 tk ts v = ty1 ts v := by
  unfold ty2
  rw [if_neg (by omega)]
  split
  · unfold ty1q
    rw [if_neg (by omega), if_neg (by omega)]
  · rfl
theorem ty2_op {tk v : Int} {ts : List Bool} (h : 1 ≤ v ∧ v ≤ 6) : ty2 tk (false :: false :: ts) v = some (false :: ts) := by
  rw [ty2_low (by omega)]
  rcases (show v = 1 ∨ v = 2 ∨ v = 3 ∨ v = 4 ∨ v = 5 ∨ v = 6 by omega) with rfl | rfl | rfl | rfl | rfl | rfl <;> rfl
theorem ty2_cmp {tk v : Int} {ts : List Bool} (h : v = 7 ∨ v = 8 ∨ v = 9) : ty2 tk (false :: false :: ts) v = some (true :: ts) := by
  rw [ty2_low (by omega)]
  rcases h with rfl | rfl | rfl <;> rfl
theorem ty2_all {tk : Int} {ts : List Bool} : ty2 tk ts 13 = some (true :: ts) := by rw [ty2_low (by decide)]; rfl
theorem ty2_not {tk : Int} {ts : List Bool} : ty2 tk (true :: ts) 12 = some (true :: ts) := by rw [ty2_low (by decide)]; rfl
theorem ty2_ao {tk v : Int} {ts : List Bool} (h : v = 10 ∨ v = 11) : ty2 tk (true :: true :: ts) v = some (true :: ts) := by
  rw [ty2_low (by omega)]
  rcases h with rfl | rfl <;> rfl
def TY (tk : Int) (D : Nat) (ns : List Int) (t : Bool) : Prop := ∀ ts, ts.length + D ≤ 60 → tyR tk ts ns = some (t :: ts)
def RS (b : Nat → Int) (E : Nat) (cs : List Int) (o : Int) (L p : Nat) (ok : Nat → List Int → Prop) (bad : Int × Int → Prop) : SX → Prop
  | .inl q => q.2.2 = o ∧ (L ≤ q.1 ∧ q.1 ≤ zP b E q.1 ∧ q.2.1.length + p ≤ q.1) ∧ ∃ ns, q.2.1 = cs ++ ns ∧ ok q.1 ns
  | .inr q => bad q.1
def PRT (b : Nat → Int) (E : Nat) (tk : Int) (n : Nat) (F : SX → SX) : Prop := ∀ (i : Nat) (cs : List Int) (o : Int) (ws : List Int), o + (n : Int) = 6 → 0 ≤ o → cs.length + ws.length ≤ i → i ≤ zP b E i →
  RS b E cs o (i + 1) ws.length
    (fun j ns => TY tk (3 * n + 1) ns false ∧ ∃ m, m + 1 + i ≤ j ∧ ∀ f, smF b E tk (f + m + 1) i cs.reverse ws o = GS b E tk f j (endF (cs ++ ns).reverse ws o).1 (endF (cs ++ ns).reverse ws o).2.1 (endF (cs ++ ns).reverse ws o).2.2)
    (fun e => ∃ m, m + i ≤ 1600 ∧ ∀ f, smF b E tk (f + m + 1) i cs.reverse ws o = .inr e) (F (.inl (i, cs, o)))
def noS (k : Int) : Prop := ¬ k = 42 ∧ ¬ k = 47 ∧ ¬ k = 43 ∧ ¬ k = 45
def SMT (b : Nat → Int) (E : Nat) (tk : Int) (n : Nat) (S : SX → SX) : Prop := ∀ (i : Nat) (cs : List Int) (o : Int) (ws : List Int), o + (n : Int) = 6 → 0 ≤ o → lim ws → cs.length + ws.length ≤ i → i ≤ zP b E i →
  RS b E cs o (i + 1) ws.length
    (fun j ns => TY tk (3 * n + 3) ns false ∧ noS (zK b E j) ∧ ∃ mm aa w rc, mOK mm ∧ aOK w aa ∧ (cs ++ ns).reverse = aa ++ (mm ++ rc) ∧ ∃ m, m + 1 + i ≤ j ∧ ∀ f, smF b E tk (f + m + 1) i cs.reverse ws o = GS b E tk f j rc (mm ++ (aa ++ ws)) o)
    (fun e => ∃ m, m + i ≤ 1600 ∧ ∀ f, smF b E tk (f + m + 1) i cs.reverse ws o = .inr e) (S (.inl (i, cs, o)))
theorem adS_ok {m : Int} {i : Nat} {cs : List Int} {o : Int} (h : cs.length < 1600) : adS m (.inl (i, cs, o)) = .inl (i, cs ++ [m], o) := by
  simp only [adS, if_pos h]
theorem endF_lo {rc t : List Int} {x o : Int} (h : x < 60) : endF rc (x :: t) o = (rc, x :: t, o) := by
  unfold endF
  rw [if_neg (by omega)]
def LPT (b : Nat → Int) (E : Nat) (tk : Int) (n : Nat) (cs0 : List Int) (o : Int) (j : Nat) (rc mm aa ws : List Int) : SX → Prop :=
  RS b E cs0 o j ws.length
    (fun j' ns' => TY tk (3 * n + 3) ns' false ∧ noS (zK b E j') ∧ ∃ mm' aa' w' rc', mOK mm' ∧ aOK w' aa' ∧ (cs0 ++ ns').reverse = aa' ++ (mm' ++ rc') ∧ ∃ m, m + j ≤ j' ∧ ∀ f, GS b E tk (f + m) j rc (mm ++ (aa ++ ws)) o = GS b E tk f j' rc' (mm' ++ (aa' ++ ws)) o)
    (fun e => ∃ m, m + j ≤ 1600 ∧ ∀ f, GS b E tk (f + m) j rc (mm ++ (aa ++ ws)) o = .inr e)
theorem LPT.on {b : Nat → Int} {E : Nat} {tk : Int} {n : Nat} {cs0 : List Int} {o : Int} {j j1 m1 : Nat} {rc mm aa ws rc1 mm1 aa1 : List Int} {s : SX} (h : LPT b E tk n cs0 o j1 rc1 mm1 aa1 ws s) (hm : m1 + j ≤ j1) (hE : ∀ f, GS b E tk (f + m1) j rc (mm ++ (aa ++ ws)) o = GS b E tk f j1 rc1 (mm1 ++ (aa1 ++ ws)) o) : LPT b E tk n cs0 o j rc mm aa ws s := by
  cases s with
  | inl q =>
    obtain ⟨h1, h2, ns, h3, h4, h5, mm', aa', w', rc', h6, h7, h8, m, h9, h10⟩ := h
    refine ⟨h1, ⟨by omega, h2.2⟩, ns, h3, h4, h5, mm', aa', w', rc', h6, h7, h8, m + m1, by omega, fun f => ?_⟩
    rw [show f + (m + m1) = (f + m) + m1 by omega, hE, h10]
  | inr q =>
    obtain ⟨m, h9, h10⟩ := h
    refine ⟨m + m1, by omega, fun f => ?_⟩
    rw [show f + (m + m1) = (f + m) + m1 by omega, hE, h10]
theorem aOK_len {w : Int} {aa : List Int} (h : aOK w aa) : aa.length ≤ 1 ∧ (¬ w = 0 → aa = [opc w]) ∧ (w = 0 → aa = []) ∧ (¬ w = 0 → 1 ≤ opc w ∧ opc w ≤ 2) := by
  rcases h with ⟨rfl, rfl⟩ | ⟨rfl, rfl⟩ | ⟨rfl, rfl⟩
  · exact ⟨by simp, fun h => absurd rfl h, fun _ => rfl, fun h => absurd rfl h⟩
  · exact ⟨by simp, fun _ => rfl, fun h => absurd h (by decide), fun _ => by decide⟩
  · exact ⟨by simp, fun _ => rfl, fun h => absurd h (by decide), fun _ => by decide⟩
theorem smL_r {b : Nat → Int} {E : Nat} {F : SX → SX} (f : Nat) (w : Int) (q : (Int × Int) × Int) : smL b E F f w (.inr q) = .inr q := by
  cases f with
  | zero => simp only [smL, adS]; split <;> rfl
  | succ f =>
    have hk : kdS b E (.inr q) = 6 := rfl
    unfold smL
    rw [if_neg (by omega), if_neg (by omega)]
    split <;> rfl
theorem aOK_st {w : Int} {aa cs : List Int} {i : Nat} {o : Int} (h : aOK w aa) (hl : cs.length + aa.length ≤ 1600) : (if w = 0 then (.inl (i, cs, o) : SX) else adS (opc w) (.inl (i, cs, o))) = .inl (i, cs ++ aa, o) := by
  rcases h with ⟨rfl, rfl⟩ | ⟨rfl, rfl⟩ | ⟨rfl, rfl⟩
  · rw [if_pos rfl, List.append_nil]
  · rw [if_neg (by decide), adS_ok (by simp only [List.length_cons, List.length_nil] at hl; omega)]; rfl
  · rw [if_neg (by decide), adS_ok (by simp only [List.length_cons, List.length_nil] at hl; omega)]; rfl
theorem aOK_rev {w : Int} {aa : List Int} (h : aOK w aa) : aa.reverse = aa := by
  rcases h with ⟨rfl, rfl⟩ | ⟨rfl, rfl⟩ | ⟨rfl, rfl⟩ <;> rfl
theorem aOK_ty {tk w : Int} {aa ns : List Int} {D : Nat} (h : aOK w aa) (hT : ∀ ts, ts.length + D ≤ 60 → tyR tk ts ns = some (if w = 0 then false :: ts else false :: false :: ts)) (hD : 1 ≤ D) : TY tk D (ns ++ aa) false := by
  intro ts hts
  rw [tyR_app ns ts _ aa (hT ts hts)]
  rcases h with ⟨rfl, rfl⟩ | ⟨rfl, rfl⟩ | ⟨rfl, rfl⟩
  · rfl
  · exact tyR_1 (ty2_op (by decide)) (by simp only [List.length_cons]; omega)
  · exact tyR_1 (ty2_op (by decide)) (by simp only [List.length_cons]; omega)
theorem sm_loop {b : Nat → Int} {E : Nat} {tk : Int} {n : Nat} {F : SX → SX} (hE : E ≤ 1600) (hP : PRT b E tk n F) : ∀ (fu : Nat) (w : Int) (j : Nat) (cs0 ns : List Int) (o : Int) (mm aa rc ws : List Int), o + (n : Int) = 6 → 0 ≤ o → mOK mm → aOK w aa → lim ws → (cs0 ++ ns).reverse = mm ++ rc → (cs0 ++ ns).length + aa.length + ws.length ≤ j → j ≤ zP b E j → 1600 < fu + j → (∀ ts, ts.length + (3 * n + 3) ≤ 60 → tyR tk ts ns = some (if w = 0 then false :: ts else false :: false :: ts)) → LPT b E tk n cs0 o j rc mm aa ws (smL b E F fu w (.inl (j, cs0 ++ ns, o)))
  | 0, w, j, cs0, ns, o, mm, aa, rc, ws, ho, h0, hm, ha, hl, hrv, hln, hj, hfu, hT => by
    have := zP_rng b E j
    omega
  | fu + 1, w, j, cs0, ns, o, mm, aa, rc, ws, ho, h0, hm, ha, hl, hrv, hln, hj, hfu, hT => by
    have hz := zP_rng b E j
    have hal := aOK_len ha
    by_cases h1 : zK b E j = 42 ∨ zK b E j = 47
    · have h1' : kdS b E (.inl (j, cs0 ++ ns, o)) = 42 ∨ kdS b E (.inl (j, cs0 ++ ns, o)) = 47 := h1
      have e : smL b E F (fu + 1) w (.inl (j, cs0 ++ ns, o)) = smL b E F fu w (adS (opc (zK b E j)) (F (.inl (j + 1, cs0 ++ ns, o)))) := by
        conv => lhs; unfold smL
        rw [if_pos h1']; rfl
      rw [e]
      have hp := hP (j + 1) (cs0 ++ ns) o (opc (zK b E j) :: (aa ++ ws)) ho h0 (by simp only [List.length_cons, List.length_append] at hln ⊢; omega) (zP_on (by omega) hj)
      have hop : 1 ≤ opc (zK b E j) ∧ opc (zK b E j) ≤ 6 := by rcases h1 with h | h <;> rw [h] <;> decide
      cases hs : F (.inl (j + 1, cs0 ++ ns, o)) with
      | inr q =>
        rw [hs] at hp
        obtain ⟨m, hm2, hf⟩ := hp
        show LPT b E tk n cs0 o j rc mm aa ws (smL b E F fu w (.inr q))
        rw [smL_r]
        exact ⟨m + 1, by omega, fun f => by rw [show f + (m + 1) = f + m + 1 by omega, GS_mul hm ha hl h1, ← hrv, hf]⟩
      | inl q =>
        obtain ⟨j1, cs1, o1⟩ := q
        rw [hs] at hp
        obtain ⟨ho1, ⟨hL, hz1, hlen⟩, pn, hcs, hTp, m, hm2, hf⟩ := hp
        simp only at ho1 hL hz1 hlen hcs hm2 hf
        subst ho1
        subst hcs
        have hz2 := zP_rng b E j1
        simp only [List.length_cons, List.length_append] at hlen
        rw [adS_ok (by simp only [List.length_append]; omega)]
        have eq1 : (cs0 ++ ns ++ pn) ++ [opc (zK b E j)] = cs0 ++ (ns ++ (pn ++ [opc (zK b E j)])) := by simp only [List.append_assoc]
        rw [eq1]
        have IH := sm_loop hE hP fu w j1 cs0 (ns ++ (pn ++ [opc (zK b E j)])) o1 [opc (zK b E j)] aa (cs0 ++ ns ++ pn).reverse ws ho h0 (opc_m h1).2 ha hl (by rw [← eq1, List.reverse_append]; rfl) (by simp only [List.length_cons, List.length_append, List.length_nil]; omega) hz1 (by omega) (by
          intro ts hts
          rw [tyR_app ns ts _ _ (hT ts hts), tyR_app pn _ _ _ (hTp _ (by split <;> simp only [List.length_cons] <;> omega))]
          split
          · exact tyR_1 (ty2_op hop) (by simp only [List.length_cons]; omega)
          · exact tyR_1 (ty2_op hop) (by simp only [List.length_cons]; omega))
        refine IH.on (m1 := m + 1) (by omega) (fun f => ?_)
        rw [show f + (m + 1) = f + m + 1 by omega, GS_mul hm ha hl h1, ← hrv, hf, endF_lo (by omega)]
        rfl
    · have h1' : ¬ (kdS b E (.inl (j, cs0 ++ ns, o)) = 42 ∨ kdS b E (.inl (j, cs0 ++ ns, o)) = 47) := h1
      by_cases h2 : zK b E j = 43 ∨ zK b E j = 45
      · have h2' : kdS b E (.inl (j, cs0 ++ ns, o)) = 43 ∨ kdS b E (.inl (j, cs0 ++ ns, o)) = 45 := h2
        have e : smL b E F (fu + 1) w (.inl (j, cs0 ++ ns, o)) = smL b E F fu (zK b E j) (F (.inl (j + 1, (cs0 ++ ns) ++ aa, o))) := by
          conv => lhs; unfold smL
          rw [if_neg h1', if_pos h2']
          rw [← aOK_st ha (by omega)]; rfl
        rw [e]
        have hp := hP (j + 1) ((cs0 ++ ns) ++ aa) o (opc (zK b E j) :: ws) ho h0 (by simp only [List.length_cons, List.length_append] at hln ⊢; omega) (zP_on (by omega) hj)
        have hrv2 : ((cs0 ++ ns) ++ aa).reverse = aa ++ (mm ++ rc) := by rw [List.reverse_append, hrv, aOK_rev ha]
        have hop : 1 ≤ opc (zK b E j) ∧ opc (zK b E j) ≤ 6 := by rcases h2 with h | h <;> rw [h] <;> decide
        cases hs : F (.inl (j + 1, (cs0 ++ ns) ++ aa, o)) with
        | inr q =>
          rw [hs] at hp
          obtain ⟨m, hm2, hf⟩ := hp
          rw [smL_r]
          exact ⟨m + 1, by omega, fun f => by rw [show f + (m + 1) = f + m + 1 by omega, GS_add hm ha hl h2, ← hrv2, hf]⟩
        | inl q =>
          obtain ⟨j1, cs1, o1⟩ := q
          rw [hs] at hp
          obtain ⟨ho1, ⟨hL, hz1, hlen⟩, pn, hcs, hTp, m, hm2, hf⟩ := hp
          simp only at ho1 hL hz1 hlen hcs hm2 hf
          subst ho1
          subst hcs
          have hz2 := zP_rng b E j1
          simp only [List.length_cons, List.length_append] at hlen
          have eq1 : ((cs0 ++ ns) ++ aa) ++ pn = cs0 ++ ((ns ++ aa) ++ pn) := by simp only [List.append_assoc]
          have IH := sm_loop hE hP fu (zK b E j) j1 cs0 ((ns ++ aa) ++ pn) o1 [] [opc (zK b E j)] (cs0 ++ ((ns ++ aa) ++ pn)).reverse ws ho h0 (Or.inl rfl) (opc_a h2).2 hl rfl (by simp only [List.length_cons, List.length_append, List.length_nil]; omega) hz1 (by omega) (by
            intro ts hts
            rw [tyR_app (ns ++ aa) ts _ _ (aOK_ty ha hT (by omega) ts hts), if_neg (by omega)]
            exact hTp _ (by simp only [List.length_cons]; omega))
          rw [← eq1] at IH
          refine IH.on (m1 := m + 1) (by omega) (fun f => ?_)
          rw [show f + (m + 1) = f + m + 1 by omega, GS_add hm ha hl h2, ← hrv2, hf, endF_lo (by omega)]
          rfl
      · have h2' : ¬ (kdS b E (.inl (j, cs0 ++ ns, o)) = 43 ∨ kdS b E (.inl (j, cs0 ++ ns, o)) = 45) := h2
        have e : smL b E F (fu + 1) w (.inl (j, cs0 ++ ns, o)) = .inl (j, (cs0 ++ ns) ++ aa, o) := by
          conv => lhs; unfold smL
          rw [if_neg h1', if_neg h2', aOK_st ha (by omega)]
        rw [e]
        refine ⟨rfl, ⟨Nat.le_refl _, hj, ?_⟩, ns ++ aa, ?_, aOK_ty ha hT (by omega), ⟨fun h => h1 (Or.inl h), fun h => h1 (Or.inr h), fun h => h2 (Or.inl h), fun h => h2 (Or.inr h)⟩, mm, aa, w, rc, hm, ha, ?_, 0, by omega, fun f => rfl⟩
        · show ((cs0 ++ ns) ++ aa).length + ws.length ≤ j
          rw [List.length_append]; omega
        · simp only [List.append_assoc]
        · rw [← List.append_assoc, List.reverse_append, hrv, aOK_rev ha]
theorem SMT_of {b : Nat → Int} {E : Nat} {tk : Int} {n : Nat} {F : SX → SX} (hE : E ≤ 1600) (hP : PRT b E tk n F) : SMT b E tk n (sumB b E F) := by
  intro i cs o ws ho h0 hl hln hi
  have hp := hP i cs o ws ho h0 hln hi
  unfold sumB
  cases hs : F (.inl (i, cs, o)) with
  | inr q =>
    rw [hs] at hp
    rw [smL_r]
    exact hp
  | inl q =>
    obtain ⟨j1, cs1, o1⟩ := q
    rw [hs] at hp
    obtain ⟨ho1, ⟨hL, hz1, hlen⟩, pn, hcs, hTp, m, hm2, hf⟩ := hp
    simp only at ho1 hL hz1 hlen hcs hm2 hf
    subst ho1
    subst hcs
    have hen : endF (cs ++ pn).reverse ws o1 = ((cs ++ pn).reverse, ws, o1) := by
      rcases hl with rfl | ⟨x, t, rfl, h1, h2⟩
      · rfl
      · exact endF_lo (by omega)
    have IH := sm_loop hE hP 1600 0 j1 cs pn o1 [] [] (cs ++ pn).reverse ws ho h0 (Or.inl rfl) (Or.inl ⟨rfl, rfl⟩) hl rfl (by simp only [List.length_nil]; omega) hz1 (by omega) (fun ts hts => by rw [if_pos rfl]; exact hTp ts (by omega))
    cases hs2 : smL b E F 1600 0 (.inl (j1, cs ++ pn, o1)) with
    | inr q =>
      rw [hs2] at IH
      obtain ⟨m2, h3, h4⟩ := IH
      refine ⟨m2 + m, by omega, fun f => ?_⟩
      rw [show f + (m2 + m) + 1 = (f + m2) + m + 1 by omega, hf, hen]
      exact h4 f
    | inl q =>
      rw [hs2] at IH
      obtain ⟨h1, h2, ns, h3, h4, h5, mm', aa', w', rc', h6, h7, h8, m2, h9, h10⟩ := IH
      refine ⟨h1, ⟨by omega, h2.2⟩, ns, h3, h4, h5, mm', aa', w', rc', h6, h7, h8, m2 + m, by omega, fun f => ?_⟩
      rw [show f + (m2 + m) + 1 = (f + m2) + m + 1 by omega, hf, hen]
      exact h10 f
theorem part_40 {b : Nat → Int} {E : Nat} {tk : Int} {f i : Nat} {rc ws : List Int} {o : Int} (h : zK b E i = 40) : partF b E tk (f + 1) i rc ws o = if o = 6 then .inr (4, (zP b E i : Int)) else partF b E tk f (i + 1) rc (20 :: ws) (o + 1) := by
  simp only [partF, if_pos h]
theorem part_mm {b : Nat → Int} {E : Nat} {tk : Int} {f i : Nat} {rc ws : List Int} {o : Int} (h : zK b E i = 153 ∨ zK b E i = 154) : partF b E tk (f + 1) i rc ws o = if zK b E (i + 1) = 40 then (if o = 6 then .inr (4, (zP b E (i + 1) : Int)) else partF b E tk f (i + 2) rc ((if zK b E i = 153 then 21 else 22) :: ws) (o + 1)) else .inr (1, (zP b E (i + 1) : Int)) := by
  have h0 : ¬ zK b E i = 40 := by omega
  simp only [partF, if_neg h0, if_pos h]
theorem wof_kn : wof 2 148 11 12 = 11 := by decide
theorem wof_nk {tk k : Int} (htk : tk = 0 ∨ tk = 1 ∨ tk = 2) (h : ¬ (k = 148 ∧ tk = 2)) : wof tk k 11 12 = -1 := by
  unfold wof
  rw [if_neg]
  rintro ⟨h1, h2, h3⟩
  have hp : pwI k = 11 := by omega
  have hk : k = 148 := pw_inv hp (by decide)
  rw [hp] at h3
  rcases htk with rfl | rfl | rfl
  · exact absurd h3 (by decide)
  · exact absurd h3 (by decide)
  · exact h ⟨hk, rfl⟩
theorem part_kn {b : Nat → Int} {E : Nat} {f i : Nat} {rc ws : List Int} {o : Int} (h : zK b E i = 148) : partF b E 2 (f + 1) i rc ws o = if o = 6 then .inr (4, (zP b E i : Int)) else partF b E 2 f (i + 1) rc (60 :: ws) (o + 1) := by
  have h0 : ¬ zK b E i = 40 := by omega
  have h1 : ¬ (zK b E i = 153 ∨ zK b E i = 154) := by omega
  have h2 : ¬ wof 2 (zK b E i) 11 12 = -1 := by rw [h]; decide
  have h3 : (60 + wof 2 (zK b E i) 11 12) - 11 = 60 := by rw [h]; decide
  simp only [partF, if_neg h0, if_neg h1, if_pos h2, h3]
theorem part_lf {b : Nat → Int} {E : Nat} {tk : Int} {f i : Nat} {rc ws : List Int} {o : Int} (htk : tk = 0 ∨ tk = 1 ∨ tk = 2) (h0 : ¬ zK b E i = 40) (h1 : ¬ (zK b E i = 153 ∨ zK b E i = 154)) (h2 : ¬ (zK b E i = 148 ∧ tk = 2)) : partF b E tk (f + 1) i rc ws o = leafF b E tk i rc ws o := by
  have h3 : ¬ ¬ wof tk (zK b E i) 11 12 = -1 := fun h => h (wof_nk htk h2)
  simp only [partF, if_neg h0, if_neg h1, if_neg h3]
theorem zK_n6 {b : Nat → Int} {E i : Nat} {k : Int} (h : zK b E i = k) (hk : ¬ k = 6) : ¬ zK b E i = 6 := by rw [h]; exact hk
/-- a part that is one word or number -/
theorem PRT_lf {b : Nat → Int} {E : Nat} {tk : Int} {n i : Nat} {cs ws : List Int} {o : Int} {Q : Option (SX → SX)} (hE : E ≤ 1600) (htk : tk = 0 ∨ tk = 1 ∨ tk = 2) (h0 : ¬ zK b E i = 40) (h1 : ¬ (zK b E i = 153 ∨ zK b E i = 154)) (h2 : ¬ (zK b E i = 148 ∧ tk = 2)) (hln : cs.length + ws.length ≤ i) (hi : i ≤ zP b E i) :
  RS b E cs o (i + 1) ws.length
    (fun j ns => TY tk (3 * n + 1) ns false ∧ ∃ m, m + 1 + i ≤ j ∧ ∀ f, smF b E tk (f + m + 1) i cs.reverse ws o = GS b E tk f j (endF (cs ++ ns).reverse ws o).1 (endF (cs ++ ns).reverse ws o).2.1 (endF (cs ++ ns).reverse ws o).2.2)
    (fun e => ∃ m, m + i ≤ 1600 ∧ ∀ f, smF b E tk (f + m + 1) i cs.reverse ws o = .inr e) (partB b E tk Q (.inl (i, cs, o))) := by
  have hz := zP_rng b E i
  have e : partB b E tk Q (.inl (i, cs, o)) = if ¬ wof tk (zK b E i) 0 11 = -1 then adS (40 + wof tk (zK b E i) 0 11) (.inl (i + 1, cs, o)) else adS (1000 + zV b E i) (nuS b E 0 9999 (.inl (i, cs, o))) := by
    have h0' : ¬ kdS b E (.inl (i, cs, o)) = 40 := h0
    have h1' : ¬ (kdS b E (.inl (i, cs, o)) = 153 ∨ kdS b E (.inl (i, cs, o)) = 154) := h1
    have h2' : ¬ (kdS b E (.inl (i, cs, o)) = 148 ∧ tk = 2) := h2
    unfold partB
    rw [if_neg h0', if_neg h1', if_neg h2']
    rfl
  have hp : ∀ g rc, partF b E tk (g + 1) i rc ws o = leafF b E tk i rc ws o := fun g rc => part_lf htk h0 h1 h2
  rw [e]
  by_cases hw : ¬ wof tk (zK b E i) 0 11 = -1
  · rw [if_pos hw]
    have hk6 : ¬ zK b E i = 6 := by have := wof_in hw; omega
    have hz1 := zP_on hk6 hi
    have hz2 := zP_rng b E (i + 1)
    rw [adS_ok (by omega)]
    refine ⟨rfl, ⟨Nat.le_refl _, hz1, ?_⟩, [40 + wof tk (zK b E i) 0 11], rfl, fun ts hts => tyR_1 (ty2_part htk hw) (by simp only [List.length_cons]; omega), 0, by omega, fun f => ?_⟩
    · show (cs ++ [_]).length + ws.length ≤ i + 1
      rw [List.length_append, List.length_singleton]; omega
    · have hq : ∀ g, partF b E tk (g + 1) i cs.reverse ws o = .inl (i + 1, endF (cs ++ [40 + wof tk (zK b E i) 0 11]).reverse ws o) := fun g => by
        rw [hp, List.reverse_append]; unfold leafF; rw [if_pos hw]; rfl
      have e9 := smF_gx (f := f + 0) hq
      exact e9
  · rw [if_neg hw]
    by_cases h9 : zK b E i = 1
    · have hv := zV_rng h9
      have hz1 := zP_on (show ¬ zK b E i = 6 by omega) hi
      have hz2 := zP_rng b E (i + 1)
      have en : nuS b E 0 9999 (.inl (i, cs, o)) = .inl (i + 1, cs, o) := by
        simp only [nuS]
        rw [if_pos ⟨h9, hv.1, hv.2⟩]
      rw [en, adS_ok (by omega)]
      refine ⟨rfl, ⟨Nat.le_refl _, hz1, ?_⟩, [1000 + zV b E i], rfl, fun ts hts => tyR_1 (ty2_num hv.1 hv.2) (by simp only [List.length_cons]; omega), 0, by omega, fun f => ?_⟩
      · show (cs ++ [_]).length + ws.length ≤ i + 1
        rw [List.length_append, List.length_singleton]; omega
      · have hq : ∀ g, partF b E tk (g + 1) i cs.reverse ws o = .inl (i + 1, endF (cs ++ [1000 + zV b E i]).reverse ws o) := fun g => by
          rw [hp, List.reverse_append]; unfold leafF; rw [if_neg hw, if_pos h9]; rfl
        have e9 := smF_gx (f := f + 0) hq
        exact e9
    · have en : nuS b E 0 9999 (.inl (i, cs, o)) = .inr ((nfK b E i, nfP b E i), o) := by
        simp only [nuS]
        rw [if_neg (fun h => h9 h.1)]
      rw [en]
      refine ⟨0, by omega, fun f => smF_bx (fun g => ?_)⟩
      rw [hp]; unfold leafF; rw [if_neg hw, if_neg h9]
theorem PRT_0 {b : Nat → Int} {E : Nat} {tk : Int} (hE : E ≤ 1600) (htk : tk = 0 ∨ tk = 1 ∨ tk = 2) : PRT b E tk 0 (partB b E tk none) := by
  intro i cs o ws ho h0 hln hi
  have hz := zP_rng b E i
  have ho6 : o = 6 := by omega
  by_cases c1 : zK b E i = 40
  · have c1' : kdS b E (.inl (i, cs, o)) = 40 := c1
    have e : partB b E tk none (.inl (i, cs, o)) = .inr ((4, (zP b E i : Int)), o) := by
      unfold partB; rw [if_pos c1']; unfold insB; rw [if_pos c1']; rfl
    rw [e]
    exact ⟨0, by omega, fun f => smF_bx (fun g => (part_40 c1).trans (if_pos ho6))⟩
  · have c1' : ¬ kdS b E (.inl (i, cs, o)) = 40 := c1
    by_cases c2 : zK b E i = 153 ∨ zK b E i = 154
    · have c2' : kdS b E (.inl (i, cs, o)) = 153 ∨ kdS b E (.inl (i, cs, o)) = 154 := c2
      by_cases c3 : zK b E (i + 1) = 40
      · have c3' : kdS b E (npS (.inl (i, cs, o))) = 40 := c3
        have e : partB b E tk none (.inl (i, cs, o)) = .inr ((4, (zP b E (i + 1) : Int)), o) := by
          unfold partB; rw [if_neg c1', if_pos c2']; unfold insB; rw [if_pos c3']; rfl
        rw [e]
        exact ⟨0, by omega, fun f => smF_bx (fun g => ((part_mm c2).trans (if_pos c3)).trans (if_pos ho6))⟩
      · have c3' : ¬ kdS b E (npS (.inl (i, cs, o))) = 40 := c3
        have e : partB b E tk none (.inl (i, cs, o)) = .inr ((1, (zP b E (i + 1) : Int)), o) := by
          unfold partB; rw [if_neg c1', if_pos c2']; unfold insB; rw [if_neg c3']; rfl
        rw [e]
        exact ⟨0, by omega, fun f => smF_bx (fun g => (part_mm c2).trans (if_neg c3))⟩
    · have c2' : ¬ (kdS b E (.inl (i, cs, o)) = 153 ∨ kdS b E (.inl (i, cs, o)) = 154) := c2
      by_cases c4 : zK b E i = 148 ∧ tk = 2
      · have c4' : kdS b E (.inl (i, cs, o)) = 148 ∧ tk = 2 := c4
        have e : partB b E tk none (.inl (i, cs, o)) = .inr ((4, (zP b E i : Int)), o) := by
          unfold partB; rw [if_neg c1', if_neg c2', if_pos c4']; rfl
        rw [e]
        obtain ⟨c5, c6⟩ := c4
        subst c6
        exact ⟨0, by omega, fun f => smF_bx (fun g => (part_kn c5).trans (if_pos ho6))⟩
      · exact PRT_lf hE htk c1 c2 c4 hln hi
theorem sumB_r {b : Nat → Int} {E : Nat} {P : SX → SX} (hI : ∀ q, P (.inr q) = .inr q) (q : (Int × Int) × Int) : sumB b E P (.inr q) = .inr q := by
  unfold sumB; rw [hI, smL_r]
theorem partB_r {b : Nat → Int} {E : Nat} {tk : Int} {Q : Option (SX → SX)} (q : (Int × Int) × Int) : partB b E tk Q (.inr q) = .inr q := by
  have hk : kdS b E (.inr q) = 6 := rfl
  unfold partB
  rw [hk, if_neg (by decide), if_neg (by decide), if_neg (fun h => absurd h.1 (by decide))]
  split <;> rfl
theorem partX_r {b : Nat → Int} {E : Nat} {tk : Int} : ∀ n q, partX b E tk n (.inr q) = .inr q
  | 0, q => partB_r q
  | n + 1, q => partB_r q
theorem GS_41 {b : Nat → Int} {E : Nat} {tk : Int} {f j : Nat} {rc mm aa ws : List Int} {o w x : Int} (hm : mOK mm) (ha : aOK w aa) (hx : x = 20 ∨ x = 23 ∨ x = 24) (h : zK b E j = 41) (hl : ws.length ≤ 1990) : GS b E tk f j rc (mm ++ (aa ++ (x :: ws))) (o + 1) = GS b E tk f (j + 1) (endF ((if x = 20 then [] else if x = 23 then [5] else [6]) ++ (aa ++ (mm ++ rc))) ws o).1 (endF ((if x = 20 then [] else if x = 23 then [5] else [6]) ++ (aa ++ (mm ++ rc))) ws o).2.1 (endF ((if x = 20 then [] else if x = 23 then [5] else [6]) ++ (aa ++ (mm ++ rc))) ws o).2.2 := by
  have hb : brF (mm ++ (aa ++ (x :: ws))) = x := by
    rw [br_pd hm ha]; unfold brF isBr; rw [if_pos (by rcases hx with rfl | rfl | rfl <;> decide)]
  have hlm : mm.length ≤ 1 := by rcases hm with rfl | rfl | rfl <;> simp
  have hla := (aOK_len ha).1
  rw [GS_cl (by simp only [List.length_append, List.length_cons]; omega) h (by rw [hb]; exact hx)]
  have hc : clE rc (mm ++ (aa ++ (x :: ws))) (o + 1) = endF ((if x = 20 then [] else if x = 23 then [5] else [6]) ++ (aa ++ (mm ++ rc))) ws o := by
    unfold clE clR
    rw [hb, dtb_pd hm ha (Or.inr ⟨x, ws, rfl, by omega, by omega⟩)]
    rw [show o + 1 - 1 = o by omega]
    rcases hx with rfl | rfl | rfl <;> rfl
  rw [hc]
theorem GS_bad {b : Nat → Int} {E : Nat} {tk : Int} {f j : Nat} {rc mm aa ws : List Int} {o w x : Int} (hm : mOK mm) (ha : aOK w aa) (hx : x = 20 ∨ x = 23 ∨ x = 24) (hs : noS (zK b E j)) (h : ¬ zK b E j = 41) : GS b E tk f j rc (mm ++ (aa ++ (x :: ws))) o = .inr (1, (zP b E j : Int)) := by
  have hb : brF (mm ++ (aa ++ (x :: ws))) = x := by
    rw [br_pd hm ha]; unfold brF isBr; rw [if_pos (by rcases hx with rfl | rfl | rfl <;> decide)]
  obtain ⟨s1, s2, s3, s4⟩ := hs
  rw [GS_gt (fun h2 => h h2.1)]
  unfold gtF
  rw [if_neg (by omega), if_neg (by omega), hb, if_neg (by omega), if_pos (by omega)]
theorem GS_44 {b : Nat → Int} {E : Nat} {tk : Int} {f j : Nat} {rc mm aa ws : List Int} {o w x : Int} (hm : mOK mm) (ha : aOK w aa) (hx : x = 21 ∨ x = 22) (hs : noS (zK b E j)) : GS b E tk f j rc (mm ++ (aa ++ (x :: ws))) o = if zK b E j = 44 then smF b E tk f (j + 1) (aa ++ (mm ++ rc)) ((x + 2) :: ws) o else .inr (1, (zP b E j : Int)) := by
  have hb : brF (mm ++ (aa ++ (x :: ws))) = x := by
    rw [br_pd hm ha]; unfold brF isBr; rw [if_pos (by rcases hx with rfl | rfl <;> decide)]
  obtain ⟨s1, s2, s3, s4⟩ := hs
  rw [GS_gt (by rw [hb]; omega)]
  have e : gtF b E j rc (mm ++ (aa ++ (x :: ws))) o = if zK b E j = 44 then .inl (1, j + 1, aa ++ (mm ++ rc), (x + 2) :: ws, o) else .inr (1, (zP b E j : Int)) := by
    unfold gtF
    rw [if_neg (by omega), if_neg (by omega), hb, if_pos hx, dtb_pd hm ha (Or.inr ⟨x, ws, rfl, by omega, by omega⟩)]
    rfl
  rw [e]
  by_cases h44 : zK b E j = 44
  · simp only [if_pos h44]; rfl
  · simp only [if_neg h44]
theorem TY.mono {tk : Int} {D D2 : Nat} {ns : List Int} {t : Bool} (h : TY tk D ns t) (hd : D ≤ D2) : TY tk D2 ns t := fun ts hts => h ts (by omega)
theorem oc1 {i : Nat} {cs : List Int} {o : Int} : ocS 1 (npS (.inl (i, cs, o))) = .inl (i + 1, cs, o + 1) := rfl
theorem oc2 {i : Nat} {cs : List Int} {o : Int} : ocS 1 (npS (npS (.inl (i, cs, o)))) = .inl (i + 2, cs, o + 1) := rfl
theorem PRT_par {b : Nat → Int} {E : Nat} {tk : Int} {n : Nat} {P : SX → SX} (hE : E ≤ 1600) (htk : tk = 0 ∨ tk = 1 ∨ tk = 2) (hP : PRT b E tk n P) (hI : ∀ q, P (.inr q) = .inr q) {i : Nat} {cs : List Int} {o : Int} {ws : List Int} (ho : o + ((n + 1 : Nat) : Int) = 6) (h0 : 0 ≤ o) (hln : cs.length + ws.length ≤ i) (hi : i ≤ zP b E i) (c1 : zK b E i = 40) : RS b E cs o (i + 1) ws.length
    (fun j ns => TY tk (3 * (n + 1) + 1) ns false ∧ ∃ m, m + 1 + i ≤ j ∧ ∀ f, smF b E tk (f + m + 1) i cs.reverse ws o = GS b E tk f j (endF (cs ++ ns).reverse ws o).1 (endF (cs ++ ns).reverse ws o).2.1 (endF (cs ++ ns).reverse ws o).2.2)
    (fun e => ∃ m, m + i ≤ 1600 ∧ ∀ f, smF b E tk (f + m + 1) i cs.reverse ws o = .inr e) (partB b E tk (some P) (.inl (i, cs, o))) := by
  have hz := zP_rng b E i
  have hS := SMT_of hE hP
  have ho6 : ¬ o = 6 := by omega
  have c1' : kdS b E (.inl (i, cs, o)) = 40 := c1
  have e : partB b E tk (some P) (.inl (i, cs, o)) = ocS (-1) (psK b E 41 (sumB b E P (.inl (i + 1, cs, o + 1)))) := by
    unfold partB; rw [if_pos c1']; unfold insB; rw [if_pos c1']; show ocS (-1) (psK b E 41 (if false = true then sumB b E P (psK b E 44 (sumB b E P (ocS 1 (npS (.inl (i, cs, o)))))) else sumB b E P (ocS 1 (npS (.inl (i, cs, o)))))) = _; rw [if_neg (by decide), oc1]
  rw [e]
  have hst : ∀ f, smF b E tk (f + 1) i cs.reverse ws o = smF b E tk (f + 1) (i + 1) cs.reverse (20 :: ws) (o + 1) := fun f => smF_step (by omega) h0 ho6 (fun g => (part_40 c1).trans (if_neg ho6))
  have hs := hS (i + 1) cs (o + 1) (20 :: ws) (by omega) (by omega) (Or.inr ⟨20, ws, rfl, by decide, by decide⟩) (by simp only [List.length_cons]; omega) (zP_on (by omega) hi)
  cases hr : sumB b E P (.inl (i + 1, cs, o + 1)) with
  | inr q =>
    rw [hr] at hs
    obtain ⟨m, hm, hf⟩ := hs
    have e2 : ocS (-1) (psK b E 41 (.inr q)) = .inr (q.1, q.2 + (-1)) := rfl
    rw [e2]
    exact ⟨m, by omega, fun f => by rw [hst, hf]⟩
  | inl q =>
    obtain ⟨j, cs1, o1⟩ := q
    rw [hr] at hs
    obtain ⟨ho1, ⟨hL, hz1, hlen⟩, ns, hcs, hT, hno, mm, aa, w, rc, hmm, haa, hrv, m, hm, hf⟩ := hs
    simp only at ho1 hL hz1 hlen hcs hm hf hno
    subst ho1
    subst hcs
    have hzj := zP_rng b E j
    simp only [List.length_cons] at hlen
    by_cases c2 : zK b E j = 41
    · have c2' : kdS b E (.inl (j, cs ++ ns, o + 1)) = 41 := c2
      have e2 : ocS (-1) (psK b E 41 (.inl (j, cs ++ ns, o + 1))) = .inl (j + 1, cs ++ ns, o + 1 + -1) := by unfold psK; rw [if_pos c2']; rfl
      rw [e2]
      refine ⟨(by omega : o + 1 + -1 = o), ⟨by show i + 1 ≤ j + 1; omega, zP_on (by omega) hz1, by show (cs ++ ns).length + ws.length ≤ j + 1; omega⟩, ns, rfl, hT.mono (by omega), m, by show m + 1 + i ≤ j + 1; omega, fun f => ?_⟩
      rw [hst, hf, GS_41 hmm haa (Or.inl rfl) c2 (by omega), if_pos rfl, hrv, List.nil_append]
    · have c2' : ¬ kdS b E (.inl (j, cs ++ ns, o + 1)) = 41 := c2
      have e2 : ocS (-1) (psK b E 41 (.inl (j, cs ++ ns, o + 1))) = .inr ((1, (zP b E j : Int)), o + 1 + -1) := by unfold psK; rw [if_neg c2']; rfl
      rw [e2]
      exact ⟨m, by omega, fun f => by rw [hst, hf, GS_bad hmm haa (Or.inl rfl) hno c2]⟩
theorem PRT_min {b : Nat → Int} {E : Nat} {tk : Int} {n : Nat} {P : SX → SX} (hE : E ≤ 1600) (htk : tk = 0 ∨ tk = 1 ∨ tk = 2) (hP : PRT b E tk n P) (hI : ∀ q, P (.inr q) = .inr q) {i : Nat} {cs : List Int} {o : Int} {ws : List Int} (ho : o + ((n + 1 : Nat) : Int) = 6) (h0 : 0 ≤ o) (hln : cs.length + ws.length ≤ i) (hi : i ≤ zP b E i) (c1 : ¬ zK b E i = 40) (c2 : zK b E i = 153 ∨ zK b E i = 154) : RS b E cs o (i + 1) ws.length
    (fun j ns => TY tk (3 * (n + 1) + 1) ns false ∧ ∃ m, m + 1 + i ≤ j ∧ ∀ f, smF b E tk (f + m + 1) i cs.reverse ws o = GS b E tk f j (endF (cs ++ ns).reverse ws o).1 (endF (cs ++ ns).reverse ws o).2.1 (endF (cs ++ ns).reverse ws o).2.2)
    (fun e => ∃ m, m + i ≤ 1600 ∧ ∀ f, smF b E tk (f + m + 1) i cs.reverse ws o = .inr e) (partB b E tk (some P) (.inl (i, cs, o))) := by
  have hz := zP_rng b E i
  have hS := SMT_of hE hP
  have ho6 : ¬ o = 6 := by omega
  have c1' : ¬ kdS b E (.inl (i, cs, o)) = 40 := c1
  have c2' : kdS b E (.inl (i, cs, o)) = 153 ∨ kdS b E (.inl (i, cs, o)) = 154 := c2
  have hz1 := zP_on (show ¬ zK b E i = 6 by omega) hi
  have hzi1 := zP_rng b E (i + 1)
  by_cases c3 : zK b E (i + 1) = 40
  · have c3' : kdS b E (npS (.inl (i, cs, o))) = 40 := c3
    have e : partB b E tk (some P) (.inl (i, cs, o)) = adS (if zK b E i = 153 then 5 else 6) (ocS (-1) (psK b E 41 (sumB b E P (psK b E 44 (sumB b E P (.inl (i + 2, cs, o + 1))))))) := by
      unfold partB; rw [if_neg c1', if_pos c2']; unfold insB; rw [if_pos c3']; show adS (if zK b E i = 153 then 5 else 6) (ocS (-1) (psK b E 41 (if true = true then sumB b E P (psK b E 44 (sumB b E P (ocS 1 (npS (npS (.inl (i, cs, o))))))) else sumB b E P (ocS 1 (npS (npS (.inl (i, cs, o)))))))) = _; rw [if_pos rfl, oc2]
    rw [e]
    have hx : (if zK b E i = 153 then (21 : Int) else 22) = 21 ∨ (if zK b E i = 153 then (21 : Int) else 22) = 22 := by split <;> omega
    have hx5 : (if zK b E i = 153 then (5 : Int) else 6) = (if (if zK b E i = 153 then (21 : Int) else 22) + 2 = 23 then 5 else 6) := by split <;> rfl
    have hx56 : 1 ≤ (if zK b E i = 153 then (5 : Int) else 6) ∧ (if zK b E i = 153 then (5 : Int) else 6) ≤ 6 := by split <;> omega
    have hst : ∀ f, smF b E tk (f + 1) i cs.reverse ws o = smF b E tk (f + 1) (i + 2) cs.reverse ((if zK b E i = 153 then 21 else 22) :: ws) (o + 1) := fun f => smF_step (by omega) h0 ho6 (fun g => ((part_mm c2).trans (if_pos c3)).trans (if_neg ho6))
    generalize (if zK b E i = 153 then (5 : Int) else 6) = y at hx5 hx56 ⊢
    generalize (if zK b E i = 153 then (21 : Int) else 22) = x at hx hx5 hst
    have hs := hS (i + 2) cs (o + 1) (x :: ws) (by omega) (by omega) (Or.inr ⟨x, ws, rfl, by omega, by omega⟩) (by simp only [List.length_cons]; omega) (zP_on (by omega) hz1)
    cases hr : sumB b E P (.inl (i + 2, cs, o + 1)) with
    | inr q =>
      rw [hr] at hs
      obtain ⟨m, hm, hf⟩ := hs
      have e2 : adS y (ocS (-1) (psK b E 41 (sumB b E P (psK b E 44 (.inr q))))) = .inr (q.1, q.2 + (-1)) := by
        show adS y (ocS (-1) (psK b E 41 (sumB b E P (.inr q)))) = _
        rw [sumB_r hI]; rfl
      rw [e2]
      exact ⟨m, by omega, fun f => by rw [hst, hf]⟩
    | inl q =>
      obtain ⟨j, cs1, o1⟩ := q
      rw [hr] at hs
      obtain ⟨ho1, ⟨hL, hzj1, hlen⟩, ns, hcs, hT, hno, mm, aa, w, rc, hmm, haa, hrv, m, hm, hf⟩ := hs
      simp only at ho1 hL hzj1 hlen hcs hm hf hno
      subst ho1
      subst hcs
      have hzj := zP_rng b E j
      simp only [List.length_cons] at hlen
      by_cases c4 : zK b E j = 44
      · have c4' : kdS b E (.inl (j, cs ++ ns, o + 1)) = 44 := c4
        have e2 : psK b E 44 (.inl (j, cs ++ ns, o + 1)) = .inl (j + 1, cs ++ ns, o + 1) := by unfold psK; rw [if_pos c4']; rfl
        rw [e2]
        have hs2 := hS (j + 1) (cs ++ ns) (o + 1) ((x + 2) :: ws) (by omega) (by omega) (Or.inr ⟨x + 2, ws, rfl, by omega, by omega⟩) (by simp only [List.length_cons]; omega) (zP_on (by omega) hzj1)
        have hst2 : ∀ f, smF b E tk (f + 1 + m + 1) i cs.reverse ws o = smF b E tk (f + 1) (j + 1) (cs ++ ns).reverse ((x + 2) :: ws) (o + 1) := fun f => by
          rw [hst, hf, GS_44 hmm haa hx hno, if_pos c4, hrv]
        cases hr2 : sumB b E P (.inl (j + 1, cs ++ ns, o + 1)) with
        | inr q =>
          rw [hr2] at hs2
          obtain ⟨m2, hm2, hf2⟩ := hs2
          have e3 : adS y (ocS (-1) (psK b E 41 (.inr q))) = .inr (q.1, q.2 + (-1)) := rfl
          rw [e3]
          refine ⟨m2 + 1 + m, by omega, fun f => ?_⟩
          rw [show f + (m2 + 1 + m) + 1 = (f + m2) + 1 + m + 1 by omega, hst2, hf2]
        | inl q =>
          obtain ⟨j2, cs2, o2⟩ := q
          rw [hr2] at hs2
          obtain ⟨ho2, ⟨hL2, hzj2, hlen2⟩, ns2, hcs2, hT2, hno2, mm2, aa2, w2, rc2, hmm2, haa2, hrv2, m2, hm2, hf2⟩ := hs2
          simp only at ho2 hL2 hzj2 hlen2 hcs2 hm2 hf2 hno2
          subst ho2
          subst hcs2
          have hzj2' := zP_rng b E j2
          simp only [List.length_cons] at hlen2
          by_cases c5 : zK b E j2 = 41
          · have c5' : kdS b E (.inl (j2, cs ++ ns ++ ns2, o + 1)) = 41 := c5
            have e3 : adS y (ocS (-1) (psK b E 41 (.inl (j2, cs ++ ns ++ ns2, o + 1)))) = .inl (j2 + 1, (cs ++ ns ++ ns2) ++ [y], o + 1 + -1) := by
              unfold psK; rw [if_pos c5']; exact adS_ok (show (cs ++ ns ++ ns2).length < 1600 by omega)
            rw [e3]
            refine ⟨(by omega : o + 1 + -1 = o), ⟨by show i + 1 ≤ j2 + 1; omega, zP_on (by omega) hzj2, ?_⟩, ns ++ (ns2 ++ [y]), ?_, ?_, m2 + 1 + m, by show m2 + 1 + m + 1 + i ≤ j2 + 1; omega, fun f => ?_⟩
            · show ((cs ++ ns ++ ns2) ++ [y]).length + ws.length ≤ j2 + 1
              rw [List.length_append, List.length_singleton]; omega
            · simp only [List.append_assoc]
            · intro ts hts
              rw [tyR_app ns ts _ _ (hT ts (by omega)), tyR_app ns2 _ _ _ (hT2 _ (by simp only [List.length_cons]; omega))]
              exact tyR_1 (ty2_op hx56) (by simp only [List.length_cons]; omega)
            · rw [show f + (m2 + 1 + m) + 1 = (f + m2) + 1 + m + 1 by omega, hst2, hf2, GS_41 hmm2 haa2 (Or.inr (by omega)) c5 (by omega), if_neg (by omega), hrv2.symm]
              have ey : (if x + 2 = 23 then [5] else [6]) = [y] := by rw [hx5]; split <;> rfl
              have er : [y] ++ (cs ++ ns ++ ns2).reverse = (cs ++ (ns ++ (ns2 ++ [y]))).reverse := by
                rw [show cs ++ (ns ++ (ns2 ++ [y])) = (cs ++ ns ++ ns2) ++ [y] by simp only [List.append_assoc], List.reverse_append (bs := [y])]; rfl
              rw [ey, er]
          · have c5' : ¬ kdS b E (.inl (j2, cs ++ ns ++ ns2, o + 1)) = 41 := c5
            have e3 : adS y (ocS (-1) (psK b E 41 (.inl (j2, cs ++ ns ++ ns2, o + 1)))) = .inr ((1, (zP b E j2 : Int)), o + 1 + -1) := by unfold psK; rw [if_neg c5']; rfl
            rw [e3]
            refine ⟨m2 + 1 + m, by omega, fun f => ?_⟩
            rw [show f + (m2 + 1 + m) + 1 = (f + m2) + 1 + m + 1 by omega, hst2, hf2, GS_bad hmm2 haa2 (Or.inr (by omega)) hno2 c5]
      · have c4' : ¬ kdS b E (.inl (j, cs ++ ns, o + 1)) = 44 := c4
        have e2 : psK b E 44 (.inl (j, cs ++ ns, o + 1)) = .inr ((1, (zP b E j : Int)), o + 1) := by unfold psK; rw [if_neg c4']; rfl
        have e3 : adS y (ocS (-1) (psK b E 41 (sumB b E P (psK b E 44 (.inl (j, cs ++ ns, o + 1)))))) = .inr ((1, (zP b E j : Int)), o + 1 + -1) := by
          rw [e2, sumB_r hI]; rfl
        rw [e3]
        exact ⟨m, by omega, fun f => by rw [hst, hf, GS_44 hmm haa hx hno, if_neg c4]⟩
  · have c3' : ¬ kdS b E (npS (.inl (i, cs, o))) = 40 := c3
    have e : partB b E tk (some P) (.inl (i, cs, o)) = .inr ((1, (zP b E (i + 1) : Int)), o) := by
      unfold partB; rw [if_neg c1', if_pos c2']; unfold insB; rw [if_neg c3']; rfl
    rw [e]
    exact ⟨0, by omega, fun f => smF_bx (fun g => (part_mm c2).trans (if_neg c3))⟩
theorem PRT_kno {b : Nat → Int} {E : Nat} {tk : Int} {n : Nat} {P : SX → SX} (hE : E ≤ 1600) (htk : tk = 0 ∨ tk = 1 ∨ tk = 2) (hP : PRT b E tk n P) (hI : ∀ q, P (.inr q) = .inr q) {i : Nat} {cs : List Int} {o : Int} {ws : List Int} (ho : o + ((n + 1 : Nat) : Int) = 6) (h0 : 0 ≤ o) (hln : cs.length + ws.length ≤ i) (hi : i ≤ zP b E i) (c1 : ¬ zK b E i = 40) (c2 : ¬ (zK b E i = 153 ∨ zK b E i = 154)) (c4 : zK b E i = 148 ∧ tk = 2) : RS b E cs o (i + 1) ws.length
    (fun j ns => TY tk (3 * (n + 1) + 1) ns false ∧ ∃ m, m + 1 + i ≤ j ∧ ∀ f, smF b E tk (f + m + 1) i cs.reverse ws o = GS b E tk f j (endF (cs ++ ns).reverse ws o).1 (endF (cs ++ ns).reverse ws o).2.1 (endF (cs ++ ns).reverse ws o).2.2)
    (fun e => ∃ m, m + i ≤ 1600 ∧ ∀ f, smF b E tk (f + m + 1) i cs.reverse ws o = .inr e) (partB b E tk (some P) (.inl (i, cs, o))) := by
  have hz := zP_rng b E i
  have hS := SMT_of hE hP
  have ho6 : ¬ o = 6 := by omega
  have c1' : ¬ kdS b E (.inl (i, cs, o)) = 40 := c1
  have c2' : ¬ (kdS b E (.inl (i, cs, o)) = 153 ∨ kdS b E (.inl (i, cs, o)) = 154) := c2
  have c4' : kdS b E (.inl (i, cs, o)) = 148 ∧ tk = 2 := c4
  have e : partB b E tk (some P) (.inl (i, cs, o)) = ocS (-1) (adS 60 (P (.inl (i + 1, cs, o + 1)))) := by
    unfold partB; rw [if_neg c1', if_neg c2', if_pos c4']; rfl
  rw [e]
  obtain ⟨c5, c6⟩ := c4
  subst c6
  have hst : ∀ f, smF b E 2 (f + 1) i cs.reverse ws o = smF b E 2 (f + 1) (i + 1) cs.reverse (60 :: ws) (o + 1) := fun f => smF_step (by omega) h0 ho6 (fun g => (part_kn c5).trans (if_neg ho6))
  have hs := hP (i + 1) cs (o + 1) (60 :: ws) (by omega) (by omega) (by simp only [List.length_cons]; omega) (zP_on (by omega) hi)
  cases hr : P (.inl (i + 1, cs, o + 1)) with
  | inr q =>
    rw [hr] at hs
    obtain ⟨m, hm, hf⟩ := hs
    exact ⟨m, by omega, fun f => by rw [hst, hf]⟩
  | inl q =>
    obtain ⟨j, cs1, o1⟩ := q
    rw [hr] at hs
    obtain ⟨ho1, ⟨hL, hzj1, hlen⟩, ns, hcs, hT, m, hm, hf⟩ := hs
    simp only at ho1 hL hzj1 hlen hcs hm hf
    subst ho1
    subst hcs
    have hzj := zP_rng b E j
    simp only [List.length_cons] at hlen
    have e2 : ocS (-1) (adS 60 (.inl (j, cs ++ ns, o + 1))) = .inl (j, (cs ++ ns) ++ [60], o + 1 + -1) := by rw [adS_ok (by omega)]; rfl
    rw [e2]
    refine ⟨(by omega : o + 1 + -1 = o), ⟨by show i + 1 ≤ j; omega, hzj1, ?_⟩, ns ++ [60], ?_, ?_, m, by show m + 1 + i ≤ j; omega, fun f => ?_⟩
    · show ((cs ++ ns) ++ [60]).length + ws.length ≤ j
      rw [List.length_append, List.length_singleton]; omega
    · simp only [List.append_assoc]
    · intro ts hts
      rw [tyR_app ns ts _ _ (hT ts (by omega))]
      exact tyR_1 ty2_kn (by simp only [List.length_cons]; omega)
    · have en : endF (cs ++ ns).reverse (60 :: ws) (o + 1) = endF (cs ++ (ns ++ [60])).reverse ws o := by
        rw [show cs ++ (ns ++ [60]) = (cs ++ ns) ++ [60] by simp only [List.append_assoc], List.reverse_append (bs := [60])]
        conv => lhs; unfold endF
        rw [if_pos (by decide), show o + 1 - 1 = o by omega]; rfl
      rw [hst, hf, en]
theorem PRT_S {b : Nat → Int} {E : Nat} {tk : Int} {n : Nat} {P : SX → SX} (hE : E ≤ 1600) (htk : tk = 0 ∨ tk = 1 ∨ tk = 2) (hP : PRT b E tk n P) (hI : ∀ q, P (.inr q) = .inr q) : PRT b E tk (n + 1) (partB b E tk (some P)) := by
  intro i cs o ws ho h0 hln hi
  by_cases c1 : zK b E i = 40
  · exact PRT_par hE htk hP hI ho h0 hln hi c1
  · by_cases c2 : zK b E i = 153 ∨ zK b E i = 154
    · exact PRT_min hE htk hP hI ho h0 hln hi c1 c2
    · by_cases c4 : zK b E i = 148 ∧ tk = 2
      · exact PRT_kno hE htk hP hI ho h0 hln hi c1 c2 c4
      · exact PRT_lf hE htk c1 c2 c4 hln hi
theorem PRT_X {b : Nat → Int} {E : Nat} {tk : Int} (hE : E ≤ 1600) (htk : tk = 0 ∨ tk = 1 ∨ tk = 2) : ∀ n, PRT b E tk n (partX b E tk n)
  | 0 => PRT_0 hE htk
  | n + 1 => PRT_S hE htk (PRT_X hE htk n) (partX_r n)
/-- a sum at the bottom: the class reads it as the model does -/
theorem sum_eq {b : Nat → Int} {E : Nat} {tk : Int} (hE : E ≤ 1600) (htk : tk = 0 ∨ tk = 1 ∨ tk = 2) (n i : Nat) (cs : List Int) (o : Int) (ho : o + (n : Int) = 6) (h0 : 0 ≤ o) (hln : cs.length ≤ i) (hi : i ≤ zP b E i) :
  RS b E cs o (i + 1) 0 (fun j ns => TY tk (3 * n + 3) ns false ∧ ∃ m, m + 1 + i ≤ j ∧ ∀ f, smF b E tk (f + m + 1) i cs.reverse [] o = .inl (j, (cs ++ ns).reverse)) (fun e => ∃ m, m + i ≤ 1600 ∧ ∀ f, smF b E tk (f + m + 1) i cs.reverse [] o = .inr e) (sumB b E (partX b E tk n) (.inl (i, cs, o))) := by
  have hs := SMT_of hE (PRT_X hE htk n) i cs o [] ho h0 (Or.inl rfl) hln hi
  cases hr : sumB b E (partX b E tk n) (.inl (i, cs, o)) with
  | inr q => rw [hr] at hs; exact hs
  | inl q =>
    rw [hr] at hs
    obtain ⟨ho1, hL, ns, hcs, hT, hno, mm, aa, w, rc, hmm, haa, hrv, m, hm, hf⟩ := hs
    refine ⟨ho1, hL, ns, hcs, hT, m, hm, fun f => ?_⟩
    obtain ⟨s1, s2, s3, s4⟩ := hno
    have hb : brF (mm ++ (aa ++ [])) = -1 := br_pd hmm haa []
    rw [hf, GS_gt (by rw [hb]; omega)]
    have e : gtF b E q.1 rc (mm ++ (aa ++ [])) o = .inl (0, q.1, rc, mm ++ (aa ++ []), o) := by
      unfold gtF
      rw [if_neg (by omega), if_neg (by omega), hb, if_neg (by decide), if_neg (by decide)]
    rw [e, hrv]
    show Sum.inl (q.1, daF rc (mm ++ (aa ++ []))) = _
    rw [List.append_nil, daF_pd hmm haa]
