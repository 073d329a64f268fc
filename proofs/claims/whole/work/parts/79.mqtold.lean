/-- one code of a question, on values; env tells the parts, of whom one reminds -/
def ev1q (env of : Int → Int) (st : List Int) (v : Int) : List Int :=
  if 60 ≤ v ∧ v < 1000 then (match st with
    | [] => []
    | b :: t => clp (of b) :: t) else if 40 ≤ v ∧ v < 60 then clp (env (v - 40)) :: st else ev1 (fun _ => 0) st v
def evQ (env of : Int → Int) : List Int → List Int → List Int
  | st, [] => st
  | st, v :: cs => evQ env of (ev1q env of st v) cs
def ty1q (ts : List Bool) (v : Int) : Option (List Bool) :=
  if 60 ≤ v ∧ v < 1000 then (match ts with
    | false :: t => if v = 60 then some (false :: t) else none
    | _ => none) else if 40 ≤ v ∧ v < 60 then (if v ≤ 50 then some (false :: ts) else none) else ty1 ts v
def okQ : List Int → List Bool → Bool
  | [], ts => ts.length == 1
  | v :: cs, ts => match ty1q ts v with
    | some t => decide (t.length ≤ 60) && okQ cs t
    | none => false
theorem ty1q_shape {ts t : List Bool} {v : Int} (ht : ty1q ts v = some t) : (1000 ≤ v ∧ v < 11000 ∧ t = false :: ts) ∨ (v = 60 ∧ ∃ t0, ts = false :: t0 ∧ t = false :: t0) ∨ (40 ≤ v ∧ v ≤ 50 ∧ t = false :: ts) ∨ (v = 13 ∧ t = true :: ts) ∨ (v = 12 ∧ ∃ t0, ts = true :: t0 ∧ t = true :: t0) ∨ ((1 ≤ v ∧ v ≤ 11) ∧ ∃ x y z t0, ts = x :: y :: t0 ∧ t = z :: t0) := by
  unfold ty1q at ht
  split at ht
  · split at ht
    · split at ht
      · cases ht; exact Or.inr (Or.inl ⟨by assumption, _, rfl, rfl⟩)
      · cases ht
    · cases ht
  · split at ht
    · split at ht
      · cases ht; exact Or.inr (Or.inr (Or.inl ⟨by omega, by assumption, rfl⟩))
      · cases ht
    · rcases ty1_shape ht with ⟨c1, c2, c3⟩ | ⟨c1, c2, c3⟩ | c | c | c
      · exact Or.inl ⟨c1, c2, c3⟩
      · omega
      · exact Or.inr (Or.inr (Or.inr (Or.inl c)))
      · exact Or.inr (Or.inr (Or.inr (Or.inr (Or.inl c))))
      · exact Or.inr (Or.inr (Or.inr (Or.inr (Or.inr c))))
theorem ty1q_ok {env of : Int → Int} {ts t : List Bool} {st : List Int} {v : Int} (h : tyOK ts st) (ht : ty1q ts v = some t) : tyOK t (ev1q env of st v) := by
  unfold ty1q at ht
  unfold ev1q
  split at ht
  · rename_i h1
    rw [if_pos h1]
    split at ht
    · split at ht
      · cases ht
        cases st with
        | nil => exact h.elim
        | cons b s => exact ⟨by have := clp_rng (of b); simp [vOK]; omega, h.2⟩
      · cases ht
    · cases ht
  · rename_i h1
    rw [if_neg h1]
    split at ht
    · rename_i h2
      rw [if_pos h2]
      split at ht
      · cases ht; exact ⟨by have := clp_rng (env (v - 40)); simp [vOK]; omega, h⟩
      · cases ht
    · rename_i h2
      rw [if_neg h2]
      exact ty1_ok (env := fun _ => 0) (fun _ _ _ => ⟨by decide, by decide⟩) h ht
theorem evQ_rng {env of : Int → Int} : ∀ {cs : List Int} {ts : List Bool} {st : List Int}, tyOK ts st → okQ cs ts = true → -1000000 ≤ (evQ env of st cs).headD 0 ∧ (evQ env of st cs).headD 0 ≤ 1000000
  | [], ts, st, h, hk => by
    unfold okQ at hk
    cases ts with
    | nil => exact absurd hk (by decide)
    | cons x s => cases st with
      | nil => exact h.elim
      | cons y u => exact vOK_r h.1
  | v :: cs, ts, st, h, hk => by
    unfold okQ at hk
    split at hk
    · rename_i t ht
      simp only [Bool.and_eq_true] at hk
      exact evQ_rng (cs := cs) (ty1q_ok h ht) hk.2
    · cases hk
theorem qTold_loop (σ : am_H) (hL : lay σ) (p : Nat) (hp : p < 8) (hN : 0 ≤ σ.2.1 85 5 ∧ σ.2.1 85 5 ≤ 8) (ha : 0 ≤ σ.2.1 55 56 ∧ σ.2.1 55 56 < 256) (ht : 0 ≤ σ.2.1 55 61 ∧ σ.2.1 55 61 < 256) (E : Nat) (hE : σ.2.1 55 97 = E) (hE2 : E ≤ 1700) (RES : List Int) : ∀ (cs : List Int) (j : Nat) (ts : List Bool) (f : Nat → Int), j + cs.length = E → (∀ i, i < cs.length → σ.2.1 127 (j + i) = cs.getD i 0) → ts.length ≤ 60 → tyOK ts (pl f ts.length) → okQ cs ts = true → evQ (ptM σ p) (fun n => ofQ σ n (p : Int)) (pl f ts.length) cs = RES → am_wp M_X10_qTold (fun r σ' => r = some (am_l (RES.headD 0)) ∧ ∃ g : Nat → Int, ∃ z : Int, σ' = am_setN (am_setA σ 129 g) 55 103 z) 0 0 7 [(2, am_i (j : Int)), (0, am_r 55), (1, am_i (p : Int))] [] (am_setN (am_setA σ 129 f) 55 103 (ts.length : Int)) := by
  intro cs
  induction cs with
  | nil =>
    intro j ts f hj hc hlen hty hok hev
    have hts : ts.length = 1 := by simpa [okQ] using hok
    have hj2 : j = E := by simpa using hj
    refine am_hp2 (σ1 := am_setN (am_setA σ 129 f) 55 103 1) (by rw [hts]; rfl) ?_
    refine am_iload_n (q := 8) rfl (am_tab tk_X10_qTold 5 rfl) rfl ?_
    refine am_aload_n (q := 9) rfl (am_tab tk_X10_qTold 6 rfl) rfl ?_
    refine am_getI (q := 12) (a := 55) (k := 10) (n := 108) (j := 97) (x := (E : Int)) (Ls_55 hL) (by decide) rfl hE (by decide) (Or.inl kf_X10_336) (am_tab tk_X10_qTold 7 rfl) rfl ?_
    refine am_icmp_ge (q := 15) (t := 168) (am_tab tk_X10_qTold 8 rfl) (by decide) rfl (fun h12 => ?_) (fun h12 => ?_)
    · refine am_aload_n (q := 169) rfl (am_tab tk_X10_qTold 94 rfl) rfl ?_
      refine am_getR (q := 172) (a := 55) (k := 10) (n := 108) (j := 102) (r := some (129)) (Ls_55 hL) (by decide) rfl (Lr_55_102 hL) (by decide) (Or.inl kf_X10_239) (am_tab tk_X10_qTold 95 rfl) rfl ?_
      refine am_iconst (q := 173) (n := 0) (by decide) (am_tab tk_X10_qTold 96 rfl) rfl ?_
      refine am_lald (q := 174) (a := 129) (n := 1700) (x := (f 0)) (Ls_129 hL) (by omega) (by omega) rfl (am_tab tk_X10_qTold 97 rfl) rfl ?_
      refine am_lret rfl (Nat.le_of_ble_eq_true rfl) (Nat.le_of_ble_eq_true rfl) (am_tab tk_X10_qTold 98 rfl) ?_
      have hr : RES.headD 0 = f 0 := by rw [← hev, hts]; rfl
      exact ⟨by rw [hr], f, 1, rfl⟩
    · exact absurd h12 (by omega)
  | cons v cs ih =>
    intro j ts f hj hc hlen hty hok hev
    have hv : σ.2.1 127 j = v := hc 0 (by simp)
    have e3 : ((j : Int)).toNat = j := by omega
    have hj2 : j + 1 + cs.length = E := by simp at hj; omega
    unfold okQ at hok
    split at hok
    · rename_i t ht2
      simp only [Bool.and_eq_true, decide_eq_true_eq] at hok
      obtain ⟨ht60, hok⟩ := hok
      have h1 := ty1q_ok (env := ptM σ p) (of := fun n => ofQ σ n (p : Int)) hty ht2
      have hc2 : ∀ i, i < cs.length → σ.2.1 127 (j + 1 + i) = cs.getD i 0 := fun i hi => by
        rw [show j + 1 + i = j + (i + 1) by omega]
        exact hc (i + 1) (by simp; omega)
      have K : ∀ f2 : Nat → Int, pl f2 t.length = ev1q (ptM σ p) (fun n => ofQ σ n (p : Int)) (pl f ts.length) v → am_wp M_X10_qTold (fun r σ' => r = some (am_l (RES.headD 0)) ∧ ∃ g : Nat → Int, ∃ z : Int, σ' = am_setN (am_setA σ 129 g) 55 103 z) 0 0 7 [(2, am_i ((j : Int) + 1)), (3, am_i v), (0, am_r 55), (1, am_i (p : Int))] [] (am_setN (am_setA σ 129 f2) 55 103 (t.length : Int)) := by
        intro f2 hf2
        exact am_less (by intro q hq; simp only [List.mem_cons, List.not_mem_nil, or_false] at hq; rcases hq with rfl | rfl | rfl <;> simp) (ih (j + 1) t f2 hj2 hc2 ht60 (by rw [hf2]; exact h1) hok (by rw [hf2]; exact hev))
      rcases ty1q_shape ht2 with ⟨c1, c2, rfl⟩ | ⟨c1, t0, rfl, rfl⟩ | ⟨c1, c2, rfl⟩ | ⟨c1, rfl⟩ | ⟨c1, t0, rfl, rfl⟩ | ⟨c1, x, y, z, t0, rfl, rfl⟩
      · refine am_iload_n (q := 8) rfl (am_tab tk_X10_qTold 5 rfl) rfl ?_
        refine am_aload_n (q := 9) rfl (am_tab tk_X10_qTold 6 rfl) rfl ?_
        refine am_getI (q := 12) (a := 55) (k := 10) (n := 108) (j := 97) (x := (E : Int)) (Ls_55 hL) (by decide) rfl hE (by decide) (Or.inl kf_X10_336) (am_tab tk_X10_qTold 7 rfl) rfl ?_
        refine am_icmp_ge (q := 15) (t := 168) (am_tab tk_X10_qTold 8 rfl) (by decide) rfl (fun h12 => ?_) (fun h12 => ?_)
        · exact absurd h12 (by omega)
        · refine am_aload_n (q := 16) rfl (am_tab tk_X10_qTold 9 rfl) rfl ?_
          refine am_getR (q := 19) (a := 55) (k := 10) (n := 108) (j := 96) (r := some (127)) (Ls_55 hL) (by decide) rfl (Lr_55_96 hL) (by decide) (Or.inl kf_X10_233) (am_tab tk_X10_qTold 10 rfl) rfl ?_
          refine am_iload_n (q := 20) rfl (am_tab tk_X10_qTold 11 rfl) rfl ?_
          refine am_iald (q := 21) (a := 127) (n := 1700) (x := v) (Ls_127 hL) (by omega) (by omega) (by rw [e3]; exact hv) (am_tab tk_X10_qTold 12 rfl) rfl ?_
          refine am_istore_n (q := 22) (by decide) (ls2 := [(3, am_i v), (2, am_i ((j : Int))), (0, am_r 55), (1, am_i ((p : Int)))]) rfl (am_tab tk_X10_qTold 13 rfl) rfl ?_
          refine am_iload_n (q := 23) rfl (am_tab tk_X10_qTold 14 rfl) rfl ?_
          refine am_sipush (q := 26) (n := 1000) (by decide) rfl (am_tab tk_X10_qTold 15 rfl) rfl ?_
          refine am_icmp_lt (q := 29) (t := 42) (am_tab tk_X10_qTold 16 rfl) (by decide) rfl (fun h26 => ?_) (fun h26 => ?_)
          · exact absurd h26 (by omega)
          · refine am_aload_n (q := 30) rfl (am_tab tk_X10_qTold 17 rfl) rfl ?_
            refine am_iload_n (q := 31) rfl (am_tab tk_X10_qTold 18 rfl) rfl ?_
            refine am_sipush (q := 34) (n := 1000) (by decide) rfl (am_tab tk_X10_qTold 19 rfl) rfl ?_
            refine am_isub (q := 35) (by omega) (am_tab tk_X10_qTold 20 rfl) rfl ?_
            refine am_i2l (q := 36) (am_tab tk_X10_qTold 21 rfl) rfl ?_
            refine am_callV0 (q := 39) (me2 := M_X10_qPuts) (b := 55) (kb := 10) (nb := 108) (As := [am_l ((v - 1000))]) (rest := []) (out := []) (c_X10_qPuts ((am_setN (am_setA σ 129 f) 55 103 (ts.length : Int))) hL (v - 1000) ts.length rfl (by omega)) ⟨rfl, rfl⟩ (Ls_55 hL) (by decide) ⟨Or.inl km_X10_406, kc_X10_qPuts, kn_X10, kd_X10_qPuts, ⟨(Nat.le_of_ble_eq_true rfl), (Nat.le_of_ble_eq_true rfl)⟩, ⟨(Nat.le_of_ble_eq_true rfl), (Nat.le_of_ble_eq_true rfl)⟩, (Nat.le_of_ble_eq_true rfl)⟩ ki_X10_qPuts ks_X10_qPuts rfl rfl (am_tab tk_X10_qTold 22 rfl) rfl ?_
            refine am_goto (t := 162) (am_tab tk_X10_qTold 23 rfl) (by decide) ?_
            refine am_iinc (q := 165) rfl (by omega) (by decide) (ls2 := [(2, am_i (((j : Int) + 1))), (3, am_i v), (0, am_r 55), (1, am_i ((p : Int)))]) rfl (am_tab tk_X10_qTold 92 rfl) rfl ?_
            refine am_goto (t := 7) (am_tab tk_X10_qTold 93 rfl) (by decide) ?_
            refine am_hp2 (σ1 := am_setN (am_setA σ 129 (fun i => if i = ts.length then (v - 1000) else f i)) 55 103 ((ts.length : Int) + 1)) (nf129 _ _ _ _ _ _) (K _ ?_)
            show pl _ (ts.length + 1) = _
            rw [pl_push]
            unfold ev1q
            rw [if_neg (by omega), if_neg (by omega)]
            unfold ev1
            rw [if_pos (by omega)]
      · refine am_hp2 (σ1 := am_setN (am_setA σ 129 f) 55 103 ((t0.length : Int) + 1)) rfl ?_
        simp only [List.length_cons] at hlen
        refine am_iload_n (q := 8) rfl (am_tab tk_X10_qTold 5 rfl) rfl ?_
        refine am_aload_n (q := 9) rfl (am_tab tk_X10_qTold 6 rfl) rfl ?_
        refine am_getI (q := 12) (a := 55) (k := 10) (n := 108) (j := 97) (x := (E : Int)) (Ls_55 hL) (by decide) rfl hE (by decide) (Or.inl kf_X10_336) (am_tab tk_X10_qTold 7 rfl) rfl ?_
        refine am_icmp_ge (q := 15) (t := 168) (am_tab tk_X10_qTold 8 rfl) (by decide) rfl (fun h12 => ?_) (fun h12 => ?_)
        · exact absurd h12 (by omega)
        · refine am_aload_n (q := 16) rfl (am_tab tk_X10_qTold 9 rfl) rfl ?_
          refine am_getR (q := 19) (a := 55) (k := 10) (n := 108) (j := 96) (r := some (127)) (Ls_55 hL) (by decide) rfl (Lr_55_96 hL) (by decide) (Or.inl kf_X10_233) (am_tab tk_X10_qTold 10 rfl) rfl ?_
          refine am_iload_n (q := 20) rfl (am_tab tk_X10_qTold 11 rfl) rfl ?_
          refine am_iald (q := 21) (a := 127) (n := 1700) (x := v) (Ls_127 hL) (by omega) (by omega) (by rw [e3]; exact hv) (am_tab tk_X10_qTold 12 rfl) rfl ?_
          refine am_istore_n (q := 22) (by decide) (ls2 := [(3, am_i v), (2, am_i ((j : Int))), (0, am_r 55), (1, am_i ((p : Int)))]) rfl (am_tab tk_X10_qTold 13 rfl) rfl ?_
          refine am_iload_n (q := 23) rfl (am_tab tk_X10_qTold 14 rfl) rfl ?_
          refine am_sipush (q := 26) (n := 1000) (by decide) rfl (am_tab tk_X10_qTold 15 rfl) rfl ?_
          refine am_icmp_lt (q := 29) (t := 42) (am_tab tk_X10_qTold 16 rfl) (by decide) rfl (fun h26 => ?_) (fun h26 => ?_)
          · refine am_iload_n (q := 43) rfl (am_tab tk_X10_qTold 24 rfl) rfl ?_
            refine am_bipush (q := 45) (n := 60) (by decide) rfl (am_tab tk_X10_qTold 25 rfl) rfl ?_
            refine am_icmp_lt (q := 48) (t := 85) (am_tab tk_X10_qTold 26 rfl) (by decide) rfl (fun h45 => ?_) (fun h45 => ?_)
            · exact absurd h45 (by omega)
            · refine am_aload_n (q := 49) rfl (am_tab tk_X10_qTold 27 rfl) rfl ?_
              refine am_getR (q := 52) (a := 55) (k := 10) (n := 108) (j := 102) (r := some (129)) (Ls_55 hL) (by decide) rfl (Lr_55_102 hL) (by decide) (Or.inl kf_X10_239) (am_tab tk_X10_qTold 28 rfl) rfl ?_
              refine am_aload_n (q := 53) rfl (am_tab tk_X10_qTold 29 rfl) rfl ?_
              refine am_getI (q := 56) (a := 55) (k := 10) (n := 108) (j := 103) (x := ((t0.length : Int) + 1)) (Ls_55 hL) (by decide) rfl rfl (by decide) (Or.inl kf_X10_403) (am_tab tk_X10_qTold 30 rfl) rfl ?_
              refine am_iconst (q := 57) (n := 1) (by decide) (am_tab tk_X10_qTold 31 rfl) rfl ?_
              refine am_isub (q := 58) (by omega) (am_tab tk_X10_qTold 32 rfl) rfl ?_
              refine am_aload_n (q := 59) rfl (am_tab tk_X10_qTold 33 rfl) rfl ?_
              refine am_iload_n (q := 60) rfl (am_tab tk_X10_qTold 34 rfl) rfl ?_
              refine am_bipush (q := 62) (n := 60) (by decide) rfl (am_tab tk_X10_qTold 35 rfl) rfl ?_
              refine am_isub (q := 63) (by omega) (am_tab tk_X10_qTold 36 rfl) rfl ?_
              refine am_aload_n (q := 64) rfl (am_tab tk_X10_qTold 37 rfl) rfl ?_
              refine am_getR (q := 67) (a := 55) (k := 10) (n := 108) (j := 102) (r := some (129)) (Ls_55 hL) (by decide) rfl (Lr_55_102 hL) (by decide) (Or.inl kf_X10_239) (am_tab tk_X10_qTold 38 rfl) rfl ?_
              refine am_aload_n (q := 68) rfl (am_tab tk_X10_qTold 39 rfl) rfl ?_
              refine am_getI (q := 71) (a := 55) (k := 10) (n := 108) (j := 103) (x := ((t0.length : Int) + 1)) (Ls_55 hL) (by decide) rfl rfl (by decide) (Or.inl kf_X10_403) (am_tab tk_X10_qTold 40 rfl) rfl ?_
              refine am_iconst (q := 72) (n := 1) (by decide) (am_tab tk_X10_qTold 41 rfl) rfl ?_
              refine am_isub (q := 73) (by omega) (am_tab tk_X10_qTold 42 rfl) rfl ?_
              refine am_lald (q := 74) (a := 129) (n := 1700) (x := (f t0.length)) (Ls_129 hL) (by omega) (by omega) (by rw [show (((t0.length : Int) + 1) - 1).toNat = t0.length by omega]; rfl) (am_tab tk_X10_qTold 43 rfl) rfl ?_
              refine am_iload_n (q := 75) rfl (am_tab tk_X10_qTold 44 rfl) rfl ?_
              refine am_callV0 (q := 78) (me2 := M_X10_qOf) (b := 55) (kb := 10) (nb := 108) (As := [am_i ((v - 60)), am_l ((f t0.length)), am_i ((p : Int))]) (rest := [am_i (((((t0.length : Int) + 1)) - 1)), am_r 129]) (out := [am_l (ofQ σ (f t0.length) (p : Int)), am_i (((((t0.length : Int) + 1)) - 1)), am_r 129]) (c_X10_qOf ((am_setN (am_setA σ 129 f) 55 103 ((t0.length : Int) + 1))) hL (v - 60) (f t0.length) (p : Int) hN) ⟨rfl, rfl⟩ (Ls_55 hL) (by decide) ⟨Or.inl km_X10_654, kc_X10_qOf, kn_X10, kd_X10_qOf, ⟨(Nat.le_of_ble_eq_true rfl), (Nat.le_of_ble_eq_true rfl)⟩, ⟨(Nat.le_of_ble_eq_true rfl), (Nat.le_of_ble_eq_true rfl)⟩, (Nat.le_of_ble_eq_true rfl)⟩ ki_X10_qOf ks_X10_qOf rfl rfl (am_tab tk_X10_qTold 45 rfl) rfl ?_
              refine am_callS0 (q := 81) (me2 := M_X10_qClip) (As := [am_l (ofQ σ (f t0.length) (p : Int))]) (rest := [am_i (((((t0.length : Int) + 1)) - 1)), am_r 129]) (out := [am_l (clp (ofQ σ (f t0.length) (p : Int))), am_i (((((t0.length : Int) + 1)) - 1)), am_r 129]) (c_X10_qClip ((am_setN (am_setA σ 129 f) 55 103 ((t0.length : Int) + 1))) hL (ofQ σ (f t0.length) (p : Int))) ⟨rfl, rfl⟩ ⟨Or.inl km_X10_646, kc_X10_qClip, kn_X10, kd_X10_qClip, ⟨(Nat.le_of_ble_eq_true rfl), (Nat.le_of_ble_eq_true rfl)⟩, ⟨(Nat.le_of_ble_eq_true rfl), (Nat.le_of_ble_eq_true rfl)⟩, (Nat.le_of_ble_eq_true rfl)⟩ ki_X10_qClip rfl rfl (am_tab tk_X10_qTold 46 rfl) rfl ?_
              refine am_last (q := 82) (a := 129) (n := 1700) (Ls_129 hL) (by omega) (by omega) (am_tab tk_X10_qTold 47 rfl) rfl ?_
              refine am_goto (t := 162) (am_tab tk_X10_qTold 48 rfl) (by decide) ?_
              refine am_iinc (q := 165) rfl (by omega) (by decide) (ls2 := [(2, am_i (((j : Int) + 1))), (3, am_i v), (0, am_r 55), (1, am_i ((p : Int)))]) rfl (am_tab tk_X10_qTold 92 rfl) rfl ?_
              refine am_goto (t := 7) (am_tab tk_X10_qTold 93 rfl) (by decide) ?_
              rw [show (((t0.length : Int) + 1) - 1).toNat = t0.length by omega]
              refine am_hp2 (σ1 := am_setN (am_setA σ 129 (fun i => if i = t0.length then clp (ofQ σ (f t0.length) (p : Int)) else f i)) 55 103 ((t0.length : Int) + 1)) (nf129n _ _ _ _ _) (K _ ?_)
              show pl _ (t0.length + 1) = ev1q _ _ (f t0.length :: pl f t0.length) v
              rw [pl_push]
              unfold ev1q
              rw [if_pos (by omega)]
          · exact absurd h26 (by omega)
      · refine am_iload_n (q := 8) rfl (am_tab tk_X10_qTold 5 rfl) rfl ?_
        refine am_aload_n (q := 9) rfl (am_tab tk_X10_qTold 6 rfl) rfl ?_
        refine am_getI (q := 12) (a := 55) (k := 10) (n := 108) (j := 97) (x := (E : Int)) (Ls_55 hL) (by decide) rfl hE (by decide) (Or.inl kf_X10_336) (am_tab tk_X10_qTold 7 rfl) rfl ?_
        refine am_icmp_ge (q := 15) (t := 168) (am_tab tk_X10_qTold 8 rfl) (by decide) rfl (fun h12 => ?_) (fun h12 => ?_)
        · exact absurd h12 (by omega)
        · refine am_aload_n (q := 16) rfl (am_tab tk_X10_qTold 9 rfl) rfl ?_
          refine am_getR (q := 19) (a := 55) (k := 10) (n := 108) (j := 96) (r := some (127)) (Ls_55 hL) (by decide) rfl (Lr_55_96 hL) (by decide) (Or.inl kf_X10_233) (am_tab tk_X10_qTold 10 rfl) rfl ?_
          refine am_iload_n (q := 20) rfl (am_tab tk_X10_qTold 11 rfl) rfl ?_
          refine am_iald (q := 21) (a := 127) (n := 1700) (x := v) (Ls_127 hL) (by omega) (by omega) (by rw [e3]; exact hv) (am_tab tk_X10_qTold 12 rfl) rfl ?_
          refine am_istore_n (q := 22) (by decide) (ls2 := [(3, am_i v), (2, am_i ((j : Int))), (0, am_r 55), (1, am_i ((p : Int)))]) rfl (am_tab tk_X10_qTold 13 rfl) rfl ?_
          refine am_iload_n (q := 23) rfl (am_tab tk_X10_qTold 14 rfl) rfl ?_
          refine am_sipush (q := 26) (n := 1000) (by decide) rfl (am_tab tk_X10_qTold 15 rfl) rfl ?_
          refine am_icmp_lt (q := 29) (t := 42) (am_tab tk_X10_qTold 16 rfl) (by decide) rfl (fun h26 => ?_) (fun h26 => ?_)
          · refine am_iload_n (q := 43) rfl (am_tab tk_X10_qTold 24 rfl) rfl ?_
            refine am_bipush (q := 45) (n := 60) (by decide) rfl (am_tab tk_X10_qTold 25 rfl) rfl ?_
            refine am_icmp_lt (q := 48) (t := 85) (am_tab tk_X10_qTold 26 rfl) (by decide) rfl (fun h45 => ?_) (fun h45 => ?_)
            · refine am_iload_n (q := 86) rfl (am_tab tk_X10_qTold 49 rfl) rfl ?_
              refine am_bipush (q := 88) (n := 40) (by decide) rfl (am_tab tk_X10_qTold 50 rfl) rfl ?_
              refine am_icmp_lt (q := 91) (t := 110) (am_tab tk_X10_qTold 51 rfl) (by decide) rfl (fun h88 => ?_) (fun h88 => ?_)
              · exact absurd h88 (by omega)
              · refine am_aload_n (q := 92) rfl (am_tab tk_X10_qTold 52 rfl) rfl ?_
                refine am_aload_n (q := 93) rfl (am_tab tk_X10_qTold 53 rfl) rfl ?_
                refine am_iload_n (q := 94) rfl (am_tab tk_X10_qTold 54 rfl) rfl ?_
                refine am_bipush (q := 96) (n := 40) (by decide) rfl (am_tab tk_X10_qTold 55 rfl) rfl ?_
                refine am_isub (q := 97) (by omega) (am_tab tk_X10_qTold 56 rfl) rfl ?_
                refine am_iload_n (q := 98) rfl (am_tab tk_X10_qTold 57 rfl) rfl ?_
                refine am_callV0 (q := 101) (me2 := M_X10_qPartOf) (b := 55) (kb := 10) (nb := 108) (As := [am_i ((v - 40)), am_i ((p : Int))]) (rest := [am_r 55]) (out := [am_l (ptM σ p (v - 40)), am_r 55]) (c_X10_qPartOf ((am_setN (am_setA σ 129 f) 55 103 (ts.length : Int))) hL (v - 40) p hp ha ht) ⟨rfl, rfl⟩ (Ls_55 hL) (by decide) ⟨Or.inl km_X10_410, kc_X10_qPartOf, kn_X10, kd_X10_qPartOf, ⟨(Nat.le_of_ble_eq_true rfl), (Nat.le_of_ble_eq_true rfl)⟩, ⟨(Nat.le_of_ble_eq_true rfl), (Nat.le_of_ble_eq_true rfl)⟩, (Nat.le_of_ble_eq_true rfl)⟩ ki_X10_qPartOf ks_X10_qPartOf rfl rfl (am_tab tk_X10_qTold 58 rfl) rfl ?_
                refine am_callS0 (q := 104) (me2 := M_X10_qClip) (As := [am_l (ptM σ p (v - 40))]) (rest := [am_r 55]) (out := [am_l (clp (ptM σ p (v - 40))), am_r 55]) (c_X10_qClip ((am_setN (am_setA σ 129 f) 55 103 (ts.length : Int))) hL (ptM σ p (v - 40))) ⟨rfl, rfl⟩ ⟨Or.inl km_X10_646, kc_X10_qClip, kn_X10, kd_X10_qClip, ⟨(Nat.le_of_ble_eq_true rfl), (Nat.le_of_ble_eq_true rfl)⟩, ⟨(Nat.le_of_ble_eq_true rfl), (Nat.le_of_ble_eq_true rfl)⟩, (Nat.le_of_ble_eq_true rfl)⟩ ki_X10_qClip rfl rfl (am_tab tk_X10_qTold 59 rfl) rfl ?_
                refine am_callV0 (q := 107) (me2 := M_X10_qPuts) (b := 55) (kb := 10) (nb := 108) (As := [am_l (clp (ptM σ p (v - 40)))]) (rest := []) (out := []) (c_X10_qPuts ((am_setN (am_setA σ 129 f) 55 103 (ts.length : Int))) hL (clp (ptM σ p (v - 40))) ts.length rfl (by omega)) ⟨rfl, rfl⟩ (Ls_55 hL) (by decide) ⟨Or.inl km_X10_406, kc_X10_qPuts, kn_X10, kd_X10_qPuts, ⟨(Nat.le_of_ble_eq_true rfl), (Nat.le_of_ble_eq_true rfl)⟩, ⟨(Nat.le_of_ble_eq_true rfl), (Nat.le_of_ble_eq_true rfl)⟩, (Nat.le_of_ble_eq_true rfl)⟩ ki_X10_qPuts ks_X10_qPuts rfl rfl (am_tab tk_X10_qTold 60 rfl) rfl ?_
                refine am_goto (t := 162) (am_tab tk_X10_qTold 61 rfl) (by decide) ?_
                refine am_iinc (q := 165) rfl (by omega) (by decide) (ls2 := [(2, am_i (((j : Int) + 1))), (3, am_i v), (0, am_r 55), (1, am_i ((p : Int)))]) rfl (am_tab tk_X10_qTold 92 rfl) rfl ?_
                refine am_goto (t := 7) (am_tab tk_X10_qTold 93 rfl) (by decide) ?_
                refine am_hp2 (σ1 := am_setN (am_setA σ 129 (fun i => if i = ts.length then (clp (ptM σ p (v - 40))) else f i)) 55 103 ((ts.length : Int) + 1)) (nf129 _ _ _ _ _ _) (K _ ?_)
                show pl _ (ts.length + 1) = _
                rw [pl_push]
                unfold ev1q
                rw [if_neg (by omega), if_pos (by omega)]
            · exact absurd h45 (by omega)
          · exact absurd h26 (by omega)
      · refine am_iload_n (q := 8) rfl (am_tab tk_X10_qTold 5 rfl) rfl ?_
        refine am_aload_n (q := 9) rfl (am_tab tk_X10_qTold 6 rfl) rfl ?_
        refine am_getI (q := 12) (a := 55) (k := 10) (n := 108) (j := 97) (x := (E : Int)) (Ls_55 hL) (by decide) rfl hE (by decide) (Or.inl kf_X10_336) (am_tab tk_X10_qTold 7 rfl) rfl ?_
        refine am_icmp_ge (q := 15) (t := 168) (am_tab tk_X10_qTold 8 rfl) (by decide) rfl (fun h12 => ?_) (fun h12 => ?_)
        · exact absurd h12 (by omega)
        · refine am_aload_n (q := 16) rfl (am_tab tk_X10_qTold 9 rfl) rfl ?_
          refine am_getR (q := 19) (a := 55) (k := 10) (n := 108) (j := 96) (r := some (127)) (Ls_55 hL) (by decide) rfl (Lr_55_96 hL) (by decide) (Or.inl kf_X10_233) (am_tab tk_X10_qTold 10 rfl) rfl ?_
          refine am_iload_n (q := 20) rfl (am_tab tk_X10_qTold 11 rfl) rfl ?_
          refine am_iald (q := 21) (a := 127) (n := 1700) (x := v) (Ls_127 hL) (by omega) (by omega) (by rw [e3]; exact hv) (am_tab tk_X10_qTold 12 rfl) rfl ?_
          refine am_istore_n (q := 22) (by decide) (ls2 := [(3, am_i v), (2, am_i ((j : Int))), (0, am_r 55), (1, am_i ((p : Int)))]) rfl (am_tab tk_X10_qTold 13 rfl) rfl ?_
          refine am_iload_n (q := 23) rfl (am_tab tk_X10_qTold 14 rfl) rfl ?_
          refine am_sipush (q := 26) (n := 1000) (by decide) rfl (am_tab tk_X10_qTold 15 rfl) rfl ?_
          refine am_icmp_lt (q := 29) (t := 42) (am_tab tk_X10_qTold 16 rfl) (by decide) rfl (fun h26 => ?_) (fun h26 => ?_)
          · refine am_iload_n (q := 43) rfl (am_tab tk_X10_qTold 24 rfl) rfl ?_
            refine am_bipush (q := 45) (n := 60) (by decide) rfl (am_tab tk_X10_qTold 25 rfl) rfl ?_
            refine am_icmp_lt (q := 48) (t := 85) (am_tab tk_X10_qTold 26 rfl) (by decide) rfl (fun h45 => ?_) (fun h45 => ?_)
            · refine am_iload_n (q := 86) rfl (am_tab tk_X10_qTold 49 rfl) rfl ?_
              refine am_bipush (q := 88) (n := 40) (by decide) rfl (am_tab tk_X10_qTold 50 rfl) rfl ?_
              refine am_icmp_lt (q := 91) (t := 110) (am_tab tk_X10_qTold 51 rfl) (by decide) rfl (fun h88 => ?_) (fun h88 => ?_)
              · refine am_iload_n (q := 111) rfl (am_tab tk_X10_qTold 62 rfl) rfl ?_
                refine am_bipush (q := 113) (n := 13) (by decide) rfl (am_tab tk_X10_qTold 63 rfl) rfl ?_
                refine am_icmp_ne (q := 116) (t := 124) (am_tab tk_X10_qTold 64 rfl) (by decide) rfl (fun h113 => ?_) (fun h113 => ?_)
                · exact absurd h113 (by omega)
                · refine am_aload_n (q := 117) rfl (am_tab tk_X10_qTold 65 rfl) rfl ?_
                  refine am_lconst1 (q := 118) (am_tab tk_X10_qTold 66 rfl) rfl ?_
                  refine am_callV0 (q := 121) (me2 := M_X10_qPuts) (b := 55) (kb := 10) (nb := 108) (As := [am_l 1]) (rest := []) (out := []) (c_X10_qPuts ((am_setN (am_setA σ 129 f) 55 103 (ts.length : Int))) hL 1 ts.length rfl (by omega)) ⟨rfl, rfl⟩ (Ls_55 hL) (by decide) ⟨Or.inl km_X10_406, kc_X10_qPuts, kn_X10, kd_X10_qPuts, ⟨(Nat.le_of_ble_eq_true rfl), (Nat.le_of_ble_eq_true rfl)⟩, ⟨(Nat.le_of_ble_eq_true rfl), (Nat.le_of_ble_eq_true rfl)⟩, (Nat.le_of_ble_eq_true rfl)⟩ ki_X10_qPuts ks_X10_qPuts rfl rfl (am_tab tk_X10_qTold 67 rfl) rfl ?_
                  refine am_goto (t := 162) (am_tab tk_X10_qTold 68 rfl) (by decide) ?_
                  refine am_iinc (q := 165) rfl (by omega) (by decide) (ls2 := [(2, am_i (((j : Int) + 1))), (3, am_i v), (0, am_r 55), (1, am_i ((p : Int)))]) rfl (am_tab tk_X10_qTold 92 rfl) rfl ?_
                  refine am_goto (t := 7) (am_tab tk_X10_qTold 93 rfl) (by decide) ?_
                  refine am_hp2 (σ1 := am_setN (am_setA σ 129 (fun i => if i = ts.length then 1 else f i)) 55 103 ((ts.length : Int) + 1)) (nf129 _ _ _ _ _ _) (K _ ?_)
                  show pl _ (ts.length + 1) = _
                  rw [pl_push]
                  unfold ev1q
                  rw [if_neg (by omega), if_neg (by omega)]
                  unfold ev1
                  rw [if_neg (by omega), if_neg (by omega), if_pos (by omega)]
              · exact absurd h88 (by omega)
            · exact absurd h45 (by omega)
          · exact absurd h26 (by omega)
      · refine am_hp2 (σ1 := am_setN (am_setA σ 129 f) 55 103 ((t0.length : Int) + 1)) rfl ?_
        simp only [List.length_cons] at hlen
        refine am_iload_n (q := 8) rfl (am_tab tk_X10_qTold 5 rfl) rfl ?_
        refine am_aload_n (q := 9) rfl (am_tab tk_X10_qTold 6 rfl) rfl ?_
        refine am_getI (q := 12) (a := 55) (k := 10) (n := 108) (j := 97) (x := (E : Int)) (Ls_55 hL) (by decide) rfl hE (by decide) (Or.inl kf_X10_336) (am_tab tk_X10_qTold 7 rfl) rfl ?_
        refine am_icmp_ge (q := 15) (t := 168) (am_tab tk_X10_qTold 8 rfl) (by decide) rfl (fun h12 => ?_) (fun h12 => ?_)
        · exact absurd h12 (by omega)
        · refine am_aload_n (q := 16) rfl (am_tab tk_X10_qTold 9 rfl) rfl ?_
          refine am_getR (q := 19) (a := 55) (k := 10) (n := 108) (j := 96) (r := some (127)) (Ls_55 hL) (by decide) rfl (Lr_55_96 hL) (by decide) (Or.inl kf_X10_233) (am_tab tk_X10_qTold 10 rfl) rfl ?_
          refine am_iload_n (q := 20) rfl (am_tab tk_X10_qTold 11 rfl) rfl ?_
          refine am_iald (q := 21) (a := 127) (n := 1700) (x := v) (Ls_127 hL) (by omega) (by omega) (by rw [e3]; exact hv) (am_tab tk_X10_qTold 12 rfl) rfl ?_
          refine am_istore_n (q := 22) (by decide) (ls2 := [(3, am_i v), (2, am_i ((j : Int))), (0, am_r 55), (1, am_i ((p : Int)))]) rfl (am_tab tk_X10_qTold 13 rfl) rfl ?_
          refine am_iload_n (q := 23) rfl (am_tab tk_X10_qTold 14 rfl) rfl ?_
          refine am_sipush (q := 26) (n := 1000) (by decide) rfl (am_tab tk_X10_qTold 15 rfl) rfl ?_
          refine am_icmp_lt (q := 29) (t := 42) (am_tab tk_X10_qTold 16 rfl) (by decide) rfl (fun h26 => ?_) (fun h26 => ?_)
          · refine am_iload_n (q := 43) rfl (am_tab tk_X10_qTold 24 rfl) rfl ?_
            refine am_bipush (q := 45) (n := 60) (by decide) rfl (am_tab tk_X10_qTold 25 rfl) rfl ?_
            refine am_icmp_lt (q := 48) (t := 85) (am_tab tk_X10_qTold 26 rfl) (by decide) rfl (fun h45 => ?_) (fun h45 => ?_)
            · refine am_iload_n (q := 86) rfl (am_tab tk_X10_qTold 49 rfl) rfl ?_
              refine am_bipush (q := 88) (n := 40) (by decide) rfl (am_tab tk_X10_qTold 50 rfl) rfl ?_
              refine am_icmp_lt (q := 91) (t := 110) (am_tab tk_X10_qTold 51 rfl) (by decide) rfl (fun h88 => ?_) (fun h88 => ?_)
              · refine am_iload_n (q := 111) rfl (am_tab tk_X10_qTold 62 rfl) rfl ?_
                refine am_bipush (q := 113) (n := 13) (by decide) rfl (am_tab tk_X10_qTold 63 rfl) rfl ?_
                refine am_icmp_ne (q := 116) (t := 124) (am_tab tk_X10_qTold 64 rfl) (by decide) rfl (fun h113 => ?_) (fun h113 => ?_)
                · refine am_iload_n (q := 125) rfl (am_tab tk_X10_qTold 69 rfl) rfl ?_
                  refine am_bipush (q := 127) (n := 12) (by decide) rfl (am_tab tk_X10_qTold 70 rfl) rfl ?_
                  refine am_icmp_ne (q := 130) (t := 157) (am_tab tk_X10_qTold 71 rfl) (by decide) rfl (fun h127 => ?_) (fun h127 => ?_)
                  · exact absurd h127 (by omega)
                  · refine am_aload_n (q := 131) rfl (am_tab tk_X10_qTold 72 rfl) rfl ?_
                    refine am_getR (q := 134) (a := 55) (k := 10) (n := 108) (j := 102) (r := some (129)) (Ls_55 hL) (by decide) rfl (Lr_55_102 hL) (by decide) (Or.inl kf_X10_239) (am_tab tk_X10_qTold 73 rfl) rfl ?_
                    refine am_aload_n (q := 135) rfl (am_tab tk_X10_qTold 74 rfl) rfl ?_
                    refine am_getI (q := 138) (a := 55) (k := 10) (n := 108) (j := 103) (x := ((t0.length : Int) + 1)) (Ls_55 hL) (by decide) rfl rfl (by decide) (Or.inl kf_X10_403) (am_tab tk_X10_qTold 75 rfl) rfl ?_
                    refine am_iconst (q := 139) (n := 1) (by decide) (am_tab tk_X10_qTold 76 rfl) rfl ?_
                    refine am_isub (q := 140) (by omega) (am_tab tk_X10_qTold 77 rfl) rfl ?_
                    refine am_lconst1 (q := 141) (am_tab tk_X10_qTold 78 rfl) rfl ?_
                    refine am_aload_n (q := 142) rfl (am_tab tk_X10_qTold 79 rfl) rfl ?_
                    refine am_getR (q := 145) (a := 55) (k := 10) (n := 108) (j := 102) (r := some (129)) (Ls_55 hL) (by decide) rfl (Lr_55_102 hL) (by decide) (Or.inl kf_X10_239) (am_tab tk_X10_qTold 80 rfl) rfl ?_
                    refine am_aload_n (q := 146) rfl (am_tab tk_X10_qTold 81 rfl) rfl ?_
                    refine am_getI (q := 149) (a := 55) (k := 10) (n := 108) (j := 103) (x := ((t0.length : Int) + 1)) (Ls_55 hL) (by decide) rfl rfl (by decide) (Or.inl kf_X10_403) (am_tab tk_X10_qTold 82 rfl) rfl ?_
                    refine am_iconst (q := 150) (n := 1) (by decide) (am_tab tk_X10_qTold 83 rfl) rfl ?_
                    refine am_isub (q := 151) (by omega) (am_tab tk_X10_qTold 84 rfl) rfl ?_
                    refine am_lald (q := 152) (a := 129) (n := 1700) (x := (f t0.length)) (Ls_129 hL) (by omega) (by omega) (by rw [show (((t0.length : Int) + 1) - 1).toNat = t0.length by omega]; rfl) (am_tab tk_X10_qTold 85 rfl) rfl ?_
                    refine am_lsub (q := 153) (by have hb : f t0.length = 0 ∨ f t0.length = 1 := hty.1; omega) (am_tab tk_X10_qTold 86 rfl) rfl ?_
                    refine am_last (q := 154) (a := 129) (n := 1700) (Ls_129 hL) (by omega) (by omega) (am_tab tk_X10_qTold 87 rfl) rfl ?_
                    refine am_goto (t := 162) (am_tab tk_X10_qTold 88 rfl) (by decide) ?_
                    refine am_iinc (q := 165) rfl (by omega) (by decide) (ls2 := [(2, am_i (((j : Int) + 1))), (3, am_i v), (0, am_r 55), (1, am_i ((p : Int)))]) rfl (am_tab tk_X10_qTold 92 rfl) rfl ?_
                    refine am_goto (t := 7) (am_tab tk_X10_qTold 93 rfl) (by decide) ?_
                    rw [show (((t0.length : Int) + 1) - 1).toNat = t0.length by omega]
                    refine am_hp2 (σ1 := am_setN (am_setA σ 129 (fun i => if i = t0.length then (1 - f t0.length) else f i)) 55 103 ((t0.length : Int) + 1)) (nf129n _ _ _ _ _) (K _ ?_)
                    show pl _ (t0.length + 1) = ev1q _ _ (f t0.length :: pl f t0.length) v
                    rw [pl_push]
                    unfold ev1q
                    rw [if_neg (by omega), if_neg (by omega)]
                    unfold ev1
                    rw [if_neg (by omega), if_neg (by omega), if_neg (by omega)]
                    simp only [c1, if_true]
                · exact absurd h113 (by omega)
              · exact absurd h88 (by omega)
            · exact absurd h45 (by omega)
          · exact absurd h26 (by omega)
      · refine am_hp2 (σ1 := am_setN (am_setA σ 129 f) 55 103 ((t0.length : Int) + 2)) rfl ?_
        simp only [List.length_cons] at hlen
        have hb := vOK_r hty.1
        have hab := vOK_r hty.2.1
        refine am_iload_n (q := 8) rfl (am_tab tk_X10_qTold 5 rfl) rfl ?_
        refine am_aload_n (q := 9) rfl (am_tab tk_X10_qTold 6 rfl) rfl ?_
        refine am_getI (q := 12) (a := 55) (k := 10) (n := 108) (j := 97) (x := (E : Int)) (Ls_55 hL) (by decide) rfl hE (by decide) (Or.inl kf_X10_336) (am_tab tk_X10_qTold 7 rfl) rfl ?_
        refine am_icmp_ge (q := 15) (t := 168) (am_tab tk_X10_qTold 8 rfl) (by decide) rfl (fun h12 => ?_) (fun h12 => ?_)
        · exact absurd h12 (by omega)
        · refine am_aload_n (q := 16) rfl (am_tab tk_X10_qTold 9 rfl) rfl ?_
          refine am_getR (q := 19) (a := 55) (k := 10) (n := 108) (j := 96) (r := some (127)) (Ls_55 hL) (by decide) rfl (Lr_55_96 hL) (by decide) (Or.inl kf_X10_233) (am_tab tk_X10_qTold 10 rfl) rfl ?_
          refine am_iload_n (q := 20) rfl (am_tab tk_X10_qTold 11 rfl) rfl ?_
          refine am_iald (q := 21) (a := 127) (n := 1700) (x := v) (Ls_127 hL) (by omega) (by omega) (by rw [e3]; exact hv) (am_tab tk_X10_qTold 12 rfl) rfl ?_
          refine am_istore_n (q := 22) (by decide) (ls2 := [(3, am_i v), (2, am_i ((j : Int))), (0, am_r 55), (1, am_i ((p : Int)))]) rfl (am_tab tk_X10_qTold 13 rfl) rfl ?_
          refine am_iload_n (q := 23) rfl (am_tab tk_X10_qTold 14 rfl) rfl ?_
          refine am_sipush (q := 26) (n := 1000) (by decide) rfl (am_tab tk_X10_qTold 15 rfl) rfl ?_
          refine am_icmp_lt (q := 29) (t := 42) (am_tab tk_X10_qTold 16 rfl) (by decide) rfl (fun h26 => ?_) (fun h26 => ?_)
          · refine am_iload_n (q := 43) rfl (am_tab tk_X10_qTold 24 rfl) rfl ?_
            refine am_bipush (q := 45) (n := 60) (by decide) rfl (am_tab tk_X10_qTold 25 rfl) rfl ?_
            refine am_icmp_lt (q := 48) (t := 85) (am_tab tk_X10_qTold 26 rfl) (by decide) rfl (fun h45 => ?_) (fun h45 => ?_)
            · refine am_iload_n (q := 86) rfl (am_tab tk_X10_qTold 49 rfl) rfl ?_
              refine am_bipush (q := 88) (n := 40) (by decide) rfl (am_tab tk_X10_qTold 50 rfl) rfl ?_
              refine am_icmp_lt (q := 91) (t := 110) (am_tab tk_X10_qTold 51 rfl) (by decide) rfl (fun h88 => ?_) (fun h88 => ?_)
              · refine am_iload_n (q := 111) rfl (am_tab tk_X10_qTold 62 rfl) rfl ?_
                refine am_bipush (q := 113) (n := 13) (by decide) rfl (am_tab tk_X10_qTold 63 rfl) rfl ?_
                refine am_icmp_ne (q := 116) (t := 124) (am_tab tk_X10_qTold 64 rfl) (by decide) rfl (fun h113 => ?_) (fun h113 => ?_)
                · refine am_iload_n (q := 125) rfl (am_tab tk_X10_qTold 69 rfl) rfl ?_
                  refine am_bipush (q := 127) (n := 12) (by decide) rfl (am_tab tk_X10_qTold 70 rfl) rfl ?_
                  refine am_icmp_ne (q := 130) (t := 157) (am_tab tk_X10_qTold 71 rfl) (by decide) rfl (fun h127 => ?_) (fun h127 => ?_)
                  · refine am_aload_n (q := 158) rfl (am_tab tk_X10_qTold 89 rfl) rfl ?_
                    refine am_iload_n (q := 159) rfl (am_tab tk_X10_qTold 90 rfl) rfl ?_
                    refine am_callV0 (q := 162) (me2 := M_X10_qJoins) (b := 55) (kb := 10) (nb := 108) (As := [am_i v]) (rest := []) (out := []) (c_X10_qJoins ((am_setN (am_setA σ 129 f) 55 103 ((t0.length : Int) + 2))) hL v t0.length (f t0.length) (f (t0.length + 1)) (by omega) rfl rfl rfl hab hb) ⟨rfl, rfl⟩ (Ls_55 hL) (by decide) ⟨Or.inl km_X10_414, kc_X10_qJoins, kn_X10, kd_X10_qJoins, ⟨(Nat.le_of_ble_eq_true rfl), (Nat.le_of_ble_eq_true rfl)⟩, ⟨(Nat.le_of_ble_eq_true rfl), (Nat.le_of_ble_eq_true rfl)⟩, (Nat.le_of_ble_eq_true rfl)⟩ ki_X10_qJoins ks_X10_qJoins rfl rfl (am_tab tk_X10_qTold 91 rfl) rfl ?_
                    refine am_iinc (q := 165) rfl (by omega) (by decide) (ls2 := [(2, am_i (((j : Int) + 1))), (3, am_i v), (0, am_r 55), (1, am_i ((p : Int)))]) rfl (am_tab tk_X10_qTold 92 rfl) rfl ?_
                    refine am_goto (t := 7) (am_tab tk_X10_qTold 93 rfl) (by decide) ?_
                    refine am_hp2 (σ1 := am_setN (am_setA σ 129 (fun i => if i = t0.length then jn v (f t0.length) (f (t0.length + 1)) else f i)) 55 103 ((t0.length : Int) + 1)) (nf129 _ _ _ _ _ _) (K _ ?_)
                    show pl _ (t0.length + 1) = ev1q _ _ (f (t0.length + 1) :: f t0.length :: pl f t0.length) v
                    rw [pl_push]
                    unfold ev1q
                    rw [if_neg (by omega), if_neg (by omega)]
                    unfold ev1
                    rw [if_neg (by omega), if_neg (by omega), if_neg (by omega)]
                    simp only [show ¬ v = 12 by omega, if_false]
                  · exact absurd h127 (by omega)
                · exact absurd h113 (by omega)
              · exact absurd h88 (by omega)
            · exact absurd h45 (by omega)
          · exact absurd h26 (by omega)
    · cases hok
theorem c_X10_qTold (σ : am_H) (hL : lay σ) (p : Nat) (hp : p < 8) (hN : 0 ≤ σ.2.1 85 5 ∧ σ.2.1 85 5 ≤ 8) (ha : 0 ≤ σ.2.1 55 56 ∧ σ.2.1 55 56 < 256) (ht : 0 ≤ σ.2.1 55 61 ∧ σ.2.1 55 61 < 256) (cs : List Int) (hE : σ.2.1 55 97 = cs.length) (hE2 : cs.length ≤ 1700) (hc : ∀ i, i < cs.length → σ.2.1 127 i = cs.getD i 0) (hok : okQ cs [] = true) : am_met M_X10_qTold [am_r 55, am_i ((p : Int))] σ (fun r σ' => r = some (am_l ((evQ (ptM σ p) (fun n => ofQ σ n (p : Int)) [] cs).headD 0)) ∧ ∃ g : Nat → Int, ∃ z : Int, σ' = am_setN (am_setA σ 129 g) 55 103 z) := by
  refine am_enter (show plainFor yX10_qTold = true by decide +kernel) rfl (Nat.le_of_ble_eq_true rfl) (fun _ _ _ => trivial) ?_
  refine am_aload_n (q := 1) rfl (am_tab tk_X10_qTold 0 rfl) rfl ?_
  refine am_iconst (q := 2) (n := 0) (by decide) (am_tab tk_X10_qTold 1 rfl) rfl ?_
  refine am_putI (q := 5) (k := 10) (n := 108) (j := 103) (Ls_55 hL) (by decide) rfl (by decide) (Or.inl ⟨kf_X10_403, rfl⟩) (am_tab tk_X10_qTold 2 rfl) rfl ?_
  refine am_iconst (q := 6) (n := 0) (by decide) (am_tab tk_X10_qTold 3 rfl) rfl ?_
  refine am_istore_n (q := 7) (by decide) (ls2 := [(2, am_i 0), (0, am_r 55), (1, am_i ((p : Int)))]) rfl (am_tab tk_X10_qTold 4 rfl) rfl ?_
  refine am_hp2 (σ1 := am_setN (am_setA σ 129 (fun k => σ.2.1 129 k)) 55 103 0) (by rw [am_setA_self]) ?_
  exact qTold_loop σ hL p hp hN ha ht cs.length hE hE2 _ cs 0 [] (fun k => σ.2.1 129 k) (by omega) (fun i hi => by rw [Nat.zero_add]; exact hc i hi) (by simp) trivial hok rfl
