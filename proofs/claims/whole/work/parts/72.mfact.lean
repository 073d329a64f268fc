theorem c_qCodeB (S : am_H) (hL : lay S) (v : Int) (hl : 0 ≤ S.2.1 55 97 ∧ S.2.1 55 97 < 1700) : am_met M_X10_qCode [am_r 55, am_i v] S (fun r σ' => r = none ∧ σ' = am_setN (am_setN S 127 (S.2.1 55 97).toNat v) 55 97 (S.2.1 55 97 + 1)) := by
  refine am_qq (fun Q hQ => ?_)
  refine am_enter (show plainFor yX10_qCode = true by decide +kernel) rfl (Nat.le_of_ble_eq_true rfl) (fun _ _ _ => trivial) ?_
  refine am_aload_n (q := 1) rfl (am_tab tk_X10_qCode 0 rfl) rfl ?_
  refine am_getR (q := 4) (a := 55) (k := 10) (n := 108) (j := 96) (r := some (127)) (Ls_55 hL) (by decide) rfl (Lr_55_96 hL) (by decide) (Or.inl kf_X10_233) (am_tab tk_X10_qCode 1 rfl) rfl ?_
  refine am_aload_n (q := 5) rfl (am_tab tk_X10_qCode 2 rfl) rfl ?_
  refine am_getI (q := 8) (a := 55) (k := 10) (n := 108) (j := 97) (x := (S.2.1 55 97)) (Ls_55 hL) (by decide) rfl rfl (by decide) (Or.inl kf_X10_336) (am_tab tk_X10_qCode 3 rfl) rfl ?_
  refine am_iload_n (q := 9) rfl (am_tab tk_X10_qCode 4 rfl) rfl ?_
  refine am_iast (q := 10) (a := 127) (n := 1700) (Ls_127 hL) (by omega) (by omega) (am_tab tk_X10_qCode 5 rfl) rfl ?_
  refine am_aload_n (q := 11) rfl (am_tab tk_X10_qCode 6 rfl) rfl ?_
  refine am_dup (q := 12) rfl (am_tab tk_X10_qCode 7 rfl) rfl ?_
  refine am_getI (q := 15) (a := 55) (k := 10) (n := 108) (j := 97) (x := (S.2.1 55 97)) (Ls_55 hL) (by decide) rfl rfl (by decide) (Or.inl kf_X10_336) (am_tab tk_X10_qCode 8 rfl) rfl ?_
  refine am_iconst (q := 16) (n := 1) (by decide) (am_tab tk_X10_qCode 9 rfl) rfl ?_
  refine am_iadd (q := 17) (by omega) (am_tab tk_X10_qCode 10 rfl) rfl ?_
  refine am_putI (q := 20) (k := 10) (n := 108) (j := 97) (Ls_55 hL) (by decide) rfl (by decide) (Or.inl ⟨kf_X10_336, rfl⟩) (am_tab tk_X10_qCode 11 rfl) rfl ?_
  refine am_vret rfl (Nat.le_of_ble_eq_true rfl) (Nat.le_of_ble_eq_true rfl) (am_tab tk_X10_qCode 12 rfl) ?_
  refine hQ _ _ ?_
  exact ⟨rfl, rfl⟩
/-- a fact: where it ends, the codes then -/
def facF (b : Nat → Int) (E : Nat) (tk : Int) (i : Nat) (rc : List Int) (o : Int) : (Nat × List Int) ⊕ (Int × Int) :=
  if zK b E i = 152 then .inl (i + 1, 13 :: rc) else match smF b E tk 2000 i rc [] o with
  | .inr e => .inr e
  | .inl q => if zK b E q.1 = 60 ∨ zK b E q.1 = 62 ∨ zK b E q.1 = 61 then (match smF b E tk 2000 (q.1 + 1) q.2 [] o with
      | .inr e => .inr e
      | .inl p => .inl (p.1, (if zK b E q.1 = 60 then 7 else if zK b E q.1 = 62 then 8 else 9) :: p.2)) else .inr (1, (zP b E q.1 : Int))
def PF (b : Nat → Int) (E : Nat) (tk : Int) (out : List Int) (o bs : Int) (S : am_H) : (Nat × List Int) ⊕ (Int × Int) → Prop
  | .inl q => QX b E tk q.1 q.2 out o bs S
  | .inr e => QB b E e.1 e.2 1670 S
theorem smF_i {b : Nat → Int} {E : Nat} {tk : Int} : ∀ (f i : Nat) (rc ws : List Int) (o : Int) (q : Nat × List Int), smF b E tk f i rc ws o = .inl q → i + 1 ≤ q.1
  | 0, _, _, _, _, q, h => by unfold smF at h; exact absurd h (by simp)
  | f + 1, i, rc, ws, o, q, h => by
    rcases hp : partF b E tk 2000 i rc ws o with p | e
    · rcases hg : goesF b E 2000 p.1 p.2.1 p.2.2.1 p.2.2.2 with g | e
      · rw [smF_on hp hg] at h
        have h1 := partF_i _ _ _ _ _ _ hp
        have h2 := (goesF_get hg).1
        split at h
        · rw [← Sum.inl.inj h]
          show i + 1 ≤ g.2.1
          omega
        · have h3 := smF_i f _ _ _ _ q h
          omega
      · rw [smF_bad2 hp hg] at h; exact absurd h (by simp)
    · rw [smF_bad1 hp] at h; exact absurd h (by simp)
theorem partF_len {b : Nat → Int} {E : Nat} {tk : Int} : ∀ (f i : Nat) (rc ws : List Int) (o : Int) (q : QZ), partF b E tk f i rc ws o = .inl q → q.2.1.length + q.2.2.1.length + i ≤ rc.length + ws.length + q.1
  | 0, _, _, _, _, q, h => by unfold partF at h; exact absurd h (by simp)
  | f + 1, i, rc, ws, o, q, h => by
    unfold partF at h
    split at h
    · split at h
      · exact absurd h (by simp)
      · have := partF_len f _ _ _ _ q h; simp only [List.length_cons] at this; omega
    · split at h
      · split at h
        · split at h
          · exact absurd h (by simp)
          · have := partF_len f _ _ _ _ q h; simp only [List.length_cons] at this; omega
        · exact absurd h (by simp)
      · split at h
        · split at h
          · exact absurd h (by simp)
          · have := partF_len f _ _ _ _ q h; simp only [List.length_cons] at this; omega
        · unfold leafF at h
          split at h
          · have e := endF_len ws ((40 + wof tk (zK b E i) 0 11) :: rc) o
            rw [← Sum.inl.inj h]
            simp only [List.length_cons] at e
            show (endF _ ws o).1.length + (endF _ ws o).2.1.length + i ≤ rc.length + ws.length + (i + 1)
            omega
          · split at h
            · have e := endF_len ws ((1000 + zV b E i) :: rc) o
              rw [← Sum.inl.inj h]
              simp only [List.length_cons] at e
              show (endF _ ws o).1.length + (endF _ ws o).2.1.length + i ≤ rc.length + ws.length + (i + 1)
              omega
            · exact absurd h (by simp)
theorem clsF_len (b : Nat → Int) (E : Nat) : ∀ (f i : Nat) (rc ws : List Int) (o : Int), okS false ws = true → okS false (clsF b E f i rc ws o).2.2.1 = true ∧ (clsF b E f i rc ws o).2.1.length + (clsF b E f i rc ws o).2.2.1.length + i ≤ rc.length + ws.length + (clsF b E f i rc ws o).1
  | 0, i, rc, ws, o, h => ⟨h, by show rc.length + ws.length + i ≤ rc.length + ws.length + i; omega⟩
  | f + 1, i, rc, ws, o, h => by
    unfold clsF
    split
    · rename_i hc
      have hk := clE_ok (rc := rc) (o := o) h (by omega)
      have ih := clsF_len b E f (i + 1) (clE rc ws o).1 (clE rc ws o).2.1 (clE rc ws o).2.2 hk.1
      exact ⟨ih.1, by omega⟩
    · exact ⟨h, by show rc.length + ws.length + i ≤ rc.length + ws.length + i; omega⟩
theorem gtF_len {b : Nat → Int} {E i : Nat} {rc ws : List Int} {o : Int} {g : Int × QZ} (hk : okS false ws = true) (h : gtF b E i rc ws o = .inl g) : okS false g.2.2.2.1 = true ∧ g.2.2.1.length + g.2.2.2.1.length + i ≤ rc.length + ws.length + g.2.1 := by
  unfold gtF at h
  split at h
  · have e := drF_len p34 ws rc
    have k := drF_ok (p := p34) (by unfold p34; intro w h9; simp only [decide_eq_true_eq] at h9; omega) ws rc hk
    rw [← Sum.inl.inj h]
    refine ⟨?_, ?_⟩
    · show okS false ((if zK b E i = 42 then 3 else 4) :: (drF p34 rc ws).2) = true
      unfold okS
      rw [if_pos (by split <;> omega)]
      exact k.2
    · show (drF p34 rc ws).1.length + ((if zK b E i = 42 then 3 else 4) :: (drF p34 rc ws).2).length + i ≤ rc.length + ws.length + (i + 1)
      rw [List.length_cons]
      omega
  · split at h
    · have e := drF_len p14 ws rc
      have k := drF_ok (p := p14) (by unfold p14; intro w h9; simp only [decide_eq_true_eq] at h9; omega) ws rc hk
      rw [← Sum.inl.inj h]
      refine ⟨?_, ?_⟩
      · show okS false ((if zK b E i = 43 then 1 else 2) :: (drF p14 rc ws).2) = true
        unfold okS
        rw [if_pos (by split <;> omega)]
        exact k.2
      · show (drF p14 rc ws).1.length + ((if zK b E i = 43 then 1 else 2) :: (drF p14 rc ws).2).length + i ≤ rc.length + ws.length + (i + 1)
        rw [List.length_cons]
        omega
    · split at h
      · rename_i hb
        split at h
        · have e := dtb_len ws rc
          have k := dtb_ok ws rc hk
          obtain ⟨h1, h2⟩ := brF_at ws rc (by omega)
          rw [h1] at k e
          rw [List.length_cons] at e
          rw [← Sum.inl.inj h]
          refine ⟨?_, ?_⟩
          · show okS false ((brF ws + 2) :: (dtb rc ws).2.tail) = true
            unfold okS
            rw [if_neg (by omega), if_pos (by omega)]
            exact okS_br h2 k.2
          · show (dtb rc ws).1.length + ((brF ws + 2) :: (dtb rc ws).2.tail).length + i ≤ rc.length + ws.length + (i + 1)
            rw [List.length_cons]
            omega
        · exact absurd h (by simp)
      · split at h
        · exact absurd h (by simp)
        · rw [← Sum.inl.inj h]
          exact ⟨hk, Nat.le_refl _⟩
theorem goesF_len {b : Nat → Int} {E f i : Nat} {rc ws : List Int} {o : Int} {g : Int × QZ} (hk : okS false ws = true) (h : goesF b E f i rc ws o = .inl g) : okS false g.2.2.2.1 = true ∧ g.2.2.1.length + g.2.2.2.1.length + i ≤ rc.length + ws.length + g.2.1 := by
  have h1 := clsF_len b E f i rc ws o hk
  have h2 := gtF_len h1.1 h
  exact ⟨h2.1, by omega⟩
theorem daF_len : ∀ (ws rc : List Int), (daF rc ws).length = rc.length + ws.length
  | [], _ => rfl
  | w :: t, rc => by
    unfold daF
    rw [daF_len t (w :: rc)]
    simp only [List.length_cons]
    omega
theorem smF_len {b : Nat → Int} {E : Nat} {tk : Int} : ∀ (f i : Nat) (rc ws : List Int) (o : Int) (q : Nat × List Int), okS true ws = true → smF b E tk f i rc ws o = .inl q → q.2.length + i ≤ rc.length + ws.length + q.1
  | 0, _, _, _, _, q, _, h => by unfold smF at h; exact absurd h (by simp)
  | f + 1, i, rc, ws, o, q, hk, h => by
    rcases hp : partF b E tk 2000 i rc ws o with p | e
    · rcases hg : goesF b E 2000 p.1 p.2.1 p.2.2.1 p.2.2.2 with g | e
      · rw [smF_on hp hg] at h
        have h1 := partF_len _ _ _ _ _ _ hp
        have h2 := goesF_len (partF_ok _ _ _ _ _ _ hk hp) hg
        split at h
        · have h4 := daF_len g.2.2.2.1 g.2.2.1
          rw [← Sum.inl.inj h]
          show (daF g.2.2.1 g.2.2.2.1).length + i ≤ rc.length + ws.length + g.2.1
          omega
        · have h3 := smF_len f _ _ _ _ q (okS_mono _ h2.1) h
          omega
      · rw [smF_bad2 hp hg] at h; exact absurd h (by simp)
    · rw [smF_bad1 hp] at h; exact absurd h (by simp)
theorem c_X10_qFact (b : Nat → Int) (E : Nat) (tk : Int) (htk : 0 ≤ tk ∧ tk ≤ 2) (i0 : Nat) (rc0 out : List Int) (o0 bs0 : Int) (S : am_H) (hQ0 : QX b E tk i0 rc0 out o0 bs0 S)  (hout : ∀ x, 1 ≤ x → x ≤ 4 → onT out x = false) (hi0 : 100 ≤ 100) : am_met M_X10_qFact [am_r 55] S (fun r σ' => r = none ∧ PF b E tk out o0 bs0 σ' (facF b E tk i0 rc0 o0) ∧ frw W_p S σ') := by
  refine am_qq (fun Q hQ => ?_)
  refine am_enter (show plainFor yX10_qFact = true by decide +kernel) rfl (Nat.le_of_ble_eq_true rfl) (fun _ _ _ => trivial) ?_
  have hL := hQ0.1.1
  have hZ := hQ0.1
  have hV := hQ0.2.1
  have hiz := hQ0.2.2.2.2.2
  have hlen := hQ0.2.2.2.2.1
  have hzp := zP_rng b E i0
  have hE := hZ.2.2.1.2.2.1
  by_cases c1 : zK b E i0 = 152
  · refine am_aload_n (q := 1) rfl (am_tab tk_X10_qFact 0 rfl) rfl ?_
    refine am_aload_n (q := 2) rfl (am_tab tk_X10_qFact 1 rfl) rfl ?_
    refine am_getR (q := 5) (a := 55) (k := 10) (n := 108) (j := 81) (r := some (112)) (Ls_55 hL) (by decide) rfl (Lr_55_81 hL) (by decide) (Or.inl kf_X10_188) (am_tab tk_X10_qFact 2 rfl) rfl ?_
    refine am_callVr (q := 8) (me2 := M_X10_takes) (b := 55) (kb := 10) (nb := 108) (As := [am_r 112]) (rest := []) (c_takesY b E i0 S hZ 112 24 (by decide) (by omega)) ⟨rfl, rfl⟩ (Ls_55 hL) (by decide) ⟨Or.inl km_X10_275, kc_X10_takes, kn_X10, kd_X10_takes, ⟨(Nat.le_of_ble_eq_true rfl), (Nat.le_of_ble_eq_true rfl)⟩, ⟨(Nat.le_of_ble_eq_true rfl), (Nat.le_of_ble_eq_true rfl)⟩, (Nat.le_of_ble_eq_true rfl)⟩ ki_X10_takes ks_X10_takes rfl (am_tab tk_X10_qFact 3 rfl) rfl ?_
    rintro r T1 ⟨rfl, hZ1, hF1⟩
    refine am_st (st2 := [am_i 1]) rfl ?_
    refine am_if_eq (q := 11) (t := 18) (am_tab tk_X10_qFact 4 rfl) (by decide) rfl (fun h8 => ?_) (fun h8 => ?_)
    · exact absurd h8 (by decide)
    · refine am_aload_n (q := 12) rfl (am_tab tk_X10_qFact 5 rfl) rfl ?_
      refine am_bipush (q := 14) (n := 13) (by decide) rfl (am_tab tk_X10_qFact 6 rfl) rfl ?_
      refine am_callVr (q := 17) (me2 := M_X10_qCode) (b := 55) (kb := 10) (nb := 108) (As := [am_i 13]) (rest := []) (c_X10_qCode rc0 out o0 bs0 T1 hZ1.1 (hV.sc hF1) 13 (by omega)) ⟨rfl, rfl⟩ (Ls_55 hZ1.1) (by decide) ⟨Or.inl km_X10_585, kc_X10_qCode, kn_X10, kd_X10_qCode, ⟨(Nat.le_of_ble_eq_true rfl), (Nat.le_of_ble_eq_true rfl)⟩, ⟨(Nat.le_of_ble_eq_true rfl), (Nat.le_of_ble_eq_true rfl)⟩, (Nat.le_of_ble_eq_true rfl)⟩ ki_X10_qCode ks_X10_qCode rfl (am_tab tk_X10_qFact 7 rfl) rfl ?_
      rintro r T4 ⟨rfl, hV4, hF4⟩
      refine am_st (st2 := []) rfl ?_
      refine am_vret rfl (Nat.le_of_ble_eq_true rfl) (Nat.le_of_ble_eq_true rfl) (am_tab tk_X10_qFact 8 rfl) ?_
      refine hQ _ _ ?_
      have hev : facF b E tk i0 rc0 o0 = .inl (i0 + 1, 13 :: rc0) := by unfold facF; rw [if_pos c1]
      rw [hev]
      refine ⟨rfl, ⟨hZ1.q hF4, hV4, ?_, hQ0.2.2.2.1, ?_, zP_on (by omega) hiz⟩, (W_sc_p hF1).trans (W_q_p hF4)⟩
      · rw [hF4.2.2 55 53 (by unfold W_q; omega), hF1.2.2 55 53 (by unfold W_sc; omega)]; exact hQ0.2.2.1
      · show (13 :: rc0).length + out.length ≤ i0 + 1; rw [List.length_cons]; omega
  · refine am_aload_n (q := 1) rfl (am_tab tk_X10_qFact 0 rfl) rfl ?_
    refine am_aload_n (q := 2) rfl (am_tab tk_X10_qFact 1 rfl) rfl ?_
    refine am_getR (q := 5) (a := 55) (k := 10) (n := 108) (j := 81) (r := some (112)) (Ls_55 hL) (by decide) rfl (Lr_55_81 hL) (by decide) (Or.inl kf_X10_188) (am_tab tk_X10_qFact 2 rfl) rfl ?_
    refine am_callV0 (q := 8) (me2 := M_X10_takes) (b := 55) (kb := 10) (nb := 108) (As := [am_r 112]) (rest := []) (out := [am_i 0]) (c_takesN b E i0 S hZ 112 24 (by decide) (by omega)) ⟨rfl, rfl⟩ (Ls_55 hL) (by decide) ⟨Or.inl km_X10_275, kc_X10_takes, kn_X10, kd_X10_takes, ⟨(Nat.le_of_ble_eq_true rfl), (Nat.le_of_ble_eq_true rfl)⟩, ⟨(Nat.le_of_ble_eq_true rfl), (Nat.le_of_ble_eq_true rfl)⟩, (Nat.le_of_ble_eq_true rfl)⟩ ki_X10_takes ks_X10_takes rfl rfl (am_tab tk_X10_qFact 3 rfl) rfl ?_
    refine am_if_eq (q := 11) (t := 18) (am_tab tk_X10_qFact 4 rfl) (by decide) rfl (fun h8 => ?_) (fun h8 => ?_)
    · by_cases c2 : (smF b E tk 2000 i0 rc0 [] o0).isLeft = true
      · have hFz0 : frw W_sc S (am_setN S 55 2 (zP b E i0 : Int)) := (frw.refl W_sc S).setN (by unfold W_sc; omega)
        have hQz : QX b E tk i0 rc0 out o0 bs0 (am_setN S 55 2 (zP b E i0 : Int)) := ⟨hZ.look, hV.sc hFz0, hQ0.2.2.1, hQ0.2.2.2.1, hlen, hiz⟩
        refine am_aload_n (q := 19) rfl (am_tab tk_X10_qFact 9 rfl) rfl ?_
        refine am_callVr (q := 22) (me2 := M_X10_qSums) (b := 55) (kb := 10) (nb := 108) (As := []) (rest := []) (c_X10_qSums b E tk htk i0 rc0 out o0 bs0 (am_setN S 55 2 (zP b E i0 : Int)) hQz 2000 (by omega) hout) ⟨rfl, rfl⟩ (Ls_55 hL) (by decide) ⟨Or.inl km_X10_627, kc_X10_qSums, kn_X10, kd_X10_qSums, ⟨(Nat.le_of_ble_eq_true rfl), (Nat.le_of_ble_eq_true rfl)⟩, ⟨(Nat.le_of_ble_eq_true rfl), (Nat.le_of_ble_eq_true rfl)⟩, (Nat.le_of_ble_eq_true rfl)⟩ ki_X10_qSums ks_X10_qSums rfl (am_tab tk_X10_qFact 10 rfl) rfl ?_
        rintro r T2 ⟨rfl, hPT2, hFT2⟩
        obtain ⟨q, hq⟩ := sumL c2
        rw [hq] at hPT2
        have hXT2 : QX b E tk q.1 q.2 out o0 bs0 T2 := hPT2
        have hiq := smF_i _ _ _ _ _ _ hq
        have hlnq := smF_len _ _ _ _ _ _ rfl hq
        simp only [List.length_nil] at hlnq
        have hzq := zP_rng b E q.1
        have hwq := hXT2.2.2.2.2
        refine am_st (st2 := []) rfl ?_
        refine am_aload_n (q := 23) rfl (am_tab tk_X10_qFact 11 rfl) rfl ?_
        refine am_getI (q := 26) (a := 55) (k := 10) (n := 108) (j := 5) (x := 0) (Ls_55 hXT2.1.1) (by decide) rfl hXT2.1.2.2.2.1 (by decide) (Or.inl kf_X10_248) (am_tab tk_X10_qFact 12 rfl) rfl ?_
        refine am_if_eq (q := 29) (t := 30) (am_tab tk_X10_qFact 13 rfl) (by decide) rfl (fun h26 => ?_) (fun h26 => ?_)
        · by_cases c3 : zK b E q.1 = 60
          · refine am_aload_n (q := 31) rfl (am_tab tk_X10_qFact 15 rfl) rfl ?_
            refine am_callV0 (q := 34) (me2 := M_X10_look) (b := 55) (kb := 10) (nb := 108) (As := []) (rest := []) (out := [am_i (byt b E q.1)]) (c_X10_look b E q.1 T2 hXT2.1.1 hXT2.1.2.2) ⟨rfl, rfl⟩ (Ls_55 hXT2.1.1) (by decide) ⟨Or.inl km_X10_260, kc_X10_look, kn_X10, kd_X10_look, ⟨(Nat.le_of_ble_eq_true rfl), (Nat.le_of_ble_eq_true rfl)⟩, ⟨(Nat.le_of_ble_eq_true rfl), (Nat.le_of_ble_eq_true rfl)⟩, (Nat.le_of_ble_eq_true rfl)⟩ ki_X10_look ks_X10_look rfl rfl (am_tab tk_X10_qFact 16 rfl) rfl ?_
            refine am_istore_n (q := 35) (by decide) (ls2 := [(1, am_i (byt b E q.1)), (0, am_r 55)]) rfl (am_tab tk_X10_qFact 17 rfl) rfl ?_
            refine am_iload_n (q := 36) rfl (am_tab tk_X10_qFact 18 rfl) rfl ?_
            refine am_bipush (q := 38) (n := 60) (by decide) rfl (am_tab tk_X10_qFact 19 rfl) rfl ?_
            refine am_icmp_eq (q := 41) (t := 63) (am_tab tk_X10_qFact 20 rfl) (by decide) rfl (fun h38 => ?_) (fun h38 => ?_)
            · refine am_aload_n (q := 64) rfl (am_tab tk_X10_qFact 33 rfl) rfl ?_
              refine am_dup (q := 65) rfl (am_tab tk_X10_qFact 34 rfl) rfl ?_
              refine am_getI (q := 68) (a := 55) (k := 10) (n := 108) (j := 2) (x := (zP b E q.1 : Int)) (Ls_55 hXT2.1.1) (by decide) rfl rfl (by decide) (Or.inl kf_X10_254) (am_tab tk_X10_qFact 35 rfl) rfl ?_
              refine am_iconst (q := 69) (n := 1) (by decide) (am_tab tk_X10_qFact 36 rfl) rfl ?_
              refine am_iadd (q := 70) (by omega) (am_tab tk_X10_qFact 37 rfl) rfl ?_
              refine am_putI (q := 73) (k := 10) (n := 108) (j := 2) (Ls_55 hXT2.1.1) (by decide) rfl (by decide) (Or.inl ⟨kf_X10_254, rfl⟩) (am_tab tk_X10_qFact 38 rfl) rfl ?_
              by_cases c6 : (smF b E tk 2000 (q.1 + 1) q.2 [] o0).isLeft = true
              · have hFn : frw W_sc T2 (am_setN (am_setN T2 55 2 (zP b E q.1 : Int)) 55 2 ((zP b E q.1 : Int) + 1)) := ((frw.refl W_sc T2).setN (by unfold W_sc; omega)).setN (by unfold W_sc; omega)
                have hZn : ZS b E (q.1 + 1) (am_setN (am_setN T2 55 2 (zP b E q.1 : Int)) 55 2 ((zP b E q.1 : Int) + 1)) := ZS_of hXT2.1.1 hXT2.1.2.1 hFn (TS_sign (c := 60) hXT2.1.look.2.2 (by decide) c3 (hXT2.1.2.2.1.fr hFn) hXT2.1.2.2.2.1 hXT2.1.2.2.2.2.1 rfl rfl)
                have hQn : QX b E tk (q.1 + 1) q.2 out o0 bs0 (am_setN (am_setN T2 55 2 (zP b E q.1 : Int)) 55 2 ((zP b E q.1 : Int) + 1)) := ⟨hZn, hXT2.2.1.sc hFn, hXT2.2.2.1, hQ0.2.2.2.1, by omega, zP_on (by omega) hXT2.2.2.2.2.2⟩
                refine am_aload_n (q := 74) rfl (am_tab tk_X10_qFact 39 rfl) rfl ?_
                refine am_callVr (q := 77) (me2 := M_X10_qSums) (b := 55) (kb := 10) (nb := 108) (As := []) (rest := []) (c_X10_qSums b E tk htk (q.1 + 1) q.2 out o0 bs0 (am_setN (am_setN T2 55 2 (zP b E q.1 : Int)) 55 2 ((zP b E q.1 : Int) + 1)) hQn 2000 (by omega) hout) ⟨rfl, rfl⟩ (Ls_55 hXT2.1.1) (by decide) ⟨Or.inl km_X10_627, kc_X10_qSums, kn_X10, kd_X10_qSums, ⟨(Nat.le_of_ble_eq_true rfl), (Nat.le_of_ble_eq_true rfl)⟩, ⟨(Nat.le_of_ble_eq_true rfl), (Nat.le_of_ble_eq_true rfl)⟩, (Nat.le_of_ble_eq_true rfl)⟩ ki_X10_qSums ks_X10_qSums rfl (am_tab tk_X10_qFact 40 rfl) rfl ?_
                rintro r T3 ⟨rfl, hPT3, hFT3⟩
                obtain ⟨p, hp⟩ := sumL c6
                rw [hp] at hPT3
                have hXT3 : QX b E tk p.1 p.2 out o0 bs0 T3 := hPT3
                have hip := smF_i _ _ _ _ _ _ hp
                have hlnp := smF_len _ _ _ _ _ _ rfl hp
                simp only [List.length_nil] at hlnp
                have hzp := zP_rng b E p.1
                have hwp := hXT3.2.2.2.2
                refine am_st (st2 := []) rfl ?_
                refine am_aload_n (q := 78) rfl (am_tab tk_X10_qFact 41 rfl) rfl ?_
                refine am_iload_n (q := 79) rfl (am_tab tk_X10_qFact 42 rfl) rfl ?_
                refine am_bipush (q := 81) (n := 60) (by decide) rfl (am_tab tk_X10_qFact 43 rfl) rfl ?_
                refine am_icmp_ne (q := 84) (t := 89) (am_tab tk_X10_qFact 44 rfl) (by decide) rfl (fun h81 => ?_) (fun h81 => ?_)
                · exact absurd ((sg_iff (by decide)).mpr c3) h81
                · refine am_bipush (q := 86) (n := 7) (by decide) rfl (am_tab tk_X10_qFact 45 rfl) rfl ?_
                  refine am_goto (t := 102) (am_tab tk_X10_qFact 46 rfl) (by decide) ?_
                  refine am_callVr (q := 105) (me2 := M_X10_qCode) (b := 55) (kb := 10) (nb := 108) (As := [am_i 7]) (rest := []) (c_X10_qCode p.2 out o0 bs0 T3 hXT3.1.1 hXT3.2.1 7 (by omega)) ⟨rfl, rfl⟩ (Ls_55 hXT3.1.1) (by decide) ⟨Or.inl km_X10_585, kc_X10_qCode, kn_X10, kd_X10_qCode, ⟨(Nat.le_of_ble_eq_true rfl), (Nat.le_of_ble_eq_true rfl)⟩, ⟨(Nat.le_of_ble_eq_true rfl), (Nat.le_of_ble_eq_true rfl)⟩, (Nat.le_of_ble_eq_true rfl)⟩ ki_X10_qCode ks_X10_qCode rfl (am_tab tk_X10_qFact 53 rfl) rfl ?_
                  rintro r T4 ⟨rfl, hV4, hF4⟩
                  refine am_st (st2 := []) rfl ?_
                  refine am_vret rfl (Nat.le_of_ble_eq_true rfl) (Nat.le_of_ble_eq_true rfl) (am_tab tk_X10_qFact 54 rfl) ?_
                  refine hQ _ _ ?_
                  have hev : facF b E tk i0 rc0 o0 = .inl (p.1, 7 :: p.2) := by unfold facF; rw [if_neg c1, hq]; simp only; rw [if_pos (by omega)]; rw [hp]; simp only; rw [if_pos c3]
                  rw [hev]
                  refine ⟨rfl, ⟨hXT3.1.q hF4, hV4, ?_, hQ0.2.2.2.1, ?_, hXT3.2.2.2.2.2⟩, (W_sc_p ((frw.refl W_sc S).setN (by unfold W_sc; omega))).trans (hFT2.trans ((W_sc_p (((frw.refl W_sc T2).setN (by unfold W_sc; omega)).setN (by unfold W_sc; omega))).trans (hFT3.trans (W_q_p hF4))))⟩
                  · rw [hF4.2.2 55 53 (by unfold W_q; omega)]; exact hXT3.2.2.1
                  · show (7 :: p.2).length + out.length ≤ p.1; rw [List.length_cons]; omega
              · have hFn : frw W_sc T2 (am_setN (am_setN T2 55 2 (zP b E q.1 : Int)) 55 2 ((zP b E q.1 : Int) + 1)) := ((frw.refl W_sc T2).setN (by unfold W_sc; omega)).setN (by unfold W_sc; omega)
                have hZn : ZS b E (q.1 + 1) (am_setN (am_setN T2 55 2 (zP b E q.1 : Int)) 55 2 ((zP b E q.1 : Int) + 1)) := ZS_of hXT2.1.1 hXT2.1.2.1 hFn (TS_sign (c := 60) hXT2.1.look.2.2 (by decide) c3 (hXT2.1.2.2.1.fr hFn) hXT2.1.2.2.2.1 hXT2.1.2.2.2.2.1 rfl rfl)
                have hQn : QX b E tk (q.1 + 1) q.2 out o0 bs0 (am_setN (am_setN T2 55 2 (zP b E q.1 : Int)) 55 2 ((zP b E q.1 : Int) + 1)) := ⟨hZn, hXT2.2.1.sc hFn, hXT2.2.2.1, hQ0.2.2.2.1, by omega, zP_on (by omega) hXT2.2.2.2.2.2⟩
                refine am_aload_n (q := 74) rfl (am_tab tk_X10_qFact 39 rfl) rfl ?_
                refine am_callVr (q := 77) (me2 := M_X10_qSums) (b := 55) (kb := 10) (nb := 108) (As := []) (rest := []) (c_X10_qSums b E tk htk (q.1 + 1) q.2 out o0 bs0 (am_setN (am_setN T2 55 2 (zP b E q.1 : Int)) 55 2 ((zP b E q.1 : Int) + 1)) hQn 2000 (by omega) hout) ⟨rfl, rfl⟩ (Ls_55 hXT2.1.1) (by decide) ⟨Or.inl km_X10_627, kc_X10_qSums, kn_X10, kd_X10_qSums, ⟨(Nat.le_of_ble_eq_true rfl), (Nat.le_of_ble_eq_true rfl)⟩, ⟨(Nat.le_of_ble_eq_true rfl), (Nat.le_of_ble_eq_true rfl)⟩, (Nat.le_of_ble_eq_true rfl)⟩ ki_X10_qSums ks_X10_qSums rfl (am_tab tk_X10_qFact 40 rfl) rfl ?_
                rintro r T3 ⟨rfl, hPT3, hFT3⟩
                obtain ⟨e, he⟩ := sumR c6
                rw [he] at hPT3
                have hB : QB b E e.1 e.2 1660 T3 := hPT3
                refine am_st (st2 := []) rfl ?_
                refine am_aload_n (q := 78) rfl (am_tab tk_X10_qFact 41 rfl) rfl ?_
                refine am_iload_n (q := 79) rfl (am_tab tk_X10_qFact 42 rfl) rfl ?_
                refine am_bipush (q := 81) (n := 60) (by decide) rfl (am_tab tk_X10_qFact 43 rfl) rfl ?_
                refine am_icmp_ne (q := 84) (t := 89) (am_tab tk_X10_qFact 44 rfl) (by decide) rfl (fun h81 => ?_) (fun h81 => ?_)
                · exact absurd ((sg_iff (by decide)).mpr c3) h81
                · refine am_bipush (q := 86) (n := 7) (by decide) rfl (am_tab tk_X10_qFact 45 rfl) rfl ?_
                  refine am_goto (t := 102) (am_tab tk_X10_qFact 46 rfl) (by decide) ?_
                  refine am_callV0 (q := 105) (me2 := M_X10_qCode) (b := 55) (kb := 10) (nb := 108) (As := [am_i 7]) (rest := []) (out := []) (c_qCodeB T3 hB.1.1 7 (by have := hB.2.1; omega)) ⟨rfl, rfl⟩ (Ls_55 hB.1.1) (by decide) ⟨Or.inl km_X10_585, kc_X10_qCode, kn_X10, kd_X10_qCode, ⟨(Nat.le_of_ble_eq_true rfl), (Nat.le_of_ble_eq_true rfl)⟩, ⟨(Nat.le_of_ble_eq_true rfl), (Nat.le_of_ble_eq_true rfl)⟩, (Nat.le_of_ble_eq_true rfl)⟩ ki_X10_qCode ks_X10_qCode rfl rfl (am_tab tk_X10_qFact 53 rfl) rfl ?_
                  refine am_vret rfl (Nat.le_of_ble_eq_true rfl) (Nat.le_of_ble_eq_true rfl) (am_tab tk_X10_qFact 54 rfl) ?_
                  refine hQ _ _ ?_
                  have hev : facF b E tk i0 rc0 o0 = .inr e := by unfold facF; rw [if_neg c1, hq]; simp only; rw [if_pos (by omega)]; rw [he]
                  rw [hev]
                  have hFz : frw W_q T3 (am_setN (am_setN T3 127 (T3.2.1 55 97).toNat 7) 55 97 (T3.2.1 55 97 + 1)) := ((frw.refl W_q T3).setN (by unfold W_q; omega)).setN (by unfold W_q; omega)
                  refine ⟨rfl, ⟨hB.1.q hFz, ?_, ?_⟩, (W_sc_p ((frw.refl W_sc S).setN (by unfold W_sc; omega))).trans (hFT2.trans ((W_sc_p (((frw.refl W_sc T2).setN (by unfold W_sc; omega)).setN (by unfold W_sc; omega))).trans (hFT3.trans (W_q_p hFz))))⟩
                  · have := hB.2.1; show 0 ≤ T3.2.1 55 97 + 1 ∧ T3.2.1 55 97 + 1 ≤ 1670; omega
                  · have := hB.2.2; show 0 ≤ T3.2.1 55 99 ∧ T3.2.1 55 99 ≤ 1670; omega
            · exact absurd ((sg_iff (by decide)).mpr c3) h38
          · by_cases c4 : zK b E q.1 = 62
            · refine am_aload_n (q := 31) rfl (am_tab tk_X10_qFact 15 rfl) rfl ?_
              refine am_callV0 (q := 34) (me2 := M_X10_look) (b := 55) (kb := 10) (nb := 108) (As := []) (rest := []) (out := [am_i (byt b E q.1)]) (c_X10_look b E q.1 T2 hXT2.1.1 hXT2.1.2.2) ⟨rfl, rfl⟩ (Ls_55 hXT2.1.1) (by decide) ⟨Or.inl km_X10_260, kc_X10_look, kn_X10, kd_X10_look, ⟨(Nat.le_of_ble_eq_true rfl), (Nat.le_of_ble_eq_true rfl)⟩, ⟨(Nat.le_of_ble_eq_true rfl), (Nat.le_of_ble_eq_true rfl)⟩, (Nat.le_of_ble_eq_true rfl)⟩ ki_X10_look ks_X10_look rfl rfl (am_tab tk_X10_qFact 16 rfl) rfl ?_
              refine am_istore_n (q := 35) (by decide) (ls2 := [(1, am_i (byt b E q.1)), (0, am_r 55)]) rfl (am_tab tk_X10_qFact 17 rfl) rfl ?_
              refine am_iload_n (q := 36) rfl (am_tab tk_X10_qFact 18 rfl) rfl ?_
              refine am_bipush (q := 38) (n := 60) (by decide) rfl (am_tab tk_X10_qFact 19 rfl) rfl ?_
              refine am_icmp_eq (q := 41) (t := 63) (am_tab tk_X10_qFact 20 rfl) (by decide) rfl (fun h38 => ?_) (fun h38 => ?_)
              · exact absurd ((sg_iff (by decide)).mp h38) c3
              · refine am_iload_n (q := 42) rfl (am_tab tk_X10_qFact 21 rfl) rfl ?_
                refine am_bipush (q := 44) (n := 62) (by decide) rfl (am_tab tk_X10_qFact 22 rfl) rfl ?_
                refine am_icmp_eq (q := 47) (t := 63) (am_tab tk_X10_qFact 23 rfl) (by decide) rfl (fun h44 => ?_) (fun h44 => ?_)
                · refine am_aload_n (q := 64) rfl (am_tab tk_X10_qFact 33 rfl) rfl ?_
                  refine am_dup (q := 65) rfl (am_tab tk_X10_qFact 34 rfl) rfl ?_
                  refine am_getI (q := 68) (a := 55) (k := 10) (n := 108) (j := 2) (x := (zP b E q.1 : Int)) (Ls_55 hXT2.1.1) (by decide) rfl rfl (by decide) (Or.inl kf_X10_254) (am_tab tk_X10_qFact 35 rfl) rfl ?_
                  refine am_iconst (q := 69) (n := 1) (by decide) (am_tab tk_X10_qFact 36 rfl) rfl ?_
                  refine am_iadd (q := 70) (by omega) (am_tab tk_X10_qFact 37 rfl) rfl ?_
                  refine am_putI (q := 73) (k := 10) (n := 108) (j := 2) (Ls_55 hXT2.1.1) (by decide) rfl (by decide) (Or.inl ⟨kf_X10_254, rfl⟩) (am_tab tk_X10_qFact 38 rfl) rfl ?_
                  by_cases c6 : (smF b E tk 2000 (q.1 + 1) q.2 [] o0).isLeft = true
                  · have hFn : frw W_sc T2 (am_setN (am_setN T2 55 2 (zP b E q.1 : Int)) 55 2 ((zP b E q.1 : Int) + 1)) := ((frw.refl W_sc T2).setN (by unfold W_sc; omega)).setN (by unfold W_sc; omega)
                    have hZn : ZS b E (q.1 + 1) (am_setN (am_setN T2 55 2 (zP b E q.1 : Int)) 55 2 ((zP b E q.1 : Int) + 1)) := ZS_of hXT2.1.1 hXT2.1.2.1 hFn (TS_sign (c := 62) hXT2.1.look.2.2 (by decide) c4 (hXT2.1.2.2.1.fr hFn) hXT2.1.2.2.2.1 hXT2.1.2.2.2.2.1 rfl rfl)
                    have hQn : QX b E tk (q.1 + 1) q.2 out o0 bs0 (am_setN (am_setN T2 55 2 (zP b E q.1 : Int)) 55 2 ((zP b E q.1 : Int) + 1)) := ⟨hZn, hXT2.2.1.sc hFn, hXT2.2.2.1, hQ0.2.2.2.1, by omega, zP_on (by omega) hXT2.2.2.2.2.2⟩
                    refine am_aload_n (q := 74) rfl (am_tab tk_X10_qFact 39 rfl) rfl ?_
                    refine am_callVr (q := 77) (me2 := M_X10_qSums) (b := 55) (kb := 10) (nb := 108) (As := []) (rest := []) (c_X10_qSums b E tk htk (q.1 + 1) q.2 out o0 bs0 (am_setN (am_setN T2 55 2 (zP b E q.1 : Int)) 55 2 ((zP b E q.1 : Int) + 1)) hQn 2000 (by omega) hout) ⟨rfl, rfl⟩ (Ls_55 hXT2.1.1) (by decide) ⟨Or.inl km_X10_627, kc_X10_qSums, kn_X10, kd_X10_qSums, ⟨(Nat.le_of_ble_eq_true rfl), (Nat.le_of_ble_eq_true rfl)⟩, ⟨(Nat.le_of_ble_eq_true rfl), (Nat.le_of_ble_eq_true rfl)⟩, (Nat.le_of_ble_eq_true rfl)⟩ ki_X10_qSums ks_X10_qSums rfl (am_tab tk_X10_qFact 40 rfl) rfl ?_
                    rintro r T3 ⟨rfl, hPT3, hFT3⟩
                    obtain ⟨p, hp⟩ := sumL c6
                    rw [hp] at hPT3
                    have hXT3 : QX b E tk p.1 p.2 out o0 bs0 T3 := hPT3
                    have hip := smF_i _ _ _ _ _ _ hp
                    have hlnp := smF_len _ _ _ _ _ _ rfl hp
                    simp only [List.length_nil] at hlnp
                    have hzp := zP_rng b E p.1
                    have hwp := hXT3.2.2.2.2
                    refine am_st (st2 := []) rfl ?_
                    refine am_aload_n (q := 78) rfl (am_tab tk_X10_qFact 41 rfl) rfl ?_
                    refine am_iload_n (q := 79) rfl (am_tab tk_X10_qFact 42 rfl) rfl ?_
                    refine am_bipush (q := 81) (n := 60) (by decide) rfl (am_tab tk_X10_qFact 43 rfl) rfl ?_
                    refine am_icmp_ne (q := 84) (t := 89) (am_tab tk_X10_qFact 44 rfl) (by decide) rfl (fun h81 => ?_) (fun h81 => ?_)
                    · refine am_iload_n (q := 90) rfl (am_tab tk_X10_qFact 47 rfl) rfl ?_
                      refine am_bipush (q := 92) (n := 62) (by decide) rfl (am_tab tk_X10_qFact 48 rfl) rfl ?_
                      refine am_icmp_ne (q := 95) (t := 100) (am_tab tk_X10_qFact 49 rfl) (by decide) rfl (fun h92 => ?_) (fun h92 => ?_)
                      · exact absurd ((sg_iff (by decide)).mpr c4) h92
                      · refine am_bipush (q := 97) (n := 8) (by decide) rfl (am_tab tk_X10_qFact 50 rfl) rfl ?_
                        refine am_goto (t := 102) (am_tab tk_X10_qFact 51 rfl) (by decide) ?_
                        refine am_callVr (q := 105) (me2 := M_X10_qCode) (b := 55) (kb := 10) (nb := 108) (As := [am_i 8]) (rest := []) (c_X10_qCode p.2 out o0 bs0 T3 hXT3.1.1 hXT3.2.1 8 (by omega)) ⟨rfl, rfl⟩ (Ls_55 hXT3.1.1) (by decide) ⟨Or.inl km_X10_585, kc_X10_qCode, kn_X10, kd_X10_qCode, ⟨(Nat.le_of_ble_eq_true rfl), (Nat.le_of_ble_eq_true rfl)⟩, ⟨(Nat.le_of_ble_eq_true rfl), (Nat.le_of_ble_eq_true rfl)⟩, (Nat.le_of_ble_eq_true rfl)⟩ ki_X10_qCode ks_X10_qCode rfl (am_tab tk_X10_qFact 53 rfl) rfl ?_
                        rintro r T4 ⟨rfl, hV4, hF4⟩
                        refine am_st (st2 := []) rfl ?_
                        refine am_vret rfl (Nat.le_of_ble_eq_true rfl) (Nat.le_of_ble_eq_true rfl) (am_tab tk_X10_qFact 54 rfl) ?_
                        refine hQ _ _ ?_
                        have hev : facF b E tk i0 rc0 o0 = .inl (p.1, 8 :: p.2) := by unfold facF; rw [if_neg c1, hq]; simp only; rw [if_pos (by omega)]; rw [hp]; simp only; rw [if_neg c3, if_pos c4]
                        rw [hev]
                        refine ⟨rfl, ⟨hXT3.1.q hF4, hV4, ?_, hQ0.2.2.2.1, ?_, hXT3.2.2.2.2.2⟩, (W_sc_p ((frw.refl W_sc S).setN (by unfold W_sc; omega))).trans (hFT2.trans ((W_sc_p (((frw.refl W_sc T2).setN (by unfold W_sc; omega)).setN (by unfold W_sc; omega))).trans (hFT3.trans (W_q_p hF4))))⟩
                        · rw [hF4.2.2 55 53 (by unfold W_q; omega)]; exact hXT3.2.2.1
                        · show (8 :: p.2).length + out.length ≤ p.1; rw [List.length_cons]; omega
                    · exact absurd ((sg_iff (by decide)).mp h81) c3
                  · have hFn : frw W_sc T2 (am_setN (am_setN T2 55 2 (zP b E q.1 : Int)) 55 2 ((zP b E q.1 : Int) + 1)) := ((frw.refl W_sc T2).setN (by unfold W_sc; omega)).setN (by unfold W_sc; omega)
                    have hZn : ZS b E (q.1 + 1) (am_setN (am_setN T2 55 2 (zP b E q.1 : Int)) 55 2 ((zP b E q.1 : Int) + 1)) := ZS_of hXT2.1.1 hXT2.1.2.1 hFn (TS_sign (c := 62) hXT2.1.look.2.2 (by decide) c4 (hXT2.1.2.2.1.fr hFn) hXT2.1.2.2.2.1 hXT2.1.2.2.2.2.1 rfl rfl)
                    have hQn : QX b E tk (q.1 + 1) q.2 out o0 bs0 (am_setN (am_setN T2 55 2 (zP b E q.1 : Int)) 55 2 ((zP b E q.1 : Int) + 1)) := ⟨hZn, hXT2.2.1.sc hFn, hXT2.2.2.1, hQ0.2.2.2.1, by omega, zP_on (by omega) hXT2.2.2.2.2.2⟩
                    refine am_aload_n (q := 74) rfl (am_tab tk_X10_qFact 39 rfl) rfl ?_
                    refine am_callVr (q := 77) (me2 := M_X10_qSums) (b := 55) (kb := 10) (nb := 108) (As := []) (rest := []) (c_X10_qSums b E tk htk (q.1 + 1) q.2 out o0 bs0 (am_setN (am_setN T2 55 2 (zP b E q.1 : Int)) 55 2 ((zP b E q.1 : Int) + 1)) hQn 2000 (by omega) hout) ⟨rfl, rfl⟩ (Ls_55 hXT2.1.1) (by decide) ⟨Or.inl km_X10_627, kc_X10_qSums, kn_X10, kd_X10_qSums, ⟨(Nat.le_of_ble_eq_true rfl), (Nat.le_of_ble_eq_true rfl)⟩, ⟨(Nat.le_of_ble_eq_true rfl), (Nat.le_of_ble_eq_true rfl)⟩, (Nat.le_of_ble_eq_true rfl)⟩ ki_X10_qSums ks_X10_qSums rfl (am_tab tk_X10_qFact 40 rfl) rfl ?_
                    rintro r T3 ⟨rfl, hPT3, hFT3⟩
                    obtain ⟨e, he⟩ := sumR c6
                    rw [he] at hPT3
                    have hB : QB b E e.1 e.2 1660 T3 := hPT3
                    refine am_st (st2 := []) rfl ?_
                    refine am_aload_n (q := 78) rfl (am_tab tk_X10_qFact 41 rfl) rfl ?_
                    refine am_iload_n (q := 79) rfl (am_tab tk_X10_qFact 42 rfl) rfl ?_
                    refine am_bipush (q := 81) (n := 60) (by decide) rfl (am_tab tk_X10_qFact 43 rfl) rfl ?_
                    refine am_icmp_ne (q := 84) (t := 89) (am_tab tk_X10_qFact 44 rfl) (by decide) rfl (fun h81 => ?_) (fun h81 => ?_)
                    · refine am_iload_n (q := 90) rfl (am_tab tk_X10_qFact 47 rfl) rfl ?_
                      refine am_bipush (q := 92) (n := 62) (by decide) rfl (am_tab tk_X10_qFact 48 rfl) rfl ?_
                      refine am_icmp_ne (q := 95) (t := 100) (am_tab tk_X10_qFact 49 rfl) (by decide) rfl (fun h92 => ?_) (fun h92 => ?_)
                      · exact absurd ((sg_iff (by decide)).mpr c4) h92
                      · refine am_bipush (q := 97) (n := 8) (by decide) rfl (am_tab tk_X10_qFact 50 rfl) rfl ?_
                        refine am_goto (t := 102) (am_tab tk_X10_qFact 51 rfl) (by decide) ?_
                        refine am_callV0 (q := 105) (me2 := M_X10_qCode) (b := 55) (kb := 10) (nb := 108) (As := [am_i 8]) (rest := []) (out := []) (c_qCodeB T3 hB.1.1 8 (by have := hB.2.1; omega)) ⟨rfl, rfl⟩ (Ls_55 hB.1.1) (by decide) ⟨Or.inl km_X10_585, kc_X10_qCode, kn_X10, kd_X10_qCode, ⟨(Nat.le_of_ble_eq_true rfl), (Nat.le_of_ble_eq_true rfl)⟩, ⟨(Nat.le_of_ble_eq_true rfl), (Nat.le_of_ble_eq_true rfl)⟩, (Nat.le_of_ble_eq_true rfl)⟩ ki_X10_qCode ks_X10_qCode rfl rfl (am_tab tk_X10_qFact 53 rfl) rfl ?_
                        refine am_vret rfl (Nat.le_of_ble_eq_true rfl) (Nat.le_of_ble_eq_true rfl) (am_tab tk_X10_qFact 54 rfl) ?_
                        refine hQ _ _ ?_
                        have hev : facF b E tk i0 rc0 o0 = .inr e := by unfold facF; rw [if_neg c1, hq]; simp only; rw [if_pos (by omega)]; rw [he]
                        rw [hev]
                        have hFz : frw W_q T3 (am_setN (am_setN T3 127 (T3.2.1 55 97).toNat 8) 55 97 (T3.2.1 55 97 + 1)) := ((frw.refl W_q T3).setN (by unfold W_q; omega)).setN (by unfold W_q; omega)
                        refine ⟨rfl, ⟨hB.1.q hFz, ?_, ?_⟩, (W_sc_p ((frw.refl W_sc S).setN (by unfold W_sc; omega))).trans (hFT2.trans ((W_sc_p (((frw.refl W_sc T2).setN (by unfold W_sc; omega)).setN (by unfold W_sc; omega))).trans (hFT3.trans (W_q_p hFz))))⟩
                        · have := hB.2.1; show 0 ≤ T3.2.1 55 97 + 1 ∧ T3.2.1 55 97 + 1 ≤ 1670; omega
                        · have := hB.2.2; show 0 ≤ T3.2.1 55 99 ∧ T3.2.1 55 99 ≤ 1670; omega
                    · exact absurd ((sg_iff (by decide)).mp h81) c3
                · exact absurd ((sg_iff (by decide)).mpr c4) h44
            · by_cases c5 : zK b E q.1 = 61
              · refine am_aload_n (q := 31) rfl (am_tab tk_X10_qFact 15 rfl) rfl ?_
                refine am_callV0 (q := 34) (me2 := M_X10_look) (b := 55) (kb := 10) (nb := 108) (As := []) (rest := []) (out := [am_i (byt b E q.1)]) (c_X10_look b E q.1 T2 hXT2.1.1 hXT2.1.2.2) ⟨rfl, rfl⟩ (Ls_55 hXT2.1.1) (by decide) ⟨Or.inl km_X10_260, kc_X10_look, kn_X10, kd_X10_look, ⟨(Nat.le_of_ble_eq_true rfl), (Nat.le_of_ble_eq_true rfl)⟩, ⟨(Nat.le_of_ble_eq_true rfl), (Nat.le_of_ble_eq_true rfl)⟩, (Nat.le_of_ble_eq_true rfl)⟩ ki_X10_look ks_X10_look rfl rfl (am_tab tk_X10_qFact 16 rfl) rfl ?_
                refine am_istore_n (q := 35) (by decide) (ls2 := [(1, am_i (byt b E q.1)), (0, am_r 55)]) rfl (am_tab tk_X10_qFact 17 rfl) rfl ?_
                refine am_iload_n (q := 36) rfl (am_tab tk_X10_qFact 18 rfl) rfl ?_
                refine am_bipush (q := 38) (n := 60) (by decide) rfl (am_tab tk_X10_qFact 19 rfl) rfl ?_
                refine am_icmp_eq (q := 41) (t := 63) (am_tab tk_X10_qFact 20 rfl) (by decide) rfl (fun h38 => ?_) (fun h38 => ?_)
                · exact absurd ((sg_iff (by decide)).mp h38) c3
                · refine am_iload_n (q := 42) rfl (am_tab tk_X10_qFact 21 rfl) rfl ?_
                  refine am_bipush (q := 44) (n := 62) (by decide) rfl (am_tab tk_X10_qFact 22 rfl) rfl ?_
                  refine am_icmp_eq (q := 47) (t := 63) (am_tab tk_X10_qFact 23 rfl) (by decide) rfl (fun h44 => ?_) (fun h44 => ?_)
                  · exact absurd ((sg_iff (by decide)).mp h44) c4
                  · refine am_iload_n (q := 48) rfl (am_tab tk_X10_qFact 24 rfl) rfl ?_
                    refine am_bipush (q := 50) (n := 61) (by decide) rfl (am_tab tk_X10_qFact 25 rfl) rfl ?_
                    refine am_icmp_eq (q := 53) (t := 63) (am_tab tk_X10_qFact 26 rfl) (by decide) rfl (fun h50 => ?_) (fun h50 => ?_)
                    · refine am_aload_n (q := 64) rfl (am_tab tk_X10_qFact 33 rfl) rfl ?_
                      refine am_dup (q := 65) rfl (am_tab tk_X10_qFact 34 rfl) rfl ?_
                      refine am_getI (q := 68) (a := 55) (k := 10) (n := 108) (j := 2) (x := (zP b E q.1 : Int)) (Ls_55 hXT2.1.1) (by decide) rfl rfl (by decide) (Or.inl kf_X10_254) (am_tab tk_X10_qFact 35 rfl) rfl ?_
                      refine am_iconst (q := 69) (n := 1) (by decide) (am_tab tk_X10_qFact 36 rfl) rfl ?_
                      refine am_iadd (q := 70) (by omega) (am_tab tk_X10_qFact 37 rfl) rfl ?_
                      refine am_putI (q := 73) (k := 10) (n := 108) (j := 2) (Ls_55 hXT2.1.1) (by decide) rfl (by decide) (Or.inl ⟨kf_X10_254, rfl⟩) (am_tab tk_X10_qFact 38 rfl) rfl ?_
                      by_cases c6 : (smF b E tk 2000 (q.1 + 1) q.2 [] o0).isLeft = true
                      · have hFn : frw W_sc T2 (am_setN (am_setN T2 55 2 (zP b E q.1 : Int)) 55 2 ((zP b E q.1 : Int) + 1)) := ((frw.refl W_sc T2).setN (by unfold W_sc; omega)).setN (by unfold W_sc; omega)
                        have hZn : ZS b E (q.1 + 1) (am_setN (am_setN T2 55 2 (zP b E q.1 : Int)) 55 2 ((zP b E q.1 : Int) + 1)) := ZS_of hXT2.1.1 hXT2.1.2.1 hFn (TS_sign (c := 61) hXT2.1.look.2.2 (by decide) c5 (hXT2.1.2.2.1.fr hFn) hXT2.1.2.2.2.1 hXT2.1.2.2.2.2.1 rfl rfl)
                        have hQn : QX b E tk (q.1 + 1) q.2 out o0 bs0 (am_setN (am_setN T2 55 2 (zP b E q.1 : Int)) 55 2 ((zP b E q.1 : Int) + 1)) := ⟨hZn, hXT2.2.1.sc hFn, hXT2.2.2.1, hQ0.2.2.2.1, by omega, zP_on (by omega) hXT2.2.2.2.2.2⟩
                        refine am_aload_n (q := 74) rfl (am_tab tk_X10_qFact 39 rfl) rfl ?_
                        refine am_callVr (q := 77) (me2 := M_X10_qSums) (b := 55) (kb := 10) (nb := 108) (As := []) (rest := []) (c_X10_qSums b E tk htk (q.1 + 1) q.2 out o0 bs0 (am_setN (am_setN T2 55 2 (zP b E q.1 : Int)) 55 2 ((zP b E q.1 : Int) + 1)) hQn 2000 (by omega) hout) ⟨rfl, rfl⟩ (Ls_55 hXT2.1.1) (by decide) ⟨Or.inl km_X10_627, kc_X10_qSums, kn_X10, kd_X10_qSums, ⟨(Nat.le_of_ble_eq_true rfl), (Nat.le_of_ble_eq_true rfl)⟩, ⟨(Nat.le_of_ble_eq_true rfl), (Nat.le_of_ble_eq_true rfl)⟩, (Nat.le_of_ble_eq_true rfl)⟩ ki_X10_qSums ks_X10_qSums rfl (am_tab tk_X10_qFact 40 rfl) rfl ?_
                        rintro r T3 ⟨rfl, hPT3, hFT3⟩
                        obtain ⟨p, hp⟩ := sumL c6
                        rw [hp] at hPT3
                        have hXT3 : QX b E tk p.1 p.2 out o0 bs0 T3 := hPT3
                        have hip := smF_i _ _ _ _ _ _ hp
                        have hlnp := smF_len _ _ _ _ _ _ rfl hp
                        simp only [List.length_nil] at hlnp
                        have hzp := zP_rng b E p.1
                        have hwp := hXT3.2.2.2.2
                        refine am_st (st2 := []) rfl ?_
                        refine am_aload_n (q := 78) rfl (am_tab tk_X10_qFact 41 rfl) rfl ?_
                        refine am_iload_n (q := 79) rfl (am_tab tk_X10_qFact 42 rfl) rfl ?_
                        refine am_bipush (q := 81) (n := 60) (by decide) rfl (am_tab tk_X10_qFact 43 rfl) rfl ?_
                        refine am_icmp_ne (q := 84) (t := 89) (am_tab tk_X10_qFact 44 rfl) (by decide) rfl (fun h81 => ?_) (fun h81 => ?_)
                        · refine am_iload_n (q := 90) rfl (am_tab tk_X10_qFact 47 rfl) rfl ?_
                          refine am_bipush (q := 92) (n := 62) (by decide) rfl (am_tab tk_X10_qFact 48 rfl) rfl ?_
                          refine am_icmp_ne (q := 95) (t := 100) (am_tab tk_X10_qFact 49 rfl) (by decide) rfl (fun h92 => ?_) (fun h92 => ?_)
                          · refine am_bipush (q := 102) (n := 9) (by decide) rfl (am_tab tk_X10_qFact 52 rfl) rfl ?_
                            refine am_callVr (q := 105) (me2 := M_X10_qCode) (b := 55) (kb := 10) (nb := 108) (As := [am_i 9]) (rest := []) (c_X10_qCode p.2 out o0 bs0 T3 hXT3.1.1 hXT3.2.1 9 (by omega)) ⟨rfl, rfl⟩ (Ls_55 hXT3.1.1) (by decide) ⟨Or.inl km_X10_585, kc_X10_qCode, kn_X10, kd_X10_qCode, ⟨(Nat.le_of_ble_eq_true rfl), (Nat.le_of_ble_eq_true rfl)⟩, ⟨(Nat.le_of_ble_eq_true rfl), (Nat.le_of_ble_eq_true rfl)⟩, (Nat.le_of_ble_eq_true rfl)⟩ ki_X10_qCode ks_X10_qCode rfl (am_tab tk_X10_qFact 53 rfl) rfl ?_
                            rintro r T4 ⟨rfl, hV4, hF4⟩
                            refine am_st (st2 := []) rfl ?_
                            refine am_vret rfl (Nat.le_of_ble_eq_true rfl) (Nat.le_of_ble_eq_true rfl) (am_tab tk_X10_qFact 54 rfl) ?_
                            refine hQ _ _ ?_
                            have hev : facF b E tk i0 rc0 o0 = .inl (p.1, 9 :: p.2) := by unfold facF; rw [if_neg c1, hq]; simp only; rw [if_pos (by omega)]; rw [hp]; simp only; rw [if_neg c3, if_neg c4]
                            rw [hev]
                            refine ⟨rfl, ⟨hXT3.1.q hF4, hV4, ?_, hQ0.2.2.2.1, ?_, hXT3.2.2.2.2.2⟩, (W_sc_p ((frw.refl W_sc S).setN (by unfold W_sc; omega))).trans (hFT2.trans ((W_sc_p (((frw.refl W_sc T2).setN (by unfold W_sc; omega)).setN (by unfold W_sc; omega))).trans (hFT3.trans (W_q_p hF4))))⟩
                            · rw [hF4.2.2 55 53 (by unfold W_q; omega)]; exact hXT3.2.2.1
                            · show (9 :: p.2).length + out.length ≤ p.1; rw [List.length_cons]; omega
                          · exact absurd ((sg_iff (by decide)).mp h92) c4
                        · exact absurd ((sg_iff (by decide)).mp h81) c3
                      · have hFn : frw W_sc T2 (am_setN (am_setN T2 55 2 (zP b E q.1 : Int)) 55 2 ((zP b E q.1 : Int) + 1)) := ((frw.refl W_sc T2).setN (by unfold W_sc; omega)).setN (by unfold W_sc; omega)
                        have hZn : ZS b E (q.1 + 1) (am_setN (am_setN T2 55 2 (zP b E q.1 : Int)) 55 2 ((zP b E q.1 : Int) + 1)) := ZS_of hXT2.1.1 hXT2.1.2.1 hFn (TS_sign (c := 61) hXT2.1.look.2.2 (by decide) c5 (hXT2.1.2.2.1.fr hFn) hXT2.1.2.2.2.1 hXT2.1.2.2.2.2.1 rfl rfl)
                        have hQn : QX b E tk (q.1 + 1) q.2 out o0 bs0 (am_setN (am_setN T2 55 2 (zP b E q.1 : Int)) 55 2 ((zP b E q.1 : Int) + 1)) := ⟨hZn, hXT2.2.1.sc hFn, hXT2.2.2.1, hQ0.2.2.2.1, by omega, zP_on (by omega) hXT2.2.2.2.2.2⟩
                        refine am_aload_n (q := 74) rfl (am_tab tk_X10_qFact 39 rfl) rfl ?_
                        refine am_callVr (q := 77) (me2 := M_X10_qSums) (b := 55) (kb := 10) (nb := 108) (As := []) (rest := []) (c_X10_qSums b E tk htk (q.1 + 1) q.2 out o0 bs0 (am_setN (am_setN T2 55 2 (zP b E q.1 : Int)) 55 2 ((zP b E q.1 : Int) + 1)) hQn 2000 (by omega) hout) ⟨rfl, rfl⟩ (Ls_55 hXT2.1.1) (by decide) ⟨Or.inl km_X10_627, kc_X10_qSums, kn_X10, kd_X10_qSums, ⟨(Nat.le_of_ble_eq_true rfl), (Nat.le_of_ble_eq_true rfl)⟩, ⟨(Nat.le_of_ble_eq_true rfl), (Nat.le_of_ble_eq_true rfl)⟩, (Nat.le_of_ble_eq_true rfl)⟩ ki_X10_qSums ks_X10_qSums rfl (am_tab tk_X10_qFact 40 rfl) rfl ?_
                        rintro r T3 ⟨rfl, hPT3, hFT3⟩
                        obtain ⟨e, he⟩ := sumR c6
                        rw [he] at hPT3
                        have hB : QB b E e.1 e.2 1660 T3 := hPT3
                        refine am_st (st2 := []) rfl ?_
                        refine am_aload_n (q := 78) rfl (am_tab tk_X10_qFact 41 rfl) rfl ?_
                        refine am_iload_n (q := 79) rfl (am_tab tk_X10_qFact 42 rfl) rfl ?_
                        refine am_bipush (q := 81) (n := 60) (by decide) rfl (am_tab tk_X10_qFact 43 rfl) rfl ?_
                        refine am_icmp_ne (q := 84) (t := 89) (am_tab tk_X10_qFact 44 rfl) (by decide) rfl (fun h81 => ?_) (fun h81 => ?_)
                        · refine am_iload_n (q := 90) rfl (am_tab tk_X10_qFact 47 rfl) rfl ?_
                          refine am_bipush (q := 92) (n := 62) (by decide) rfl (am_tab tk_X10_qFact 48 rfl) rfl ?_
                          refine am_icmp_ne (q := 95) (t := 100) (am_tab tk_X10_qFact 49 rfl) (by decide) rfl (fun h92 => ?_) (fun h92 => ?_)
                          · refine am_bipush (q := 102) (n := 9) (by decide) rfl (am_tab tk_X10_qFact 52 rfl) rfl ?_
                            refine am_callV0 (q := 105) (me2 := M_X10_qCode) (b := 55) (kb := 10) (nb := 108) (As := [am_i 9]) (rest := []) (out := []) (c_qCodeB T3 hB.1.1 9 (by have := hB.2.1; omega)) ⟨rfl, rfl⟩ (Ls_55 hB.1.1) (by decide) ⟨Or.inl km_X10_585, kc_X10_qCode, kn_X10, kd_X10_qCode, ⟨(Nat.le_of_ble_eq_true rfl), (Nat.le_of_ble_eq_true rfl)⟩, ⟨(Nat.le_of_ble_eq_true rfl), (Nat.le_of_ble_eq_true rfl)⟩, (Nat.le_of_ble_eq_true rfl)⟩ ki_X10_qCode ks_X10_qCode rfl rfl (am_tab tk_X10_qFact 53 rfl) rfl ?_
                            refine am_vret rfl (Nat.le_of_ble_eq_true rfl) (Nat.le_of_ble_eq_true rfl) (am_tab tk_X10_qFact 54 rfl) ?_
                            refine hQ _ _ ?_
                            have hev : facF b E tk i0 rc0 o0 = .inr e := by unfold facF; rw [if_neg c1, hq]; simp only; rw [if_pos (by omega)]; rw [he]
                            rw [hev]
                            have hFz : frw W_q T3 (am_setN (am_setN T3 127 (T3.2.1 55 97).toNat 9) 55 97 (T3.2.1 55 97 + 1)) := ((frw.refl W_q T3).setN (by unfold W_q; omega)).setN (by unfold W_q; omega)
                            refine ⟨rfl, ⟨hB.1.q hFz, ?_, ?_⟩, (W_sc_p ((frw.refl W_sc S).setN (by unfold W_sc; omega))).trans (hFT2.trans ((W_sc_p (((frw.refl W_sc T2).setN (by unfold W_sc; omega)).setN (by unfold W_sc; omega))).trans (hFT3.trans (W_q_p hFz))))⟩
                            · have := hB.2.1; show 0 ≤ T3.2.1 55 97 + 1 ∧ T3.2.1 55 97 + 1 ≤ 1670; omega
                            · have := hB.2.2; show 0 ≤ T3.2.1 55 99 ∧ T3.2.1 55 99 ≤ 1670; omega
                          · exact absurd ((sg_iff (by decide)).mp h92) c4
                        · exact absurd ((sg_iff (by decide)).mp h81) c3
                    · exact absurd ((sg_iff (by decide)).mpr c5) h50
              · refine am_aload_n (q := 31) rfl (am_tab tk_X10_qFact 15 rfl) rfl ?_
                refine am_callV0 (q := 34) (me2 := M_X10_look) (b := 55) (kb := 10) (nb := 108) (As := []) (rest := []) (out := [am_i (byt b E q.1)]) (c_X10_look b E q.1 T2 hXT2.1.1 hXT2.1.2.2) ⟨rfl, rfl⟩ (Ls_55 hXT2.1.1) (by decide) ⟨Or.inl km_X10_260, kc_X10_look, kn_X10, kd_X10_look, ⟨(Nat.le_of_ble_eq_true rfl), (Nat.le_of_ble_eq_true rfl)⟩, ⟨(Nat.le_of_ble_eq_true rfl), (Nat.le_of_ble_eq_true rfl)⟩, (Nat.le_of_ble_eq_true rfl)⟩ ki_X10_look ks_X10_look rfl rfl (am_tab tk_X10_qFact 16 rfl) rfl ?_
                refine am_istore_n (q := 35) (by decide) (ls2 := [(1, am_i (byt b E q.1)), (0, am_r 55)]) rfl (am_tab tk_X10_qFact 17 rfl) rfl ?_
                refine am_iload_n (q := 36) rfl (am_tab tk_X10_qFact 18 rfl) rfl ?_
                refine am_bipush (q := 38) (n := 60) (by decide) rfl (am_tab tk_X10_qFact 19 rfl) rfl ?_
                refine am_icmp_eq (q := 41) (t := 63) (am_tab tk_X10_qFact 20 rfl) (by decide) rfl (fun h38 => ?_) (fun h38 => ?_)
                · exact absurd ((sg_iff (by decide)).mp h38) c3
                · refine am_iload_n (q := 42) rfl (am_tab tk_X10_qFact 21 rfl) rfl ?_
                  refine am_bipush (q := 44) (n := 62) (by decide) rfl (am_tab tk_X10_qFact 22 rfl) rfl ?_
                  refine am_icmp_eq (q := 47) (t := 63) (am_tab tk_X10_qFact 23 rfl) (by decide) rfl (fun h44 => ?_) (fun h44 => ?_)
                  · exact absurd ((sg_iff (by decide)).mp h44) c4
                  · refine am_iload_n (q := 48) rfl (am_tab tk_X10_qFact 24 rfl) rfl ?_
                    refine am_bipush (q := 50) (n := 61) (by decide) rfl (am_tab tk_X10_qFact 25 rfl) rfl ?_
                    refine am_icmp_eq (q := 53) (t := 63) (am_tab tk_X10_qFact 26 rfl) (by decide) rfl (fun h50 => ?_) (fun h50 => ?_)
                    · exact absurd ((sg_iff (by decide)).mp h50) c5
                    · refine am_aload_n (q := 54) rfl (am_tab tk_X10_qFact 27 rfl) rfl ?_
                      refine am_iconst (q := 55) (n := 1) (by decide) (am_tab tk_X10_qFact 28 rfl) rfl ?_
                      refine am_aload_n (q := 56) rfl (am_tab tk_X10_qFact 29 rfl) rfl ?_
                      refine am_getI (q := 59) (a := 55) (k := 10) (n := 108) (j := 2) (x := (zP b E q.1 : Int)) (Ls_55 hXT2.1.1) (by decide) rfl rfl (by decide) (Or.inl kf_X10_254) (am_tab tk_X10_qFact 30 rfl) rfl ?_
                      refine am_callV0 (q := 62) (me2 := M_X10_fail) (b := 55) (kb := 10) (nb := 108) (As := [am_i 1, am_i ((zP b E q.1 : Int))]) (rest := []) (out := []) (c_fail0 (am_setN T2 55 2 (zP b E q.1 : Int)) hXT2.1.1 1 (zP b E q.1 : Int) hXT2.1.2.2.2.1) ⟨rfl, rfl⟩ (Ls_55 hXT2.1.1) (by decide) ⟨Or.inl km_X10_278, kc_X10_fail, kn_X10, kd_X10_fail, ⟨(Nat.le_of_ble_eq_true rfl), (Nat.le_of_ble_eq_true rfl)⟩, ⟨(Nat.le_of_ble_eq_true rfl), (Nat.le_of_ble_eq_true rfl)⟩, (Nat.le_of_ble_eq_true rfl)⟩ ki_X10_fail ks_X10_fail rfl rfl (am_tab tk_X10_qFact 31 rfl) rfl ?_
                      refine am_vret rfl (Nat.le_of_ble_eq_true rfl) (Nat.le_of_ble_eq_true rfl) (am_tab tk_X10_qFact 32 rfl) ?_
                      refine hQ _ _ ?_
                      have hev : facF b E tk i0 rc0 o0 = .inr (1, (zP b E q.1 : Int)) := by unfold facF; rw [if_neg c1, hq]; simp only; rw [if_neg (by omega)]
                      rw [hev]
                      have hFb : frw W_sc T2 (am_setN (am_setN (am_setN T2 55 2 (zP b E q.1 : Int)) 55 5 1) 55 6 (zP b E q.1 : Int)) := by repeat (first | exact frw.refl _ T2 | refine frw.setN ?_ (by unfold W_sc; omega))
                      exact ⟨rfl, QB_of (ZB_of hXT2.1.1 hXT2.1.2.1 hFb hXT2.1.2.2.1 rfl (show ¬ (1 : Int) = 0 by decide) rfl (by show 0 ≤ (zP b E q.1 : Int) ∧ (zP b E q.1 : Int) ≤ _; omega)) (hXT2.2.1.sc hFb) (by omega) (by omega), (W_sc_p ((frw.refl W_sc S).setN (by unfold W_sc; omega))).trans (hFT2.trans (W_sc_p hFb))⟩
        · exact absurd h26 (by decide)
      · have hFz0 : frw W_sc S (am_setN S 55 2 (zP b E i0 : Int)) := (frw.refl W_sc S).setN (by unfold W_sc; omega)
        have hQz : QX b E tk i0 rc0 out o0 bs0 (am_setN S 55 2 (zP b E i0 : Int)) := ⟨hZ.look, hV.sc hFz0, hQ0.2.2.1, hQ0.2.2.2.1, hlen, hiz⟩
        refine am_aload_n (q := 19) rfl (am_tab tk_X10_qFact 9 rfl) rfl ?_
        refine am_callVr (q := 22) (me2 := M_X10_qSums) (b := 55) (kb := 10) (nb := 108) (As := []) (rest := []) (c_X10_qSums b E tk htk i0 rc0 out o0 bs0 (am_setN S 55 2 (zP b E i0 : Int)) hQz 2000 (by omega) hout) ⟨rfl, rfl⟩ (Ls_55 hL) (by decide) ⟨Or.inl km_X10_627, kc_X10_qSums, kn_X10, kd_X10_qSums, ⟨(Nat.le_of_ble_eq_true rfl), (Nat.le_of_ble_eq_true rfl)⟩, ⟨(Nat.le_of_ble_eq_true rfl), (Nat.le_of_ble_eq_true rfl)⟩, (Nat.le_of_ble_eq_true rfl)⟩ ki_X10_qSums ks_X10_qSums rfl (am_tab tk_X10_qFact 10 rfl) rfl ?_
        rintro r T2 ⟨rfl, hPT2, hFT2⟩
        obtain ⟨e, he⟩ := sumR c2
        rw [he] at hPT2
        have hB : QB b E e.1 e.2 1660 T2 := hPT2
        refine am_st (st2 := []) rfl ?_
        refine am_aload_n (q := 23) rfl (am_tab tk_X10_qFact 11 rfl) rfl ?_
        refine am_getI (q := 26) (a := 55) (k := 10) (n := 108) (j := 5) (x := e.1) (Ls_55 hB.1.1) (by decide) rfl hB.1.2.2.2.1 (by decide) (Or.inl kf_X10_248) (am_tab tk_X10_qFact 12 rfl) rfl ?_
        refine am_if_eq (q := 29) (t := 30) (am_tab tk_X10_qFact 13 rfl) (by decide) rfl (fun h26 => ?_) (fun h26 => ?_)
        · exact absurd h26 hB.1.2.2.2.2.1
        · refine am_vret rfl (Nat.le_of_ble_eq_true rfl) (Nat.le_of_ble_eq_true rfl) (am_tab tk_X10_qFact 14 rfl) ?_
          refine hQ _ _ ?_
          have hev : facF b E tk i0 rc0 o0 = .inr e := by unfold facF; rw [if_neg c1, he]
          rw [hev]
          exact ⟨rfl, ⟨hB.1, by have := hB.2.1; omega, by have := hB.2.2; omega⟩, (W_sc_p ((frw.refl W_sc S).setN (by unfold W_sc; omega))).trans hFT2⟩
    · exact absurd h8 (by decide)
