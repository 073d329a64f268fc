theorem firstQ_cut {f : Nat → Bool} {m : Nat} (h : f m = false) : firstQ f (m + 1) = firstQ f m := by
  unfold firstQ
  by_cases h1 : anyB f m = true
  · rw [if_pos h1]
    cases m with
    | zero => exact absurd h1 (by unfold anyB; decide)
    | succ k => rfl
  · rw [if_neg h1, h, if_neg (by decide)]
    have h2 : anyB f m = false := by cases hh : anyB f m <;> simp_all
    have h3 := firstQ_none h2
    cases m with
    | zero => rfl
    | succ k => exact h3.symm
theorem anyB_congr {f g : Nat → Bool} : ∀ n, (∀ q, q < n → f q = g q) → anyB f n = anyB g n
  | 0, _ => rfl
  | n + 1, h => by
    unfold anyB
    rw [anyB_congr n (fun q hq => h q (by omega)), h n (by omega)]
theorem firstQ_congr {f g : Nat → Bool} : ∀ n, (∀ q, q < n → f q = g q) → firstQ f n = firstQ g n
  | 0, _ => rfl
  | n + 1, h => by
    unfold firstQ
    rw [anyB_congr n (fun q hq => h q (by omega)), h n (by omega), firstQ_congr n (fun q hq => h q (by omega))]
theorem firstQ_ext {f g : Nat → Bool} {n : Nat} : ∀ m, n ≤ m → (∀ q, q < m → f q = (decide (q < n) && g q)) → firstQ f m = firstQ g n
  | 0, h, _ => by
    have e : n = 0 := by omega
    rw [e]; rfl
  | m + 1, h, hf => by
    by_cases e : n = m + 1
    · rw [e]
      exact firstQ_congr _ (fun q hq => by rw [hf q hq]; simp [e]; omega)
    · rw [firstQ_cut (by rw [hf m (by omega)]; simp; omega)]
      exact firstQ_ext m (by omega) (fun q hq => hf q (by omega))
theorem rq_tz {B : am_H} {rb now : Int} {p : Nat} (h8 : pN B ≤ 8) (hr : 0 ≤ rb ∧ rb < 256) (hn : 0 ≤ now ∧ now < 256) (hb : ∀ q : Nat, q < 8 → tb rb q = if q < pN B ∧ tb (B.2.1 89 (8 + q)) p = 1 then 1 else 0) : tz (ao_and rb now) = rqM B p now := by
  unfold tz rqM
  refine firstQ_ext 8 h8 (fun q hq => ?_)
  rw [(and_tb hr hn).2 q, hb q hq]
  by_cases h1 : q < pN B <;> by_cases h2 : tb (B.2.1 89 (8 + q)) p = 1 <;> by_cases h3 : tb now q = 1 <;> simp [h1, h2, h3]
theorem tz_0 {x : Int} (hx : 0 ≤ x ∧ x < 256) : x = 0 ↔ tz x = -1 := by
  constructor
  · intro h
    rw [h]; decide
  · intro h
    by_cases h0 : x = 0
    · exact h0
    · obtain ⟨y, _, _, _, _, _, _, h9⟩ := tz_get (x := x) (by omega)
      omega
def sb (s : Int) : Int := tb s 0 + tb s 1 + tb s 2 + tb s 3 + tb s 4 + tb s 5 + tb s 6 + tb s 7
theorem sb_all : (List.range 256).all (fun s => (List.range 8).all (fun p => decide (tb (s : Nat) (p : Nat) = 0 → sb ((s : Int) + 2 ^ p) = sb (s : Nat) + 1))) = true := by decide +kernel
theorem sb_eq {s : Int} {p : Nat} (hs : 0 ≤ s ∧ s < 256) (hp : p < 8) (h : tb s p = 0) : sb (s + 2 ^ p) = sb s + 1 := by
  obtain ⟨n, rfl⟩ := toN hs.1
  have h1 := List.all_eq_true.mp sb_all n (List.mem_range.mpr (by omega))
  have h2 := List.all_eq_true.mp h1 p (List.mem_range.mpr hp)
  exact of_decide_eq_true h2 h
theorem sb_8 (s : Int) : 0 ≤ sb s ∧ sb s ≤ 8 := by
  have := tb_01 s 0
  have := tb_01 s 1
  have := tb_01 s 2
  have := tb_01 s 3
  have := tb_01 s 4
  have := tb_01 s 5
  have := tb_01 s 6
  have := tb_01 s 7
  unfold sb
  omega
theorem rpE_in {B : am_H} {ts bs set : Int} (h : 0 ≤ set ∧ set < 256) : ∀ n, n ≤ 8 → (set ≤ rpE B ts bs set n ∧ rpE B ts bs set n < 256) ∧ (rpE B ts bs set n = set ∨ sb set + 1 ≤ sb (rpE B ts bs set n))
  | 0, _ => ⟨⟨Int.le_refl _, h.2⟩, Or.inl rfl⟩
  | n + 1, hn => by
    have ih := rpE_in (B := B) (ts := ts) (bs := bs) h n (by omega)
    unfold rpE
    split
    · rename_i hg
      unfold rgB at hg
      rw [decide_eq_true_eq] at hg
      have h0 : tb (rpE B ts bs set n) n = 0 := by have := tb_01 (rpE B ts bs set n) n; omega
      have h1 := ob_eq (s := rpE B ts bs set n) (p := n) (by omega) (by omega) h0
      have h2 := sb_eq (s := rpE B ts bs set n) (p := n) (by omega) (by omega) h0
      have h3 : (0 : Int) < 2 ^ n := Int.pow_pos (by decide)
      refine ⟨⟨by omega, h1.2⟩, Or.inr ?_⟩
      rcases ih.2 with h4 | h4
      · rw [h4] at h2 ⊢; omega
      · omega
    · exact ih
theorem rdE_fix {B : am_H} {ts bs s : Int} (h : rpE B ts bs s (pN B) = s) : ∀ k, rdE B ts bs k s = s
  | 0 => rfl
  | k + 1 => by unfold rdE; rw [if_pos h]
theorem rgB_q {B : am_H} {bs who set : Int} {p : Nat} (hwho : tb who p = 1 ↔ ¬ B.2.1 96 (12 + p) = 1 ∧ ¬ tb bs p = 1) : rgB B (dts B) bs set p = true ↔ tb who p = 1 ∧ ¬ tb set p = 1 ∧ ¬ rqM B p set = -1 ∧ hrC B p (rqM B p set).toNat = 1 := by
  unfold rgB hrC hrV
  rw [decide_eq_true_eq]
  by_cases h : B.2.1 93 3 = -1
  · rw [if_pos h]
    exact ⟨fun z => ⟨hwho.mpr ⟨z.1, z.2.1⟩, z.2.2.1, z.2.2.2.1, rfl⟩, fun z => ⟨(hwho.mp z.1).1, (hwho.mp z.1).2, z.2.1, z.2.2.1, Or.inl h⟩⟩
  · rw [if_neg h]
    exact ⟨fun z => ⟨hwho.mpr ⟨z.1, z.2.1⟩, z.2.2.1, z.2.2.2.1, z.2.2.2.2.resolve_left h⟩, fun z => ⟨(hwho.mp z.1).1, (hwho.mp z.1).2, z.2.1, z.2.2.1, Or.inr z.2.2.2⟩⟩
set_option maxRecDepth 100000 in
theorem c_spread_3_32 (σ B : am_H) (hL : lay σ) (hG : GD B) (hD : DWr 3 32 σ B) (own : Int) (who : Int) (bs : Int) (how : 0 ≤ own ∧ own < 256) (hw : 0 ≤ who ∧ who < 256) (hwho : ∀ p : Nat, p < pN B → (tb who p = 1 ↔ ¬ B.2.1 96 (12 + p) = 1 ∧ ¬ tb bs p = 1)) (hM : MEM σ B) : am_met M_X0_spread [am_r 44, am_i own, am_i who] σ (fun r σ' => r = some (am_i (rmE B (dts B) own bs)) ∧ MEM σ' B ∧ frw W_dw σ σ') := by
  refine am_qq (fun Q hQ => ?_)
  refine am_enter (show plainFor yX0_spread = true by decide +kernel) rfl (Nat.le_of_ble_eq_true rfl) (fun _ _ _ => trivial) ?_
  have h8 : pN B ≤ 8 := by have := hG.R.P; unfold pN; omega
  have hPi := hG.R.P
  have hpn : (pN B : Int) = B.2.1 85 5 := by unfold pN; omega
  refine am_iload_n (q := 1) rfl (am_tab tk_X0_spread 0 rfl) rfl ?_
  refine am_istore_n (q := 2) (by decide) (ls2 := [(3, am_i own), (0, am_r 44), (1, am_i own), (2, am_i who)]) rfl (am_tab tk_X0_spread 1 rfl) rfl ?_
  refine am_iconst (q := 3) (n := 1) (by decide) (am_tab tk_X0_spread 2 rfl) rfl ?_
  refine am_istore (q := 5) (by decide) (ls2 := [(4, am_i 1), (3, am_i own), (0, am_r 44), (1, am_i own), (2, am_i who)]) rfl (am_tab tk_X0_spread 3 rfl) rfl ?_
  refine am_iconst (q := 6) (n := 0) (by decide) (am_tab tk_X0_spread 4 rfl) rfl ?_
  refine am_istore (q := 8) (by decide) (ls2 := [(5, am_i 0), (4, am_i 1), (3, am_i own), (0, am_r 44), (1, am_i own), (2, am_i who)]) rfl (am_tab tk_X0_spread 5 rfl) rfl ?_
  have L8 : ∀ (n8 : Nat) (rd : Nat) (T0 : am_H) (s : Int) (m : Int), 9 - rd < n8 → rd ≤ 9 → frw W_dw σ T0 → MEM T0 B → (0 ≤ s ∧ s < 256) → (m = 0 ∨ m = 1) → (m = 1 → (rd : Int) ≤ sb s) → (m = 0 → rpE B (dts B) bs s (pN B) = s) → rmE B (dts B) own bs = rdE B (dts B) bs (256 - rd) s → am_wp M_X0_spread Q 0 0 8 [(5, am_i ((rd : Int))), (4, am_i m), (3, am_i s), (0, am_r 44), (1, am_i own), (2, am_i who)] [] T0 := by
    intro n8
    induction n8 with
    | zero => intro rd T0 s m hn8; exact absurd hn8 (Nat.not_lt_zero _)
    | succ n8 ih8 =>
      intro rd T0 s m hn8 hrd hF0 hM0 hs hm hsb hfx hres
      refine am_iload (q := 10) rfl (am_tab tk_X0_spread 6 rfl) rfl ?_
      refine am_bipush (q := 12) (n := 8) (by decide) rfl (am_tab tk_X0_spread 7 rfl) rfl ?_
      refine am_icmp_gt (q := 15) (t := 107) (am_tab tk_X0_spread 8 rfl) (by decide) rfl (fun h12 => ?_) (fun h12 => ?_)
      · refine am_iload_n (q := 108) rfl (am_tab tk_X0_spread 57 rfl) rfl ?_
        refine am_iret (Or.inl rfl) (Nat.le_of_ble_eq_true rfl) (Nat.le_of_ble_eq_true rfl) (am_tab tk_X0_spread 58 rfl) ?_
        refine hQ _ _ ?_
        have hm0 : m = 0 := by
                                                                                 rcases hm with h | h
                                                                                 · exact h
                                                                                 · have := hsb h; have := sb_8 s; omega
        rw [hres, rdE_fix (hfx hm0)]
        exact ⟨rfl, hM0, hF0⟩
      · refine am_iload (q := 17) rfl (am_tab tk_X0_spread 9 rfl) rfl ?_
        refine am_if_eq (q := 20) (t := 107) (am_tab tk_X0_spread 10 rfl) (by decide) rfl (fun h17 => ?_) (fun h17 => ?_)
        · refine am_iload_n (q := 108) rfl (am_tab tk_X0_spread 57 rfl) rfl ?_
          refine am_iret (Or.inl rfl) (Nat.le_of_ble_eq_true rfl) (Nat.le_of_ble_eq_true rfl) (am_tab tk_X0_spread 58 rfl) ?_
          refine hQ _ _ ?_
          have hm0 : m = 0 := by omega
          rw [hres, rdE_fix (hfx hm0)]
          exact ⟨rfl, hM0, hF0⟩
        · have hm1 : m = 1 := by omega
          refine am_iconst (q := 21) (n := 0) (by decide) (am_tab tk_X0_spread 11 rfl) rfl ?_
          refine am_istore (q := 23) (by decide) (ls2 := [(4, am_i 0), (5, am_i ((rd : Int))), (3, am_i s), (0, am_r 44), (1, am_i own), (2, am_i who)]) rfl (am_tab tk_X0_spread 12 rfl) rfl ?_
          refine am_iconst (q := 24) (n := 0) (by decide) (am_tab tk_X0_spread 13 rfl) rfl ?_
          refine am_istore (q := 26) (by decide) (ls2 := [(6, am_i 0), (4, am_i 0), (5, am_i ((rd : Int))), (3, am_i s), (0, am_r 44), (1, am_i own), (2, am_i who)]) rfl (am_tab tk_X0_spread 14 rfl) rfl ?_
          have L26 : ∀ (n26 : Nat) (p : Nat) (T : am_H), 8 - p < n26 → frw W_dw σ T → MEM T B → p ≤ pN B → am_wp M_X0_spread Q 0 0 26 [(6, am_i ((p : Int))), (5, am_i ((rd : Int))), (4, am_i ((if rpE B (dts B) bs s p = s then 0 else 1))), (3, am_i ((rpE B (dts B) bs s p))), (0, am_r 44), (1, am_i own), (2, am_i who)] [] T := by
            intro n26
            induction n26 with
            | zero => intro p T hn26; exact absurd hn26 (Nat.not_lt_zero _)
            | succ n26 ih26 =>
              intro p T hn26 hF hMT hp
              have hLT : lay T := hF.L hL
              have hDT := hD.fr hF (by decide) (by decide)
              refine am_iload (q := 28) rfl (am_tab tk_X0_spread 15 rfl) rfl ?_
              refine am_aload_n (q := 29) rfl (am_tab tk_X0_spread 16 rfl) rfl ?_
              refine am_getR (q := 32) (a := 44) (k := 0) (n := 14) (j := 8) (r := some (3)) (Ls_44 hLT) (by decide) rfl hDT.1.1 (by decide) (Or.inl kf_X0_24) (am_tab tk_X0_spread 17 rfl) rfl ?_
              refine am_getI (q := 35) (a := 3) (k := 8) (n := 17) (j := 2) (x := (B.2.1 85 5)) (Ls_3 hLT) (by decide) rfl hDT.tw.people (by decide) (Or.inr kf_X0_102) (am_tab tk_X0_spread 18 rfl) rfl ?_
              refine am_icmp_ge (q := 38) (t := 101) (am_tab tk_X0_spread 19 rfl) (by decide) rfl (fun h35 => ?_) (fun h35 => ?_)
              · refine am_iinc (q := 104) rfl (by omega) (by decide) (ls2 := [(5, am_i (((rd : Int) + 1))), (6, am_i ((p : Int))), (4, am_i ((if rpE B (dts B) bs s p = s then 0 else 1))), (3, am_i ((rpE B (dts B) bs s p))), (0, am_r 44), (1, am_i own), (2, am_i who)]) rfl (am_tab tk_X0_spread 55 rfl) rfl ?_
                refine am_goto (t := 8) (am_tab tk_X0_spread 56 rfl) (by decide) ?_
                have ep : p = pN B := by omega
                have hin := rpE_in (B := B) (ts := dts B) (bs := bs) hs p (by omega)
                have hrr : rmE B (dts B) own bs = rdE B (dts B) bs (256 - (rd + 1)) (rpE B (dts B) bs s p) := by
                  rw [hres]
                  by_cases hx : rpE B (dts B) bs s (pN B) = s
                  · rw [ep, hx, rdE_fix hx, rdE_fix hx]
                  · rw [show 256 - rd = (256 - (rd + 1)) + 1 by omega]
                    conv => lhs; unfold rdE
                    rw [if_neg hx, ep]
                exact am_less (by intro q hq; simp only [List.mem_cons, List.not_mem_nil, or_false] at hq; rcases hq with rfl | rfl | rfl | rfl | rfl | rfl <;> simp) (ih8 (rd + 1) T (rpE B (dts B) bs s p) (if rpE B (dts B) bs s p = s then 0 else 1) (by omega) (by omega) hF hMT (by omega) (by split <;> omega) (fun h => by rcases hin.2 with h4 | h4; exact absurd (show (if rpE B (dts B) bs s p = s then (0 : Int) else 1) = 1 from h) (by rw [if_pos h4]; decide); have := hsb hm1; push_cast; omega) (fun h => by have h4 : rpE B (dts B) bs s p = s := Classical.byContradiction (fun hx => absurd (show (if rpE B (dts B) bs s p = s then (0 : Int) else 1) = 0 from h) (by rw [if_neg hx]; decide)); rw [h4, ← ep]; exact h4) hrr)
              · have hpp : p < pN B := by omega
                have hnw : 0 ≤ (rpE B (dts B) bs s p) ∧ (rpE B (dts B) bs s p) < 256 := by have := rpE_in (B := B) (ts := dts B) (bs := bs) hs p (by omega); omega
                refine am_aload_n (q := 39) rfl (am_tab tk_X0_spread 20 rfl) rfl ?_
                refine am_getR (q := 42) (a := 44) (k := 0) (n := 14) (j := 8) (r := some (3)) (Ls_44 hLT) (by decide) rfl hDT.1.1 (by decide) (Or.inl kf_X0_24) (am_tab tk_X0_spread 21 rfl) rfl ?_
                refine am_getR (q := 45) (a := 3) (k := 8) (n := 17) (j := 12) (r := some (8)) (Ls_3 hLT) (by decide) rfl (Lr_3_12 hLT) (by decide) (Or.inr kf_X0_133) (am_tab tk_X0_spread 22 rfl) rfl ?_
                refine am_iload (q := 47) rfl (am_tab tk_X0_spread 23 rfl) rfl ?_
                refine am_iald (q := 48) (a := 8) (n := 8) (x := (T.2.1 8 p)) (Ls_8 hLT) (by omega) (by omega) (by rw [show Int.toNat (p : Int) = p by omega]) (am_tab tk_X0_spread 24 rfl) rfl ?_
                refine am_iload_n (q := 49) rfl (am_tab tk_X0_spread 25 rfl) rfl ?_
                refine am_iand (q := 50) (am_tab tk_X0_spread 26 rfl) rfl ?_
                refine am_istore (q := 52) (by decide) (ls2 := [(7, am_i ((ao_and (T.2.1 8 p) (rpE B (dts B) bs s p)))), (6, am_i ((p : Int))), (5, am_i ((rd : Int))), (4, am_i ((if rpE B (dts B) bs s p = s then 0 else 1))), (3, am_i ((rpE B (dts B) bs s p))), (0, am_r 44), (1, am_i own), (2, am_i who)]) rfl (am_tab tk_X0_spread 27 rfl) rfl ?_
                have hrb := hDT.tw.rby p hpp
                have htz : tz (ao_and (T.2.1 8 p) (rpE B (dts B) bs s p)) = rqM B p (rpE B (dts B) bs s p) := rq_tz h8 hrb.1 hnw hrb.2
                have hbr : 0 ≤ (ao_and (T.2.1 8 p) (rpE B (dts B) bs s p)) ∧ (ao_and (T.2.1 8 p) (rpE B (dts B) bs s p)) < 256 := (and_tb hrb.1 hnw).1
                have htz0 := tz_0 hbr
                have hqr : rqM B p (rpE B (dts B) bs s p) = -1 ∨ (0 ≤ rqM B p (rpE B (dts B) bs s p) ∧ rqM B p (rpE B (dts B) bs s p) < (pN B : Int)) := firstQ_rng _
                have hgq := rgB_q (set := (rpE B (dts B) bs s p)) (hwho p hpp)
                have hdf := (dif_tb hw hnw).2 p (by omega)
                have hdfr := (dif_tb hw hnw).1
                refine am_iload (q := 54) rfl (am_tab tk_X0_spread 28 rfl) rfl ?_
                refine am_if_eq (q := 57) (t := 95) (am_tab tk_X0_spread 29 rfl) (by decide) rfl (fun h54 => ?_) (fun h54 => ?_)
                · refine am_iinc (q := 98) rfl (by omega) (by decide) (ls2 := [(6, am_i (((p : Int) + 1))), (7, am_i ((ao_and (T.2.1 8 p) (rpE B (dts B) bs s p)))), (5, am_i ((rd : Int))), (4, am_i ((if rpE B (dts B) bs s p = s then 0 else 1))), (3, am_i ((rpE B (dts B) bs s p))), (0, am_r 44), (1, am_i own), (2, am_i who)]) rfl (am_tab tk_X0_spread 53 rfl) rfl ?_
                  refine am_goto (t := 26) (am_tab tk_X0_spread 54 rfl) (by decide) ?_
                  have hg : ¬ rgB B (dts B) bs (rpE B (dts B) bs s p) p = true := fun hh => by
                    have h := hgq.mp hh
                    exact absurd ((htz.symm.trans (htz0.mp h54))) h.2.2.1
                  have he : rpE B (dts B) bs s (p + 1) = (rpE B (dts B) bs s p) := by
                    conv => lhs; unfold rpE
                    rw [if_neg hg]
                  have hne : True := trivial
                  exact am_less (by intro q hq; simp only [List.mem_cons, List.not_mem_nil, or_false] at hq; rcases hq with rfl | rfl | rfl | rfl | rfl | rfl | rfl <;> simp [he, hne]) (ih26 (p + 1) T (by omega) hF hMT (by omega))
                · refine am_iload_n (q := 58) rfl (am_tab tk_X0_spread 30 rfl) rfl ?_
                  refine am_iload_n (q := 59) rfl (am_tab tk_X0_spread 31 rfl) rfl ?_
                  refine am_iconst (q := 60) (n := (-1)) (by decide) (am_tab tk_X0_spread 32 rfl) rfl ?_
                  refine am_ixor (q := 61) (am_tab tk_X0_spread 33 rfl) rfl ?_
                  refine am_iand (q := 62) (am_tab tk_X0_spread 34 rfl) rfl ?_
                  refine am_iload (q := 64) rfl (am_tab tk_X0_spread 35 rfl) rfl ?_
                  refine am_callS0 (q := 67) (me2 := M_X9_bit) (As := [am_i ((ao_and who (ao_xor (rpE B (dts B) bs s p) (-1)))), am_i ((p : Int))]) (rest := []) (out := [am_i (tb (ao_and who (ao_xor (rpE B (dts B) bs s p) (-1))) (p : Int))]) (c_bit T (ao_and who (ao_xor (rpE B (dts B) bs s p) (-1))) (p : Int) hdfr (by omega)) ⟨rfl, rfl⟩ ⟨Or.inr km_X0_105, kc_X9_bit, kn_X9, kd_X9_bit, ⟨(Nat.le_of_ble_eq_true rfl), (Nat.le_of_ble_eq_true rfl)⟩, ⟨(Nat.le_of_ble_eq_true rfl), (Nat.le_of_ble_eq_true rfl)⟩, (Nat.le_of_ble_eq_true rfl)⟩ ki_X9_bit rfl rfl (am_tab tk_X0_spread 36 rfl) rfl ?_
                  refine am_iconst (q := 68) (n := 1) (by decide) (am_tab tk_X0_spread 37 rfl) rfl ?_
                  refine am_icmp_ne (q := 71) (t := 95) (am_tab tk_X0_spread 38 rfl) (by decide) rfl (fun h68 => ?_) (fun h68 => ?_)
                  · refine am_iinc (q := 98) rfl (by omega) (by decide) (ls2 := [(6, am_i (((p : Int) + 1))), (7, am_i ((ao_and (T.2.1 8 p) (rpE B (dts B) bs s p)))), (5, am_i ((rd : Int))), (4, am_i ((if rpE B (dts B) bs s p = s then 0 else 1))), (3, am_i ((rpE B (dts B) bs s p))), (0, am_r 44), (1, am_i own), (2, am_i who)]) rfl (am_tab tk_X0_spread 53 rfl) rfl ?_
                    refine am_goto (t := 26) (am_tab tk_X0_spread 54 rfl) (by decide) ?_
                    have hg : ¬ rgB B (dts B) bs (rpE B (dts B) bs s p) p = true := fun hh => by
                      have h := hgq.mp hh
                      exact h68 (by rw [hdf, if_pos ⟨h.1, h.2.1⟩])
                    have he : rpE B (dts B) bs s (p + 1) = (rpE B (dts B) bs s p) := by
                      conv => lhs; unfold rpE
                      rw [if_neg hg]
                    have hne : True := trivial
                    exact am_less (by intro q hq; simp only [List.mem_cons, List.not_mem_nil, or_false] at hq; rcases hq with rfl | rfl | rfl | rfl | rfl | rfl | rfl <;> simp [he, hne]) (ih26 (p + 1) T (by omega) hF hMT (by omega))
                  · have hdw : tb who p = 1 ∧ ¬ tb (rpE B (dts B) bs s p) p = 1 := by
                      by_cases hx : tb who p = 1 ∧ ¬ tb (rpE B (dts B) bs s p) p = 1
                      · exact hx
                      · rw [if_neg hx] at hdf; omega
                    have hq0 : ¬ rqM B p (rpE B (dts B) bs s p) = -1 := fun h => h54 (htz0.mpr (htz.trans h))
                    have hrC01 : hrC B p (rqM B p (rpE B (dts B) bs s p)).toNat = 0 ∨ hrC B p (rqM B p (rpE B (dts B) bs s p)).toNat = 1 := by
                      unfold hrC
                      split
                      · exact Or.inr rfl
                      · rename_i hrl
                        exact hrV_01 hG hrl (by omega) (by omega)
                    refine am_aload_n (q := 72) rfl (am_tab tk_X0_spread 39 rfl) rfl ?_
                    refine am_iload (q := 74) rfl (am_tab tk_X0_spread 40 rfl) rfl ?_
                    refine am_iload (q := 76) rfl (am_tab tk_X0_spread 41 rfl) rfl ?_
                    refine am_callSr (q := 79) (me2 := M_J6_numberOfTrailingZeros_0f7a4) (As := [am_i ((ao_and (T.2.1 8 p) (rpE B (dts B) bs s p)))]) (rest := [am_i ((p : Int)), am_r 44]) (c_tz T (ao_and (T.2.1 8 p) (rpE B (dts B) bs s p)) (by omega)) ⟨rfl, rfl⟩ ⟨Or.inl km_X0_136, kc_J6_numberOfTrailingZeros_0f7a4, kn_J6, kd_J6_numberOfTrailingZeros_0f7a4, ⟨(Nat.le_of_ble_eq_true rfl), (Nat.le_of_ble_eq_true rfl)⟩, ⟨(Nat.le_of_ble_eq_true rfl), (Nat.le_of_ble_eq_true rfl)⟩, (Nat.le_of_ble_eq_true rfl)⟩ ki_J6_numberOfTrailingZeros_0f7a4 rfl (am_tab tk_X0_spread 42 rfl) rfl ?_
                    rintro r τ ⟨hr9, hτ⟩
                    rw [htz, show rqM B p (rpE B (dts B) bs s p) = ((rqM B p (rpE B (dts B) bs s p)).toNat : Int) by omega] at hr9
                    rw [hr9, hτ]
                    refine am_st (st2 := [am_i (((rqM B p (rpE B (dts B) bs s p)).toNat : Int)), am_i ((p : Int)), am_r 44]) rfl ?_
                    refine am_callVr (q := 82) (me2 := M_X0_wouldHear) (b := 44) (kb := 0) (nb := 14) (As := [am_i ((p : Int)), am_i (((rqM B p (rpE B (dts B) bs s p)).toNat : Int))]) (rest := []) (c_wouldHear_3_32 T B hLT hG hDT p (rqM B p (rpE B (dts B) bs s p)).toNat hMT hpp (by omega)) ⟨rfl, rfl⟩ (Ls_44 hLT) (by decide) ⟨Or.inl km_X0_142, kc_X0_wouldHear, kn_X0, kd_X0_wouldHear, ⟨(Nat.le_of_ble_eq_true rfl), (Nat.le_of_ble_eq_true rfl)⟩, ⟨(Nat.le_of_ble_eq_true rfl), (Nat.le_of_ble_eq_true rfl)⟩, (Nat.le_of_ble_eq_true rfl)⟩ ki_X0_wouldHear ks_X0_wouldHear rfl (am_tab tk_X0_spread 43 rfl) rfl ?_
                    rintro r T2 ⟨rfl, hM2, hFT2⟩
                    refine am_st (st2 := [am_i (hrC B p (rqM B p (rpE B (dts B) bs s p)).toNat)]) rfl ?_
                    refine am_if_eq (q := 85) (t := 95) (am_tab tk_X0_spread 44 rfl) (by decide) rfl (fun h82 => ?_) (fun h82 => ?_)
                    · refine am_iinc (q := 98) rfl (by omega) (by decide) (ls2 := [(6, am_i (((p : Int) + 1))), (7, am_i ((ao_and (T.2.1 8 p) (rpE B (dts B) bs s p)))), (5, am_i ((rd : Int))), (4, am_i ((if rpE B (dts B) bs s p = s then 0 else 1))), (3, am_i ((rpE B (dts B) bs s p))), (0, am_r 44), (1, am_i own), (2, am_i who)]) rfl (am_tab tk_X0_spread 53 rfl) rfl ?_
                      refine am_goto (t := 26) (am_tab tk_X0_spread 54 rfl) (by decide) ?_
                      have hg : ¬ rgB B (dts B) bs (rpE B (dts B) bs s p) p = true := fun hh => by
                        have h := hgq.mp hh
                        exact absurd (h.2.2.2.symm.trans h82) (by decide)
                      have he : rpE B (dts B) bs s (p + 1) = (rpE B (dts B) bs s p) := by
                        conv => lhs; unfold rpE
                        rw [if_neg hg]
                      have hne : True := trivial
                      exact am_less (by intro q hq; simp only [List.mem_cons, List.not_mem_nil, or_false] at hq; rcases hq with rfl | rfl | rfl | rfl | rfl | rfl | rfl <;> simp [he, hne]) (ih26 (p + 1) T2 (by omega) (hF.trans hFT2) hM2 (by omega))
                    · refine am_iload_n (q := 86) rfl (am_tab tk_X0_spread 45 rfl) rfl ?_
                      refine am_iconst (q := 87) (n := 1) (by decide) (am_tab tk_X0_spread 46 rfl) rfl ?_
                      refine am_iload (q := 89) rfl (am_tab tk_X0_spread 47 rfl) rfl ?_
                      refine am_ishl (q := 90) (am_tab tk_X0_spread 48 rfl) rfl ?_
                      refine am_ior (q := 91) (am_tab tk_X0_spread 49 rfl) rfl ?_
                      refine am_istore_n (q := 92) (by decide) (ls2 := [(3, am_i ((ao_or (rpE B (dts B) bs s p) (ao_shl 1 (p : Int))))), (7, am_i ((ao_and (T.2.1 8 p) (rpE B (dts B) bs s p)))), (6, am_i ((p : Int))), (5, am_i ((rd : Int))), (4, am_i ((if rpE B (dts B) bs s p = s then 0 else 1))), (0, am_r 44), (1, am_i own), (2, am_i who)]) rfl (am_tab tk_X0_spread 50 rfl) rfl ?_
                      refine am_iconst (q := 93) (n := 1) (by decide) (am_tab tk_X0_spread 51 rfl) rfl ?_
                      refine am_istore (q := 95) (by decide) (ls2 := [(4, am_i 1), (3, am_i ((ao_or (rpE B (dts B) bs s p) (ao_shl 1 (p : Int))))), (7, am_i ((ao_and (T.2.1 8 p) (rpE B (dts B) bs s p)))), (6, am_i ((p : Int))), (5, am_i ((rd : Int))), (0, am_r 44), (1, am_i own), (2, am_i who)]) rfl (am_tab tk_X0_spread 52 rfl) rfl ?_
                      refine am_iinc (q := 98) rfl (by omega) (by decide) (ls2 := [(6, am_i (((p : Int) + 1))), (4, am_i 1), (3, am_i ((ao_or (rpE B (dts B) bs s p) (ao_shl 1 (p : Int))))), (7, am_i ((ao_and (T.2.1 8 p) (rpE B (dts B) bs s p)))), (5, am_i ((rd : Int))), (0, am_r 44), (1, am_i own), (2, am_i who)]) rfl (am_tab tk_X0_spread 53 rfl) rfl ?_
                      refine am_goto (t := 26) (am_tab tk_X0_spread 54 rfl) (by decide) ?_
                      have hg : rgB B (dts B) bs (rpE B (dts B) bs s p) p = true := hgq.mpr ⟨hdw.1, hdw.2, by omega, by have := hrC01; omega⟩
                      have hob := ob_eq (s := (rpE B (dts B) bs s p)) (p := p) hnw (by omega) (by have := tb_01 (rpE B (dts B) bs s p) p; have := hdw.2; omega)
                      have he : rpE B (dts B) bs s (p + 1) = ao_or (rpE B (dts B) bs s p) (ao_shl 1 (p : Int)) := by
                        conv => lhs; unfold rpE
                        rw [if_pos hg, hob.1]
                      have hne : ¬ ao_or (rpE B (dts B) bs s p) (ao_shl 1 (p : Int)) = s := by
                        rw [hob.1]
                        have h3 : (0 : Int) < 2 ^ p := Int.pow_pos (by decide)
                        have h4 := rpE_in (B := B) (ts := dts B) (bs := bs) hs p (by omega)
                        omega
                      exact am_less (by intro q hq; simp only [List.mem_cons, List.not_mem_nil, or_false] at hq; rcases hq with rfl | rfl | rfl | rfl | rfl | rfl | rfl <;> simp [he, hne]) (ih26 (p + 1) T2 (by omega) (hF.trans hFT2) hM2 (by omega))
          refine am_less (by intro q hq; simp only [List.mem_cons, List.not_mem_nil, or_false] at hq; rcases hq with rfl | rfl | rfl | rfl | rfl | rfl | rfl <;> simp [rpE]) (L26 (_ + 1) 0 T0 (by exact Nat.lt_succ_self _) hF0 hM0 (Nat.zero_le _))
  refine am_less (by intro q hq; simp only [List.mem_cons, List.not_mem_nil, or_false] at hq; rcases hq with rfl | rfl | rfl | rfl | rfl | rfl <;> simp) (L8 (_ + 1) 0 σ own 1 (by exact Nat.lt_succ_self _) (by omega) (frw.refl _ σ) hM how (Or.inr rfl) (fun _ => (sb_8 own).1) (fun h => absurd h (by decide)) rfl)
set_option maxRecDepth 100000 in
theorem c_spread_3_37 (σ B : am_H) (hL : lay σ) (hG : GD B) (hD : DWr 3 37 σ B) (own : Int) (who : Int) (bs : Int) (how : 0 ≤ own ∧ own < 256) (hw : 0 ≤ who ∧ who < 256) (hwho : ∀ p : Nat, p < pN B → (tb who p = 1 ↔ ¬ B.2.1 96 (12 + p) = 1 ∧ ¬ tb bs p = 1)) (hM : MEM σ B) : am_met M_X0_spread [am_r 44, am_i own, am_i who] σ (fun r σ' => r = some (am_i (rmE B (dts B) own bs)) ∧ MEM σ' B ∧ frw W_dw σ σ') := by
  refine am_qq (fun Q hQ => ?_)
  refine am_enter (show plainFor yX0_spread = true by decide +kernel) rfl (Nat.le_of_ble_eq_true rfl) (fun _ _ _ => trivial) ?_
  have h8 : pN B ≤ 8 := by have := hG.R.P; unfold pN; omega
  have hPi := hG.R.P
  have hpn : (pN B : Int) = B.2.1 85 5 := by unfold pN; omega
  refine am_iload_n (q := 1) rfl (am_tab tk_X0_spread 0 rfl) rfl ?_
  refine am_istore_n (q := 2) (by decide) (ls2 := [(3, am_i own), (0, am_r 44), (1, am_i own), (2, am_i who)]) rfl (am_tab tk_X0_spread 1 rfl) rfl ?_
  refine am_iconst (q := 3) (n := 1) (by decide) (am_tab tk_X0_spread 2 rfl) rfl ?_
  refine am_istore (q := 5) (by decide) (ls2 := [(4, am_i 1), (3, am_i own), (0, am_r 44), (1, am_i own), (2, am_i who)]) rfl (am_tab tk_X0_spread 3 rfl) rfl ?_
  refine am_iconst (q := 6) (n := 0) (by decide) (am_tab tk_X0_spread 4 rfl) rfl ?_
  refine am_istore (q := 8) (by decide) (ls2 := [(5, am_i 0), (4, am_i 1), (3, am_i own), (0, am_r 44), (1, am_i own), (2, am_i who)]) rfl (am_tab tk_X0_spread 5 rfl) rfl ?_
  have L8 : ∀ (n8 : Nat) (rd : Nat) (T0 : am_H) (s : Int) (m : Int), 9 - rd < n8 → rd ≤ 9 → frw W_dw σ T0 → MEM T0 B → (0 ≤ s ∧ s < 256) → (m = 0 ∨ m = 1) → (m = 1 → (rd : Int) ≤ sb s) → (m = 0 → rpE B (dts B) bs s (pN B) = s) → rmE B (dts B) own bs = rdE B (dts B) bs (256 - rd) s → am_wp M_X0_spread Q 0 0 8 [(5, am_i ((rd : Int))), (4, am_i m), (3, am_i s), (0, am_r 44), (1, am_i own), (2, am_i who)] [] T0 := by
    intro n8
    induction n8 with
    | zero => intro rd T0 s m hn8; exact absurd hn8 (Nat.not_lt_zero _)
    | succ n8 ih8 =>
      intro rd T0 s m hn8 hrd hF0 hM0 hs hm hsb hfx hres
      refine am_iload (q := 10) rfl (am_tab tk_X0_spread 6 rfl) rfl ?_
      refine am_bipush (q := 12) (n := 8) (by decide) rfl (am_tab tk_X0_spread 7 rfl) rfl ?_
      refine am_icmp_gt (q := 15) (t := 107) (am_tab tk_X0_spread 8 rfl) (by decide) rfl (fun h12 => ?_) (fun h12 => ?_)
      · refine am_iload_n (q := 108) rfl (am_tab tk_X0_spread 57 rfl) rfl ?_
        refine am_iret (Or.inl rfl) (Nat.le_of_ble_eq_true rfl) (Nat.le_of_ble_eq_true rfl) (am_tab tk_X0_spread 58 rfl) ?_
        refine hQ _ _ ?_
        have hm0 : m = 0 := by
                                                                                 rcases hm with h | h
                                                                                 · exact h
                                                                                 · have := hsb h; have := sb_8 s; omega
        rw [hres, rdE_fix (hfx hm0)]
        exact ⟨rfl, hM0, hF0⟩
      · refine am_iload (q := 17) rfl (am_tab tk_X0_spread 9 rfl) rfl ?_
        refine am_if_eq (q := 20) (t := 107) (am_tab tk_X0_spread 10 rfl) (by decide) rfl (fun h17 => ?_) (fun h17 => ?_)
        · refine am_iload_n (q := 108) rfl (am_tab tk_X0_spread 57 rfl) rfl ?_
          refine am_iret (Or.inl rfl) (Nat.le_of_ble_eq_true rfl) (Nat.le_of_ble_eq_true rfl) (am_tab tk_X0_spread 58 rfl) ?_
          refine hQ _ _ ?_
          have hm0 : m = 0 := by omega
          rw [hres, rdE_fix (hfx hm0)]
          exact ⟨rfl, hM0, hF0⟩
        · have hm1 : m = 1 := by omega
          refine am_iconst (q := 21) (n := 0) (by decide) (am_tab tk_X0_spread 11 rfl) rfl ?_
          refine am_istore (q := 23) (by decide) (ls2 := [(4, am_i 0), (5, am_i ((rd : Int))), (3, am_i s), (0, am_r 44), (1, am_i own), (2, am_i who)]) rfl (am_tab tk_X0_spread 12 rfl) rfl ?_
          refine am_iconst (q := 24) (n := 0) (by decide) (am_tab tk_X0_spread 13 rfl) rfl ?_
          refine am_istore (q := 26) (by decide) (ls2 := [(6, am_i 0), (4, am_i 0), (5, am_i ((rd : Int))), (3, am_i s), (0, am_r 44), (1, am_i own), (2, am_i who)]) rfl (am_tab tk_X0_spread 14 rfl) rfl ?_
          have L26 : ∀ (n26 : Nat) (p : Nat) (T : am_H), 8 - p < n26 → frw W_dw σ T → MEM T B → p ≤ pN B → am_wp M_X0_spread Q 0 0 26 [(6, am_i ((p : Int))), (5, am_i ((rd : Int))), (4, am_i ((if rpE B (dts B) bs s p = s then 0 else 1))), (3, am_i ((rpE B (dts B) bs s p))), (0, am_r 44), (1, am_i own), (2, am_i who)] [] T := by
            intro n26
            induction n26 with
            | zero => intro p T hn26; exact absurd hn26 (Nat.not_lt_zero _)
            | succ n26 ih26 =>
              intro p T hn26 hF hMT hp
              have hLT : lay T := hF.L hL
              have hDT := hD.fr hF (by decide) (by decide)
              refine am_iload (q := 28) rfl (am_tab tk_X0_spread 15 rfl) rfl ?_
              refine am_aload_n (q := 29) rfl (am_tab tk_X0_spread 16 rfl) rfl ?_
              refine am_getR (q := 32) (a := 44) (k := 0) (n := 14) (j := 8) (r := some (3)) (Ls_44 hLT) (by decide) rfl hDT.1.1 (by decide) (Or.inl kf_X0_24) (am_tab tk_X0_spread 17 rfl) rfl ?_
              refine am_getI (q := 35) (a := 3) (k := 8) (n := 17) (j := 2) (x := (B.2.1 85 5)) (Ls_3 hLT) (by decide) rfl hDT.tw.people (by decide) (Or.inr kf_X0_102) (am_tab tk_X0_spread 18 rfl) rfl ?_
              refine am_icmp_ge (q := 38) (t := 101) (am_tab tk_X0_spread 19 rfl) (by decide) rfl (fun h35 => ?_) (fun h35 => ?_)
              · refine am_iinc (q := 104) rfl (by omega) (by decide) (ls2 := [(5, am_i (((rd : Int) + 1))), (6, am_i ((p : Int))), (4, am_i ((if rpE B (dts B) bs s p = s then 0 else 1))), (3, am_i ((rpE B (dts B) bs s p))), (0, am_r 44), (1, am_i own), (2, am_i who)]) rfl (am_tab tk_X0_spread 55 rfl) rfl ?_
                refine am_goto (t := 8) (am_tab tk_X0_spread 56 rfl) (by decide) ?_
                have ep : p = pN B := by omega
                have hin := rpE_in (B := B) (ts := dts B) (bs := bs) hs p (by omega)
                have hrr : rmE B (dts B) own bs = rdE B (dts B) bs (256 - (rd + 1)) (rpE B (dts B) bs s p) := by
                  rw [hres]
                  by_cases hx : rpE B (dts B) bs s (pN B) = s
                  · rw [ep, hx, rdE_fix hx, rdE_fix hx]
                  · rw [show 256 - rd = (256 - (rd + 1)) + 1 by omega]
                    conv => lhs; unfold rdE
                    rw [if_neg hx, ep]
                exact am_less (by intro q hq; simp only [List.mem_cons, List.not_mem_nil, or_false] at hq; rcases hq with rfl | rfl | rfl | rfl | rfl | rfl <;> simp) (ih8 (rd + 1) T (rpE B (dts B) bs s p) (if rpE B (dts B) bs s p = s then 0 else 1) (by omega) (by omega) hF hMT (by omega) (by split <;> omega) (fun h => by rcases hin.2 with h4 | h4; exact absurd (show (if rpE B (dts B) bs s p = s then (0 : Int) else 1) = 1 from h) (by rw [if_pos h4]; decide); have := hsb hm1; push_cast; omega) (fun h => by have h4 : rpE B (dts B) bs s p = s := Classical.byContradiction (fun hx => absurd (show (if rpE B (dts B) bs s p = s then (0 : Int) else 1) = 0 from h) (by rw [if_neg hx]; decide)); rw [h4, ← ep]; exact h4) hrr)
              · have hpp : p < pN B := by omega
                have hnw : 0 ≤ (rpE B (dts B) bs s p) ∧ (rpE B (dts B) bs s p) < 256 := by have := rpE_in (B := B) (ts := dts B) (bs := bs) hs p (by omega); omega
                refine am_aload_n (q := 39) rfl (am_tab tk_X0_spread 20 rfl) rfl ?_
                refine am_getR (q := 42) (a := 44) (k := 0) (n := 14) (j := 8) (r := some (3)) (Ls_44 hLT) (by decide) rfl hDT.1.1 (by decide) (Or.inl kf_X0_24) (am_tab tk_X0_spread 21 rfl) rfl ?_
                refine am_getR (q := 45) (a := 3) (k := 8) (n := 17) (j := 12) (r := some (8)) (Ls_3 hLT) (by decide) rfl (Lr_3_12 hLT) (by decide) (Or.inr kf_X0_133) (am_tab tk_X0_spread 22 rfl) rfl ?_
                refine am_iload (q := 47) rfl (am_tab tk_X0_spread 23 rfl) rfl ?_
                refine am_iald (q := 48) (a := 8) (n := 8) (x := (T.2.1 8 p)) (Ls_8 hLT) (by omega) (by omega) (by rw [show Int.toNat (p : Int) = p by omega]) (am_tab tk_X0_spread 24 rfl) rfl ?_
                refine am_iload_n (q := 49) rfl (am_tab tk_X0_spread 25 rfl) rfl ?_
                refine am_iand (q := 50) (am_tab tk_X0_spread 26 rfl) rfl ?_
                refine am_istore (q := 52) (by decide) (ls2 := [(7, am_i ((ao_and (T.2.1 8 p) (rpE B (dts B) bs s p)))), (6, am_i ((p : Int))), (5, am_i ((rd : Int))), (4, am_i ((if rpE B (dts B) bs s p = s then 0 else 1))), (3, am_i ((rpE B (dts B) bs s p))), (0, am_r 44), (1, am_i own), (2, am_i who)]) rfl (am_tab tk_X0_spread 27 rfl) rfl ?_
                have hrb := hDT.tw.rby p hpp
                have htz : tz (ao_and (T.2.1 8 p) (rpE B (dts B) bs s p)) = rqM B p (rpE B (dts B) bs s p) := rq_tz h8 hrb.1 hnw hrb.2
                have hbr : 0 ≤ (ao_and (T.2.1 8 p) (rpE B (dts B) bs s p)) ∧ (ao_and (T.2.1 8 p) (rpE B (dts B) bs s p)) < 256 := (and_tb hrb.1 hnw).1
                have htz0 := tz_0 hbr
                have hqr : rqM B p (rpE B (dts B) bs s p) = -1 ∨ (0 ≤ rqM B p (rpE B (dts B) bs s p) ∧ rqM B p (rpE B (dts B) bs s p) < (pN B : Int)) := firstQ_rng _
                have hgq := rgB_q (set := (rpE B (dts B) bs s p)) (hwho p hpp)
                have hdf := (dif_tb hw hnw).2 p (by omega)
                have hdfr := (dif_tb hw hnw).1
                refine am_iload (q := 54) rfl (am_tab tk_X0_spread 28 rfl) rfl ?_
                refine am_if_eq (q := 57) (t := 95) (am_tab tk_X0_spread 29 rfl) (by decide) rfl (fun h54 => ?_) (fun h54 => ?_)
                · refine am_iinc (q := 98) rfl (by omega) (by decide) (ls2 := [(6, am_i (((p : Int) + 1))), (7, am_i ((ao_and (T.2.1 8 p) (rpE B (dts B) bs s p)))), (5, am_i ((rd : Int))), (4, am_i ((if rpE B (dts B) bs s p = s then 0 else 1))), (3, am_i ((rpE B (dts B) bs s p))), (0, am_r 44), (1, am_i own), (2, am_i who)]) rfl (am_tab tk_X0_spread 53 rfl) rfl ?_
                  refine am_goto (t := 26) (am_tab tk_X0_spread 54 rfl) (by decide) ?_
                  have hg : ¬ rgB B (dts B) bs (rpE B (dts B) bs s p) p = true := fun hh => by
                    have h := hgq.mp hh
                    exact absurd ((htz.symm.trans (htz0.mp h54))) h.2.2.1
                  have he : rpE B (dts B) bs s (p + 1) = (rpE B (dts B) bs s p) := by
                    conv => lhs; unfold rpE
                    rw [if_neg hg]
                  have hne : True := trivial
                  exact am_less (by intro q hq; simp only [List.mem_cons, List.not_mem_nil, or_false] at hq; rcases hq with rfl | rfl | rfl | rfl | rfl | rfl | rfl <;> simp [he, hne]) (ih26 (p + 1) T (by omega) hF hMT (by omega))
                · refine am_iload_n (q := 58) rfl (am_tab tk_X0_spread 30 rfl) rfl ?_
                  refine am_iload_n (q := 59) rfl (am_tab tk_X0_spread 31 rfl) rfl ?_
                  refine am_iconst (q := 60) (n := (-1)) (by decide) (am_tab tk_X0_spread 32 rfl) rfl ?_
                  refine am_ixor (q := 61) (am_tab tk_X0_spread 33 rfl) rfl ?_
                  refine am_iand (q := 62) (am_tab tk_X0_spread 34 rfl) rfl ?_
                  refine am_iload (q := 64) rfl (am_tab tk_X0_spread 35 rfl) rfl ?_
                  refine am_callS0 (q := 67) (me2 := M_X9_bit) (As := [am_i ((ao_and who (ao_xor (rpE B (dts B) bs s p) (-1)))), am_i ((p : Int))]) (rest := []) (out := [am_i (tb (ao_and who (ao_xor (rpE B (dts B) bs s p) (-1))) (p : Int))]) (c_bit T (ao_and who (ao_xor (rpE B (dts B) bs s p) (-1))) (p : Int) hdfr (by omega)) ⟨rfl, rfl⟩ ⟨Or.inr km_X0_105, kc_X9_bit, kn_X9, kd_X9_bit, ⟨(Nat.le_of_ble_eq_true rfl), (Nat.le_of_ble_eq_true rfl)⟩, ⟨(Nat.le_of_ble_eq_true rfl), (Nat.le_of_ble_eq_true rfl)⟩, (Nat.le_of_ble_eq_true rfl)⟩ ki_X9_bit rfl rfl (am_tab tk_X0_spread 36 rfl) rfl ?_
                  refine am_iconst (q := 68) (n := 1) (by decide) (am_tab tk_X0_spread 37 rfl) rfl ?_
                  refine am_icmp_ne (q := 71) (t := 95) (am_tab tk_X0_spread 38 rfl) (by decide) rfl (fun h68 => ?_) (fun h68 => ?_)
                  · refine am_iinc (q := 98) rfl (by omega) (by decide) (ls2 := [(6, am_i (((p : Int) + 1))), (7, am_i ((ao_and (T.2.1 8 p) (rpE B (dts B) bs s p)))), (5, am_i ((rd : Int))), (4, am_i ((if rpE B (dts B) bs s p = s then 0 else 1))), (3, am_i ((rpE B (dts B) bs s p))), (0, am_r 44), (1, am_i own), (2, am_i who)]) rfl (am_tab tk_X0_spread 53 rfl) rfl ?_
                    refine am_goto (t := 26) (am_tab tk_X0_spread 54 rfl) (by decide) ?_
                    have hg : ¬ rgB B (dts B) bs (rpE B (dts B) bs s p) p = true := fun hh => by
                      have h := hgq.mp hh
                      exact h68 (by rw [hdf, if_pos ⟨h.1, h.2.1⟩])
                    have he : rpE B (dts B) bs s (p + 1) = (rpE B (dts B) bs s p) := by
                      conv => lhs; unfold rpE
                      rw [if_neg hg]
                    have hne : True := trivial
                    exact am_less (by intro q hq; simp only [List.mem_cons, List.not_mem_nil, or_false] at hq; rcases hq with rfl | rfl | rfl | rfl | rfl | rfl | rfl <;> simp [he, hne]) (ih26 (p + 1) T (by omega) hF hMT (by omega))
                  · have hdw : tb who p = 1 ∧ ¬ tb (rpE B (dts B) bs s p) p = 1 := by
                      by_cases hx : tb who p = 1 ∧ ¬ tb (rpE B (dts B) bs s p) p = 1
                      · exact hx
                      · rw [if_neg hx] at hdf; omega
                    have hq0 : ¬ rqM B p (rpE B (dts B) bs s p) = -1 := fun h => h54 (htz0.mpr (htz.trans h))
                    have hrC01 : hrC B p (rqM B p (rpE B (dts B) bs s p)).toNat = 0 ∨ hrC B p (rqM B p (rpE B (dts B) bs s p)).toNat = 1 := by
                      unfold hrC
                      split
                      · exact Or.inr rfl
                      · rename_i hrl
                        exact hrV_01 hG hrl (by omega) (by omega)
                    refine am_aload_n (q := 72) rfl (am_tab tk_X0_spread 39 rfl) rfl ?_
                    refine am_iload (q := 74) rfl (am_tab tk_X0_spread 40 rfl) rfl ?_
                    refine am_iload (q := 76) rfl (am_tab tk_X0_spread 41 rfl) rfl ?_
                    refine am_callSr (q := 79) (me2 := M_J6_numberOfTrailingZeros_0f7a4) (As := [am_i ((ao_and (T.2.1 8 p) (rpE B (dts B) bs s p)))]) (rest := [am_i ((p : Int)), am_r 44]) (c_tz T (ao_and (T.2.1 8 p) (rpE B (dts B) bs s p)) (by omega)) ⟨rfl, rfl⟩ ⟨Or.inl km_X0_136, kc_J6_numberOfTrailingZeros_0f7a4, kn_J6, kd_J6_numberOfTrailingZeros_0f7a4, ⟨(Nat.le_of_ble_eq_true rfl), (Nat.le_of_ble_eq_true rfl)⟩, ⟨(Nat.le_of_ble_eq_true rfl), (Nat.le_of_ble_eq_true rfl)⟩, (Nat.le_of_ble_eq_true rfl)⟩ ki_J6_numberOfTrailingZeros_0f7a4 rfl (am_tab tk_X0_spread 42 rfl) rfl ?_
                    rintro r τ ⟨hr9, hτ⟩
                    rw [htz, show rqM B p (rpE B (dts B) bs s p) = ((rqM B p (rpE B (dts B) bs s p)).toNat : Int) by omega] at hr9
                    rw [hr9, hτ]
                    refine am_st (st2 := [am_i (((rqM B p (rpE B (dts B) bs s p)).toNat : Int)), am_i ((p : Int)), am_r 44]) rfl ?_
                    refine am_callVr (q := 82) (me2 := M_X0_wouldHear) (b := 44) (kb := 0) (nb := 14) (As := [am_i ((p : Int)), am_i (((rqM B p (rpE B (dts B) bs s p)).toNat : Int))]) (rest := []) (c_wouldHear_3_37 T B hLT hG hDT p (rqM B p (rpE B (dts B) bs s p)).toNat hMT hpp (by omega)) ⟨rfl, rfl⟩ (Ls_44 hLT) (by decide) ⟨Or.inl km_X0_142, kc_X0_wouldHear, kn_X0, kd_X0_wouldHear, ⟨(Nat.le_of_ble_eq_true rfl), (Nat.le_of_ble_eq_true rfl)⟩, ⟨(Nat.le_of_ble_eq_true rfl), (Nat.le_of_ble_eq_true rfl)⟩, (Nat.le_of_ble_eq_true rfl)⟩ ki_X0_wouldHear ks_X0_wouldHear rfl (am_tab tk_X0_spread 43 rfl) rfl ?_
                    rintro r T2 ⟨rfl, hM2, hFT2⟩
                    refine am_st (st2 := [am_i (hrC B p (rqM B p (rpE B (dts B) bs s p)).toNat)]) rfl ?_
                    refine am_if_eq (q := 85) (t := 95) (am_tab tk_X0_spread 44 rfl) (by decide) rfl (fun h82 => ?_) (fun h82 => ?_)
                    · refine am_iinc (q := 98) rfl (by omega) (by decide) (ls2 := [(6, am_i (((p : Int) + 1))), (7, am_i ((ao_and (T.2.1 8 p) (rpE B (dts B) bs s p)))), (5, am_i ((rd : Int))), (4, am_i ((if rpE B (dts B) bs s p = s then 0 else 1))), (3, am_i ((rpE B (dts B) bs s p))), (0, am_r 44), (1, am_i own), (2, am_i who)]) rfl (am_tab tk_X0_spread 53 rfl) rfl ?_
                      refine am_goto (t := 26) (am_tab tk_X0_spread 54 rfl) (by decide) ?_
                      have hg : ¬ rgB B (dts B) bs (rpE B (dts B) bs s p) p = true := fun hh => by
                        have h := hgq.mp hh
                        exact absurd (h.2.2.2.symm.trans h82) (by decide)
                      have he : rpE B (dts B) bs s (p + 1) = (rpE B (dts B) bs s p) := by
                        conv => lhs; unfold rpE
                        rw [if_neg hg]
                      have hne : True := trivial
                      exact am_less (by intro q hq; simp only [List.mem_cons, List.not_mem_nil, or_false] at hq; rcases hq with rfl | rfl | rfl | rfl | rfl | rfl | rfl <;> simp [he, hne]) (ih26 (p + 1) T2 (by omega) (hF.trans hFT2) hM2 (by omega))
                    · refine am_iload_n (q := 86) rfl (am_tab tk_X0_spread 45 rfl) rfl ?_
                      refine am_iconst (q := 87) (n := 1) (by decide) (am_tab tk_X0_spread 46 rfl) rfl ?_
                      refine am_iload (q := 89) rfl (am_tab tk_X0_spread 47 rfl) rfl ?_
                      refine am_ishl (q := 90) (am_tab tk_X0_spread 48 rfl) rfl ?_
                      refine am_ior (q := 91) (am_tab tk_X0_spread 49 rfl) rfl ?_
                      refine am_istore_n (q := 92) (by decide) (ls2 := [(3, am_i ((ao_or (rpE B (dts B) bs s p) (ao_shl 1 (p : Int))))), (7, am_i ((ao_and (T.2.1 8 p) (rpE B (dts B) bs s p)))), (6, am_i ((p : Int))), (5, am_i ((rd : Int))), (4, am_i ((if rpE B (dts B) bs s p = s then 0 else 1))), (0, am_r 44), (1, am_i own), (2, am_i who)]) rfl (am_tab tk_X0_spread 50 rfl) rfl ?_
                      refine am_iconst (q := 93) (n := 1) (by decide) (am_tab tk_X0_spread 51 rfl) rfl ?_
                      refine am_istore (q := 95) (by decide) (ls2 := [(4, am_i 1), (3, am_i ((ao_or (rpE B (dts B) bs s p) (ao_shl 1 (p : Int))))), (7, am_i ((ao_and (T.2.1 8 p) (rpE B (dts B) bs s p)))), (6, am_i ((p : Int))), (5, am_i ((rd : Int))), (0, am_r 44), (1, am_i own), (2, am_i who)]) rfl (am_tab tk_X0_spread 52 rfl) rfl ?_
                      refine am_iinc (q := 98) rfl (by omega) (by decide) (ls2 := [(6, am_i (((p : Int) + 1))), (4, am_i 1), (3, am_i ((ao_or (rpE B (dts B) bs s p) (ao_shl 1 (p : Int))))), (7, am_i ((ao_and (T.2.1 8 p) (rpE B (dts B) bs s p)))), (5, am_i ((rd : Int))), (0, am_r 44), (1, am_i own), (2, am_i who)]) rfl (am_tab tk_X0_spread 53 rfl) rfl ?_
                      refine am_goto (t := 26) (am_tab tk_X0_spread 54 rfl) (by decide) ?_
                      have hg : rgB B (dts B) bs (rpE B (dts B) bs s p) p = true := hgq.mpr ⟨hdw.1, hdw.2, by omega, by have := hrC01; omega⟩
                      have hob := ob_eq (s := (rpE B (dts B) bs s p)) (p := p) hnw (by omega) (by have := tb_01 (rpE B (dts B) bs s p) p; have := hdw.2; omega)
                      have he : rpE B (dts B) bs s (p + 1) = ao_or (rpE B (dts B) bs s p) (ao_shl 1 (p : Int)) := by
                        conv => lhs; unfold rpE
                        rw [if_pos hg, hob.1]
                      have hne : ¬ ao_or (rpE B (dts B) bs s p) (ao_shl 1 (p : Int)) = s := by
                        rw [hob.1]
                        have h3 : (0 : Int) < 2 ^ p := Int.pow_pos (by decide)
                        have h4 := rpE_in (B := B) (ts := dts B) (bs := bs) hs p (by omega)
                        omega
                      exact am_less (by intro q hq; simp only [List.mem_cons, List.not_mem_nil, or_false] at hq; rcases hq with rfl | rfl | rfl | rfl | rfl | rfl | rfl <;> simp [he, hne]) (ih26 (p + 1) T2 (by omega) (hF.trans hFT2) hM2 (by omega))
          refine am_less (by intro q hq; simp only [List.mem_cons, List.not_mem_nil, or_false] at hq; rcases hq with rfl | rfl | rfl | rfl | rfl | rfl | rfl <;> simp [rpE]) (L26 (_ + 1) 0 T0 (by exact Nat.lt_succ_self _) hF0 hM0 (Nat.zero_le _))
  refine am_less (by intro q hq; simp only [List.mem_cons, List.not_mem_nil, or_false] at hq; rcases hq with rfl | rfl | rfl | rfl | rfl | rfl <;> simp) (L8 (_ + 1) 0 σ own 1 (by exact Nat.lt_succ_self _) (by omega) (frw.refl _ σ) hM how (Or.inr rfl) (fun _ => (sb_8 own).1) (fun h => absurd h (by decide)) rfl)
set_option maxRecDepth 100000 in
theorem c_spread_15_32 (σ B : am_H) (hL : lay σ) (hG : GD B) (hD : DWr 15 32 σ B) (own : Int) (who : Int) (bs : Int) (how : 0 ≤ own ∧ own < 256) (hw : 0 ≤ who ∧ who < 256) (hwho : ∀ p : Nat, p < pN B → (tb who p = 1 ↔ ¬ B.2.1 96 (12 + p) = 1 ∧ ¬ tb bs p = 1)) (hM : MEM σ B) : am_met M_X0_spread [am_r 44, am_i own, am_i who] σ (fun r σ' => r = some (am_i (rmE B (dts B) own bs)) ∧ MEM σ' B ∧ frw W_dw σ σ') := by
  refine am_qq (fun Q hQ => ?_)
  refine am_enter (show plainFor yX0_spread = true by decide +kernel) rfl (Nat.le_of_ble_eq_true rfl) (fun _ _ _ => trivial) ?_
  have h8 : pN B ≤ 8 := by have := hG.R.P; unfold pN; omega
  have hPi := hG.R.P
  have hpn : (pN B : Int) = B.2.1 85 5 := by unfold pN; omega
  refine am_iload_n (q := 1) rfl (am_tab tk_X0_spread 0 rfl) rfl ?_
  refine am_istore_n (q := 2) (by decide) (ls2 := [(3, am_i own), (0, am_r 44), (1, am_i own), (2, am_i who)]) rfl (am_tab tk_X0_spread 1 rfl) rfl ?_
  refine am_iconst (q := 3) (n := 1) (by decide) (am_tab tk_X0_spread 2 rfl) rfl ?_
  refine am_istore (q := 5) (by decide) (ls2 := [(4, am_i 1), (3, am_i own), (0, am_r 44), (1, am_i own), (2, am_i who)]) rfl (am_tab tk_X0_spread 3 rfl) rfl ?_
  refine am_iconst (q := 6) (n := 0) (by decide) (am_tab tk_X0_spread 4 rfl) rfl ?_
  refine am_istore (q := 8) (by decide) (ls2 := [(5, am_i 0), (4, am_i 1), (3, am_i own), (0, am_r 44), (1, am_i own), (2, am_i who)]) rfl (am_tab tk_X0_spread 5 rfl) rfl ?_
  have L8 : ∀ (n8 : Nat) (rd : Nat) (T0 : am_H) (s : Int) (m : Int), 9 - rd < n8 → rd ≤ 9 → frw W_dw σ T0 → MEM T0 B → (0 ≤ s ∧ s < 256) → (m = 0 ∨ m = 1) → (m = 1 → (rd : Int) ≤ sb s) → (m = 0 → rpE B (dts B) bs s (pN B) = s) → rmE B (dts B) own bs = rdE B (dts B) bs (256 - rd) s → am_wp M_X0_spread Q 0 0 8 [(5, am_i ((rd : Int))), (4, am_i m), (3, am_i s), (0, am_r 44), (1, am_i own), (2, am_i who)] [] T0 := by
    intro n8
    induction n8 with
    | zero => intro rd T0 s m hn8; exact absurd hn8 (Nat.not_lt_zero _)
    | succ n8 ih8 =>
      intro rd T0 s m hn8 hrd hF0 hM0 hs hm hsb hfx hres
      refine am_iload (q := 10) rfl (am_tab tk_X0_spread 6 rfl) rfl ?_
      refine am_bipush (q := 12) (n := 8) (by decide) rfl (am_tab tk_X0_spread 7 rfl) rfl ?_
      refine am_icmp_gt (q := 15) (t := 107) (am_tab tk_X0_spread 8 rfl) (by decide) rfl (fun h12 => ?_) (fun h12 => ?_)
      · refine am_iload_n (q := 108) rfl (am_tab tk_X0_spread 57 rfl) rfl ?_
        refine am_iret (Or.inl rfl) (Nat.le_of_ble_eq_true rfl) (Nat.le_of_ble_eq_true rfl) (am_tab tk_X0_spread 58 rfl) ?_
        refine hQ _ _ ?_
        have hm0 : m = 0 := by
                                                                                 rcases hm with h | h
                                                                                 · exact h
                                                                                 · have := hsb h; have := sb_8 s; omega
        rw [hres, rdE_fix (hfx hm0)]
        exact ⟨rfl, hM0, hF0⟩
      · refine am_iload (q := 17) rfl (am_tab tk_X0_spread 9 rfl) rfl ?_
        refine am_if_eq (q := 20) (t := 107) (am_tab tk_X0_spread 10 rfl) (by decide) rfl (fun h17 => ?_) (fun h17 => ?_)
        · refine am_iload_n (q := 108) rfl (am_tab tk_X0_spread 57 rfl) rfl ?_
          refine am_iret (Or.inl rfl) (Nat.le_of_ble_eq_true rfl) (Nat.le_of_ble_eq_true rfl) (am_tab tk_X0_spread 58 rfl) ?_
          refine hQ _ _ ?_
          have hm0 : m = 0 := by omega
          rw [hres, rdE_fix (hfx hm0)]
          exact ⟨rfl, hM0, hF0⟩
        · have hm1 : m = 1 := by omega
          refine am_iconst (q := 21) (n := 0) (by decide) (am_tab tk_X0_spread 11 rfl) rfl ?_
          refine am_istore (q := 23) (by decide) (ls2 := [(4, am_i 0), (5, am_i ((rd : Int))), (3, am_i s), (0, am_r 44), (1, am_i own), (2, am_i who)]) rfl (am_tab tk_X0_spread 12 rfl) rfl ?_
          refine am_iconst (q := 24) (n := 0) (by decide) (am_tab tk_X0_spread 13 rfl) rfl ?_
          refine am_istore (q := 26) (by decide) (ls2 := [(6, am_i 0), (4, am_i 0), (5, am_i ((rd : Int))), (3, am_i s), (0, am_r 44), (1, am_i own), (2, am_i who)]) rfl (am_tab tk_X0_spread 14 rfl) rfl ?_
          have L26 : ∀ (n26 : Nat) (p : Nat) (T : am_H), 8 - p < n26 → frw W_dw σ T → MEM T B → p ≤ pN B → am_wp M_X0_spread Q 0 0 26 [(6, am_i ((p : Int))), (5, am_i ((rd : Int))), (4, am_i ((if rpE B (dts B) bs s p = s then 0 else 1))), (3, am_i ((rpE B (dts B) bs s p))), (0, am_r 44), (1, am_i own), (2, am_i who)] [] T := by
            intro n26
            induction n26 with
            | zero => intro p T hn26; exact absurd hn26 (Nat.not_lt_zero _)
            | succ n26 ih26 =>
              intro p T hn26 hF hMT hp
              have hLT : lay T := hF.L hL
              have hDT := hD.fr hF (by decide) (by decide)
              refine am_iload (q := 28) rfl (am_tab tk_X0_spread 15 rfl) rfl ?_
              refine am_aload_n (q := 29) rfl (am_tab tk_X0_spread 16 rfl) rfl ?_
              refine am_getR (q := 32) (a := 44) (k := 0) (n := 14) (j := 8) (r := some (15)) (Ls_44 hLT) (by decide) rfl hDT.1.1 (by decide) (Or.inl kf_X0_24) (am_tab tk_X0_spread 17 rfl) rfl ?_
              refine am_getI (q := 35) (a := 15) (k := 8) (n := 17) (j := 2) (x := (B.2.1 85 5)) (Ls_15 hLT) (by decide) rfl hDT.tw.people (by decide) (Or.inr kf_X0_102) (am_tab tk_X0_spread 18 rfl) rfl ?_
              refine am_icmp_ge (q := 38) (t := 101) (am_tab tk_X0_spread 19 rfl) (by decide) rfl (fun h35 => ?_) (fun h35 => ?_)
              · refine am_iinc (q := 104) rfl (by omega) (by decide) (ls2 := [(5, am_i (((rd : Int) + 1))), (6, am_i ((p : Int))), (4, am_i ((if rpE B (dts B) bs s p = s then 0 else 1))), (3, am_i ((rpE B (dts B) bs s p))), (0, am_r 44), (1, am_i own), (2, am_i who)]) rfl (am_tab tk_X0_spread 55 rfl) rfl ?_
                refine am_goto (t := 8) (am_tab tk_X0_spread 56 rfl) (by decide) ?_
                have ep : p = pN B := by omega
                have hin := rpE_in (B := B) (ts := dts B) (bs := bs) hs p (by omega)
                have hrr : rmE B (dts B) own bs = rdE B (dts B) bs (256 - (rd + 1)) (rpE B (dts B) bs s p) := by
                  rw [hres]
                  by_cases hx : rpE B (dts B) bs s (pN B) = s
                  · rw [ep, hx, rdE_fix hx, rdE_fix hx]
                  · rw [show 256 - rd = (256 - (rd + 1)) + 1 by omega]
                    conv => lhs; unfold rdE
                    rw [if_neg hx, ep]
                exact am_less (by intro q hq; simp only [List.mem_cons, List.not_mem_nil, or_false] at hq; rcases hq with rfl | rfl | rfl | rfl | rfl | rfl <;> simp) (ih8 (rd + 1) T (rpE B (dts B) bs s p) (if rpE B (dts B) bs s p = s then 0 else 1) (by omega) (by omega) hF hMT (by omega) (by split <;> omega) (fun h => by rcases hin.2 with h4 | h4; exact absurd (show (if rpE B (dts B) bs s p = s then (0 : Int) else 1) = 1 from h) (by rw [if_pos h4]; decide); have := hsb hm1; push_cast; omega) (fun h => by have h4 : rpE B (dts B) bs s p = s := Classical.byContradiction (fun hx => absurd (show (if rpE B (dts B) bs s p = s then (0 : Int) else 1) = 0 from h) (by rw [if_neg hx]; decide)); rw [h4, ← ep]; exact h4) hrr)
              · have hpp : p < pN B := by omega
                have hnw : 0 ≤ (rpE B (dts B) bs s p) ∧ (rpE B (dts B) bs s p) < 256 := by have := rpE_in (B := B) (ts := dts B) (bs := bs) hs p (by omega); omega
                refine am_aload_n (q := 39) rfl (am_tab tk_X0_spread 20 rfl) rfl ?_
                refine am_getR (q := 42) (a := 44) (k := 0) (n := 14) (j := 8) (r := some (15)) (Ls_44 hLT) (by decide) rfl hDT.1.1 (by decide) (Or.inl kf_X0_24) (am_tab tk_X0_spread 21 rfl) rfl ?_
                refine am_getR (q := 45) (a := 15) (k := 8) (n := 17) (j := 12) (r := some (20)) (Ls_15 hLT) (by decide) rfl (Lr_15_12 hLT) (by decide) (Or.inr kf_X0_133) (am_tab tk_X0_spread 22 rfl) rfl ?_
                refine am_iload (q := 47) rfl (am_tab tk_X0_spread 23 rfl) rfl ?_
                refine am_iald (q := 48) (a := 20) (n := 8) (x := (T.2.1 20 p)) (Ls_20 hLT) (by omega) (by omega) (by rw [show Int.toNat (p : Int) = p by omega]) (am_tab tk_X0_spread 24 rfl) rfl ?_
                refine am_iload_n (q := 49) rfl (am_tab tk_X0_spread 25 rfl) rfl ?_
                refine am_iand (q := 50) (am_tab tk_X0_spread 26 rfl) rfl ?_
                refine am_istore (q := 52) (by decide) (ls2 := [(7, am_i ((ao_and (T.2.1 20 p) (rpE B (dts B) bs s p)))), (6, am_i ((p : Int))), (5, am_i ((rd : Int))), (4, am_i ((if rpE B (dts B) bs s p = s then 0 else 1))), (3, am_i ((rpE B (dts B) bs s p))), (0, am_r 44), (1, am_i own), (2, am_i who)]) rfl (am_tab tk_X0_spread 27 rfl) rfl ?_
                have hrb := hDT.tw.rby p hpp
                have htz : tz (ao_and (T.2.1 20 p) (rpE B (dts B) bs s p)) = rqM B p (rpE B (dts B) bs s p) := rq_tz h8 hrb.1 hnw hrb.2
                have hbr : 0 ≤ (ao_and (T.2.1 20 p) (rpE B (dts B) bs s p)) ∧ (ao_and (T.2.1 20 p) (rpE B (dts B) bs s p)) < 256 := (and_tb hrb.1 hnw).1
                have htz0 := tz_0 hbr
                have hqr : rqM B p (rpE B (dts B) bs s p) = -1 ∨ (0 ≤ rqM B p (rpE B (dts B) bs s p) ∧ rqM B p (rpE B (dts B) bs s p) < (pN B : Int)) := firstQ_rng _
                have hgq := rgB_q (set := (rpE B (dts B) bs s p)) (hwho p hpp)
                have hdf := (dif_tb hw hnw).2 p (by omega)
                have hdfr := (dif_tb hw hnw).1
                refine am_iload (q := 54) rfl (am_tab tk_X0_spread 28 rfl) rfl ?_
                refine am_if_eq (q := 57) (t := 95) (am_tab tk_X0_spread 29 rfl) (by decide) rfl (fun h54 => ?_) (fun h54 => ?_)
                · refine am_iinc (q := 98) rfl (by omega) (by decide) (ls2 := [(6, am_i (((p : Int) + 1))), (7, am_i ((ao_and (T.2.1 20 p) (rpE B (dts B) bs s p)))), (5, am_i ((rd : Int))), (4, am_i ((if rpE B (dts B) bs s p = s then 0 else 1))), (3, am_i ((rpE B (dts B) bs s p))), (0, am_r 44), (1, am_i own), (2, am_i who)]) rfl (am_tab tk_X0_spread 53 rfl) rfl ?_
                  refine am_goto (t := 26) (am_tab tk_X0_spread 54 rfl) (by decide) ?_
                  have hg : ¬ rgB B (dts B) bs (rpE B (dts B) bs s p) p = true := fun hh => by
                    have h := hgq.mp hh
                    exact absurd ((htz.symm.trans (htz0.mp h54))) h.2.2.1
                  have he : rpE B (dts B) bs s (p + 1) = (rpE B (dts B) bs s p) := by
                    conv => lhs; unfold rpE
                    rw [if_neg hg]
                  have hne : True := trivial
                  exact am_less (by intro q hq; simp only [List.mem_cons, List.not_mem_nil, or_false] at hq; rcases hq with rfl | rfl | rfl | rfl | rfl | rfl | rfl <;> simp [he, hne]) (ih26 (p + 1) T (by omega) hF hMT (by omega))
                · refine am_iload_n (q := 58) rfl (am_tab tk_X0_spread 30 rfl) rfl ?_
                  refine am_iload_n (q := 59) rfl (am_tab tk_X0_spread 31 rfl) rfl ?_
                  refine am_iconst (q := 60) (n := (-1)) (by decide) (am_tab tk_X0_spread 32 rfl) rfl ?_
                  refine am_ixor (q := 61) (am_tab tk_X0_spread 33 rfl) rfl ?_
                  refine am_iand (q := 62) (am_tab tk_X0_spread 34 rfl) rfl ?_
                  refine am_iload (q := 64) rfl (am_tab tk_X0_spread 35 rfl) rfl ?_
                  refine am_callS0 (q := 67) (me2 := M_X9_bit) (As := [am_i ((ao_and who (ao_xor (rpE B (dts B) bs s p) (-1)))), am_i ((p : Int))]) (rest := []) (out := [am_i (tb (ao_and who (ao_xor (rpE B (dts B) bs s p) (-1))) (p : Int))]) (c_bit T (ao_and who (ao_xor (rpE B (dts B) bs s p) (-1))) (p : Int) hdfr (by omega)) ⟨rfl, rfl⟩ ⟨Or.inr km_X0_105, kc_X9_bit, kn_X9, kd_X9_bit, ⟨(Nat.le_of_ble_eq_true rfl), (Nat.le_of_ble_eq_true rfl)⟩, ⟨(Nat.le_of_ble_eq_true rfl), (Nat.le_of_ble_eq_true rfl)⟩, (Nat.le_of_ble_eq_true rfl)⟩ ki_X9_bit rfl rfl (am_tab tk_X0_spread 36 rfl) rfl ?_
                  refine am_iconst (q := 68) (n := 1) (by decide) (am_tab tk_X0_spread 37 rfl) rfl ?_
                  refine am_icmp_ne (q := 71) (t := 95) (am_tab tk_X0_spread 38 rfl) (by decide) rfl (fun h68 => ?_) (fun h68 => ?_)
                  · refine am_iinc (q := 98) rfl (by omega) (by decide) (ls2 := [(6, am_i (((p : Int) + 1))), (7, am_i ((ao_and (T.2.1 20 p) (rpE B (dts B) bs s p)))), (5, am_i ((rd : Int))), (4, am_i ((if rpE B (dts B) bs s p = s then 0 else 1))), (3, am_i ((rpE B (dts B) bs s p))), (0, am_r 44), (1, am_i own), (2, am_i who)]) rfl (am_tab tk_X0_spread 53 rfl) rfl ?_
                    refine am_goto (t := 26) (am_tab tk_X0_spread 54 rfl) (by decide) ?_
                    have hg : ¬ rgB B (dts B) bs (rpE B (dts B) bs s p) p = true := fun hh => by
                      have h := hgq.mp hh
                      exact h68 (by rw [hdf, if_pos ⟨h.1, h.2.1⟩])
                    have he : rpE B (dts B) bs s (p + 1) = (rpE B (dts B) bs s p) := by
                      conv => lhs; unfold rpE
                      rw [if_neg hg]
                    have hne : True := trivial
                    exact am_less (by intro q hq; simp only [List.mem_cons, List.not_mem_nil, or_false] at hq; rcases hq with rfl | rfl | rfl | rfl | rfl | rfl | rfl <;> simp [he, hne]) (ih26 (p + 1) T (by omega) hF hMT (by omega))
                  · have hdw : tb who p = 1 ∧ ¬ tb (rpE B (dts B) bs s p) p = 1 := by
                      by_cases hx : tb who p = 1 ∧ ¬ tb (rpE B (dts B) bs s p) p = 1
                      · exact hx
                      · rw [if_neg hx] at hdf; omega
                    have hq0 : ¬ rqM B p (rpE B (dts B) bs s p) = -1 := fun h => h54 (htz0.mpr (htz.trans h))
                    have hrC01 : hrC B p (rqM B p (rpE B (dts B) bs s p)).toNat = 0 ∨ hrC B p (rqM B p (rpE B (dts B) bs s p)).toNat = 1 := by
                      unfold hrC
                      split
                      · exact Or.inr rfl
                      · rename_i hrl
                        exact hrV_01 hG hrl (by omega) (by omega)
                    refine am_aload_n (q := 72) rfl (am_tab tk_X0_spread 39 rfl) rfl ?_
                    refine am_iload (q := 74) rfl (am_tab tk_X0_spread 40 rfl) rfl ?_
                    refine am_iload (q := 76) rfl (am_tab tk_X0_spread 41 rfl) rfl ?_
                    refine am_callSr (q := 79) (me2 := M_J6_numberOfTrailingZeros_0f7a4) (As := [am_i ((ao_and (T.2.1 20 p) (rpE B (dts B) bs s p)))]) (rest := [am_i ((p : Int)), am_r 44]) (c_tz T (ao_and (T.2.1 20 p) (rpE B (dts B) bs s p)) (by omega)) ⟨rfl, rfl⟩ ⟨Or.inl km_X0_136, kc_J6_numberOfTrailingZeros_0f7a4, kn_J6, kd_J6_numberOfTrailingZeros_0f7a4, ⟨(Nat.le_of_ble_eq_true rfl), (Nat.le_of_ble_eq_true rfl)⟩, ⟨(Nat.le_of_ble_eq_true rfl), (Nat.le_of_ble_eq_true rfl)⟩, (Nat.le_of_ble_eq_true rfl)⟩ ki_J6_numberOfTrailingZeros_0f7a4 rfl (am_tab tk_X0_spread 42 rfl) rfl ?_
                    rintro r τ ⟨hr9, hτ⟩
                    rw [htz, show rqM B p (rpE B (dts B) bs s p) = ((rqM B p (rpE B (dts B) bs s p)).toNat : Int) by omega] at hr9
                    rw [hr9, hτ]
                    refine am_st (st2 := [am_i (((rqM B p (rpE B (dts B) bs s p)).toNat : Int)), am_i ((p : Int)), am_r 44]) rfl ?_
                    refine am_callVr (q := 82) (me2 := M_X0_wouldHear) (b := 44) (kb := 0) (nb := 14) (As := [am_i ((p : Int)), am_i (((rqM B p (rpE B (dts B) bs s p)).toNat : Int))]) (rest := []) (c_wouldHear_15_32 T B hLT hG hDT p (rqM B p (rpE B (dts B) bs s p)).toNat hMT hpp (by omega)) ⟨rfl, rfl⟩ (Ls_44 hLT) (by decide) ⟨Or.inl km_X0_142, kc_X0_wouldHear, kn_X0, kd_X0_wouldHear, ⟨(Nat.le_of_ble_eq_true rfl), (Nat.le_of_ble_eq_true rfl)⟩, ⟨(Nat.le_of_ble_eq_true rfl), (Nat.le_of_ble_eq_true rfl)⟩, (Nat.le_of_ble_eq_true rfl)⟩ ki_X0_wouldHear ks_X0_wouldHear rfl (am_tab tk_X0_spread 43 rfl) rfl ?_
                    rintro r T2 ⟨rfl, hM2, hFT2⟩
                    refine am_st (st2 := [am_i (hrC B p (rqM B p (rpE B (dts B) bs s p)).toNat)]) rfl ?_
                    refine am_if_eq (q := 85) (t := 95) (am_tab tk_X0_spread 44 rfl) (by decide) rfl (fun h82 => ?_) (fun h82 => ?_)
                    · refine am_iinc (q := 98) rfl (by omega) (by decide) (ls2 := [(6, am_i (((p : Int) + 1))), (7, am_i ((ao_and (T.2.1 20 p) (rpE B (dts B) bs s p)))), (5, am_i ((rd : Int))), (4, am_i ((if rpE B (dts B) bs s p = s then 0 else 1))), (3, am_i ((rpE B (dts B) bs s p))), (0, am_r 44), (1, am_i own), (2, am_i who)]) rfl (am_tab tk_X0_spread 53 rfl) rfl ?_
                      refine am_goto (t := 26) (am_tab tk_X0_spread 54 rfl) (by decide) ?_
                      have hg : ¬ rgB B (dts B) bs (rpE B (dts B) bs s p) p = true := fun hh => by
                        have h := hgq.mp hh
                        exact absurd (h.2.2.2.symm.trans h82) (by decide)
                      have he : rpE B (dts B) bs s (p + 1) = (rpE B (dts B) bs s p) := by
                        conv => lhs; unfold rpE
                        rw [if_neg hg]
                      have hne : True := trivial
                      exact am_less (by intro q hq; simp only [List.mem_cons, List.not_mem_nil, or_false] at hq; rcases hq with rfl | rfl | rfl | rfl | rfl | rfl | rfl <;> simp [he, hne]) (ih26 (p + 1) T2 (by omega) (hF.trans hFT2) hM2 (by omega))
                    · refine am_iload_n (q := 86) rfl (am_tab tk_X0_spread 45 rfl) rfl ?_
                      refine am_iconst (q := 87) (n := 1) (by decide) (am_tab tk_X0_spread 46 rfl) rfl ?_
                      refine am_iload (q := 89) rfl (am_tab tk_X0_spread 47 rfl) rfl ?_
                      refine am_ishl (q := 90) (am_tab tk_X0_spread 48 rfl) rfl ?_
                      refine am_ior (q := 91) (am_tab tk_X0_spread 49 rfl) rfl ?_
                      refine am_istore_n (q := 92) (by decide) (ls2 := [(3, am_i ((ao_or (rpE B (dts B) bs s p) (ao_shl 1 (p : Int))))), (7, am_i ((ao_and (T.2.1 20 p) (rpE B (dts B) bs s p)))), (6, am_i ((p : Int))), (5, am_i ((rd : Int))), (4, am_i ((if rpE B (dts B) bs s p = s then 0 else 1))), (0, am_r 44), (1, am_i own), (2, am_i who)]) rfl (am_tab tk_X0_spread 50 rfl) rfl ?_
                      refine am_iconst (q := 93) (n := 1) (by decide) (am_tab tk_X0_spread 51 rfl) rfl ?_
                      refine am_istore (q := 95) (by decide) (ls2 := [(4, am_i 1), (3, am_i ((ao_or (rpE B (dts B) bs s p) (ao_shl 1 (p : Int))))), (7, am_i ((ao_and (T.2.1 20 p) (rpE B (dts B) bs s p)))), (6, am_i ((p : Int))), (5, am_i ((rd : Int))), (0, am_r 44), (1, am_i own), (2, am_i who)]) rfl (am_tab tk_X0_spread 52 rfl) rfl ?_
                      refine am_iinc (q := 98) rfl (by omega) (by decide) (ls2 := [(6, am_i (((p : Int) + 1))), (4, am_i 1), (3, am_i ((ao_or (rpE B (dts B) bs s p) (ao_shl 1 (p : Int))))), (7, am_i ((ao_and (T.2.1 20 p) (rpE B (dts B) bs s p)))), (5, am_i ((rd : Int))), (0, am_r 44), (1, am_i own), (2, am_i who)]) rfl (am_tab tk_X0_spread 53 rfl) rfl ?_
                      refine am_goto (t := 26) (am_tab tk_X0_spread 54 rfl) (by decide) ?_
                      have hg : rgB B (dts B) bs (rpE B (dts B) bs s p) p = true := hgq.mpr ⟨hdw.1, hdw.2, by omega, by have := hrC01; omega⟩
                      have hob := ob_eq (s := (rpE B (dts B) bs s p)) (p := p) hnw (by omega) (by have := tb_01 (rpE B (dts B) bs s p) p; have := hdw.2; omega)
                      have he : rpE B (dts B) bs s (p + 1) = ao_or (rpE B (dts B) bs s p) (ao_shl 1 (p : Int)) := by
                        conv => lhs; unfold rpE
                        rw [if_pos hg, hob.1]
                      have hne : ¬ ao_or (rpE B (dts B) bs s p) (ao_shl 1 (p : Int)) = s := by
                        rw [hob.1]
                        have h3 : (0 : Int) < 2 ^ p := Int.pow_pos (by decide)
                        have h4 := rpE_in (B := B) (ts := dts B) (bs := bs) hs p (by omega)
                        omega
                      exact am_less (by intro q hq; simp only [List.mem_cons, List.not_mem_nil, or_false] at hq; rcases hq with rfl | rfl | rfl | rfl | rfl | rfl | rfl <;> simp [he, hne]) (ih26 (p + 1) T2 (by omega) (hF.trans hFT2) hM2 (by omega))
          refine am_less (by intro q hq; simp only [List.mem_cons, List.not_mem_nil, or_false] at hq; rcases hq with rfl | rfl | rfl | rfl | rfl | rfl | rfl <;> simp [rpE]) (L26 (_ + 1) 0 T0 (by exact Nat.lt_succ_self _) hF0 hM0 (Nat.zero_le _))
  refine am_less (by intro q hq; simp only [List.mem_cons, List.not_mem_nil, or_false] at hq; rcases hq with rfl | rfl | rfl | rfl | rfl | rfl <;> simp) (L8 (_ + 1) 0 σ own 1 (by exact Nat.lt_succ_self _) (by omega) (frw.refl _ σ) hM how (Or.inr rfl) (fun _ => (sb_8 own).1) (fun h => absurd h (by decide)) rfl)
set_option maxRecDepth 100000 in
theorem c_spread_15_37 (σ B : am_H) (hL : lay σ) (hG : GD B) (hD : DWr 15 37 σ B) (own : Int) (who : Int) (bs : Int) (how : 0 ≤ own ∧ own < 256) (hw : 0 ≤ who ∧ who < 256) (hwho : ∀ p : Nat, p < pN B → (tb who p = 1 ↔ ¬ B.2.1 96 (12 + p) = 1 ∧ ¬ tb bs p = 1)) (hM : MEM σ B) : am_met M_X0_spread [am_r 44, am_i own, am_i who] σ (fun r σ' => r = some (am_i (rmE B (dts B) own bs)) ∧ MEM σ' B ∧ frw W_dw σ σ') := by
  refine am_qq (fun Q hQ => ?_)
  refine am_enter (show plainFor yX0_spread = true by decide +kernel) rfl (Nat.le_of_ble_eq_true rfl) (fun _ _ _ => trivial) ?_
  have h8 : pN B ≤ 8 := by have := hG.R.P; unfold pN; omega
  have hPi := hG.R.P
  have hpn : (pN B : Int) = B.2.1 85 5 := by unfold pN; omega
  refine am_iload_n (q := 1) rfl (am_tab tk_X0_spread 0 rfl) rfl ?_
  refine am_istore_n (q := 2) (by decide) (ls2 := [(3, am_i own), (0, am_r 44), (1, am_i own), (2, am_i who)]) rfl (am_tab tk_X0_spread 1 rfl) rfl ?_
  refine am_iconst (q := 3) (n := 1) (by decide) (am_tab tk_X0_spread 2 rfl) rfl ?_
  refine am_istore (q := 5) (by decide) (ls2 := [(4, am_i 1), (3, am_i own), (0, am_r 44), (1, am_i own), (2, am_i who)]) rfl (am_tab tk_X0_spread 3 rfl) rfl ?_
  refine am_iconst (q := 6) (n := 0) (by decide) (am_tab tk_X0_spread 4 rfl) rfl ?_
  refine am_istore (q := 8) (by decide) (ls2 := [(5, am_i 0), (4, am_i 1), (3, am_i own), (0, am_r 44), (1, am_i own), (2, am_i who)]) rfl (am_tab tk_X0_spread 5 rfl) rfl ?_
  have L8 : ∀ (n8 : Nat) (rd : Nat) (T0 : am_H) (s : Int) (m : Int), 9 - rd < n8 → rd ≤ 9 → frw W_dw σ T0 → MEM T0 B → (0 ≤ s ∧ s < 256) → (m = 0 ∨ m = 1) → (m = 1 → (rd : Int) ≤ sb s) → (m = 0 → rpE B (dts B) bs s (pN B) = s) → rmE B (dts B) own bs = rdE B (dts B) bs (256 - rd) s → am_wp M_X0_spread Q 0 0 8 [(5, am_i ((rd : Int))), (4, am_i m), (3, am_i s), (0, am_r 44), (1, am_i own), (2, am_i who)] [] T0 := by
    intro n8
    induction n8 with
    | zero => intro rd T0 s m hn8; exact absurd hn8 (Nat.not_lt_zero _)
    | succ n8 ih8 =>
      intro rd T0 s m hn8 hrd hF0 hM0 hs hm hsb hfx hres
      refine am_iload (q := 10) rfl (am_tab tk_X0_spread 6 rfl) rfl ?_
      refine am_bipush (q := 12) (n := 8) (by decide) rfl (am_tab tk_X0_spread 7 rfl) rfl ?_
      refine am_icmp_gt (q := 15) (t := 107) (am_tab tk_X0_spread 8 rfl) (by decide) rfl (fun h12 => ?_) (fun h12 => ?_)
      · refine am_iload_n (q := 108) rfl (am_tab tk_X0_spread 57 rfl) rfl ?_
        refine am_iret (Or.inl rfl) (Nat.le_of_ble_eq_true rfl) (Nat.le_of_ble_eq_true rfl) (am_tab tk_X0_spread 58 rfl) ?_
        refine hQ _ _ ?_
        have hm0 : m = 0 := by
                                                                                 rcases hm with h | h
                                                                                 · exact h
                                                                                 · have := hsb h; have := sb_8 s; omega
        rw [hres, rdE_fix (hfx hm0)]
        exact ⟨rfl, hM0, hF0⟩
      · refine am_iload (q := 17) rfl (am_tab tk_X0_spread 9 rfl) rfl ?_
        refine am_if_eq (q := 20) (t := 107) (am_tab tk_X0_spread 10 rfl) (by decide) rfl (fun h17 => ?_) (fun h17 => ?_)
        · refine am_iload_n (q := 108) rfl (am_tab tk_X0_spread 57 rfl) rfl ?_
          refine am_iret (Or.inl rfl) (Nat.le_of_ble_eq_true rfl) (Nat.le_of_ble_eq_true rfl) (am_tab tk_X0_spread 58 rfl) ?_
          refine hQ _ _ ?_
          have hm0 : m = 0 := by omega
          rw [hres, rdE_fix (hfx hm0)]
          exact ⟨rfl, hM0, hF0⟩
        · have hm1 : m = 1 := by omega
          refine am_iconst (q := 21) (n := 0) (by decide) (am_tab tk_X0_spread 11 rfl) rfl ?_
          refine am_istore (q := 23) (by decide) (ls2 := [(4, am_i 0), (5, am_i ((rd : Int))), (3, am_i s), (0, am_r 44), (1, am_i own), (2, am_i who)]) rfl (am_tab tk_X0_spread 12 rfl) rfl ?_
          refine am_iconst (q := 24) (n := 0) (by decide) (am_tab tk_X0_spread 13 rfl) rfl ?_
          refine am_istore (q := 26) (by decide) (ls2 := [(6, am_i 0), (4, am_i 0), (5, am_i ((rd : Int))), (3, am_i s), (0, am_r 44), (1, am_i own), (2, am_i who)]) rfl (am_tab tk_X0_spread 14 rfl) rfl ?_
          have L26 : ∀ (n26 : Nat) (p : Nat) (T : am_H), 8 - p < n26 → frw W_dw σ T → MEM T B → p ≤ pN B → am_wp M_X0_spread Q 0 0 26 [(6, am_i ((p : Int))), (5, am_i ((rd : Int))), (4, am_i ((if rpE B (dts B) bs s p = s then 0 else 1))), (3, am_i ((rpE B (dts B) bs s p))), (0, am_r 44), (1, am_i own), (2, am_i who)] [] T := by
            intro n26
            induction n26 with
            | zero => intro p T hn26; exact absurd hn26 (Nat.not_lt_zero _)
            | succ n26 ih26 =>
              intro p T hn26 hF hMT hp
              have hLT : lay T := hF.L hL
              have hDT := hD.fr hF (by decide) (by decide)
              refine am_iload (q := 28) rfl (am_tab tk_X0_spread 15 rfl) rfl ?_
              refine am_aload_n (q := 29) rfl (am_tab tk_X0_spread 16 rfl) rfl ?_
              refine am_getR (q := 32) (a := 44) (k := 0) (n := 14) (j := 8) (r := some (15)) (Ls_44 hLT) (by decide) rfl hDT.1.1 (by decide) (Or.inl kf_X0_24) (am_tab tk_X0_spread 17 rfl) rfl ?_
              refine am_getI (q := 35) (a := 15) (k := 8) (n := 17) (j := 2) (x := (B.2.1 85 5)) (Ls_15 hLT) (by decide) rfl hDT.tw.people (by decide) (Or.inr kf_X0_102) (am_tab tk_X0_spread 18 rfl) rfl ?_
              refine am_icmp_ge (q := 38) (t := 101) (am_tab tk_X0_spread 19 rfl) (by decide) rfl (fun h35 => ?_) (fun h35 => ?_)
              · refine am_iinc (q := 104) rfl (by omega) (by decide) (ls2 := [(5, am_i (((rd : Int) + 1))), (6, am_i ((p : Int))), (4, am_i ((if rpE B (dts B) bs s p = s then 0 else 1))), (3, am_i ((rpE B (dts B) bs s p))), (0, am_r 44), (1, am_i own), (2, am_i who)]) rfl (am_tab tk_X0_spread 55 rfl) rfl ?_
                refine am_goto (t := 8) (am_tab tk_X0_spread 56 rfl) (by decide) ?_
                have ep : p = pN B := by omega
                have hin := rpE_in (B := B) (ts := dts B) (bs := bs) hs p (by omega)
                have hrr : rmE B (dts B) own bs = rdE B (dts B) bs (256 - (rd + 1)) (rpE B (dts B) bs s p) := by
                  rw [hres]
                  by_cases hx : rpE B (dts B) bs s (pN B) = s
                  · rw [ep, hx, rdE_fix hx, rdE_fix hx]
                  · rw [show 256 - rd = (256 - (rd + 1)) + 1 by omega]
                    conv => lhs; unfold rdE
                    rw [if_neg hx, ep]
                exact am_less (by intro q hq; simp only [List.mem_cons, List.not_mem_nil, or_false] at hq; rcases hq with rfl | rfl | rfl | rfl | rfl | rfl <;> simp) (ih8 (rd + 1) T (rpE B (dts B) bs s p) (if rpE B (dts B) bs s p = s then 0 else 1) (by omega) (by omega) hF hMT (by omega) (by split <;> omega) (fun h => by rcases hin.2 with h4 | h4; exact absurd (show (if rpE B (dts B) bs s p = s then (0 : Int) else 1) = 1 from h) (by rw [if_pos h4]; decide); have := hsb hm1; push_cast; omega) (fun h => by have h4 : rpE B (dts B) bs s p = s := Classical.byContradiction (fun hx => absurd (show (if rpE B (dts B) bs s p = s then (0 : Int) else 1) = 0 from h) (by rw [if_neg hx]; decide)); rw [h4, ← ep]; exact h4) hrr)
              · have hpp : p < pN B := by omega
                have hnw : 0 ≤ (rpE B (dts B) bs s p) ∧ (rpE B (dts B) bs s p) < 256 := by have := rpE_in (B := B) (ts := dts B) (bs := bs) hs p (by omega); omega
                refine am_aload_n (q := 39) rfl (am_tab tk_X0_spread 20 rfl) rfl ?_
                refine am_getR (q := 42) (a := 44) (k := 0) (n := 14) (j := 8) (r := some (15)) (Ls_44 hLT) (by decide) rfl hDT.1.1 (by decide) (Or.inl kf_X0_24) (am_tab tk_X0_spread 21 rfl) rfl ?_
                refine am_getR (q := 45) (a := 15) (k := 8) (n := 17) (j := 12) (r := some (20)) (Ls_15 hLT) (by decide) rfl (Lr_15_12 hLT) (by decide) (Or.inr kf_X0_133) (am_tab tk_X0_spread 22 rfl) rfl ?_
                refine am_iload (q := 47) rfl (am_tab tk_X0_spread 23 rfl) rfl ?_
                refine am_iald (q := 48) (a := 20) (n := 8) (x := (T.2.1 20 p)) (Ls_20 hLT) (by omega) (by omega) (by rw [show Int.toNat (p : Int) = p by omega]) (am_tab tk_X0_spread 24 rfl) rfl ?_
                refine am_iload_n (q := 49) rfl (am_tab tk_X0_spread 25 rfl) rfl ?_
                refine am_iand (q := 50) (am_tab tk_X0_spread 26 rfl) rfl ?_
                refine am_istore (q := 52) (by decide) (ls2 := [(7, am_i ((ao_and (T.2.1 20 p) (rpE B (dts B) bs s p)))), (6, am_i ((p : Int))), (5, am_i ((rd : Int))), (4, am_i ((if rpE B (dts B) bs s p = s then 0 else 1))), (3, am_i ((rpE B (dts B) bs s p))), (0, am_r 44), (1, am_i own), (2, am_i who)]) rfl (am_tab tk_X0_spread 27 rfl) rfl ?_
                have hrb := hDT.tw.rby p hpp
                have htz : tz (ao_and (T.2.1 20 p) (rpE B (dts B) bs s p)) = rqM B p (rpE B (dts B) bs s p) := rq_tz h8 hrb.1 hnw hrb.2
                have hbr : 0 ≤ (ao_and (T.2.1 20 p) (rpE B (dts B) bs s p)) ∧ (ao_and (T.2.1 20 p) (rpE B (dts B) bs s p)) < 256 := (and_tb hrb.1 hnw).1
                have htz0 := tz_0 hbr
                have hqr : rqM B p (rpE B (dts B) bs s p) = -1 ∨ (0 ≤ rqM B p (rpE B (dts B) bs s p) ∧ rqM B p (rpE B (dts B) bs s p) < (pN B : Int)) := firstQ_rng _
                have hgq := rgB_q (set := (rpE B (dts B) bs s p)) (hwho p hpp)
                have hdf := (dif_tb hw hnw).2 p (by omega)
                have hdfr := (dif_tb hw hnw).1
                refine am_iload (q := 54) rfl (am_tab tk_X0_spread 28 rfl) rfl ?_
                refine am_if_eq (q := 57) (t := 95) (am_tab tk_X0_spread 29 rfl) (by decide) rfl (fun h54 => ?_) (fun h54 => ?_)
                · refine am_iinc (q := 98) rfl (by omega) (by decide) (ls2 := [(6, am_i (((p : Int) + 1))), (7, am_i ((ao_and (T.2.1 20 p) (rpE B (dts B) bs s p)))), (5, am_i ((rd : Int))), (4, am_i ((if rpE B (dts B) bs s p = s then 0 else 1))), (3, am_i ((rpE B (dts B) bs s p))), (0, am_r 44), (1, am_i own), (2, am_i who)]) rfl (am_tab tk_X0_spread 53 rfl) rfl ?_
                  refine am_goto (t := 26) (am_tab tk_X0_spread 54 rfl) (by decide) ?_
                  have hg : ¬ rgB B (dts B) bs (rpE B (dts B) bs s p) p = true := fun hh => by
                    have h := hgq.mp hh
                    exact absurd ((htz.symm.trans (htz0.mp h54))) h.2.2.1
                  have he : rpE B (dts B) bs s (p + 1) = (rpE B (dts B) bs s p) := by
                    conv => lhs; unfold rpE
                    rw [if_neg hg]
                  have hne : True := trivial
                  exact am_less (by intro q hq; simp only [List.mem_cons, List.not_mem_nil, or_false] at hq; rcases hq with rfl | rfl | rfl | rfl | rfl | rfl | rfl <;> simp [he, hne]) (ih26 (p + 1) T (by omega) hF hMT (by omega))
                · refine am_iload_n (q := 58) rfl (am_tab tk_X0_spread 30 rfl) rfl ?_
                  refine am_iload_n (q := 59) rfl (am_tab tk_X0_spread 31 rfl) rfl ?_
                  refine am_iconst (q := 60) (n := (-1)) (by decide) (am_tab tk_X0_spread 32 rfl) rfl ?_
                  refine am_ixor (q := 61) (am_tab tk_X0_spread 33 rfl) rfl ?_
                  refine am_iand (q := 62) (am_tab tk_X0_spread 34 rfl) rfl ?_
                  refine am_iload (q := 64) rfl (am_tab tk_X0_spread 35 rfl) rfl ?_
                  refine am_callS0 (q := 67) (me2 := M_X9_bit) (As := [am_i ((ao_and who (ao_xor (rpE B (dts B) bs s p) (-1)))), am_i ((p : Int))]) (rest := []) (out := [am_i (tb (ao_and who (ao_xor (rpE B (dts B) bs s p) (-1))) (p : Int))]) (c_bit T (ao_and who (ao_xor (rpE B (dts B) bs s p) (-1))) (p : Int) hdfr (by omega)) ⟨rfl, rfl⟩ ⟨Or.inr km_X0_105, kc_X9_bit, kn_X9, kd_X9_bit, ⟨(Nat.le_of_ble_eq_true rfl), (Nat.le_of_ble_eq_true rfl)⟩, ⟨(Nat.le_of_ble_eq_true rfl), (Nat.le_of_ble_eq_true rfl)⟩, (Nat.le_of_ble_eq_true rfl)⟩ ki_X9_bit rfl rfl (am_tab tk_X0_spread 36 rfl) rfl ?_
                  refine am_iconst (q := 68) (n := 1) (by decide) (am_tab tk_X0_spread 37 rfl) rfl ?_
                  refine am_icmp_ne (q := 71) (t := 95) (am_tab tk_X0_spread 38 rfl) (by decide) rfl (fun h68 => ?_) (fun h68 => ?_)
                  · refine am_iinc (q := 98) rfl (by omega) (by decide) (ls2 := [(6, am_i (((p : Int) + 1))), (7, am_i ((ao_and (T.2.1 20 p) (rpE B (dts B) bs s p)))), (5, am_i ((rd : Int))), (4, am_i ((if rpE B (dts B) bs s p = s then 0 else 1))), (3, am_i ((rpE B (dts B) bs s p))), (0, am_r 44), (1, am_i own), (2, am_i who)]) rfl (am_tab tk_X0_spread 53 rfl) rfl ?_
                    refine am_goto (t := 26) (am_tab tk_X0_spread 54 rfl) (by decide) ?_
                    have hg : ¬ rgB B (dts B) bs (rpE B (dts B) bs s p) p = true := fun hh => by
                      have h := hgq.mp hh
                      exact h68 (by rw [hdf, if_pos ⟨h.1, h.2.1⟩])
                    have he : rpE B (dts B) bs s (p + 1) = (rpE B (dts B) bs s p) := by
                      conv => lhs; unfold rpE
                      rw [if_neg hg]
                    have hne : True := trivial
                    exact am_less (by intro q hq; simp only [List.mem_cons, List.not_mem_nil, or_false] at hq; rcases hq with rfl | rfl | rfl | rfl | rfl | rfl | rfl <;> simp [he, hne]) (ih26 (p + 1) T (by omega) hF hMT (by omega))
                  · have hdw : tb who p = 1 ∧ ¬ tb (rpE B (dts B) bs s p) p = 1 := by
                      by_cases hx : tb who p = 1 ∧ ¬ tb (rpE B (dts B) bs s p) p = 1
                      · exact hx
                      · rw [if_neg hx] at hdf; omega
                    have hq0 : ¬ rqM B p (rpE B (dts B) bs s p) = -1 := fun h => h54 (htz0.mpr (htz.trans h))
                    have hrC01 : hrC B p (rqM B p (rpE B (dts B) bs s p)).toNat = 0 ∨ hrC B p (rqM B p (rpE B (dts B) bs s p)).toNat = 1 := by
                      unfold hrC
                      split
                      · exact Or.inr rfl
                      · rename_i hrl
                        exact hrV_01 hG hrl (by omega) (by omega)
                    refine am_aload_n (q := 72) rfl (am_tab tk_X0_spread 39 rfl) rfl ?_
                    refine am_iload (q := 74) rfl (am_tab tk_X0_spread 40 rfl) rfl ?_
                    refine am_iload (q := 76) rfl (am_tab tk_X0_spread 41 rfl) rfl ?_
                    refine am_callSr (q := 79) (me2 := M_J6_numberOfTrailingZeros_0f7a4) (As := [am_i ((ao_and (T.2.1 20 p) (rpE B (dts B) bs s p)))]) (rest := [am_i ((p : Int)), am_r 44]) (c_tz T (ao_and (T.2.1 20 p) (rpE B (dts B) bs s p)) (by omega)) ⟨rfl, rfl⟩ ⟨Or.inl km_X0_136, kc_J6_numberOfTrailingZeros_0f7a4, kn_J6, kd_J6_numberOfTrailingZeros_0f7a4, ⟨(Nat.le_of_ble_eq_true rfl), (Nat.le_of_ble_eq_true rfl)⟩, ⟨(Nat.le_of_ble_eq_true rfl), (Nat.le_of_ble_eq_true rfl)⟩, (Nat.le_of_ble_eq_true rfl)⟩ ki_J6_numberOfTrailingZeros_0f7a4 rfl (am_tab tk_X0_spread 42 rfl) rfl ?_
                    rintro r τ ⟨hr9, hτ⟩
                    rw [htz, show rqM B p (rpE B (dts B) bs s p) = ((rqM B p (rpE B (dts B) bs s p)).toNat : Int) by omega] at hr9
                    rw [hr9, hτ]
                    refine am_st (st2 := [am_i (((rqM B p (rpE B (dts B) bs s p)).toNat : Int)), am_i ((p : Int)), am_r 44]) rfl ?_
                    refine am_callVr (q := 82) (me2 := M_X0_wouldHear) (b := 44) (kb := 0) (nb := 14) (As := [am_i ((p : Int)), am_i (((rqM B p (rpE B (dts B) bs s p)).toNat : Int))]) (rest := []) (c_wouldHear_15_37 T B hLT hG hDT p (rqM B p (rpE B (dts B) bs s p)).toNat hMT hpp (by omega)) ⟨rfl, rfl⟩ (Ls_44 hLT) (by decide) ⟨Or.inl km_X0_142, kc_X0_wouldHear, kn_X0, kd_X0_wouldHear, ⟨(Nat.le_of_ble_eq_true rfl), (Nat.le_of_ble_eq_true rfl)⟩, ⟨(Nat.le_of_ble_eq_true rfl), (Nat.le_of_ble_eq_true rfl)⟩, (Nat.le_of_ble_eq_true rfl)⟩ ki_X0_wouldHear ks_X0_wouldHear rfl (am_tab tk_X0_spread 43 rfl) rfl ?_
                    rintro r T2 ⟨rfl, hM2, hFT2⟩
                    refine am_st (st2 := [am_i (hrC B p (rqM B p (rpE B (dts B) bs s p)).toNat)]) rfl ?_
                    refine am_if_eq (q := 85) (t := 95) (am_tab tk_X0_spread 44 rfl) (by decide) rfl (fun h82 => ?_) (fun h82 => ?_)
                    · refine am_iinc (q := 98) rfl (by omega) (by decide) (ls2 := [(6, am_i (((p : Int) + 1))), (7, am_i ((ao_and (T.2.1 20 p) (rpE B (dts B) bs s p)))), (5, am_i ((rd : Int))), (4, am_i ((if rpE B (dts B) bs s p = s then 0 else 1))), (3, am_i ((rpE B (dts B) bs s p))), (0, am_r 44), (1, am_i own), (2, am_i who)]) rfl (am_tab tk_X0_spread 53 rfl) rfl ?_
                      refine am_goto (t := 26) (am_tab tk_X0_spread 54 rfl) (by decide) ?_
                      have hg : ¬ rgB B (dts B) bs (rpE B (dts B) bs s p) p = true := fun hh => by
                        have h := hgq.mp hh
                        exact absurd (h.2.2.2.symm.trans h82) (by decide)
                      have he : rpE B (dts B) bs s (p + 1) = (rpE B (dts B) bs s p) := by
                        conv => lhs; unfold rpE
                        rw [if_neg hg]
                      have hne : True := trivial
                      exact am_less (by intro q hq; simp only [List.mem_cons, List.not_mem_nil, or_false] at hq; rcases hq with rfl | rfl | rfl | rfl | rfl | rfl | rfl <;> simp [he, hne]) (ih26 (p + 1) T2 (by omega) (hF.trans hFT2) hM2 (by omega))
                    · refine am_iload_n (q := 86) rfl (am_tab tk_X0_spread 45 rfl) rfl ?_
                      refine am_iconst (q := 87) (n := 1) (by decide) (am_tab tk_X0_spread 46 rfl) rfl ?_
                      refine am_iload (q := 89) rfl (am_tab tk_X0_spread 47 rfl) rfl ?_
                      refine am_ishl (q := 90) (am_tab tk_X0_spread 48 rfl) rfl ?_
                      refine am_ior (q := 91) (am_tab tk_X0_spread 49 rfl) rfl ?_
                      refine am_istore_n (q := 92) (by decide) (ls2 := [(3, am_i ((ao_or (rpE B (dts B) bs s p) (ao_shl 1 (p : Int))))), (7, am_i ((ao_and (T.2.1 20 p) (rpE B (dts B) bs s p)))), (6, am_i ((p : Int))), (5, am_i ((rd : Int))), (4, am_i ((if rpE B (dts B) bs s p = s then 0 else 1))), (0, am_r 44), (1, am_i own), (2, am_i who)]) rfl (am_tab tk_X0_spread 50 rfl) rfl ?_
                      refine am_iconst (q := 93) (n := 1) (by decide) (am_tab tk_X0_spread 51 rfl) rfl ?_
                      refine am_istore (q := 95) (by decide) (ls2 := [(4, am_i 1), (3, am_i ((ao_or (rpE B (dts B) bs s p) (ao_shl 1 (p : Int))))), (7, am_i ((ao_and (T.2.1 20 p) (rpE B (dts B) bs s p)))), (6, am_i ((p : Int))), (5, am_i ((rd : Int))), (0, am_r 44), (1, am_i own), (2, am_i who)]) rfl (am_tab tk_X0_spread 52 rfl) rfl ?_
                      refine am_iinc (q := 98) rfl (by omega) (by decide) (ls2 := [(6, am_i (((p : Int) + 1))), (4, am_i 1), (3, am_i ((ao_or (rpE B (dts B) bs s p) (ao_shl 1 (p : Int))))), (7, am_i ((ao_and (T.2.1 20 p) (rpE B (dts B) bs s p)))), (5, am_i ((rd : Int))), (0, am_r 44), (1, am_i own), (2, am_i who)]) rfl (am_tab tk_X0_spread 53 rfl) rfl ?_
                      refine am_goto (t := 26) (am_tab tk_X0_spread 54 rfl) (by decide) ?_
                      have hg : rgB B (dts B) bs (rpE B (dts B) bs s p) p = true := hgq.mpr ⟨hdw.1, hdw.2, by omega, by have := hrC01; omega⟩
                      have hob := ob_eq (s := (rpE B (dts B) bs s p)) (p := p) hnw (by omega) (by have := tb_01 (rpE B (dts B) bs s p) p; have := hdw.2; omega)
                      have he : rpE B (dts B) bs s (p + 1) = ao_or (rpE B (dts B) bs s p) (ao_shl 1 (p : Int)) := by
                        conv => lhs; unfold rpE
                        rw [if_pos hg, hob.1]
                      have hne : ¬ ao_or (rpE B (dts B) bs s p) (ao_shl 1 (p : Int)) = s := by
                        rw [hob.1]
                        have h3 : (0 : Int) < 2 ^ p := Int.pow_pos (by decide)
                        have h4 := rpE_in (B := B) (ts := dts B) (bs := bs) hs p (by omega)
                        omega
                      exact am_less (by intro q hq; simp only [List.mem_cons, List.not_mem_nil, or_false] at hq; rcases hq with rfl | rfl | rfl | rfl | rfl | rfl | rfl <;> simp [he, hne]) (ih26 (p + 1) T2 (by omega) (hF.trans hFT2) hM2 (by omega))
          refine am_less (by intro q hq; simp only [List.mem_cons, List.not_mem_nil, or_false] at hq; rcases hq with rfl | rfl | rfl | rfl | rfl | rfl | rfl <;> simp [rpE]) (L26 (_ + 1) 0 T0 (by exact Nat.lt_succ_self _) hF0 hM0 (Nat.zero_le _))
  refine am_less (by intro q hq; simp only [List.mem_cons, List.not_mem_nil, or_false] at hq; rcases hq with rfl | rfl | rfl | rfl | rfl | rfl <;> simp) (L8 (_ + 1) 0 σ own 1 (by exact Nat.lt_succ_self _) (by omega) (frw.refl _ σ) hM how (Or.inr rfl) (fun _ => (sb_8 own).1) (fun h => absurd h (by decide)) rfl)
