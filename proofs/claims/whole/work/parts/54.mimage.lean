def W_im (a j : Nat) : Prop := a = 130 ∨ (a = 55 ∧ j = 107)
/-- these bytes have been written -/
def IM (σ : am_H) (l : List Int) (S : am_H) : Prop := frw W_im σ S ∧ S.2.1 55 107 = (l.length : Int) ∧ (∀ i, i < l.length → S.2.1 130 i = l.getD i 0) ∧ (∀ x ∈ l, 0 ≤ x ∧ x ≤ 255)
theorem gd_app (l : List Int) (v : Int) (i : Nat) (h : i < l.length + 1) : (l ++ [v]).getD i 0 = if i = l.length then v else l.getD i 0 := by
  simp only [List.getD_eq_getElem?_getD]
  by_cases hi : i = l.length
  · subst hi
    simp
  · rw [if_neg hi, List.getElem?_append_left (by omega)]
theorem IM.L {σ S : am_H} {l : List Int} (h : IM σ l S) (hL : lay σ) : lay S := h.1.L hL
theorem c_X10_writes (σ : am_H) (hL0 : lay σ) (l : List Int) (S : am_H) (hI : IM σ l S) (v : Int) (hv : 0 ≤ v ∧ v ≤ 255) (hl : l.length < 146) : am_met M_X10_writes [am_r 55, am_i v] S (fun r σ' => r = none ∧ IM σ (l ++ [v]) σ') := by
  refine am_qq (fun Q hQ => ?_)
  refine am_enter (show plainFor yX10_writes = true by decide +kernel) rfl (Nat.le_of_ble_eq_true rfl) (fun _ _ _ => trivial) ?_
  have hL := hI.L hL0
  refine am_aload_n (q := 1) rfl (am_tab tk_X10_writes 0 rfl) rfl ?_
  refine am_getR (q := 4) (a := 55) (k := 10) (n := 108) (j := 106) (r := some (130)) (Ls_55 hL) (by decide) rfl (Lr_55_106 hL) (by decide) (Or.inl kf_X10_242) (am_tab tk_X10_writes 1 rfl) rfl ?_
  refine am_aload_n (q := 5) rfl (am_tab tk_X10_writes 2 rfl) rfl ?_
  refine am_getI (q := 8) (a := 55) (k := 10) (n := 108) (j := 107) (x := ((l).length : Int)) (Ls_55 hL) (by decide) rfl hI.2.1 (by decide) (Or.inl kf_X10_679) (am_tab tk_X10_writes 3 rfl) rfl ?_
  refine am_iload_n (q := 9) rfl (am_tab tk_X10_writes 4 rfl) rfl ?_
  refine am_iast (q := 10) (a := 130) (n := 146) (Ls_130 hL) (by omega) (by omega) (am_tab tk_X10_writes 5 rfl) rfl ?_
  refine am_aload_n (q := 11) rfl (am_tab tk_X10_writes 6 rfl) rfl ?_
  refine am_dup (q := 12) rfl (am_tab tk_X10_writes 7 rfl) rfl ?_
  refine am_getI (q := 15) (a := 55) (k := 10) (n := 108) (j := 107) (x := ((l).length : Int)) (Ls_55 hL) (by decide) rfl hI.2.1 (by decide) (Or.inl kf_X10_679) (am_tab tk_X10_writes 8 rfl) rfl ?_
  refine am_iconst (q := 16) (n := 1) (by decide) (am_tab tk_X10_writes 9 rfl) rfl ?_
  refine am_iadd (q := 17) (by omega) (am_tab tk_X10_writes 10 rfl) rfl ?_
  refine am_putI (q := 20) (k := 10) (n := 108) (j := 107) (Ls_55 hL) (by decide) rfl (by decide) (Or.inl ⟨kf_X10_679, rfl⟩) (am_tab tk_X10_writes 11 rfl) rfl ?_
  refine am_vret rfl (Nat.le_of_ble_eq_true rfl) (Nat.le_of_ble_eq_true rfl) (am_tab tk_X10_writes 12 rfl) ?_
  refine hQ _ _ ?_
  refine ⟨rfl, (hI.1.setN (by unfold W_im; omega)).setN (by unfold W_im; omega), ?_, ?_, ?_⟩
  · show (l.length : Int) + 1 = _; rw [List.length_append]; simp
  · intro i hi
    rw [List.length_append] at hi
    rw [gd_app l v i hi]
    show (if 130 = 130 ∧ i = Int.toNat (l.length : Int) then v else S.2.1 130 i) = _
    rw [show Int.toNat (l.length : Int) = l.length by omega]
    by_cases hk : i = l.length
    · rw [if_pos ⟨rfl, hk⟩, if_pos hk]
    · rw [if_neg (fun hc => hk hc.2), if_neg hk]
      have h9 : [v].length = 1 := rfl
      exact hI.2.2.1 i (by omega)
  · intro x hx
    rcases List.mem_append.mp hx with h | h
    · exact hI.2.2.2 x h
    · rw [List.mem_singleton.mp h]; exact hv
def pL (x d : Int) : Nat → List Int
  | 0 => []
  | p + 1 => if tb x p = 1 then pL x d p ++ [d, (p : Int)] else pL x d p
def dL (g : Nat → Int) : Nat → List Int
  | 0 => []
  | d + 1 => dL g d ++ pL (g (d + 1)) ((d + 1 : Nat) : Int) 8
theorem pL_len (x d : Int) : ∀ p, ((pL x d p).length : Int) = 2 * sumN (fun q => tb x q) p
  | 0 => rfl
  | p + 1 => by
    have ih := pL_len x d p
    have h01 := tb_01 x p
    have e : sumN (fun q : Nat => tb x q) (p + 1) = sumN (fun q : Nat => tb x q) p + tb x p := rfl
    unfold pL
    split
    · rw [List.length_append]
      have h9 : [d, (p : Int)].length = 2 := rfl
      omega
    · omega
theorem sumN_mono {g : Nat → Int} (h : ∀ i, 0 ≤ g i) {m n : Nat} (hmn : m ≤ n) : sumN g m ≤ sumN g n := by
  induction n with
  | zero => rw [show m = 0 by omega]; exact Int.le_refl _
  | succ n ih =>
    by_cases he : m = n + 1
    · rw [he]; exact Int.le_refl _
    · have h1 := ih (by omega)
      have h2 := h n
      have e : sumN g (n + 1) = sumN g n + g n := rfl
      omega
theorem bc_tb_all : (List.range 256).all (fun s => decide (sumN (fun q => tb (s : Nat) q) 8 = bc (s : Nat))) = true := by decide +kernel
theorem bc_tb {s : Int} (hs : 0 ≤ s ∧ s < 256) : sumN (fun q => tb s q) 8 = bc s := by
  obtain ⟨a, rfl⟩ := toN hs.1
  exact of_decide_eq_true (List.all_eq_true.mp bc_tb_all a (List.mem_range.mpr (by omega)))
theorem dL_len {g : Nat → Int} (hg : ∀ d, d < 91 → 0 ≤ g d ∧ g d < 256) : ∀ d, d ≤ 90 → ((dL g d).length : Int) = 2 * sumN (fun k => bc (g (k + 1))) d
  | 0, _ => rfl
  | d + 1, h => by
    have ih := dL_len hg d (by omega)
    have h1 := pL_len (g (d + 1)) ((d + 1 : Nat) : Int) 8
    rw [bc_tb (hg (d + 1) (by omega))] at h1
    have e : sumN (fun k => bc (g (k + 1))) (d + 1) = sumN (fun k => bc (g (k + 1))) d + bc (g (d + 1)) := rfl
    unfold dL
    rw [List.length_append]
    omega
theorem c_setsOf2 (σ : am_H) (f : Nat) (hf : f ≤ 111) (hb : ∀ d, d < 91 → 0 ≤ σ.2.1 96 (f + d) ∧ σ.2.1 96 (f + d) < 256) (hL : lay σ) (l : List Int) (S : am_H) (hI : IM σ l S) : am_met M_X10_setsOf [am_r 55, am_i (f : Int)] S (fun r τ => r = some (am_i (stM σ f)) ∧ τ = S) := by
  have e : ∀ j, S.2.1 96 j = σ.2.1 96 j := fun j => hI.1.2.2 96 j (by unfold W_im; omega)
  have h := c_X10_setsOf S (hI.L hL) f hf (fun d hd => by rw [e, show f + 1 + d = f + (d + 1) by omega]; exact hb (d + 1) (by omega))
  simp only [e] at h
  exact h
theorem c_X10_writesSets (σ : am_H) (hL0 : lay σ) (l : List Int) (S : am_H) (hI : IM σ l S) (f : Nat) (hf : f ≤ 111) (hb : ∀ d, d < 91 → 0 ≤ σ.2.1 96 (f + d) ∧ σ.2.1 96 (f + d) < 256) (hm : 0 ≤ stM σ f ∧ stM σ f ≤ 30) (hl : l.length + 61 ≤ 146) : am_met M_X10_writesSets [am_r 55, am_i ((f : Int))] S (fun r σ' => r = none ∧ IM σ (l ++ [stM σ f] ++ dL (fun d => σ.2.1 96 (f + d)) 90) σ') := by
  refine am_qq (fun Q hQ => ?_)
  refine am_enter (show plainFor yX10_writesSets = true by decide +kernel) rfl (Nat.le_of_ble_eq_true rfl) (fun _ _ _ => trivial) ?_
  have hL := hL0
  have hLS := hI.L hL0
  refine am_aload_n (q := 1) rfl (am_tab tk_X10_writesSets 0 rfl) rfl ?_
  refine am_aload_n (q := 2) rfl (am_tab tk_X10_writesSets 1 rfl) rfl ?_
  refine am_iload_n (q := 3) rfl (am_tab tk_X10_writesSets 2 rfl) rfl ?_
  refine am_callV0 (q := 6) (me2 := M_X10_setsOf) (b := 55) (kb := 10) (nb := 108) (As := [am_i ((f : Int))]) (rest := [am_r 55]) (out := [am_i (stM σ f), am_r 55]) (c_setsOf2 σ f hf hb hL0 l S hI) ⟨rfl, rfl⟩ (Ls_55 hLS) (by decide) ⟨Or.inl km_X10_487, kc_X10_setsOf, kn_X10, kd_X10_setsOf, ⟨(Nat.le_of_ble_eq_true rfl), (Nat.le_of_ble_eq_true rfl)⟩, ⟨(Nat.le_of_ble_eq_true rfl), (Nat.le_of_ble_eq_true rfl)⟩, (Nat.le_of_ble_eq_true rfl)⟩ ki_X10_setsOf ks_X10_setsOf rfl rfl (am_tab tk_X10_writesSets 3 rfl) rfl ?_
  refine am_callVr (q := 9) (me2 := M_X10_writes) (b := 55) (kb := 10) (nb := 108) (As := [am_i (stM σ f)]) (rest := []) (c_X10_writes σ hL (l) S hI (stM σ f) (by omega) (by omega)) ⟨rfl, rfl⟩ (Ls_55 hLS) (by decide) ⟨Or.inl km_X10_682, kc_X10_writes, kn_X10, kd_X10_writes, ⟨(Nat.le_of_ble_eq_true rfl), (Nat.le_of_ble_eq_true rfl)⟩, ⟨(Nat.le_of_ble_eq_true rfl), (Nat.le_of_ble_eq_true rfl)⟩, (Nat.le_of_ble_eq_true rfl)⟩ ki_X10_writes ks_X10_writes rfl (am_tab tk_X10_writesSets 4 rfl) rfl ?_
  rintro r I6 ⟨rfl, hI6⟩
  refine am_st (st2 := []) rfl ?_
  refine am_iconst (q := 10) (n := 1) (by decide) (am_tab tk_X10_writesSets 5 rfl) rfl ?_
  refine am_istore_n (q := 11) (by decide) (ls2 := [(2, am_i 1), (0, am_r 55), (1, am_i ((f : Int)))]) rfl (am_tab tk_X10_writesSets 6 rfl) rfl ?_
  have L11 : ∀ (n11 : Nat) (i : Nat) (S5 : am_H), 90 - i < n11 → i ≤ 90 → IM σ ((l ++ [stM σ f]) ++ dL (fun d => σ.2.1 96 (f + d)) i) S5 → am_wp M_X10_writesSets Q 0 0 11 [(2, am_i (((i : Int) + 1))), (0, am_r 55), (1, am_i ((f : Int)))] [] S5 := by
    intro n11
    induction n11 with
    | zero => intro i S5 hn11; exact absurd hn11 (Nat.not_lt_zero _)
    | succ n11 ih11 =>
      intro i S5 hn11 hi hI5
      refine am_iload_n (q := 12) rfl (am_tab tk_X10_writesSets 7 rfl) rfl ?_
      refine am_bipush (q := 14) (n := 90) (by decide) rfl (am_tab tk_X10_writesSets 8 rfl) rfl ?_
      refine am_icmp_gt (q := 17) (t := 63) (am_tab tk_X10_writesSets 9 rfl) (by decide) rfl (fun h14 => ?_) (fun h14 => ?_)
      · refine am_vret rfl (Nat.le_of_ble_eq_true rfl) (Nat.le_of_ble_eq_true rfl) (am_tab tk_X10_writesSets 37 rfl) ?_
        refine hQ _ _ ?_
        rw [show i = 90 by omega] at hI5
        exact ⟨rfl, hI5⟩
      · refine am_iconst (q := 18) (n := 0) (by decide) (am_tab tk_X10_writesSets 10 rfl) rfl ?_
        refine am_istore_n (q := 19) (by decide) (ls2 := [(3, am_i 0), (2, am_i (((i : Int) + 1))), (0, am_r 55), (1, am_i ((f : Int)))]) rfl (am_tab tk_X10_writesSets 11 rfl) rfl ?_
        have L19 : ∀ (n19 : Nat) (j : Nat) (S6 : am_H), 8 - j < n19 → j ≤ 8 → IM σ ((l ++ [stM σ f]) ++ dL (fun d => σ.2.1 96 (f + d)) i ++ pL (σ.2.1 96 (f + (i + 1))) ((i : Int) + 1) j) S6 → am_wp M_X10_writesSets Q 0 0 19 [(3, am_i ((j : Int))), (2, am_i (((i : Int) + 1))), (0, am_r 55), (1, am_i ((f : Int)))] [] S6 := by
          intro n19
          induction n19 with
          | zero => intro j S6 hn19; exact absurd hn19 (Nat.not_lt_zero _)
          | succ n19 ih19 =>
            intro j S6 hn19 hj hI6
            have hx8 := hb (i + 1) (by omega)
            have hlen : tb (σ.2.1 96 (f + (i + 1))) j = 1 → j < 8 → ((((l ++ [stM σ f]) ++ dL (fun d => σ.2.1 96 (f + d)) i ++ pL (σ.2.1 96 (f + (i + 1))) ((i : Int) + 1) j).length : Int) + 2 ≤ l.length + 61) := by
              intro h1 h2
              have a1 := dL_len (g := (fun d => σ.2.1 96 (f + d))) hb i (by omega)
              have a2 := pL_len (σ.2.1 96 (f + (i + 1))) ((i : Int) + 1) j
              have a3 : sumN (fun q : Nat => tb (σ.2.1 96 (f + (i + 1))) q) (j + 1) ≤ sumN (fun q : Nat => tb (σ.2.1 96 (f + (i + 1))) q) 8 := sumN_mono (fun q => by have := tb_01 (σ.2.1 96 (f + (i + 1))) q; omega) (by omega)
              rw [bc_tb hx8] at a3
              have a4 : sumN (fun q : Nat => tb (σ.2.1 96 (f + (i + 1))) q) (j + 1) = sumN (fun q : Nat => tb (σ.2.1 96 (f + (i + 1))) q) j + tb (σ.2.1 96 (f + (i + 1))) j := rfl
              have a5 : sumN (fun k => bc (σ.2.1 96 (f + (k + 1)))) (i + 1) = sumN (fun k => bc (σ.2.1 96 (f + (k + 1)))) i + bc (σ.2.1 96 (f + (i + 1))) := rfl
              have a6 : sumN (fun k => if k < 90 then bc (σ.2.1 96 (f + (k + 1))) else 0) (i + 1) ≤ sumN (fun k => if k < 90 then bc (σ.2.1 96 (f + (k + 1))) else 0) 90 := sumN_mono (fun k => by
                by_cases hk : k < 90
                · rw [if_pos hk]; exact (bits_get (hb (k + 1) (by omega))).2.2.1
                · rw [if_neg hk]; exact Int.le_refl _) (by omega)
              have a7 : ∀ n, n ≤ 90 → sumN (fun k => if k < 90 then bc (σ.2.1 96 (f + (k + 1))) else 0) n = sumN (fun k => bc (σ.2.1 96 (f + (k + 1)))) n := by
                intro n
                induction n with
                | zero => intro _; rfl
                | succ n ihn =>
                  intro hn
                  have e := ihn (by omega)
                  show sumN _ n + (if n < 90 then bc (σ.2.1 96 (f + (n + 1))) else 0) = sumN _ n + bc (σ.2.1 96 (f + (n + 1)))
                  rw [if_pos (by omega), e]
              rw [a7 (i + 1) (by omega), a7 90 (by omega)] at a6
              have a8 : stM σ f = sumN (fun k => bc (σ.2.1 96 (f + (k + 1)))) 90 := by
                unfold stM
                congr 1
                funext k
                rw [show f + 1 + k = f + (k + 1) by omega]
              simp only [List.length_append, List.length_cons, List.length_nil]
              omega
            refine am_iload_n (q := 20) rfl (am_tab tk_X10_writesSets 12 rfl) rfl ?_
            refine am_bipush (q := 22) (n := 8) (by decide) rfl (am_tab tk_X10_writesSets 13 rfl) rfl ?_
            refine am_icmp_ge (q := 25) (t := 57) (am_tab tk_X10_writesSets 14 rfl) (by decide) rfl (fun h22 => ?_) (fun h22 => ?_)
            · refine am_iinc (q := 60) rfl (by omega) (by decide) (ls2 := [(2, am_i ((((i : Int) + 1) + 1))), (3, am_i ((j : Int))), (0, am_r 55), (1, am_i ((f : Int)))]) rfl (am_tab tk_X10_writesSets 35 rfl) rfl ?_
              refine am_goto (t := 11) (am_tab tk_X10_writesSets 36 rfl) (by decide) ?_
              have hdl : (l ++ [stM σ f]) ++ dL (fun d => σ.2.1 96 (f + d)) (i + 1) = (l ++ [stM σ f]) ++ dL (fun d => σ.2.1 96 (f + d)) i ++ pL (σ.2.1 96 (f + (i + 1))) ((i : Int) + 1) 8 := by
                show _ ++ (dL (fun d => σ.2.1 96 (f + d)) i ++ pL (σ.2.1 96 (f + (i + 1))) ((i + 1 : Nat) : Int) 8) = _
                rw [← List.append_assoc]; rfl
              have ej : j = 8 := by omega
              rw [ej] at hI6
              exact am_less (by intro q hq; simp only [List.mem_cons, List.not_mem_nil, or_false] at hq; rcases hq with rfl | rfl | rfl <;> simp) (ih11 (i + 1) S6 (by omega) (by omega) (by rw [hdl]; exact hI6))
            · refine am_aload_n (q := 26) rfl (am_tab tk_X10_writesSets 15 rfl) rfl ?_
              refine am_getR (q := 29) (a := 55) (k := 10) (n := 108) (j := 54) (r := some (96)) (Ls_55 (hI6.L hL)) (by decide) rfl (Lr_55_54 (hI6.L hL)) (by decide) (Or.inl kf_X10_136) (am_tab tk_X10_writesSets 16 rfl) rfl ?_
              refine am_iload_n (q := 30) rfl (am_tab tk_X10_writesSets 17 rfl) rfl ?_
              refine am_iload_n (q := 31) rfl (am_tab tk_X10_writesSets 18 rfl) rfl ?_
              refine am_iadd (q := 32) (by omega) (am_tab tk_X10_writesSets 19 rfl) rfl ?_
              refine am_iald (q := 33) (a := 96) (n := 443) (x := (σ.2.1 96 (f + (i + 1)))) (Ls_96 (hI6.L hL)) (by omega) (by omega) (by rw [show Int.toNat ((f : Int) + ((i : Int) + 1)) = f + (i + 1) by omega]; exact hI6.1.2.2 96 _ (by unfold W_im; omega)) (am_tab tk_X10_writesSets 20 rfl) rfl ?_
              refine am_iload_n (q := 34) rfl (am_tab tk_X10_writesSets 21 rfl) rfl ?_
              refine am_ishr (q := 35) (am_tab tk_X10_writesSets 22 rfl) rfl ?_
              refine am_iconst (q := 36) (n := 1) (by decide) (am_tab tk_X10_writesSets 23 rfl) rfl ?_
              refine am_iand (q := 37) (am_tab tk_X10_writesSets 24 rfl) rfl ?_
              refine am_iconst (q := 38) (n := 1) (by decide) (am_tab tk_X10_writesSets 25 rfl) rfl ?_
              refine am_icmp_ne (q := 41) (t := 51) (am_tab tk_X10_writesSets 26 rfl) (by decide) rfl (fun h38 => ?_) (fun h38 => ?_)
              · refine am_iinc (q := 54) rfl (by omega) (by decide) (ls2 := [(3, am_i (((j : Int) + 1))), (2, am_i (((i : Int) + 1))), (0, am_r 55), (1, am_i ((f : Int)))]) rfl (am_tab tk_X10_writesSets 33 rfl) rfl ?_
                refine am_goto (t := 19) (am_tab tk_X10_writesSets 34 rfl) (by decide) ?_
                rw [tb_eq hx8 ⟨by omega, by omega⟩] at h38
                exact am_less (by intro q hq; simp only [List.mem_cons, List.not_mem_nil, or_false] at hq; rcases hq with rfl | rfl | rfl | rfl <;> simp) (ih19 (j + 1) S6 (by omega) (by omega) (by rw [show pL (σ.2.1 96 (f + (i + 1))) ((i : Int) + 1) (j + 1) = pL (σ.2.1 96 (f + (i + 1))) ((i : Int) + 1) j from by show (if _ then _ else _) = _; rw [if_neg h38]]; exact hI6))
              · have hbit := h38
                rw [tb_eq hx8 ⟨by omega, by omega⟩] at hbit
                replace hlen := hlen hbit (by omega)
                refine am_aload_n (q := 42) rfl (am_tab tk_X10_writesSets 27 rfl) rfl ?_
                refine am_iload_n (q := 43) rfl (am_tab tk_X10_writesSets 28 rfl) rfl ?_
                refine am_callVr (q := 46) (me2 := M_X10_writes) (b := 55) (kb := 10) (nb := 108) (As := [am_i (((i : Int) + 1))]) (rest := []) (c_X10_writes σ hL ((l ++ [stM σ f]) ++ dL (fun d => σ.2.1 96 (f + d)) i ++ pL (σ.2.1 96 (f + (i + 1))) ((i : Int) + 1) j) S6 hI6 ((i : Int) + 1) (by omega) (by simp only [List.length_append, List.length_cons, List.length_nil] at hlen ⊢; omega)) ⟨rfl, rfl⟩ (Ls_55 (hI6.L hL)) (by decide) ⟨Or.inl km_X10_682, kc_X10_writes, kn_X10, kd_X10_writes, ⟨(Nat.le_of_ble_eq_true rfl), (Nat.le_of_ble_eq_true rfl)⟩, ⟨(Nat.le_of_ble_eq_true rfl), (Nat.le_of_ble_eq_true rfl)⟩, (Nat.le_of_ble_eq_true rfl)⟩ ki_X10_writes ks_X10_writes rfl (am_tab tk_X10_writesSets 29 rfl) rfl ?_
                rintro r I43 ⟨rfl, hI43⟩
                refine am_st (st2 := []) rfl ?_
                refine am_aload_n (q := 47) rfl (am_tab tk_X10_writesSets 30 rfl) rfl ?_
                refine am_iload_n (q := 48) rfl (am_tab tk_X10_writesSets 31 rfl) rfl ?_
                refine am_callVr (q := 51) (me2 := M_X10_writes) (b := 55) (kb := 10) (nb := 108) (As := [am_i ((j : Int))]) (rest := []) (c_X10_writes σ hL ((l ++ [stM σ f]) ++ dL (fun d => σ.2.1 96 (f + d)) i ++ pL (σ.2.1 96 (f + (i + 1))) ((i : Int) + 1) j ++ [((i : Int) + 1)]) I43 hI43 (j : Int) (by omega) (by simp only [List.length_append, List.length_cons, List.length_nil] at hlen ⊢; omega)) ⟨rfl, rfl⟩ (Ls_55 (hI43.L hL)) (by decide) ⟨Or.inl km_X10_682, kc_X10_writes, kn_X10, kd_X10_writes, ⟨(Nat.le_of_ble_eq_true rfl), (Nat.le_of_ble_eq_true rfl)⟩, ⟨(Nat.le_of_ble_eq_true rfl), (Nat.le_of_ble_eq_true rfl)⟩, (Nat.le_of_ble_eq_true rfl)⟩ ki_X10_writes ks_X10_writes rfl (am_tab tk_X10_writesSets 32 rfl) rfl ?_
                rintro r I48 ⟨rfl, hI48⟩
                refine am_st (st2 := []) rfl ?_
                refine am_iinc (q := 54) rfl (by omega) (by decide) (ls2 := [(3, am_i (((j : Int) + 1))), (2, am_i (((i : Int) + 1))), (0, am_r 55), (1, am_i ((f : Int)))]) rfl (am_tab tk_X10_writesSets 33 rfl) rfl ?_
                refine am_goto (t := 19) (am_tab tk_X10_writesSets 34 rfl) (by decide) ?_
                rw [tb_eq hx8 ⟨by omega, by omega⟩] at h38
                have hpl : (l ++ [stM σ f]) ++ dL (fun d => σ.2.1 96 (f + d)) i ++ pL (σ.2.1 96 (f + (i + 1))) ((i : Int) + 1) (j + 1) = (l ++ [stM σ f]) ++ dL (fun d => σ.2.1 96 (f + d)) i ++ pL (σ.2.1 96 (f + (i + 1))) ((i : Int) + 1) j ++ [((i : Int) + 1)] ++ [(j : Int)] := by
                  rw [show pL (σ.2.1 96 (f + (i + 1))) ((i : Int) + 1) (j + 1) = pL (σ.2.1 96 (f + (i + 1))) ((i : Int) + 1) j ++ [(i : Int) + 1, (j : Int)] from by show (if _ then _ else _) = _; rw [if_pos h38]]
                  simp
                exact am_less (by intro q hq; simp only [List.mem_cons, List.not_mem_nil, or_false] at hq; rcases hq with rfl | rfl | rfl | rfl <;> simp) (ih19 (j + 1) I48 (by omega) (by omega) (by rw [hpl]; exact hI48))
        refine am_less (by intro q hq; simp only [List.mem_cons, List.not_mem_nil, or_false] at hq; rcases hq with rfl | rfl | rfl | rfl <;> simp) (L19 (_ + 1) 0 S5 (by exact Nat.lt_succ_self _) (by omega) (by simpa [pL] using hI5))
  refine am_less (by intro q hq; simp only [List.mem_cons, List.not_mem_nil, or_false] at hq; rcases hq with rfl | rfl | rfl <;> simp) (L11 (_ + 1) 0 I6 (by exact Nat.lt_succ_self _) (by omega) (by simpa [dL] using hI6))
