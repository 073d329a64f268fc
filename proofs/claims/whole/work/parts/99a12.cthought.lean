/-- what has been seen, in the class and in the model -/
def SNC (σ : am_H) : Prop := SNR σ ∧ σ.2.1 0 11 = σ.2.1 55 65 ∧ ∀ k : Nat, (k : Int) < σ.2.1 55 65 → σ.2.1 51 k = σ.2.1 100 (2 * k) ∧ σ.2.1 52 k = σ.2.1 100 (2 * k + 1)
theorem thF_1 {σ : am_H} : ∀ m : Nat, 0 ≤ (thF σ m).1 ∧ (thF σ m).1 ≤ m
  | 0 => ⟨Int.le_refl _, Int.le_refl _⟩
  | m + 1 => by
    have ih := thF_1 (σ := σ) m
    unfold thF
    split
    · show 0 ≤ (thF σ m).1 + 1 ∧ (thF σ m).1 + 1 ≤ ((m + 1 : Nat) : Int)
      push_cast
      omega
    · push_cast
      omega
theorem aw_may {σ : am_H} (hG : GD σ) (hF : LF0 32 σ (fun k => σ.2.1 96 k)) : awS σ σ 32 = mayM σ := by
  unfold awS mayM
  rw [liv_eq hG hF]
def hgs (σ : am_H) (set : Int) (k : Nat) : Bool := decide (¬ tb set (σ.2.1 100 (2 * k)) = σ.2.1 100 (2 * k + 1))
/-- bits grow by ior -/
theorem sb_or {x y : Int} (hx : 0 ≤ x ∧ x < 256) (hy : 0 ≤ y ∧ y < 256) : ao_or x y = x ∨ sb x + 1 ≤ sb (ao_or x y) := by
  have h := or_tb hx hy
  have e : ∀ k : Nat, tb x k ≤ tb (ao_or x y) k := fun k => by
    rw [h.2 k]
    have h1 := tb_01 x k
    split
    · omega
    · rename_i h2
      have h3 : ¬ tb x k = 1 := fun z => h2 (Or.inl z)
      omega
  by_cases heq : ∀ k : Nat, k < 8 → tb (ao_or x y) k = tb x k
  · exact Or.inl (set_ext h.1 hx heq)
  · refine Or.inr ?_
    refine Classical.byContradiction (fun hn => heq (fun k hk => ?_))
    have e0 : tb x 0 ≤ tb (ao_or x y) 0 := e 0
    have e1 : tb x 1 ≤ tb (ao_or x y) 1 := e 1
    have e2 : tb x 2 ≤ tb (ao_or x y) 2 := e 2
    have e3 : tb x 3 ≤ tb (ao_or x y) 3 := e 3
    have e4 : tb x 4 ≤ tb (ao_or x y) 4 := e 4
    have e5 : tb x 5 ≤ tb (ao_or x y) 5 := e 5
    have e6 : tb x 6 ≤ tb (ao_or x y) 6 := e 6
    have e7 : tb x 7 ≤ tb (ao_or x y) 7 := e 7
    unfold sb at hn
    rcases (show k = 0 ∨ k = 1 ∨ k = 2 ∨ k = 3 ∨ k = 4 ∨ k = 5 ∨ k = 6 ∨ k = 7 by omega) with rfl | rfl | rfl | rfl | rfl | rfl | rfl | rfl
    · show tb (ao_or x y) 0 = tb x 0; omega
    · show tb (ao_or x y) 1 = tb x 1; omega
    · show tb (ao_or x y) 2 = tb x 2; omega
    · show tb (ao_or x y) 3 = tb x 3; omega
    · show tb (ao_or x y) 4 = tb x 4; omega
    · show tb (ao_or x y) 5 = tb x 5; omega
    · show tb (ao_or x y) 6 = tb x 6; omega
    · show tb (ao_or x y) 7 = tb x 7; omega
theorem c_isAsSeen (σ S : am_H) (hL : lay S) (hS : SNC σ) (hq : CQ σ S) (x : Int) (hx : 0 ≤ x ∧ x < 256) : am_met M_X9_isAsSeen [am_r 0, am_i x] S (fun r σ' => r = some (am_i (b2i (skB σ x))) ∧ σ' = S) := by
  refine am_qq (fun Q hQ => ?_)
  refine am_enter (show plainFor yX9_isAsSeen = true by decide +kernel) rfl (Nat.le_of_ble_eq_true rfl) (fun _ _ _ => trivial) ?_
  have hn := hS.1.1
  refine am_iconst (q := 1) (n := 0) (by decide) (am_tab tk_X9_isAsSeen 0 rfl) rfl ?_
  refine am_istore_n (q := 2) (by decide) (ls2 := [(2, am_i 0), (0, am_r 0), (1, am_i x)]) rfl (am_tab tk_X9_isAsSeen 1 rfl) rfl ?_
  have L2 : ∀ (n2 : Nat) (k : Nat), 8 - k < n2 → (k : Int) ≤ σ.2.1 55 65 → anyB (hgs σ x) k = false → am_wp M_X9_isAsSeen Q 0 0 2 [(2, am_i ((k : Int))), (0, am_r 0), (1, am_i x)] [] S := by
    intro n2
    induction n2 with
    | zero => intro k hn2; exact absurd hn2 (Nat.not_lt_zero _)
    | succ n2 ih2 =>
      intro k hn2 hk hno
      refine am_iload_n (q := 3) rfl (am_tab tk_X9_isAsSeen 2 rfl) rfl ?_
      refine am_aload_n (q := 4) rfl (am_tab tk_X9_isAsSeen 3 rfl) rfl ?_
      refine am_getI (q := 7) (a := 0) (k := 9) (n := 17) (j := 11) (x := (σ.2.1 55 65)) (Ls_0 hL) (by decide) rfl ((hq.2.2 0 11 (by unfold W_cq; omega)).trans hS.2.1) (by decide) (Or.inl kf_X9_114) (am_tab tk_X9_isAsSeen 4 rfl) rfl ?_
      refine am_icmp_ge (q := 10) (t := 37) (am_tab tk_X9_isAsSeen 5 rfl) (by decide) rfl (fun h7 => ?_) (fun h7 => ?_)
      · refine am_iconst (q := 38) (n := 1) (by decide) (am_tab tk_X9_isAsSeen 21 rfl) rfl ?_
        refine am_iret (Or.inr ⟨rfl, by first | exact Or.inl rfl | exact Or.inr rfl | omega⟩) (Nat.le_of_ble_eq_true rfl) (Nat.le_of_ble_eq_true rfl) (am_tab tk_X9_isAsSeen 22 rfl) ?_
        refine hQ _ _ ?_
        refine ⟨congrArg (fun z => some (am_i z)) ?_, rfl⟩
        have h9 : skB σ x = true := by
          unfold skB
          rw [← show k = (σ.2.1 55 65).toNat by omega]
          rw [show anyB (fun k => decide (¬ tb x (σ.2.1 100 (2 * k)) = σ.2.1 100 (2 * k + 1))) k = false from hno]; rfl
        rw [h9]; rfl
      · refine am_iload_n (q := 11) rfl (am_tab tk_X9_isAsSeen 6 rfl) rfl ?_
        refine am_aload_n (q := 12) rfl (am_tab tk_X9_isAsSeen 7 rfl) rfl ?_
        refine am_getR (q := 15) (a := 0) (k := 9) (n := 17) (j := 9) (r := some (51)) (Ls_0 hL) (by decide) rfl (Lr_0_9 hL) (by decide) (Or.inl kf_X9_68) (am_tab tk_X9_isAsSeen 8 rfl) rfl ?_
        refine am_iload_n (q := 16) rfl (am_tab tk_X9_isAsSeen 9 rfl) rfl ?_
        refine am_iald (q := 17) (a := 51) (n := 8) (x := (σ.2.1 100 (2 * k))) (Ls_51 hL) (by omega) (by omega) (by rw [show Int.toNat (k : Int) = k by omega, hq.2.2 51 k (by unfold W_cq; omega)]; exact (hS.2.2 k (by omega)).1) (am_tab tk_X9_isAsSeen 10 rfl) rfl ?_
        refine am_callS0 (q := 20) (me2 := M_X9_bit) (As := [am_i x, am_i ((σ.2.1 100 (2 * k)))]) (rest := []) (out := [am_i (tb x (σ.2.1 100 (2 * k)))]) (c_bit S x (σ.2.1 100 (2 * k)) (hx) (hS.1.2 k (by omega))) ⟨rfl, rfl⟩ ⟨Or.inl km_X9_185, kc_X9_bit, kn_X9, kd_X9_bit, ⟨(Nat.le_of_ble_eq_true rfl), (Nat.le_of_ble_eq_true rfl)⟩, ⟨(Nat.le_of_ble_eq_true rfl), (Nat.le_of_ble_eq_true rfl)⟩, (Nat.le_of_ble_eq_true rfl)⟩ ki_X9_bit rfl rfl (am_tab tk_X9_isAsSeen 11 rfl) rfl ?_
        refine am_aload_n (q := 21) rfl (am_tab tk_X9_isAsSeen 12 rfl) rfl ?_
        refine am_getR (q := 24) (a := 0) (k := 9) (n := 17) (j := 10) (r := some (52)) (Ls_0 hL) (by decide) rfl (Lr_0_10 hL) (by decide) (Or.inl kf_X9_72) (am_tab tk_X9_isAsSeen 13 rfl) rfl ?_
        refine am_iload_n (q := 25) rfl (am_tab tk_X9_isAsSeen 14 rfl) rfl ?_
        refine am_iald (q := 26) (a := 52) (n := 8) (x := (σ.2.1 100 (2 * k + 1))) (Ls_52 hL) (by omega) (by omega) (by rw [show Int.toNat (k : Int) = k by omega, hq.2.2 52 k (by unfold W_cq; omega)]; exact (hS.2.2 k (by omega)).2) (am_tab tk_X9_isAsSeen 15 rfl) rfl ?_
        refine am_icmp_eq (q := 29) (t := 31) (am_tab tk_X9_isAsSeen 16 rfl) (by decide) rfl (fun h26 => ?_) (fun h26 => ?_)
        · refine am_iinc (q := 34) rfl (by omega) (by decide) (ls2 := [(2, am_i (((k : Int) + 1))), (0, am_r 0), (1, am_i x)]) rfl (am_tab tk_X9_isAsSeen 19 rfl) rfl ?_
          refine am_goto (t := 2) (am_tab tk_X9_isAsSeen 20 rfl) (by decide) ?_
          exact am_less (by intro q hq; simp only [List.mem_cons, List.not_mem_nil, or_false] at hq; rcases hq with rfl | rfl | rfl <;> simp) (ih2 (k + 1) (by omega) (by omega) (anyB_f hno (by unfold hgs; rw [decide_eq_false_iff_not]; exact fun h => h h26)))
        · refine am_iconst (q := 30) (n := 0) (by decide) (am_tab tk_X9_isAsSeen 17 rfl) rfl ?_
          refine am_iret (Or.inr ⟨rfl, by first | exact Or.inl rfl | exact Or.inr rfl | omega⟩) (Nat.le_of_ble_eq_true rfl) (Nat.le_of_ble_eq_true rfl) (am_tab tk_X9_isAsSeen 18 rfl) ?_
          refine hQ _ _ ?_
          refine ⟨congrArg (fun z => some (am_i z)) ?_, rfl⟩
          have h9 : skB σ x = false := by
            unfold skB
            rw [show anyB (fun k => decide (¬ tb x (σ.2.1 100 (2 * k)) = σ.2.1 100 (2 * k + 1))) (σ.2.1 55 65).toNat = true from anyB_t (i := k) (by rw [decide_eq_true_eq]; exact h26) (by omega)]; rfl
          rw [h9]; rfl
  refine am_less (by intro q hq; simp only [List.mem_cons, List.not_mem_nil, or_false] at hq; rcases hq with rfl | rfl | rfl <;> simp) (L2 (_ + 1) 0 (by exact Nat.lt_succ_self _) (by omega) rfl)
theorem b2t9 {b : Bool} (h : ¬ b2i b = 0) : b = true := by cases b <;> simp [b2i] at *
theorem b2f9 {b : Bool} (h : b2i b = 0) : ¬ b = true := by cases b <;> simp [b2i] at *
set_option maxRecDepth 100000 in
theorem c_thought_3 (σ : am_H) (hC : CI 3 σ) (w : Int) (hS : SNC σ) : am_met M_X9_thought [am_r 0, am_i w] σ (fun r σ' => r = some (am_i (thoM σ w)) ∧ CQ σ σ') := by
  refine am_qq (fun Q hQ => ?_)
  refine am_enter (show plainFor yX9_thought = true by decide +kernel) rfl (Nat.le_of_ble_eq_true rfl) (fun _ _ _ => trivial) ?_
  have hL := hC.G.L
  by_cases cm : cM σ
  · refine am_iload_n (q := 1) rfl (am_tab tk_X9_thought 0 rfl) rfl ?_
    refine am_if_lt (q := 4) (t := 27) (am_tab tk_X9_thought 1 rfl) (by decide) rfl (fun h1 => ?_) (fun h1 => ?_)
    · refine am_iconst (q := 28) (n := (-1)) (by decide) (am_tab tk_X9_thought 13 rfl) rfl ?_
      refine am_iret (Or.inl rfl) (Nat.le_of_ble_eq_true rfl) (Nat.le_of_ble_eq_true rfl) (am_tab tk_X9_thought 14 rfl) ?_
      refine hQ _ _ ?_
      refine ⟨congrArg (fun z => some (am_i z)) ?_, CQ.refl σ⟩
      unfold thoM
      rw [if_neg (fun h => by have := h.2; omega)]
    · refine am_iload_n (q := 5) rfl (am_tab tk_X9_thought 2 rfl) rfl ?_
      refine am_iconst (q := 6) (n := 2) (by decide) (am_tab tk_X9_thought 3 rfl) rfl ?_
      refine am_icmp_gt (q := 9) (t := 27) (am_tab tk_X9_thought 4 rfl) (by decide) rfl (fun h6 => ?_) (fun h6 => ?_)
      · refine am_iconst (q := 28) (n := (-1)) (by decide) (am_tab tk_X9_thought 13 rfl) rfl ?_
        refine am_iret (Or.inl rfl) (Nat.le_of_ble_eq_true rfl) (Nat.le_of_ble_eq_true rfl) (am_tab tk_X9_thought 14 rfl) ?_
        refine hQ _ _ ?_
        refine ⟨congrArg (fun z => some (am_i z)) ?_, CQ.refl σ⟩
        unfold thoM
        rw [if_neg (fun h => by have := h.2; omega)]
      · refine am_aload_n (q := 10) rfl (am_tab tk_X9_thought 5 rfl) rfl ?_
        refine am_getR (q := 13) (a := 0) (k := 9) (n := 17) (j := 7) (r := some (44)) (Ls_0 hL) (by decide) rfl (Lr_0_7 hL) (by decide) (Or.inl kf_X9_57) (am_tab tk_X9_thought 6 rfl) rfl ?_
        refine am_aload_n (q := 14) rfl (am_tab tk_X9_thought 7 rfl) rfl ?_
        refine am_getR (q := 17) (a := 0) (k := 9) (n := 17) (j := 2) (r := some (3)) (Ls_0 hL) (by decide) rfl hC.t (by decide) (Or.inl kf_X9_19) (am_tab tk_X9_thought 8 rfl) rfl ?_
        refine am_aload_n (q := 18) rfl (am_tab tk_X9_thought 9 rfl) rfl ?_
        refine am_getR (q := 21) (a := 0) (k := 9) (n := 17) (j := 4) (r := some (32)) (Ls_0 hL) (by decide) rfl (Lr_0_4 hL) (by decide) (Or.inl kf_X9_38) (am_tab tk_X9_thought 10 rfl) rfl ?_
        refine am_callVr (q := 24) (me2 := M_X0_lookAt) (b := 44) (kb := 0) (nb := 14) (As := [am_r 3, am_r 32]) (rest := []) (c_lookAt_3_32 σ σ hL hC.G hC.W hC.F) ⟨rfl, rfl⟩ (Ls_44 hL) (by decide) ⟨Or.inr km_X9_247, kc_X0_lookAt, kn_X0, kd_X0_lookAt, ⟨(Nat.le_of_ble_eq_true rfl), (Nat.le_of_ble_eq_true rfl)⟩, ⟨(Nat.le_of_ble_eq_true rfl), (Nat.le_of_ble_eq_true rfl)⟩, (Nat.le_of_ble_eq_true rfl)⟩ ki_X0_lookAt ks_X0_lookAt rfl (am_tab tk_X9_thought 11 rfl) rfl ?_
        rintro r S0 hlk
        rw [if_pos ((cM_dl hC.G.R).mp cm)] at hlk
        obtain ⟨rfl, hDA, hFb⟩ := hlk
        have hq0 : CQ σ S0 := CQ.base hFb
        have hcc := cM_cc hC.G.R cm
        have hGB := bgS_GD hC.G hcc
        refine am_st (st2 := [am_i 1]) rfl ?_
        refine am_if_ne (q := 27) (t := 29) (am_tab tk_X9_thought 12 rfl) (by decide) rfl (fun h24 => ?_) (fun h24 => ?_)
        · have hawm := aw_may hC.G hC.F
          have hat := aw_tb hC.G hcc hC.F
          rw [hawm] at hat
          have hmy := hat.1
          have hmt := hat.2
          have h30 : S0.2.1 44 3 = mayM σ := hDA.2.2.1.2.2.2.trans hawm
          refine am_iconst (q := 30) (n := 0) (by decide) (am_tab tk_X9_thought 15 rfl) rfl ?_
          refine am_istore_n (q := 31) (by decide) (ls2 := [(2, am_i 0), (0, am_r 0), (1, am_i w)]) rfl (am_tab tk_X9_thought 16 rfl) rfl ?_
          refine am_aload_n (q := 32) rfl (am_tab tk_X9_thought 17 rfl) rfl ?_
          refine am_getR (q := 35) (a := 0) (k := 9) (n := 17) (j := 7) (r := some (44)) (Ls_0 (hq0.L hC.G.L)) (by decide) rfl (Lr_0_7 (hq0.L hC.G.L)) (by decide) (Or.inl kf_X9_57) (am_tab tk_X9_thought 18 rfl) rfl ?_
          refine am_getI (q := 38) (a := 44) (k := 0) (n := 14) (j := 3) (x := (mayM σ)) (Ls_44 (hq0.L hC.G.L)) (by decide) rfl h30 (by decide) (Or.inr kf_X9_282) (am_tab tk_X9_thought 19 rfl) rfl ?_
          refine am_istore_n (q := 39) (by decide) (ls2 := [(3, am_i ((mayM σ))), (2, am_i 0), (0, am_r 0), (1, am_i w)]) rfl (am_tab tk_X9_thought 20 rfl) rfl ?_
          refine am_iconst (q := 40) (n := 0) (by decide) (am_tab tk_X9_thought 21 rfl) rfl ?_
          refine am_istore (q := 42) (by decide) (ls2 := [(4, am_i 0), (3, am_i ((mayM σ))), (2, am_i 0), (0, am_r 0), (1, am_i w)]) rfl (am_tab tk_X9_thought 22 rfl) rfl ?_
          refine am_iconst (q := 43) (n := 0) (by decide) (am_tab tk_X9_thought 23 rfl) rfl ?_
          refine am_istore (q := 45) (by decide) (ls2 := [(5, am_i 0), (4, am_i 0), (3, am_i ((mayM σ))), (2, am_i 0), (0, am_r 0), (1, am_i w)]) rfl (am_tab tk_X9_thought 24 rfl) rfl ?_
          have L45 : ∀ (n45 : Nat) (m : Nat) (S : am_H), 257 - m < n45 → (m : Int) ≤ mayM σ + 1 → CQ σ S → DWr 3 32 S (bgS σ) → MEM S (bgS σ) → S.2.1 44 3 = mayM σ → am_wp M_X9_thought Q 0 0 45 [(5, am_i ((m : Int))), (4, am_i ((thF σ m).2.2)), (3, am_i ((thF σ m).2.1)), (2, am_i ((thF σ m).1)), (0, am_r 0), (1, am_i w)] [] S := by
            intro n45
            induction n45 with
            | zero => intro m S hn45; exact absurd hn45 (Nat.not_lt_zero _)
            | succ n45 ih45 =>
              intro m S hn45 hm2 hq hD hM h3
              refine am_iload (q := 47) rfl (am_tab tk_X9_thought 25 rfl) rfl ?_
              refine am_aload_n (q := 48) rfl (am_tab tk_X9_thought 26 rfl) rfl ?_
              refine am_getR (q := 51) (a := 0) (k := 9) (n := 17) (j := 7) (r := some (44)) (Ls_0 (hq.L hC.G.L)) (by decide) rfl (Lr_0_7 (hq.L hC.G.L)) (by decide) (Or.inl kf_X9_57) (am_tab tk_X9_thought 27 rfl) rfl ?_
              refine am_getI (q := 54) (a := 44) (k := 0) (n := 14) (j := 3) (x := (mayM σ)) (Ls_44 (hq.L hC.G.L)) (by decide) rfl h3 (by decide) (Or.inr kf_X9_282) (am_tab tk_X9_thought 28 rfl) rfl ?_
              refine am_icmp_gt (q := 57) (t := 116) (am_tab tk_X9_thought 29 rfl) (by decide) rfl (fun h54 => ?_) (fun h54 => ?_)
              · refine am_iload_n (q := 117) rfl (am_tab tk_X9_thought 59 rfl) rfl ?_
                refine am_if_ne (q := 120) (t := 122) (am_tab tk_X9_thought 60 rfl) (by decide) rfl (fun h117 => ?_) (fun h117 => ?_)
                · refine am_iload_n (q := 123) rfl (am_tab tk_X9_thought 63 rfl) rfl ?_
                  refine am_iconst (q := 124) (n := 2) (by decide) (am_tab tk_X9_thought 64 rfl) rfl ?_
                  refine am_icmp_ne (q := 127) (t := 132) (am_tab tk_X9_thought 65 rfl) (by decide) rfl (fun h124 => ?_) (fun h124 => ?_)
                  · refine am_iload_n (q := 133) rfl (am_tab tk_X9_thought 68 rfl) rfl ?_
                    refine am_if_ne (q := 136) (t := 140) (am_tab tk_X9_thought 69 rfl) (by decide) rfl (fun h133 => ?_) (fun h133 => ?_)
                    · refine am_iload_n (q := 141) rfl (am_tab tk_X9_thought 72 rfl) rfl ?_
                      refine am_iret (Or.inl rfl) (Nat.le_of_ble_eq_true rfl) (Nat.le_of_ble_eq_true rfl) (am_tab tk_X9_thought 73 rfl) ?_
                      refine hQ _ _ ?_
                      refine ⟨congrArg (fun z => some (am_i z)) ?_, hq⟩
                      unfold thoM
                      rw [if_pos ⟨cm, by omega⟩, show (mayM σ).toNat + 1 = m by omega]
                      first | (rw [if_pos (by omega)]; done) | (rw [if_neg (by omega), if_neg (by omega)]; done) | (rw [if_neg (by omega), if_pos (by omega)]; first | (rw [if_pos (by omega)]; done) | (rw [if_neg (by omega)]; done))
                    · refine am_iconst (q := 137) (n := 0) (by decide) (am_tab tk_X9_thought 70 rfl) rfl ?_
                      refine am_goto (t := 141) (am_tab tk_X9_thought 71 rfl) (by decide) ?_
                      refine am_iret (Or.inl rfl) (Nat.le_of_ble_eq_true rfl) (Nat.le_of_ble_eq_true rfl) (am_tab tk_X9_thought 73 rfl) ?_
                      refine hQ _ _ ?_
                      refine ⟨congrArg (fun z => some (am_i z)) ?_, hq⟩
                      unfold thoM
                      rw [if_pos ⟨cm, by omega⟩, show (mayM σ).toNat + 1 = m by omega]
                      first | (rw [if_pos (by omega)]; done) | (rw [if_neg (by omega), if_neg (by omega)]; done) | (rw [if_neg (by omega), if_pos (by omega)]; first | (rw [if_pos (by omega)]; done) | (rw [if_neg (by omega)]; done))
                  · refine am_iload (q := 129) rfl (am_tab tk_X9_thought 66 rfl) rfl ?_
                    refine am_goto (t := 141) (am_tab tk_X9_thought 67 rfl) (by decide) ?_
                    refine am_iret (Or.inl rfl) (Nat.le_of_ble_eq_true rfl) (Nat.le_of_ble_eq_true rfl) (am_tab tk_X9_thought 73 rfl) ?_
                    refine hQ _ _ ?_
                    refine ⟨congrArg (fun z => some (am_i z)) ?_, hq⟩
                    unfold thoM
                    rw [if_pos ⟨cm, by omega⟩, show (mayM σ).toNat + 1 = m by omega]
                    first | (rw [if_pos (by omega)]; done) | (rw [if_neg (by omega), if_neg (by omega)]; done) | (rw [if_neg (by omega), if_pos (by omega)]; first | (rw [if_pos (by omega)]; done) | (rw [if_neg (by omega)]; done))
                · refine am_iload_n (q := 121) rfl (am_tab tk_X9_thought 61 rfl) rfl ?_
                  refine am_iret (Or.inl rfl) (Nat.le_of_ble_eq_true rfl) (Nat.le_of_ble_eq_true rfl) (am_tab tk_X9_thought 62 rfl) ?_
                  refine hQ _ _ ?_
                  refine ⟨congrArg (fun z => some (am_i z)) ?_, hq⟩
                  unfold thoM
                  rw [if_pos ⟨cm, by omega⟩, show (mayM σ).toNat + 1 = m by omega]
                  first | (rw [if_pos (by omega)]; done) | (rw [if_neg (by omega), if_neg (by omega)]; done) | (rw [if_neg (by omega), if_pos (by omega)]; first | (rw [if_pos (by omega)]; done) | (rw [if_neg (by omega)]; done))
              · refine am_iload (q := 59) rfl (am_tab tk_X9_thought 30 rfl) rfl ?_
                refine am_aload_n (q := 60) rfl (am_tab tk_X9_thought 31 rfl) rfl ?_
                refine am_getR (q := 63) (a := 0) (k := 9) (n := 17) (j := 7) (r := some (44)) (Ls_0 (hq.L hC.G.L)) (by decide) rfl (Lr_0_7 (hq.L hC.G.L)) (by decide) (Or.inl kf_X9_57) (am_tab tk_X9_thought 32 rfl) rfl ?_
                refine am_getI (q := 66) (a := 44) (k := 0) (n := 14) (j := 3) (x := (mayM σ)) (Ls_44 (hq.L hC.G.L)) (by decide) rfl h3 (by decide) (Or.inr kf_X9_282) (am_tab tk_X9_thought 33 rfl) rfl ?_
                refine am_iconst (q := 67) (n := (-1)) (by decide) (am_tab tk_X9_thought 34 rfl) rfl ?_
                refine am_ixor (q := 68) (am_tab tk_X9_thought 35 rfl) rfl ?_
                refine am_iand (q := 69) (am_tab tk_X9_thought 36 rfl) rfl ?_
                refine am_if_ne (q := 72) (t := 110) (am_tab tk_X9_thought 37 rfl) (by decide) rfl (fun h69 => ?_) (fun h69 => ?_)
                · refine am_iinc (q := 113) rfl (by omega) (by decide) (ls2 := [(5, am_i (((m : Int) + 1))), (4, am_i ((thF σ m).2.2)), (3, am_i ((thF σ m).2.1)), (2, am_i ((thF σ m).1)), (0, am_r 0), (1, am_i w)]) rfl (am_tab tk_X9_thought 57 rfl) rfl ?_
                  refine am_goto (t := 45) (am_tab tk_X9_thought 58 rfl) (by decide) ?_
                  have he : thF σ (m + 1) = ((thF σ m).1, (thF σ m).2.1, (thF σ m).2.2) := by
                    conv => lhs; unfold thF
                    rw [if_neg (fun z => h69 z.1)]
                  exact am_less (by intro q hq; simp only [List.mem_cons, List.not_mem_nil, or_false] at hq; rcases hq with rfl | rfl | rfl | rfl | rfl | rfl <;> simp [he]) (ih45 (m + 1) S (by omega) (by omega) hq hD hM h3)
                · refine am_aload_n (q := 73) rfl (am_tab tk_X9_thought 38 rfl) rfl ?_
                  refine am_aload_n (q := 74) rfl (am_tab tk_X9_thought 39 rfl) rfl ?_
                  refine am_getR (q := 77) (a := 0) (k := 9) (n := 17) (j := 7) (r := some (44)) (Ls_0 (hq.L hC.G.L)) (by decide) rfl (Lr_0_7 (hq.L hC.G.L)) (by decide) (Or.inl kf_X9_57) (am_tab tk_X9_thought 40 rfl) rfl ?_
                  refine am_iload (q := 79) rfl (am_tab tk_X9_thought 41 rfl) rfl ?_
                  refine am_aload_n (q := 80) rfl (am_tab tk_X9_thought 42 rfl) rfl ?_
                  refine am_getR (q := 83) (a := 0) (k := 9) (n := 17) (j := 7) (r := some (44)) (Ls_0 (hq.L hC.G.L)) (by decide) rfl (Lr_0_7 (hq.L hC.G.L)) (by decide) (Or.inl kf_X9_57) (am_tab tk_X9_thought 43 rfl) rfl ?_
                  refine am_getI (q := 86) (a := 44) (k := 0) (n := 14) (j := 3) (x := (mayM σ)) (Ls_44 (hq.L hC.G.L)) (by decide) rfl h3 (by decide) (Or.inr kf_X9_282) (am_tab tk_X9_thought 44 rfl) rfl ?_
                  refine am_callVr (q := 89) (me2 := M_X0_spread) (b := 44) (kb := 0) (nb := 14) (As := [am_i ((m : Int)), am_i ((mayM σ))]) (rest := [am_r 0]) (c_spread_3_32 S (bgS σ) (hq.L hC.G.L) hGB hD (m : Int) (mayM σ) (bsD σ) (by omega) hmy (fun p hp => by rw [hmt p (show p < 8 by have h5 : p < pN σ := hp; have := hC.G.R.P; unfold pN at h5; omega), show (bgS σ).2.1 96 (12 + p) = σ.2.1 96 (12 + p) from bgN_far (by omega)]; have h5 : p < pN σ := hp; by_cases h6 : σ.2.1 96 (12 + p) = 1 <;> by_cases h7 : tb (bsD σ) p = 1 <;> simp [h5, h6, h7]) hM) ⟨rfl, rfl⟩ (Ls_44 (hq.L hC.G.L)) (by decide) ⟨Or.inr km_X9_266, kc_X0_spread, kn_X0, kd_X0_spread, ⟨(Nat.le_of_ble_eq_true rfl), (Nat.le_of_ble_eq_true rfl)⟩, ⟨(Nat.le_of_ble_eq_true rfl), (Nat.le_of_ble_eq_true rfl)⟩, (Nat.le_of_ble_eq_true rfl)⟩ ki_X0_spread ks_X0_spread rfl (am_tab tk_X9_thought 45 rfl) rfl ?_
                  rintro r T ⟨hr9, hMT, hFT⟩
                  have hr8 : r = some (am_i (rmE (bgS σ) (tsD σ) (m : Int) (bsD σ))) := hr9
                  subst hr8
                  have hqT : CQ σ T := hq.trans (hFT.cq (by unfold W_dw W_cq; omega))
                  have hDT := hD.fr hFT (by decide) (by decide)
                  have h3T : T.2.1 44 3 = mayM σ := (hFT.2.2 44 3 (by unfold W_dw; omega)).trans h3
                  refine am_st (st2 := [am_i ((rmE (bgS σ) (tsD σ) (m : Int) (bsD σ))), am_r 0]) rfl ?_
                  refine am_callV0 (q := 92) (me2 := M_X9_isAsSeen) (b := 0) (kb := 9) (nb := 17) (As := [am_i ((rmE (bgS σ) (tsD σ) (m : Int) (bsD σ)))]) (rest := []) (out := [am_i (b2i (skB σ (rmE (bgS σ) (tsD σ) (m : Int) (bsD σ))))]) (c_isAsSeen σ T (hqT.L hC.G.L) hS hqT (rmE (bgS σ) (tsD σ) (m : Int) (bsD σ)) (rmE_rng hGB.R _ _ (by omega))) ⟨rfl, rfl⟩ (Ls_0 (hqT.L hC.G.L)) (by decide) ⟨Or.inl km_X9_285, kc_X9_isAsSeen, kn_X9, kd_X9_isAsSeen, ⟨(Nat.le_of_ble_eq_true rfl), (Nat.le_of_ble_eq_true rfl)⟩, ⟨(Nat.le_of_ble_eq_true rfl), (Nat.le_of_ble_eq_true rfl)⟩, (Nat.le_of_ble_eq_true rfl)⟩ ki_X9_isAsSeen ks_X9_isAsSeen rfl rfl (am_tab tk_X9_thought 46 rfl) rfl ?_
                  refine am_if_eq (q := 95) (t := 110) (am_tab tk_X9_thought 47 rfl) (by decide) rfl (fun h92 => ?_) (fun h92 => ?_)
                  · have h92z := b2f9 h92
                    refine am_iinc (q := 113) rfl (by omega) (by decide) (ls2 := [(5, am_i (((m : Int) + 1))), (4, am_i ((thF σ m).2.2)), (3, am_i ((thF σ m).2.1)), (2, am_i ((thF σ m).1)), (0, am_r 0), (1, am_i w)]) rfl (am_tab tk_X9_thought 57 rfl) rfl ?_
                    refine am_goto (t := 45) (am_tab tk_X9_thought 58 rfl) (by decide) ?_
                    have he : thF σ (m + 1) = ((thF σ m).1, (thF σ m).2.1, (thF σ m).2.2) := by
                      conv => lhs; unfold thF
                      rw [if_neg (fun z => h92z z.2)]
                    exact am_less (by intro q hq; simp only [List.mem_cons, List.not_mem_nil, or_false] at hq; rcases hq with rfl | rfl | rfl | rfl | rfl | rfl <;> simp [he]) (ih45 (m + 1) T (by omega) (by omega) hqT hDT hMT h3T)
                  · have ht1 := thF_1 (σ := σ) m
                    refine am_iinc (q := 98) rfl (by omega) (by decide) (ls2 := [(2, am_i ((((thF σ m).1) + 1))), (5, am_i ((m : Int))), (4, am_i ((thF σ m).2.2)), (3, am_i ((thF σ m).2.1)), (0, am_r 0), (1, am_i w)]) rfl (am_tab tk_X9_thought 48 rfl) rfl ?_
                    refine am_iload_n (q := 99) rfl (am_tab tk_X9_thought 49 rfl) rfl ?_
                    refine am_iload (q := 101) rfl (am_tab tk_X9_thought 50 rfl) rfl ?_
                    refine am_iand (q := 102) (am_tab tk_X9_thought 51 rfl) rfl ?_
                    refine am_istore_n (q := 103) (by decide) (ls2 := [(3, am_i ((ao_and ((thF σ m).2.1) (m : Int)))), (2, am_i ((((thF σ m).1) + 1))), (5, am_i ((m : Int))), (4, am_i ((thF σ m).2.2)), (0, am_r 0), (1, am_i w)]) rfl (am_tab tk_X9_thought 52 rfl) rfl ?_
                    refine am_iload (q := 105) rfl (am_tab tk_X9_thought 53 rfl) rfl ?_
                    refine am_iload (q := 107) rfl (am_tab tk_X9_thought 54 rfl) rfl ?_
                    refine am_ior (q := 108) (am_tab tk_X9_thought 55 rfl) rfl ?_
                    refine am_istore (q := 110) (by decide) (ls2 := [(4, am_i ((ao_or ((thF σ m).2.2) (m : Int)))), (3, am_i ((ao_and ((thF σ m).2.1) (m : Int)))), (2, am_i ((((thF σ m).1) + 1))), (5, am_i ((m : Int))), (0, am_r 0), (1, am_i w)]) rfl (am_tab tk_X9_thought 56 rfl) rfl ?_
                    refine am_iinc (q := 113) rfl (by omega) (by decide) (ls2 := [(5, am_i (((m : Int) + 1))), (4, am_i ((ao_or ((thF σ m).2.2) (m : Int)))), (3, am_i ((ao_and ((thF σ m).2.1) (m : Int)))), (2, am_i ((((thF σ m).1) + 1))), (0, am_r 0), (1, am_i w)]) rfl (am_tab tk_X9_thought 57 rfl) rfl ?_
                    refine am_goto (t := 45) (am_tab tk_X9_thought 58 rfl) (by decide) ?_
                    have he : thF σ (m + 1) = ((((thF σ m).1) + 1), (ao_and ((thF σ m).2.1) (m : Int)), (ao_or ((thF σ m).2.2) (m : Int))) := by
                      conv => lhs; unfold thF
                      rw [if_pos ⟨by omega, b2t9 h92⟩]
                    exact am_less (by intro q hq; simp only [List.mem_cons, List.not_mem_nil, or_false] at hq; rcases hq with rfl | rfl | rfl | rfl | rfl | rfl <;> simp [he]) (ih45 (m + 1) T (by omega) (by omega) hqT hDT hMT h3T)
          refine am_less (by intro q hq; simp only [List.mem_cons, List.not_mem_nil, or_false] at hq; rcases hq with rfl | rfl | rfl | rfl | rfl | rfl <;> simp [thF]) (L45 (_ + 1) 0 S0 (by exact Nat.lt_succ_self _) (by omega) hq0 hDA.1 hDA.2.1 h30)
        · exact absurd h24 (by decide)
  · refine am_iload_n (q := 1) rfl (am_tab tk_X9_thought 0 rfl) rfl ?_
    refine am_if_lt (q := 4) (t := 27) (am_tab tk_X9_thought 1 rfl) (by decide) rfl (fun h1 => ?_) (fun h1 => ?_)
    · refine am_iconst (q := 28) (n := (-1)) (by decide) (am_tab tk_X9_thought 13 rfl) rfl ?_
      refine am_iret (Or.inl rfl) (Nat.le_of_ble_eq_true rfl) (Nat.le_of_ble_eq_true rfl) (am_tab tk_X9_thought 14 rfl) ?_
      refine hQ _ _ ?_
      refine ⟨congrArg (fun z => some (am_i z)) ?_, CQ.refl σ⟩
      unfold thoM
      rw [if_neg (fun h => by have := h.2; omega)]
    · refine am_iload_n (q := 5) rfl (am_tab tk_X9_thought 2 rfl) rfl ?_
      refine am_iconst (q := 6) (n := 2) (by decide) (am_tab tk_X9_thought 3 rfl) rfl ?_
      refine am_icmp_gt (q := 9) (t := 27) (am_tab tk_X9_thought 4 rfl) (by decide) rfl (fun h6 => ?_) (fun h6 => ?_)
      · refine am_iconst (q := 28) (n := (-1)) (by decide) (am_tab tk_X9_thought 13 rfl) rfl ?_
        refine am_iret (Or.inl rfl) (Nat.le_of_ble_eq_true rfl) (Nat.le_of_ble_eq_true rfl) (am_tab tk_X9_thought 14 rfl) ?_
        refine hQ _ _ ?_
        refine ⟨congrArg (fun z => some (am_i z)) ?_, CQ.refl σ⟩
        unfold thoM
        rw [if_neg (fun h => by have := h.2; omega)]
      · refine am_aload_n (q := 10) rfl (am_tab tk_X9_thought 5 rfl) rfl ?_
        refine am_getR (q := 13) (a := 0) (k := 9) (n := 17) (j := 7) (r := some (44)) (Ls_0 hL) (by decide) rfl (Lr_0_7 hL) (by decide) (Or.inl kf_X9_57) (am_tab tk_X9_thought 6 rfl) rfl ?_
        refine am_aload_n (q := 14) rfl (am_tab tk_X9_thought 7 rfl) rfl ?_
        refine am_getR (q := 17) (a := 0) (k := 9) (n := 17) (j := 2) (r := some (3)) (Ls_0 hL) (by decide) rfl hC.t (by decide) (Or.inl kf_X9_19) (am_tab tk_X9_thought 8 rfl) rfl ?_
        refine am_aload_n (q := 18) rfl (am_tab tk_X9_thought 9 rfl) rfl ?_
        refine am_getR (q := 21) (a := 0) (k := 9) (n := 17) (j := 4) (r := some (32)) (Ls_0 hL) (by decide) rfl (Lr_0_4 hL) (by decide) (Or.inl kf_X9_38) (am_tab tk_X9_thought 10 rfl) rfl ?_
        refine am_callVr (q := 24) (me2 := M_X0_lookAt) (b := 44) (kb := 0) (nb := 14) (As := [am_r 3, am_r 32]) (rest := []) (c_lookAt_3_32 σ σ hL hC.G hC.W hC.F) ⟨rfl, rfl⟩ (Ls_44 hL) (by decide) ⟨Or.inr km_X9_247, kc_X0_lookAt, kn_X0, kd_X0_lookAt, ⟨(Nat.le_of_ble_eq_true rfl), (Nat.le_of_ble_eq_true rfl)⟩, ⟨(Nat.le_of_ble_eq_true rfl), (Nat.le_of_ble_eq_true rfl)⟩, (Nat.le_of_ble_eq_true rfl)⟩ ki_X0_lookAt ks_X0_lookAt rfl (am_tab tk_X9_thought 11 rfl) rfl ?_
        rintro r S0 hlk
        rw [if_neg (fun h => cm ((cM_dl hC.G.R).mpr h))] at hlk
        obtain ⟨rfl, hSS⟩ := hlk
        rw [hSS]
        refine am_st (st2 := [am_i 0]) rfl ?_
        refine am_if_ne (q := 27) (t := 29) (am_tab tk_X9_thought 12 rfl) (by decide) rfl (fun h24 => ?_) (fun h24 => ?_)
        · exact absurd h24 (by decide)
        · refine am_iconst (q := 28) (n := (-1)) (by decide) (am_tab tk_X9_thought 13 rfl) rfl ?_
          refine am_iret (Or.inl rfl) (Nat.le_of_ble_eq_true rfl) (Nat.le_of_ble_eq_true rfl) (am_tab tk_X9_thought 14 rfl) ?_
          refine hQ _ _ ?_
          refine ⟨congrArg (fun z => some (am_i z)) ?_, (((frw.refl W_cq σ).setN (a := 44) (j := 7) (x := 0) (by unfold W_cq; omega)).cq (fun _ _ h => h))⟩
          unfold thoM
          rw [if_neg (fun h => cm h.1)]
set_option maxRecDepth 100000 in
theorem c_thought_15 (σ : am_H) (hC : CI 15 σ) (w : Int) (hS : SNC σ) : am_met M_X9_thought [am_r 0, am_i w] σ (fun r σ' => r = some (am_i (thoM σ w)) ∧ CQ σ σ') := by
  refine am_qq (fun Q hQ => ?_)
  refine am_enter (show plainFor yX9_thought = true by decide +kernel) rfl (Nat.le_of_ble_eq_true rfl) (fun _ _ _ => trivial) ?_
  have hL := hC.G.L
  by_cases cm : cM σ
  · refine am_iload_n (q := 1) rfl (am_tab tk_X9_thought 0 rfl) rfl ?_
    refine am_if_lt (q := 4) (t := 27) (am_tab tk_X9_thought 1 rfl) (by decide) rfl (fun h1 => ?_) (fun h1 => ?_)
    · refine am_iconst (q := 28) (n := (-1)) (by decide) (am_tab tk_X9_thought 13 rfl) rfl ?_
      refine am_iret (Or.inl rfl) (Nat.le_of_ble_eq_true rfl) (Nat.le_of_ble_eq_true rfl) (am_tab tk_X9_thought 14 rfl) ?_
      refine hQ _ _ ?_
      refine ⟨congrArg (fun z => some (am_i z)) ?_, CQ.refl σ⟩
      unfold thoM
      rw [if_neg (fun h => by have := h.2; omega)]
    · refine am_iload_n (q := 5) rfl (am_tab tk_X9_thought 2 rfl) rfl ?_
      refine am_iconst (q := 6) (n := 2) (by decide) (am_tab tk_X9_thought 3 rfl) rfl ?_
      refine am_icmp_gt (q := 9) (t := 27) (am_tab tk_X9_thought 4 rfl) (by decide) rfl (fun h6 => ?_) (fun h6 => ?_)
      · refine am_iconst (q := 28) (n := (-1)) (by decide) (am_tab tk_X9_thought 13 rfl) rfl ?_
        refine am_iret (Or.inl rfl) (Nat.le_of_ble_eq_true rfl) (Nat.le_of_ble_eq_true rfl) (am_tab tk_X9_thought 14 rfl) ?_
        refine hQ _ _ ?_
        refine ⟨congrArg (fun z => some (am_i z)) ?_, CQ.refl σ⟩
        unfold thoM
        rw [if_neg (fun h => by have := h.2; omega)]
      · refine am_aload_n (q := 10) rfl (am_tab tk_X9_thought 5 rfl) rfl ?_
        refine am_getR (q := 13) (a := 0) (k := 9) (n := 17) (j := 7) (r := some (44)) (Ls_0 hL) (by decide) rfl (Lr_0_7 hL) (by decide) (Or.inl kf_X9_57) (am_tab tk_X9_thought 6 rfl) rfl ?_
        refine am_aload_n (q := 14) rfl (am_tab tk_X9_thought 7 rfl) rfl ?_
        refine am_getR (q := 17) (a := 0) (k := 9) (n := 17) (j := 2) (r := some (15)) (Ls_0 hL) (by decide) rfl hC.t (by decide) (Or.inl kf_X9_19) (am_tab tk_X9_thought 8 rfl) rfl ?_
        refine am_aload_n (q := 18) rfl (am_tab tk_X9_thought 9 rfl) rfl ?_
        refine am_getR (q := 21) (a := 0) (k := 9) (n := 17) (j := 4) (r := some (32)) (Ls_0 hL) (by decide) rfl (Lr_0_4 hL) (by decide) (Or.inl kf_X9_38) (am_tab tk_X9_thought 10 rfl) rfl ?_
        refine am_callVr (q := 24) (me2 := M_X0_lookAt) (b := 44) (kb := 0) (nb := 14) (As := [am_r 15, am_r 32]) (rest := []) (c_lookAt_15_32 σ σ hL hC.G hC.W hC.F) ⟨rfl, rfl⟩ (Ls_44 hL) (by decide) ⟨Or.inr km_X9_247, kc_X0_lookAt, kn_X0, kd_X0_lookAt, ⟨(Nat.le_of_ble_eq_true rfl), (Nat.le_of_ble_eq_true rfl)⟩, ⟨(Nat.le_of_ble_eq_true rfl), (Nat.le_of_ble_eq_true rfl)⟩, (Nat.le_of_ble_eq_true rfl)⟩ ki_X0_lookAt ks_X0_lookAt rfl (am_tab tk_X9_thought 11 rfl) rfl ?_
        rintro r S0 hlk
        rw [if_pos ((cM_dl hC.G.R).mp cm)] at hlk
        obtain ⟨rfl, hDA, hFb⟩ := hlk
        have hq0 : CQ σ S0 := CQ.base hFb
        have hcc := cM_cc hC.G.R cm
        have hGB := bgS_GD hC.G hcc
        refine am_st (st2 := [am_i 1]) rfl ?_
        refine am_if_ne (q := 27) (t := 29) (am_tab tk_X9_thought 12 rfl) (by decide) rfl (fun h24 => ?_) (fun h24 => ?_)
        · have hawm := aw_may hC.G hC.F
          have hat := aw_tb hC.G hcc hC.F
          rw [hawm] at hat
          have hmy := hat.1
          have hmt := hat.2
          have h30 : S0.2.1 44 3 = mayM σ := hDA.2.2.1.2.2.2.trans hawm
          refine am_iconst (q := 30) (n := 0) (by decide) (am_tab tk_X9_thought 15 rfl) rfl ?_
          refine am_istore_n (q := 31) (by decide) (ls2 := [(2, am_i 0), (0, am_r 0), (1, am_i w)]) rfl (am_tab tk_X9_thought 16 rfl) rfl ?_
          refine am_aload_n (q := 32) rfl (am_tab tk_X9_thought 17 rfl) rfl ?_
          refine am_getR (q := 35) (a := 0) (k := 9) (n := 17) (j := 7) (r := some (44)) (Ls_0 (hq0.L hC.G.L)) (by decide) rfl (Lr_0_7 (hq0.L hC.G.L)) (by decide) (Or.inl kf_X9_57) (am_tab tk_X9_thought 18 rfl) rfl ?_
          refine am_getI (q := 38) (a := 44) (k := 0) (n := 14) (j := 3) (x := (mayM σ)) (Ls_44 (hq0.L hC.G.L)) (by decide) rfl h30 (by decide) (Or.inr kf_X9_282) (am_tab tk_X9_thought 19 rfl) rfl ?_
          refine am_istore_n (q := 39) (by decide) (ls2 := [(3, am_i ((mayM σ))), (2, am_i 0), (0, am_r 0), (1, am_i w)]) rfl (am_tab tk_X9_thought 20 rfl) rfl ?_
          refine am_iconst (q := 40) (n := 0) (by decide) (am_tab tk_X9_thought 21 rfl) rfl ?_
          refine am_istore (q := 42) (by decide) (ls2 := [(4, am_i 0), (3, am_i ((mayM σ))), (2, am_i 0), (0, am_r 0), (1, am_i w)]) rfl (am_tab tk_X9_thought 22 rfl) rfl ?_
          refine am_iconst (q := 43) (n := 0) (by decide) (am_tab tk_X9_thought 23 rfl) rfl ?_
          refine am_istore (q := 45) (by decide) (ls2 := [(5, am_i 0), (4, am_i 0), (3, am_i ((mayM σ))), (2, am_i 0), (0, am_r 0), (1, am_i w)]) rfl (am_tab tk_X9_thought 24 rfl) rfl ?_
          have L45 : ∀ (n45 : Nat) (m : Nat) (S : am_H), 257 - m < n45 → (m : Int) ≤ mayM σ + 1 → CQ σ S → DWr 15 32 S (bgS σ) → MEM S (bgS σ) → S.2.1 44 3 = mayM σ → am_wp M_X9_thought Q 0 0 45 [(5, am_i ((m : Int))), (4, am_i ((thF σ m).2.2)), (3, am_i ((thF σ m).2.1)), (2, am_i ((thF σ m).1)), (0, am_r 0), (1, am_i w)] [] S := by
            intro n45
            induction n45 with
            | zero => intro m S hn45; exact absurd hn45 (Nat.not_lt_zero _)
            | succ n45 ih45 =>
              intro m S hn45 hm2 hq hD hM h3
              refine am_iload (q := 47) rfl (am_tab tk_X9_thought 25 rfl) rfl ?_
              refine am_aload_n (q := 48) rfl (am_tab tk_X9_thought 26 rfl) rfl ?_
              refine am_getR (q := 51) (a := 0) (k := 9) (n := 17) (j := 7) (r := some (44)) (Ls_0 (hq.L hC.G.L)) (by decide) rfl (Lr_0_7 (hq.L hC.G.L)) (by decide) (Or.inl kf_X9_57) (am_tab tk_X9_thought 27 rfl) rfl ?_
              refine am_getI (q := 54) (a := 44) (k := 0) (n := 14) (j := 3) (x := (mayM σ)) (Ls_44 (hq.L hC.G.L)) (by decide) rfl h3 (by decide) (Or.inr kf_X9_282) (am_tab tk_X9_thought 28 rfl) rfl ?_
              refine am_icmp_gt (q := 57) (t := 116) (am_tab tk_X9_thought 29 rfl) (by decide) rfl (fun h54 => ?_) (fun h54 => ?_)
              · refine am_iload_n (q := 117) rfl (am_tab tk_X9_thought 59 rfl) rfl ?_
                refine am_if_ne (q := 120) (t := 122) (am_tab tk_X9_thought 60 rfl) (by decide) rfl (fun h117 => ?_) (fun h117 => ?_)
                · refine am_iload_n (q := 123) rfl (am_tab tk_X9_thought 63 rfl) rfl ?_
                  refine am_iconst (q := 124) (n := 2) (by decide) (am_tab tk_X9_thought 64 rfl) rfl ?_
                  refine am_icmp_ne (q := 127) (t := 132) (am_tab tk_X9_thought 65 rfl) (by decide) rfl (fun h124 => ?_) (fun h124 => ?_)
                  · refine am_iload_n (q := 133) rfl (am_tab tk_X9_thought 68 rfl) rfl ?_
                    refine am_if_ne (q := 136) (t := 140) (am_tab tk_X9_thought 69 rfl) (by decide) rfl (fun h133 => ?_) (fun h133 => ?_)
                    · refine am_iload_n (q := 141) rfl (am_tab tk_X9_thought 72 rfl) rfl ?_
                      refine am_iret (Or.inl rfl) (Nat.le_of_ble_eq_true rfl) (Nat.le_of_ble_eq_true rfl) (am_tab tk_X9_thought 73 rfl) ?_
                      refine hQ _ _ ?_
                      refine ⟨congrArg (fun z => some (am_i z)) ?_, hq⟩
                      unfold thoM
                      rw [if_pos ⟨cm, by omega⟩, show (mayM σ).toNat + 1 = m by omega]
                      first | (rw [if_pos (by omega)]; done) | (rw [if_neg (by omega), if_neg (by omega)]; done) | (rw [if_neg (by omega), if_pos (by omega)]; first | (rw [if_pos (by omega)]; done) | (rw [if_neg (by omega)]; done))
                    · refine am_iconst (q := 137) (n := 0) (by decide) (am_tab tk_X9_thought 70 rfl) rfl ?_
                      refine am_goto (t := 141) (am_tab tk_X9_thought 71 rfl) (by decide) ?_
                      refine am_iret (Or.inl rfl) (Nat.le_of_ble_eq_true rfl) (Nat.le_of_ble_eq_true rfl) (am_tab tk_X9_thought 73 rfl) ?_
                      refine hQ _ _ ?_
                      refine ⟨congrArg (fun z => some (am_i z)) ?_, hq⟩
                      unfold thoM
                      rw [if_pos ⟨cm, by omega⟩, show (mayM σ).toNat + 1 = m by omega]
                      first | (rw [if_pos (by omega)]; done) | (rw [if_neg (by omega), if_neg (by omega)]; done) | (rw [if_neg (by omega), if_pos (by omega)]; first | (rw [if_pos (by omega)]; done) | (rw [if_neg (by omega)]; done))
                  · refine am_iload (q := 129) rfl (am_tab tk_X9_thought 66 rfl) rfl ?_
                    refine am_goto (t := 141) (am_tab tk_X9_thought 67 rfl) (by decide) ?_
                    refine am_iret (Or.inl rfl) (Nat.le_of_ble_eq_true rfl) (Nat.le_of_ble_eq_true rfl) (am_tab tk_X9_thought 73 rfl) ?_
                    refine hQ _ _ ?_
                    refine ⟨congrArg (fun z => some (am_i z)) ?_, hq⟩
                    unfold thoM
                    rw [if_pos ⟨cm, by omega⟩, show (mayM σ).toNat + 1 = m by omega]
                    first | (rw [if_pos (by omega)]; done) | (rw [if_neg (by omega), if_neg (by omega)]; done) | (rw [if_neg (by omega), if_pos (by omega)]; first | (rw [if_pos (by omega)]; done) | (rw [if_neg (by omega)]; done))
                · refine am_iload_n (q := 121) rfl (am_tab tk_X9_thought 61 rfl) rfl ?_
                  refine am_iret (Or.inl rfl) (Nat.le_of_ble_eq_true rfl) (Nat.le_of_ble_eq_true rfl) (am_tab tk_X9_thought 62 rfl) ?_
                  refine hQ _ _ ?_
                  refine ⟨congrArg (fun z => some (am_i z)) ?_, hq⟩
                  unfold thoM
                  rw [if_pos ⟨cm, by omega⟩, show (mayM σ).toNat + 1 = m by omega]
                  first | (rw [if_pos (by omega)]; done) | (rw [if_neg (by omega), if_neg (by omega)]; done) | (rw [if_neg (by omega), if_pos (by omega)]; first | (rw [if_pos (by omega)]; done) | (rw [if_neg (by omega)]; done))
              · refine am_iload (q := 59) rfl (am_tab tk_X9_thought 30 rfl) rfl ?_
                refine am_aload_n (q := 60) rfl (am_tab tk_X9_thought 31 rfl) rfl ?_
                refine am_getR (q := 63) (a := 0) (k := 9) (n := 17) (j := 7) (r := some (44)) (Ls_0 (hq.L hC.G.L)) (by decide) rfl (Lr_0_7 (hq.L hC.G.L)) (by decide) (Or.inl kf_X9_57) (am_tab tk_X9_thought 32 rfl) rfl ?_
                refine am_getI (q := 66) (a := 44) (k := 0) (n := 14) (j := 3) (x := (mayM σ)) (Ls_44 (hq.L hC.G.L)) (by decide) rfl h3 (by decide) (Or.inr kf_X9_282) (am_tab tk_X9_thought 33 rfl) rfl ?_
                refine am_iconst (q := 67) (n := (-1)) (by decide) (am_tab tk_X9_thought 34 rfl) rfl ?_
                refine am_ixor (q := 68) (am_tab tk_X9_thought 35 rfl) rfl ?_
                refine am_iand (q := 69) (am_tab tk_X9_thought 36 rfl) rfl ?_
                refine am_if_ne (q := 72) (t := 110) (am_tab tk_X9_thought 37 rfl) (by decide) rfl (fun h69 => ?_) (fun h69 => ?_)
                · refine am_iinc (q := 113) rfl (by omega) (by decide) (ls2 := [(5, am_i (((m : Int) + 1))), (4, am_i ((thF σ m).2.2)), (3, am_i ((thF σ m).2.1)), (2, am_i ((thF σ m).1)), (0, am_r 0), (1, am_i w)]) rfl (am_tab tk_X9_thought 57 rfl) rfl ?_
                  refine am_goto (t := 45) (am_tab tk_X9_thought 58 rfl) (by decide) ?_
                  have he : thF σ (m + 1) = ((thF σ m).1, (thF σ m).2.1, (thF σ m).2.2) := by
                    conv => lhs; unfold thF
                    rw [if_neg (fun z => h69 z.1)]
                  exact am_less (by intro q hq; simp only [List.mem_cons, List.not_mem_nil, or_false] at hq; rcases hq with rfl | rfl | rfl | rfl | rfl | rfl <;> simp [he]) (ih45 (m + 1) S (by omega) (by omega) hq hD hM h3)
                · refine am_aload_n (q := 73) rfl (am_tab tk_X9_thought 38 rfl) rfl ?_
                  refine am_aload_n (q := 74) rfl (am_tab tk_X9_thought 39 rfl) rfl ?_
                  refine am_getR (q := 77) (a := 0) (k := 9) (n := 17) (j := 7) (r := some (44)) (Ls_0 (hq.L hC.G.L)) (by decide) rfl (Lr_0_7 (hq.L hC.G.L)) (by decide) (Or.inl kf_X9_57) (am_tab tk_X9_thought 40 rfl) rfl ?_
                  refine am_iload (q := 79) rfl (am_tab tk_X9_thought 41 rfl) rfl ?_
                  refine am_aload_n (q := 80) rfl (am_tab tk_X9_thought 42 rfl) rfl ?_
                  refine am_getR (q := 83) (a := 0) (k := 9) (n := 17) (j := 7) (r := some (44)) (Ls_0 (hq.L hC.G.L)) (by decide) rfl (Lr_0_7 (hq.L hC.G.L)) (by decide) (Or.inl kf_X9_57) (am_tab tk_X9_thought 43 rfl) rfl ?_
                  refine am_getI (q := 86) (a := 44) (k := 0) (n := 14) (j := 3) (x := (mayM σ)) (Ls_44 (hq.L hC.G.L)) (by decide) rfl h3 (by decide) (Or.inr kf_X9_282) (am_tab tk_X9_thought 44 rfl) rfl ?_
                  refine am_callVr (q := 89) (me2 := M_X0_spread) (b := 44) (kb := 0) (nb := 14) (As := [am_i ((m : Int)), am_i ((mayM σ))]) (rest := [am_r 0]) (c_spread_15_32 S (bgS σ) (hq.L hC.G.L) hGB hD (m : Int) (mayM σ) (bsD σ) (by omega) hmy (fun p hp => by rw [hmt p (show p < 8 by have h5 : p < pN σ := hp; have := hC.G.R.P; unfold pN at h5; omega), show (bgS σ).2.1 96 (12 + p) = σ.2.1 96 (12 + p) from bgN_far (by omega)]; have h5 : p < pN σ := hp; by_cases h6 : σ.2.1 96 (12 + p) = 1 <;> by_cases h7 : tb (bsD σ) p = 1 <;> simp [h5, h6, h7]) hM) ⟨rfl, rfl⟩ (Ls_44 (hq.L hC.G.L)) (by decide) ⟨Or.inr km_X9_266, kc_X0_spread, kn_X0, kd_X0_spread, ⟨(Nat.le_of_ble_eq_true rfl), (Nat.le_of_ble_eq_true rfl)⟩, ⟨(Nat.le_of_ble_eq_true rfl), (Nat.le_of_ble_eq_true rfl)⟩, (Nat.le_of_ble_eq_true rfl)⟩ ki_X0_spread ks_X0_spread rfl (am_tab tk_X9_thought 45 rfl) rfl ?_
                  rintro r T ⟨hr9, hMT, hFT⟩
                  have hr8 : r = some (am_i (rmE (bgS σ) (tsD σ) (m : Int) (bsD σ))) := hr9
                  subst hr8
                  have hqT : CQ σ T := hq.trans (hFT.cq (by unfold W_dw W_cq; omega))
                  have hDT := hD.fr hFT (by decide) (by decide)
                  have h3T : T.2.1 44 3 = mayM σ := (hFT.2.2 44 3 (by unfold W_dw; omega)).trans h3
                  refine am_st (st2 := [am_i ((rmE (bgS σ) (tsD σ) (m : Int) (bsD σ))), am_r 0]) rfl ?_
                  refine am_callV0 (q := 92) (me2 := M_X9_isAsSeen) (b := 0) (kb := 9) (nb := 17) (As := [am_i ((rmE (bgS σ) (tsD σ) (m : Int) (bsD σ)))]) (rest := []) (out := [am_i (b2i (skB σ (rmE (bgS σ) (tsD σ) (m : Int) (bsD σ))))]) (c_isAsSeen σ T (hqT.L hC.G.L) hS hqT (rmE (bgS σ) (tsD σ) (m : Int) (bsD σ)) (rmE_rng hGB.R _ _ (by omega))) ⟨rfl, rfl⟩ (Ls_0 (hqT.L hC.G.L)) (by decide) ⟨Or.inl km_X9_285, kc_X9_isAsSeen, kn_X9, kd_X9_isAsSeen, ⟨(Nat.le_of_ble_eq_true rfl), (Nat.le_of_ble_eq_true rfl)⟩, ⟨(Nat.le_of_ble_eq_true rfl), (Nat.le_of_ble_eq_true rfl)⟩, (Nat.le_of_ble_eq_true rfl)⟩ ki_X9_isAsSeen ks_X9_isAsSeen rfl rfl (am_tab tk_X9_thought 46 rfl) rfl ?_
                  refine am_if_eq (q := 95) (t := 110) (am_tab tk_X9_thought 47 rfl) (by decide) rfl (fun h92 => ?_) (fun h92 => ?_)
                  · have h92z := b2f9 h92
                    refine am_iinc (q := 113) rfl (by omega) (by decide) (ls2 := [(5, am_i (((m : Int) + 1))), (4, am_i ((thF σ m).2.2)), (3, am_i ((thF σ m).2.1)), (2, am_i ((thF σ m).1)), (0, am_r 0), (1, am_i w)]) rfl (am_tab tk_X9_thought 57 rfl) rfl ?_
                    refine am_goto (t := 45) (am_tab tk_X9_thought 58 rfl) (by decide) ?_
                    have he : thF σ (m + 1) = ((thF σ m).1, (thF σ m).2.1, (thF σ m).2.2) := by
                      conv => lhs; unfold thF
                      rw [if_neg (fun z => h92z z.2)]
                    exact am_less (by intro q hq; simp only [List.mem_cons, List.not_mem_nil, or_false] at hq; rcases hq with rfl | rfl | rfl | rfl | rfl | rfl <;> simp [he]) (ih45 (m + 1) T (by omega) (by omega) hqT hDT hMT h3T)
                  · have ht1 := thF_1 (σ := σ) m
                    refine am_iinc (q := 98) rfl (by omega) (by decide) (ls2 := [(2, am_i ((((thF σ m).1) + 1))), (5, am_i ((m : Int))), (4, am_i ((thF σ m).2.2)), (3, am_i ((thF σ m).2.1)), (0, am_r 0), (1, am_i w)]) rfl (am_tab tk_X9_thought 48 rfl) rfl ?_
                    refine am_iload_n (q := 99) rfl (am_tab tk_X9_thought 49 rfl) rfl ?_
                    refine am_iload (q := 101) rfl (am_tab tk_X9_thought 50 rfl) rfl ?_
                    refine am_iand (q := 102) (am_tab tk_X9_thought 51 rfl) rfl ?_
                    refine am_istore_n (q := 103) (by decide) (ls2 := [(3, am_i ((ao_and ((thF σ m).2.1) (m : Int)))), (2, am_i ((((thF σ m).1) + 1))), (5, am_i ((m : Int))), (4, am_i ((thF σ m).2.2)), (0, am_r 0), (1, am_i w)]) rfl (am_tab tk_X9_thought 52 rfl) rfl ?_
                    refine am_iload (q := 105) rfl (am_tab tk_X9_thought 53 rfl) rfl ?_
                    refine am_iload (q := 107) rfl (am_tab tk_X9_thought 54 rfl) rfl ?_
                    refine am_ior (q := 108) (am_tab tk_X9_thought 55 rfl) rfl ?_
                    refine am_istore (q := 110) (by decide) (ls2 := [(4, am_i ((ao_or ((thF σ m).2.2) (m : Int)))), (3, am_i ((ao_and ((thF σ m).2.1) (m : Int)))), (2, am_i ((((thF σ m).1) + 1))), (5, am_i ((m : Int))), (0, am_r 0), (1, am_i w)]) rfl (am_tab tk_X9_thought 56 rfl) rfl ?_
                    refine am_iinc (q := 113) rfl (by omega) (by decide) (ls2 := [(5, am_i (((m : Int) + 1))), (4, am_i ((ao_or ((thF σ m).2.2) (m : Int)))), (3, am_i ((ao_and ((thF σ m).2.1) (m : Int)))), (2, am_i ((((thF σ m).1) + 1))), (0, am_r 0), (1, am_i w)]) rfl (am_tab tk_X9_thought 57 rfl) rfl ?_
                    refine am_goto (t := 45) (am_tab tk_X9_thought 58 rfl) (by decide) ?_
                    have he : thF σ (m + 1) = ((((thF σ m).1) + 1), (ao_and ((thF σ m).2.1) (m : Int)), (ao_or ((thF σ m).2.2) (m : Int))) := by
                      conv => lhs; unfold thF
                      rw [if_pos ⟨by omega, b2t9 h92⟩]
                    exact am_less (by intro q hq; simp only [List.mem_cons, List.not_mem_nil, or_false] at hq; rcases hq with rfl | rfl | rfl | rfl | rfl | rfl <;> simp [he]) (ih45 (m + 1) T (by omega) (by omega) hqT hDT hMT h3T)
          refine am_less (by intro q hq; simp only [List.mem_cons, List.not_mem_nil, or_false] at hq; rcases hq with rfl | rfl | rfl | rfl | rfl | rfl <;> simp [thF]) (L45 (_ + 1) 0 S0 (by exact Nat.lt_succ_self _) (by omega) hq0 hDA.1 hDA.2.1 h30)
        · exact absurd h24 (by decide)
  · refine am_iload_n (q := 1) rfl (am_tab tk_X9_thought 0 rfl) rfl ?_
    refine am_if_lt (q := 4) (t := 27) (am_tab tk_X9_thought 1 rfl) (by decide) rfl (fun h1 => ?_) (fun h1 => ?_)
    · refine am_iconst (q := 28) (n := (-1)) (by decide) (am_tab tk_X9_thought 13 rfl) rfl ?_
      refine am_iret (Or.inl rfl) (Nat.le_of_ble_eq_true rfl) (Nat.le_of_ble_eq_true rfl) (am_tab tk_X9_thought 14 rfl) ?_
      refine hQ _ _ ?_
      refine ⟨congrArg (fun z => some (am_i z)) ?_, CQ.refl σ⟩
      unfold thoM
      rw [if_neg (fun h => by have := h.2; omega)]
    · refine am_iload_n (q := 5) rfl (am_tab tk_X9_thought 2 rfl) rfl ?_
      refine am_iconst (q := 6) (n := 2) (by decide) (am_tab tk_X9_thought 3 rfl) rfl ?_
      refine am_icmp_gt (q := 9) (t := 27) (am_tab tk_X9_thought 4 rfl) (by decide) rfl (fun h6 => ?_) (fun h6 => ?_)
      · refine am_iconst (q := 28) (n := (-1)) (by decide) (am_tab tk_X9_thought 13 rfl) rfl ?_
        refine am_iret (Or.inl rfl) (Nat.le_of_ble_eq_true rfl) (Nat.le_of_ble_eq_true rfl) (am_tab tk_X9_thought 14 rfl) ?_
        refine hQ _ _ ?_
        refine ⟨congrArg (fun z => some (am_i z)) ?_, CQ.refl σ⟩
        unfold thoM
        rw [if_neg (fun h => by have := h.2; omega)]
      · refine am_aload_n (q := 10) rfl (am_tab tk_X9_thought 5 rfl) rfl ?_
        refine am_getR (q := 13) (a := 0) (k := 9) (n := 17) (j := 7) (r := some (44)) (Ls_0 hL) (by decide) rfl (Lr_0_7 hL) (by decide) (Or.inl kf_X9_57) (am_tab tk_X9_thought 6 rfl) rfl ?_
        refine am_aload_n (q := 14) rfl (am_tab tk_X9_thought 7 rfl) rfl ?_
        refine am_getR (q := 17) (a := 0) (k := 9) (n := 17) (j := 2) (r := some (15)) (Ls_0 hL) (by decide) rfl hC.t (by decide) (Or.inl kf_X9_19) (am_tab tk_X9_thought 8 rfl) rfl ?_
        refine am_aload_n (q := 18) rfl (am_tab tk_X9_thought 9 rfl) rfl ?_
        refine am_getR (q := 21) (a := 0) (k := 9) (n := 17) (j := 4) (r := some (32)) (Ls_0 hL) (by decide) rfl (Lr_0_4 hL) (by decide) (Or.inl kf_X9_38) (am_tab tk_X9_thought 10 rfl) rfl ?_
        refine am_callVr (q := 24) (me2 := M_X0_lookAt) (b := 44) (kb := 0) (nb := 14) (As := [am_r 15, am_r 32]) (rest := []) (c_lookAt_15_32 σ σ hL hC.G hC.W hC.F) ⟨rfl, rfl⟩ (Ls_44 hL) (by decide) ⟨Or.inr km_X9_247, kc_X0_lookAt, kn_X0, kd_X0_lookAt, ⟨(Nat.le_of_ble_eq_true rfl), (Nat.le_of_ble_eq_true rfl)⟩, ⟨(Nat.le_of_ble_eq_true rfl), (Nat.le_of_ble_eq_true rfl)⟩, (Nat.le_of_ble_eq_true rfl)⟩ ki_X0_lookAt ks_X0_lookAt rfl (am_tab tk_X9_thought 11 rfl) rfl ?_
        rintro r S0 hlk
        rw [if_neg (fun h => cm ((cM_dl hC.G.R).mpr h))] at hlk
        obtain ⟨rfl, hSS⟩ := hlk
        rw [hSS]
        refine am_st (st2 := [am_i 0]) rfl ?_
        refine am_if_ne (q := 27) (t := 29) (am_tab tk_X9_thought 12 rfl) (by decide) rfl (fun h24 => ?_) (fun h24 => ?_)
        · exact absurd h24 (by decide)
        · refine am_iconst (q := 28) (n := (-1)) (by decide) (am_tab tk_X9_thought 13 rfl) rfl ?_
          refine am_iret (Or.inl rfl) (Nat.le_of_ble_eq_true rfl) (Nat.le_of_ble_eq_true rfl) (am_tab tk_X9_thought 14 rfl) ?_
          refine hQ _ _ ?_
          refine ⟨congrArg (fun z => some (am_i z)) ?_, (((frw.refl W_cq σ).setN (a := 44) (j := 7) (x := 0) (by unfold W_cq; omega)).cq (fun _ _ h => h))⟩
          unfold thoM
          rw [if_neg (fun h => cm h.1)]
