/-- a copy of the first k places, m further on -/
def cpA (S : am_H) (a m k j : Nat) : Int := if m ≤ j ∧ j < m + k then S.2.1 a (j - m) else S.2.1 a j
theorem cpA_on {S T : am_H} {a m k x : Nat} (hx : x = m + k) (hA : ∀ j, T.2.1 a j = cpA S a m k j) (j : Nat) : (am_setN T a x (S.2.1 a k)).2.1 a j = cpA S a m (k + 1) j := by
  show (if a = a ∧ j = x then S.2.1 a k else T.2.1 a j) = _
  rw [hA]
  unfold cpA
  by_cases h : j = x
  · rw [if_pos ⟨rfl, h⟩, if_pos (by omega), show j - m = k by omega]
  · rw [if_neg (fun x => h x.2)]
    by_cases h2 : m ≤ j ∧ j < m + k
    · rw [if_pos h2, if_pos (by omega)]
    · rw [if_neg h2, if_neg (by omega)]
theorem cpA_0 {S : am_H} {a m : Nat} (j : Nat) : S.2.1 a j = cpA S a m 0 j := by
  unfold cpA
  rw [if_neg (by omega)]
theorem cpA_at {S T : am_H} {a m k : Nat} (hk : k < m) (hA : ∀ j, T.2.1 a j = cpA S a m k j) : T.2.1 a (Int.toNat (k : Int)) = S.2.1 a k := by
  rw [show Int.toNat (k : Int) = k by omega, hA]
  unfold cpA
  rw [if_neg (by omega)]
theorem zl_on {T : am_H} {a k x : Nat} {g : Nat → Int} (hx : x = k) (hA : ∀ j, T.2.1 a j = if j < k then 0 else g j) (j : Nat) : (am_setN T a x 0).2.1 a j = if j < k + 1 then 0 else g j := by
  show (if a = a ∧ j = x then 0 else T.2.1 a j) = _
  rw [hA]
  by_cases h : j = x
  · rw [if_pos ⟨rfl, h⟩, if_pos (by omega)]
  · rw [if_neg (fun x => h x.2)]
    by_cases h2 : j < k
    · rw [if_pos h2, if_pos (by omega)]
    · rw [if_neg h2, if_neg (by omega)]
theorem cf_on {T : am_H} {a m k x : Nat} {f g : Nat → Int} (hx : x = m + k) (hA : ∀ j, T.2.1 a j = if m ≤ j ∧ j < m + k then f (j - m) else g j) (j : Nat) : (am_setN T a x (f k)).2.1 a j = if m ≤ j ∧ j < m + (k + 1) then f (j - m) else g j := by
  show (if a = a ∧ j = x then f k else T.2.1 a j) = _
  rw [hA]
  by_cases h : j = x
  · rw [if_pos ⟨rfl, h⟩, if_pos (by omega), show j - m = k by omega]
  · rw [if_neg (fun x => h x.2)]
    by_cases h2 : m ≤ j ∧ j < m + k
    · rw [if_pos h2, if_pos (by omega)]
    · rw [if_neg h2, if_neg (by omega)]
theorem cf_0 {T : am_H} {f : Nat → Int} (j : Nat) : (am_setN T 96 0 1).2.1 96 j = if 20 ≤ j ∧ j < 20 + 0 then f (j - 20) else if j = 0 then 1 else T.2.1 96 j := by
  rw [if_neg (by omega)]
  show (if 96 = 96 ∧ j = 0 then 1 else T.2.1 96 j) = _
  by_cases h : j = 0
  · rw [if_pos ⟨rfl, h⟩, if_pos h]
  · rw [if_neg (fun x => h x.2), if_neg h]
/-- the cells of a fresh day: what is told off stands behind twenty places -/
def s96 (S : am_H) (j : Nat) : Int := if 20 ≤ j ∧ j < 111 then S.2.1 90 (j - 20) else if j = 0 then 1 else if j < 443 then 0 else S.2.1 96 j
def s95 (S : am_H) (j : Nat) : Int := if 1600 ≤ j ∧ j < 1600 + (S.2.1 55 50).toNat then S.2.1 95 (j - 1600) else S.2.1 95 j
/-- the town that was told stands -/
def sdH (S : am_H) : am_H := (S.1, fun a j => if a = 85 then cpA S 85 5 5 j else if (86 ≤ a ∧ a ≤ 89) ∨ a = 91 then cpA S a 8 8 j else if 92 ≤ a ∧ a ≤ 94 then cpA S a 2 2 j else if a = 95 then s95 S j else if a = 96 then s96 S j else if a = 55 ∧ j = 52 then 1 else if a = 55 ∧ (j = 65 ∨ j = 69) then 0 else S.2.1 a j, S.2.2)
def W_l1 (a j : Nat) : Prop := a = 85
def W_l2 (a j : Nat) : Prop := a = 86 ∨ a = 87 ∨ a = 88 ∨ a = 89 ∨ a = 91
def W_l3 (a j : Nat) : Prop := a = 92 ∨ a = 93 ∨ a = 94
def W_l4 (a j : Nat) : Prop := a = 95
def W_l5 (a j : Nat) : Prop := a = 96
set_option maxRecDepth 100000 in
theorem c_X10_stands (S : am_H) (hL : lay S)  (hc : 0 ≤ S.2.1 55 50 ∧ S.2.1 55 50 ≤ 1600) : am_met M_X10_stands [am_r 55] S (fun r σ' => r = none ∧ σ' = sdH S) := by
  refine am_qq (fun Q hQ => ?_)
  refine am_enter (show plainFor yX10_stands = true by decide +kernel) rfl (Nat.le_of_ble_eq_true rfl) (fun _ _ _ => trivial) ?_
  refine am_aload_n (q := 1) rfl (am_tab tk_X10_stands 0 rfl) rfl ?_
  refine am_iconst (q := 2) (n := 1) (by decide) (am_tab tk_X10_stands 1 rfl) rfl ?_
  refine am_putZ (q := 5) (k := 10) (n := 108) (j := 52) (Ls_55 hL) (by decide) rfl (by first | exact Or.inl rfl | exact Or.inr rfl | omega) (by decide) (Or.inl ⟨kf_X10_384, rfl⟩) (am_tab tk_X10_stands 2 rfl) rfl ?_
  refine am_iconst (q := 6) (n := 0) (by decide) (am_tab tk_X10_stands 3 rfl) rfl ?_
  refine am_istore_n (q := 7) (by decide) (ls2 := [(1, am_i 0), (0, am_r 55)]) rfl (am_tab tk_X10_stands 4 rfl) rfl ?_
  have L7 : ∀ (n7 : Nat) (k1 : Nat) (T1 : am_H), 5 - k1 < n7 → frw W_l1 (am_setN S 55 52 1) T1 → (∀ j, T1.2.1 85 j = cpA (am_setN S 55 52 1) 85 5 k1 j) → k1 ≤ 5 → am_wp M_X10_stands Q 0 0 7 [(1, am_i ((k1 : Int))), (0, am_r 55)] [] T1 := by
    intro n7
    induction n7 with
    | zero => intro k1 T1 hn7; exact absurd hn7 (Nat.not_lt_zero _)
    | succ n7 ih7 =>
      intro k1 T1 hn7 hT1 hT1_85 hk1
      have hL_T1 : lay T1 := hT1.L hL
      refine am_iload_n (q := 8) rfl (am_tab tk_X10_stands 5 rfl) rfl ?_
      refine am_iconst (q := 9) (n := 5) (by decide) (am_tab tk_X10_stands 6 rfl) rfl ?_
      refine am_icmp_ge (q := 12) (t := 32) (am_tab tk_X10_stands 7 rfl) (by decide) rfl (fun h9 => ?_) (fun h9 => ?_)
      · refine am_iconst (q := 33) (n := 0) (by decide) (am_tab tk_X10_stands 20 rfl) rfl ?_
        refine am_istore_n (q := 34) (by decide) (ls2 := [(1, am_i 0), (0, am_r 55)]) rfl (am_tab tk_X10_stands 21 rfl) rfl ?_
        have L34 : ∀ (n34 : Nat) (k2 : Nat) (T2 : am_H), 8 - k2 < n34 → frw W_l2 T1 T2 → (∀ j, T2.2.1 86 j = cpA T1 86 8 k2 j) → (∀ j, T2.2.1 87 j = cpA T1 87 8 k2 j) → (∀ j, T2.2.1 88 j = cpA T1 88 8 k2 j) → (∀ j, T2.2.1 89 j = cpA T1 89 8 k2 j) → (∀ j, T2.2.1 91 j = cpA T1 91 8 k2 j) → k2 ≤ 8 → am_wp M_X10_stands Q 0 0 34 [(1, am_i ((k2 : Int))), (0, am_r 55)] [] T2 := by
          intro n34
          induction n34 with
          | zero => intro k2 T2 hn34; exact absurd hn34 (Nat.not_lt_zero _)
          | succ n34 ih34 =>
            intro k2 T2 hn34 hT2 hT2_86 hT2_87 hT2_88 hT2_89 hT2_91 hk2
            have hL_T2 : lay T2 := hT2.L hL_T1
            refine am_iload_n (q := 35) rfl (am_tab tk_X10_stands 22 rfl) rfl ?_
            refine am_bipush (q := 37) (n := 8) (by decide) rfl (am_tab tk_X10_stands 23 rfl) rfl ?_
            refine am_icmp_ge (q := 40) (t := 121) (am_tab tk_X10_stands 24 rfl) (by decide) rfl (fun h37 => ?_) (fun h37 => ?_)
            · refine am_iconst (q := 122) (n := 0) (by decide) (am_tab tk_X10_stands 77 rfl) rfl ?_
              refine am_istore_n (q := 123) (by decide) (ls2 := [(1, am_i 0), (0, am_r 55)]) rfl (am_tab tk_X10_stands 78 rfl) rfl ?_
              have L123 : ∀ (n123 : Nat) (k3 : Nat) (T3 : am_H), 2 - k3 < n123 → frw W_l3 T2 T3 → (∀ j, T3.2.1 92 j = cpA T2 92 2 k3 j) → (∀ j, T3.2.1 93 j = cpA T2 93 2 k3 j) → (∀ j, T3.2.1 94 j = cpA T2 94 2 k3 j) → k3 ≤ 2 → am_wp M_X10_stands Q 0 0 123 [(1, am_i ((k3 : Int))), (0, am_r 55)] [] T3 := by
                intro n123
                induction n123 with
                | zero => intro k3 T3 hn123; exact absurd hn123 (Nat.not_lt_zero _)
                | succ n123 ih123 =>
                  intro k3 T3 hn123 hT3 hT3_92 hT3_93 hT3_94 hk3
                  have hL_T3 : lay T3 := hT3.L hL_T2
                  refine am_iload_n (q := 124) rfl (am_tab tk_X10_stands 79 rfl) rfl ?_
                  refine am_iconst (q := 125) (n := 2) (by decide) (am_tab tk_X10_stands 80 rfl) rfl ?_
                  refine am_icmp_ge (q := 128) (t := 176) (am_tab tk_X10_stands 81 rfl) (by decide) rfl (fun h125 => ?_) (fun h125 => ?_)
                  · refine am_iconst (q := 177) (n := 0) (by decide) (am_tab tk_X10_stands 114 rfl) rfl ?_
                    refine am_istore_n (q := 178) (by decide) (ls2 := [(1, am_i 0), (0, am_r 55)]) rfl (am_tab tk_X10_stands 115 rfl) rfl ?_
                    have L178 : ∀ (n178 : Nat) (k4 : Nat) (T4 : am_H), (S.2.1 55 50).toNat - k4 < n178 → frw W_l4 T3 T4 → (∀ j, T4.2.1 95 j = cpA T3 95 1600 k4 j) → k4 ≤ (S.2.1 55 50).toNat → am_wp M_X10_stands Q 0 0 178 [(1, am_i ((k4 : Int))), (0, am_r 55)] [] T4 := by
                      intro n178
                      induction n178 with
                      | zero => intro k4 T4 hn178; exact absurd hn178 (Nat.not_lt_zero _)
                      | succ n178 ih178 =>
                        intro k4 T4 hn178 hT4 hT4_95 hk4
                        have hL_T4 : lay T4 := hT4.L hL_T3
                        refine am_iload_n (q := 179) rfl (am_tab tk_X10_stands 116 rfl) rfl ?_
                        have e50 : T4.2.1 55 50 = S.2.1 55 50 := by rw [hT4.2.2 55 50 (by unfold W_l4; omega), hT3.2.2 55 50 (by unfold W_l3; omega), hT2.2.2 55 50 (by unfold W_l2; omega), hT1.2.2 55 50 (by unfold W_l1; omega)]; rfl
                        refine am_aload_n (q := 180) rfl (am_tab tk_X10_stands 117 rfl) rfl ?_
                        refine am_getI (q := 183) (a := 55) (k := 10) (n := 108) (j := 50) (x := (S.2.1 55 50)) (Ls_55 hL_T4) (by decide) rfl e50 (by decide) (Or.inl kf_X10_351) (am_tab tk_X10_stands 118 rfl) rfl ?_
                        refine am_icmp_ge (q := 186) (t := 208) (am_tab tk_X10_stands 119 rfl) (by decide) rfl (fun h183 => ?_) (fun h183 => ?_)
                        · refine am_iconst (q := 209) (n := 0) (by decide) (am_tab tk_X10_stands 132 rfl) rfl ?_
                          refine am_istore_n (q := 210) (by decide) (ls2 := [(1, am_i 0), (0, am_r 55)]) rfl (am_tab tk_X10_stands 133 rfl) rfl ?_
                          have L210 : ∀ (n210 : Nat) (k5 : Nat) (T5 : am_H), 443 - k5 < n210 → frw W_l5 T4 T5 → (∀ j, T5.2.1 96 j = if j < k5 then 0 else T4.2.1 96 j) → k5 ≤ 443 → am_wp M_X10_stands Q 0 0 210 [(1, am_i ((k5 : Int))), (0, am_r 55)] [] T5 := by
                            intro n210
                            induction n210 with
                            | zero => intro k5 T5 hn210; exact absurd hn210 (Nat.not_lt_zero _)
                            | succ n210 ih210 =>
                              intro k5 T5 hn210 hT5 h5z hk5
                              have hL_T5 : lay T5 := hT5.L hL_T4
                              refine am_iload_n (q := 211) rfl (am_tab tk_X10_stands 134 rfl) rfl ?_
                              refine am_sipush (q := 214) (n := 443) (by decide) rfl (am_tab tk_X10_stands 135 rfl) rfl ?_
                              refine am_icmp_ge (q := 217) (t := 230) (am_tab tk_X10_stands 136 rfl) (by decide) rfl (fun h214 => ?_) (fun h214 => ?_)
                              · refine am_aload_n (q := 231) rfl (am_tab tk_X10_stands 144 rfl) rfl ?_
                                refine am_getR (q := 234) (a := 55) (k := 10) (n := 108) (j := 54) (r := some (96)) (Ls_55 hL_T5) (by decide) rfl (Lr_55_54 hL_T5) (by decide) (Or.inl kf_X10_136) (am_tab tk_X10_stands 145 rfl) rfl ?_
                                refine am_iconst (q := 235) (n := 0) (by decide) (am_tab tk_X10_stands 146 rfl) rfl ?_
                                refine am_iconst (q := 236) (n := 1) (by decide) (am_tab tk_X10_stands 147 rfl) rfl ?_
                                refine am_iast (q := 237) (a := 96) (n := 443) (Ls_96 hL_T5) (by omega) (by omega) (am_tab tk_X10_stands 148 rfl) rfl ?_
                                refine am_iconst (q := 238) (n := 0) (by decide) (am_tab tk_X10_stands 149 rfl) rfl ?_
                                refine am_istore_n (q := 239) (by decide) (ls2 := [(1, am_i 0), (0, am_r 55)]) rfl (am_tab tk_X10_stands 150 rfl) rfl ?_
                                have L239 : ∀ (n239 : Nat) (k6 : Nat) (T6 : am_H), 91 - k6 < n239 → frw W_l5 (am_setN T5 96 0 1) T6 → (∀ j, T6.2.1 96 j = if 20 ≤ j ∧ j < 20 + k6 then S.2.1 90 (j - 20) else if j = 0 then 1 else T5.2.1 96 j) → k6 ≤ 91 → am_wp M_X10_stands Q 0 0 239 [(1, am_i ((k6 : Int))), (0, am_r 55)] [] T6 := by
                                  intro n239
                                  induction n239 with
                                  | zero => intro k6 T6 hn239; exact absurd hn239 (Nat.not_lt_zero _)
                                  | succ n239 ih239 =>
                                    intro k6 T6 hn239 hT6 h6z hk6
                                    have hL_T6 : lay T6 := hT6.L hL_T5
                                    refine am_iload_n (q := 240) rfl (am_tab tk_X10_stands 151 rfl) rfl ?_
                                    refine am_bipush (q := 242) (n := 90) (by decide) rfl (am_tab tk_X10_stands 152 rfl) rfl ?_
                                    refine am_icmp_gt (q := 245) (t := 266) (am_tab tk_X10_stands 153 rfl) (by decide) rfl (fun h242 => ?_) (fun h242 => ?_)
                                    · refine am_aload_n (q := 267) rfl (am_tab tk_X10_stands 166 rfl) rfl ?_
                                      refine am_iconst (q := 268) (n := 0) (by decide) (am_tab tk_X10_stands 167 rfl) rfl ?_
                                      refine am_putI (q := 271) (k := 10) (n := 108) (j := 69) (Ls_55 hL_T6) (by decide) rfl (by decide) (Or.inl ⟨kf_X10_388, rfl⟩) (am_tab tk_X10_stands 168 rfl) rfl ?_
                                      refine am_aload_n (q := 272) rfl (am_tab tk_X10_stands 169 rfl) rfl ?_
                                      refine am_iconst (q := 273) (n := 0) (by decide) (am_tab tk_X10_stands 170 rfl) rfl ?_
                                      refine am_putI (q := 276) (k := 10) (n := 108) (j := 65) (Ls_55 hL_T6) (by decide) rfl (by decide) (Or.inl ⟨kf_X10_391, rfl⟩) (am_tab tk_X10_stands 171 rfl) rfl ?_
                                      refine am_vret rfl (Nat.le_of_ble_eq_true rfl) (Nat.le_of_ble_eq_true rfl) (am_tab tk_X10_stands 172 rfl) ?_
                                      refine hQ _ _ ?_
                                      refine ⟨rfl, ?_⟩
                                      refine Prod.ext (show T6.1 = S.1 from ?_) (Prod.ext ?_ (show T6.2.2 = S.2.2 from ?_))
                                      · rw [hT6.1]; show T5.1 = _; rw [hT5.1, hT4.1, hT3.1, hT2.1, hT1.1]; rfl
                                      rotate_left
                                      · rw [hT6.2.1]; show T5.2.2 = _; rw [hT5.2.1, hT4.2.1, hT3.2.1, hT2.2.1, hT1.2.1]; rfl
                                      funext a j
                                      have e : ∀ a j, ¬ (85 ≤ a ∧ a ≤ 96 ∧ ¬ a = 90) → T6.2.1 a j = (if a = 55 ∧ j = 52 then 1 else S.2.1 a j) := fun a j h => by
                                        rw [hT6.2.2 a j (by unfold W_l5; omega)]
                                        show (if a = 96 ∧ j = 0 then 1 else T5.2.1 a j) = _
                                        rw [if_neg (by omega), hT5.2.2 a j (by unfold W_l5; omega), hT4.2.2 a j (by unfold W_l4; omega), hT3.2.2 a j (by unfold W_l3; omega), hT2.2.2 a j (by unfold W_l2; omega), hT1.2.2 a j (by unfold W_l1; omega)]
                                        rfl
                                      have q5 : ∀ a j, ¬ a = 96 → T6.2.1 a j = T4.2.1 a j := fun a j h => by
                                        rw [hT6.2.2 a j (by unfold W_l5; omega)]
                                        show (if a = 96 ∧ j = 0 then 1 else T5.2.1 a j) = _
                                        rw [if_neg (by omega), hT5.2.2 a j (by unfold W_l5; omega)]
                                      have q1 : ∀ a j, ¬ a = 85 → T1.2.1 a j = (if a = 55 ∧ j = 52 then 1 else S.2.1 a j) := fun a j h => hT1.2.2 a j (by unfold W_l1; omega)
                                      show (if a = 55 ∧ j = 65 then 0 else if a = 55 ∧ j = 69 then 0 else T6.2.1 a j) = (if a = 85 then cpA S 85 5 5 j else if (86 ≤ a ∧ a ≤ 89) ∨ a = 91 then cpA S a 8 8 j else if 92 ≤ a ∧ a ≤ 94 then cpA S a 2 2 j else if a = 95 then s95 S j else if a = 96 then s96 S j else if a = 55 ∧ j = 52 then 1 else if a = 55 ∧ (j = 65 ∨ j = 69) then 0 else S.2.1 a j)
                                      have ek1 : k1 = 5 := by omega
                                      have ek2 : k2 = 8 := by omega
                                      have ek3 : k3 = 2 := by omega
                                      have ek4 : k4 = (S.2.1 55 50).toNat := by omega
                                      have ek5 : k5 = 443 := by omega
                                      have ek6 : k6 = 91 := by omega
                                      by_cases g1 : a = 85
                                      · rw [if_pos g1, if_neg (by omega), if_neg (by omega), g1, q5 85 j (by omega), hT4.2.2 85 j (by unfold W_l4; omega), hT3.2.2 85 j (by unfold W_l3; omega), hT2.2.2 85 j (by unfold W_l2; omega), hT1_85 j, ek1]; rfl
                                      · rw [if_neg g1]
                                        by_cases g2 : (86 ≤ a ∧ a ≤ 89) ∨ a = 91
                                        · have hx : T2.2.1 a j = cpA T1 a 8 8 j := by
                                            rcases (show a = 86 ∨ a = 87 ∨ a = 88 ∨ a = 89 ∨ a = 91 by omega) with h | h | h | h | h
                                            · have e9 := hT2_86 j; rw [ek2] at e9; rw [h]; exact e9
                                            · have e9 := hT2_87 j; rw [ek2] at e9; rw [h]; exact e9
                                            · have e9 := hT2_88 j; rw [ek2] at e9; rw [h]; exact e9
                                            · have e9 := hT2_89 j; rw [ek2] at e9; rw [h]; exact e9
                                            · have e9 := hT2_91 j; rw [ek2] at e9; rw [h]; exact e9
                                          rw [if_pos g2, if_neg (by omega), if_neg (by omega), q5 a j (by omega), hT4.2.2 a j (by unfold W_l4; omega), hT3.2.2 a j (by unfold W_l3; omega), hx]
                                          unfold cpA
                                          rw [q1 a (j - 8) g1, q1 a j g1, if_neg (show ¬ (a = 55 ∧ j - 8 = 52) by omega), if_neg (show ¬ (a = 55 ∧ j = 52) by omega)]
                                        · rw [if_neg g2]
                                          by_cases g3 : 92 ≤ a ∧ a ≤ 94
                                          · have hx : T3.2.1 a j = cpA T2 a 2 2 j := by
                                              rcases (show a = 92 ∨ a = 93 ∨ a = 94 by omega) with h | h | h
                                              · have e9 := hT3_92 j; rw [ek3] at e9; rw [h]; exact e9
                                              · have e9 := hT3_93 j; rw [ek3] at e9; rw [h]; exact e9
                                              · have e9 := hT3_94 j; rw [ek3] at e9; rw [h]; exact e9
                                            rw [if_pos g3, if_neg (by omega), if_neg (by omega), q5 a j (by omega), hT4.2.2 a j (by unfold W_l4; omega), hx]
                                            unfold cpA
                                            rw [hT2.2.2 a (j - 2) (by unfold W_l2; omega), hT2.2.2 a j (by unfold W_l2; omega), q1 a (j - 2) g1, q1 a j g1, if_neg (show ¬ (a = 55 ∧ j - 2 = 52) by omega), if_neg (show ¬ (a = 55 ∧ j = 52) by omega)]
                                          · rw [if_neg g3]
                                            by_cases g4 : a = 95
                                            · rw [if_pos g4, if_neg (by omega), if_neg (by omega), g4, q5 95 j (by omega), hT4_95 j, ek4]
                                              unfold cpA s95
                                              rw [hT3.2.2 95 (j - 1600) (by unfold W_l3; omega), hT3.2.2 95 j (by unfold W_l3; omega), hT2.2.2 95 (j - 1600) (by unfold W_l2; omega), hT2.2.2 95 j (by unfold W_l2; omega), q1 95 (j - 1600) (by omega), q1 95 j (by omega), if_neg (show ¬ (95 = 55 ∧ j - 1600 = 52) by omega), if_neg (show ¬ (95 = 55 ∧ j = 52) by omega)]
                                            · rw [if_neg g4]
                                              by_cases g5 : a = 96
                                              · rw [if_pos g5, if_neg (by omega), if_neg (by omega), g5, h6z j, h5z j, ek5, ek6]
                                                unfold s96
                                                rw [hT4.2.2 96 j (by unfold W_l4; omega), hT3.2.2 96 j (by unfold W_l3; omega), hT2.2.2 96 j (by unfold W_l2; omega), q1 96 j (by omega), if_neg (show ¬ (96 = 55 ∧ j = 52) by omega)]
                                              · rw [if_neg g5]
                                                by_cases g6 : a = 90
                                                · rw [g6, if_neg (by omega), if_neg (by omega), if_neg (by omega), if_neg (by omega), e 90 j (by omega), if_neg (by omega)]
                                                · rw [e a j (by omega)]
                                                  by_cases g7 : a = 55 ∧ j = 52
                                                  · rw [if_pos g7, if_pos g7, if_neg (by omega), if_neg (by omega)]
                                                  · rw [if_neg g7, if_neg g7]
                                                    by_cases g8 : a = 55 ∧ j = 65
                                                    · rw [if_pos g8, if_pos (by omega)]
                                                    · rw [if_neg g8]
                                                      by_cases g9 : a = 55 ∧ j = 69
                                                      · rw [if_pos g9, if_pos (by omega)]
                                                      · rw [if_neg g9, if_neg (by omega)]
                                    · refine am_aload_n (q := 246) rfl (am_tab tk_X10_stands 154 rfl) rfl ?_
                                      refine am_getR (q := 249) (a := 55) (k := 10) (n := 108) (j := 54) (r := some (96)) (Ls_55 hL_T6) (by decide) rfl (Lr_55_54 hL_T6) (by decide) (Or.inl kf_X10_136) (am_tab tk_X10_stands 155 rfl) rfl ?_
                                      refine am_bipush (q := 251) (n := 20) (by decide) rfl (am_tab tk_X10_stands 156 rfl) rfl ?_
                                      refine am_iload_n (q := 252) rfl (am_tab tk_X10_stands 157 rfl) rfl ?_
                                      refine am_iadd (q := 253) (by omega) (am_tab tk_X10_stands 158 rfl) rfl ?_
                                      have e90 : ∀ j, T6.2.1 90 j = S.2.1 90 j := fun j => by
                                        rw [hT6.2.2 90 j (by unfold W_l5; omega)]
                                        show T5.2.1 90 j = _
                                        rw [hT5.2.2 90 j (by unfold W_l5; omega), hT4.2.2 90 j (by unfold W_l4; omega), hT3.2.2 90 j (by unfold W_l3; omega), hT2.2.2 90 j (by unfold W_l2; omega), hT1.2.2 90 j (by unfold W_l1; omega)]
                                        rfl
                                      refine am_aload_n (q := 254) rfl (am_tab tk_X10_stands 159 rfl) rfl ?_
                                      refine am_getR (q := 257) (a := 55) (k := 10) (n := 108) (j := 44) (r := some (90)) (Ls_55 hL_T6) (by decide) rfl (Lr_55_44 hL_T6) (by decide) (Or.inl kf_X10_118) (am_tab tk_X10_stands 160 rfl) rfl ?_
                                      refine am_iload_n (q := 258) rfl (am_tab tk_X10_stands 161 rfl) rfl ?_
                                      refine am_iald (q := 259) (a := 90) (n := 91) (x := (S.2.1 90 k6)) (Ls_90 hL_T6) (by omega) (by omega) (by rw [show Int.toNat (k6 : Int) = k6 by omega]; exact e90 k6) (am_tab tk_X10_stands 162 rfl) rfl ?_
                                      refine am_iast (q := 260) (a := 96) (n := 443) (Ls_96 hL_T6) (by omega) (by omega) (am_tab tk_X10_stands 163 rfl) rfl ?_
                                      refine am_iinc (q := 263) rfl (by omega) (by decide) (ls2 := [(1, am_i (((k6 : Int) + 1))), (0, am_r 55)]) rfl (am_tab tk_X10_stands 164 rfl) rfl ?_
                                      refine am_goto (t := 239) (am_tab tk_X10_stands 165 rfl) (by decide) ?_
                                      exact am_less (by intro q hq; simp only [List.mem_cons, List.not_mem_nil, or_false] at hq; rcases hq with rfl | rfl <;> simp) (ih239 (k6 + 1) (am_setN T6 96 (Int.toNat (20 + (k6 : Int))) (S.2.1 90 k6)) (by omega) (hT6.setN (by unfold W_l5; omega)) (cf_on (f := fun j => S.2.1 90 j) (g := fun j => if j = 0 then 1 else T5.2.1 96 j) (by omega) h6z) (by omega))
                                refine am_less (by intro q hq; simp only [List.mem_cons, List.not_mem_nil, or_false] at hq; rcases hq with rfl | rfl <;> simp) (L239 (_ + 1) 0 (am_setN T5 96 0 1) (by exact Nat.lt_succ_self _) (frw.refl _ _) cf_0 (by omega))
                              · refine am_aload_n (q := 218) rfl (am_tab tk_X10_stands 137 rfl) rfl ?_
                                refine am_getR (q := 221) (a := 55) (k := 10) (n := 108) (j := 54) (r := some (96)) (Ls_55 hL_T5) (by decide) rfl (Lr_55_54 hL_T5) (by decide) (Or.inl kf_X10_136) (am_tab tk_X10_stands 138 rfl) rfl ?_
                                refine am_iload_n (q := 222) rfl (am_tab tk_X10_stands 139 rfl) rfl ?_
                                refine am_iconst (q := 223) (n := 0) (by decide) (am_tab tk_X10_stands 140 rfl) rfl ?_
                                refine am_iast (q := 224) (a := 96) (n := 443) (Ls_96 hL_T5) (by omega) (by omega) (am_tab tk_X10_stands 141 rfl) rfl ?_
                                refine am_iinc (q := 227) rfl (by omega) (by decide) (ls2 := [(1, am_i (((k5 : Int) + 1))), (0, am_r 55)]) rfl (am_tab tk_X10_stands 142 rfl) rfl ?_
                                refine am_goto (t := 210) (am_tab tk_X10_stands 143 rfl) (by decide) ?_
                                exact am_less (by intro q hq; simp only [List.mem_cons, List.not_mem_nil, or_false] at hq; rcases hq with rfl | rfl <;> simp) (ih210 (k5 + 1) (am_setN T5 96 (Int.toNat (k5 : Int)) 0) (by omega) (hT5.setN (by unfold W_l5; omega)) (zl_on (by omega) h5z) (by omega))
                          refine am_less (by intro q hq; simp only [List.mem_cons, List.not_mem_nil, or_false] at hq; rcases hq with rfl | rfl <;> simp) (L210 (_ + 1) 0 T4 (by exact Nat.lt_succ_self _) (frw.refl _ _) (fun j => by rw [if_neg (by omega)]) (by omega))
                        · refine am_aload_n (q := 187) rfl (am_tab tk_X10_stands 120 rfl) rfl ?_
                          refine am_getR (q := 190) (a := 55) (k := 10) (n := 108) (j := 49) (r := some (95)) (Ls_55 hL_T4) (by decide) rfl (Lr_55_49 hL_T4) (by decide) (Or.inl kf_X10_133) (am_tab tk_X10_stands 121 rfl) rfl ?_
                          refine am_sipush (q := 193) (n := 1600) (by decide) rfl (am_tab tk_X10_stands 122 rfl) rfl ?_
                          refine am_iload_n (q := 194) rfl (am_tab tk_X10_stands 123 rfl) rfl ?_
                          refine am_iadd (q := 195) (by omega) (am_tab tk_X10_stands 124 rfl) rfl ?_
                          refine am_aload_n (q := 196) rfl (am_tab tk_X10_stands 125 rfl) rfl ?_
                          refine am_getR (q := 199) (a := 55) (k := 10) (n := 108) (j := 49) (r := some (95)) (Ls_55 hL_T4) (by decide) rfl (Lr_55_49 hL_T4) (by decide) (Or.inl kf_X10_133) (am_tab tk_X10_stands 126 rfl) rfl ?_
                          refine am_iload_n (q := 200) rfl (am_tab tk_X10_stands 127 rfl) rfl ?_
                          refine am_iald (q := 201) (a := 95) (n := 3200) (x := (T3.2.1 95 k4)) (Ls_95 hL_T4) (by omega) (by omega) (cpA_at (by omega) hT4_95) (am_tab tk_X10_stands 128 rfl) rfl ?_
                          refine am_iast (q := 202) (a := 95) (n := 3200) (Ls_95 hL_T4) (by omega) (by omega) (am_tab tk_X10_stands 129 rfl) rfl ?_
                          refine am_iinc (q := 205) rfl (by omega) (by decide) (ls2 := [(1, am_i (((k4 : Int) + 1))), (0, am_r 55)]) rfl (am_tab tk_X10_stands 130 rfl) rfl ?_
                          refine am_goto (t := 178) (am_tab tk_X10_stands 131 rfl) (by decide) ?_
                          exact am_less (by intro q hq; simp only [List.mem_cons, List.not_mem_nil, or_false] at hq; rcases hq with rfl | rfl <;> simp) (ih178 (k4 + 1) (am_setN T4 95 (Int.toNat (1600 + (k4 : Int))) (T3.2.1 95 k4)) (by omega) (hT4.setN (by unfold W_l4; omega)) (cpA_on (by omega) hT4_95) (by omega))
                    refine am_less (by intro q hq; simp only [List.mem_cons, List.not_mem_nil, or_false] at hq; rcases hq with rfl | rfl <;> simp) (L178 (_ + 1) 0 T3 (by exact Nat.lt_succ_self _) (frw.refl _ _) cpA_0 (Nat.zero_le _))
                  · refine am_aload_n (q := 129) rfl (am_tab tk_X10_stands 82 rfl) rfl ?_
                    refine am_getR (q := 132) (a := 55) (k := 10) (n := 108) (j := 46) (r := some (92)) (Ls_55 hL_T3) (by decide) rfl (Lr_55_46 hL_T3) (by decide) (Or.inl kf_X10_124) (am_tab tk_X10_stands 83 rfl) rfl ?_
                    refine am_iconst (q := 133) (n := 2) (by decide) (am_tab tk_X10_stands 84 rfl) rfl ?_
                    refine am_iload_n (q := 134) rfl (am_tab tk_X10_stands 85 rfl) rfl ?_
                    refine am_iadd (q := 135) (by omega) (am_tab tk_X10_stands 86 rfl) rfl ?_
                    refine am_aload_n (q := 136) rfl (am_tab tk_X10_stands 87 rfl) rfl ?_
                    refine am_getR (q := 139) (a := 55) (k := 10) (n := 108) (j := 46) (r := some (92)) (Ls_55 hL_T3) (by decide) rfl (Lr_55_46 hL_T3) (by decide) (Or.inl kf_X10_124) (am_tab tk_X10_stands 88 rfl) rfl ?_
                    refine am_iload_n (q := 140) rfl (am_tab tk_X10_stands 89 rfl) rfl ?_
                    refine am_iald (q := 141) (a := 92) (n := 4) (x := (T2.2.1 92 k3)) (Ls_92 hL_T3) (by omega) (by omega) (cpA_at (by omega) hT3_92) (am_tab tk_X10_stands 90 rfl) rfl ?_
                    refine am_iast (q := 142) (a := 92) (n := 4) (Ls_92 hL_T3) (by omega) (by omega) (am_tab tk_X10_stands 91 rfl) rfl ?_
                    refine am_aload_n (q := 143) rfl (am_tab tk_X10_stands 92 rfl) rfl ?_
                    refine am_getR (q := 146) (a := 55) (k := 10) (n := 108) (j := 47) (r := some (93)) (Ls_55 hL_T3) (by decide) rfl (Lr_55_47 hL_T3) (by decide) (Or.inl kf_X10_127) (am_tab tk_X10_stands 93 rfl) rfl ?_
                    refine am_iconst (q := 147) (n := 2) (by decide) (am_tab tk_X10_stands 94 rfl) rfl ?_
                    refine am_iload_n (q := 148) rfl (am_tab tk_X10_stands 95 rfl) rfl ?_
                    refine am_iadd (q := 149) (by omega) (am_tab tk_X10_stands 96 rfl) rfl ?_
                    refine am_aload_n (q := 150) rfl (am_tab tk_X10_stands 97 rfl) rfl ?_
                    refine am_getR (q := 153) (a := 55) (k := 10) (n := 108) (j := 47) (r := some (93)) (Ls_55 hL_T3) (by decide) rfl (Lr_55_47 hL_T3) (by decide) (Or.inl kf_X10_127) (am_tab tk_X10_stands 98 rfl) rfl ?_
                    refine am_iload_n (q := 154) rfl (am_tab tk_X10_stands 99 rfl) rfl ?_
                    refine am_iald (q := 155) (a := 93) (n := 4) (x := (T2.2.1 93 k3)) (Ls_93 hL_T3) (by omega) (by omega) (cpA_at (by omega) hT3_93) (am_tab tk_X10_stands 100 rfl) rfl ?_
                    refine am_iast (q := 156) (a := 93) (n := 4) (Ls_93 hL_T3) (by omega) (by omega) (am_tab tk_X10_stands 101 rfl) rfl ?_
                    refine am_aload_n (q := 157) rfl (am_tab tk_X10_stands 102 rfl) rfl ?_
                    refine am_getR (q := 160) (a := 55) (k := 10) (n := 108) (j := 48) (r := some (94)) (Ls_55 hL_T3) (by decide) rfl (Lr_55_48 hL_T3) (by decide) (Or.inl kf_X10_130) (am_tab tk_X10_stands 103 rfl) rfl ?_
                    refine am_iconst (q := 161) (n := 2) (by decide) (am_tab tk_X10_stands 104 rfl) rfl ?_
                    refine am_iload_n (q := 162) rfl (am_tab tk_X10_stands 105 rfl) rfl ?_
                    refine am_iadd (q := 163) (by omega) (am_tab tk_X10_stands 106 rfl) rfl ?_
                    refine am_aload_n (q := 164) rfl (am_tab tk_X10_stands 107 rfl) rfl ?_
                    refine am_getR (q := 167) (a := 55) (k := 10) (n := 108) (j := 48) (r := some (94)) (Ls_55 hL_T3) (by decide) rfl (Lr_55_48 hL_T3) (by decide) (Or.inl kf_X10_130) (am_tab tk_X10_stands 108 rfl) rfl ?_
                    refine am_iload_n (q := 168) rfl (am_tab tk_X10_stands 109 rfl) rfl ?_
                    refine am_iald (q := 169) (a := 94) (n := 4) (x := (T2.2.1 94 k3)) (Ls_94 hL_T3) (by omega) (by omega) (cpA_at (by omega) hT3_94) (am_tab tk_X10_stands 110 rfl) rfl ?_
                    refine am_iast (q := 170) (a := 94) (n := 4) (Ls_94 hL_T3) (by omega) (by omega) (am_tab tk_X10_stands 111 rfl) rfl ?_
                    refine am_iinc (q := 173) rfl (by omega) (by decide) (ls2 := [(1, am_i (((k3 : Int) + 1))), (0, am_r 55)]) rfl (am_tab tk_X10_stands 112 rfl) rfl ?_
                    refine am_goto (t := 123) (am_tab tk_X10_stands 113 rfl) (by decide) ?_
                    exact am_less (by intro q hq; simp only [List.mem_cons, List.not_mem_nil, or_false] at hq; rcases hq with rfl | rfl <;> simp) (ih123 (k3 + 1) (am_setN (am_setN (am_setN T3 92 (Int.toNat (2 + (k3 : Int))) (T2.2.1 92 k3)) 93 (Int.toNat (2 + (k3 : Int))) (T2.2.1 93 k3)) 94 (Int.toNat (2 + (k3 : Int))) (T2.2.1 94 k3)) (by omega) (((hT3.setN (by unfold W_l3; omega)).setN (by unfold W_l3; omega)).setN (by unfold W_l3; omega)) (cpA_on (by omega) hT3_92) (cpA_on (by omega) hT3_93) (cpA_on (by omega) hT3_94) (by omega))
              refine am_less (by intro q hq; simp only [List.mem_cons, List.not_mem_nil, or_false] at hq; rcases hq with rfl | rfl <;> simp) (L123 (_ + 1) 0 T2 (by exact Nat.lt_succ_self _) (frw.refl _ _) cpA_0 cpA_0 cpA_0 (Nat.zero_le _))
            · refine am_aload_n (q := 41) rfl (am_tab tk_X10_stands 25 rfl) rfl ?_
              refine am_getR (q := 44) (a := 55) (k := 10) (n := 108) (j := 40) (r := some (86)) (Ls_55 hL_T2) (by decide) rfl (Lr_55_40 hL_T2) (by decide) (Or.inl kf_X10_105) (am_tab tk_X10_stands 26 rfl) rfl ?_
              refine am_bipush (q := 46) (n := 8) (by decide) rfl (am_tab tk_X10_stands 27 rfl) rfl ?_
              refine am_iload_n (q := 47) rfl (am_tab tk_X10_stands 28 rfl) rfl ?_
              refine am_iadd (q := 48) (by omega) (am_tab tk_X10_stands 29 rfl) rfl ?_
              refine am_aload_n (q := 49) rfl (am_tab tk_X10_stands 30 rfl) rfl ?_
              refine am_getR (q := 52) (a := 55) (k := 10) (n := 108) (j := 40) (r := some (86)) (Ls_55 hL_T2) (by decide) rfl (Lr_55_40 hL_T2) (by decide) (Or.inl kf_X10_105) (am_tab tk_X10_stands 31 rfl) rfl ?_
              refine am_iload_n (q := 53) rfl (am_tab tk_X10_stands 32 rfl) rfl ?_
              refine am_lald (q := 54) (a := 86) (n := 16) (x := (T1.2.1 86 k2)) (Ls_86 hL_T2) (by omega) (by omega) (cpA_at (by omega) hT2_86) (am_tab tk_X10_stands 33 rfl) rfl ?_
              refine am_last (q := 55) (a := 86) (n := 16) (Ls_86 hL_T2) (by omega) (by omega) (am_tab tk_X10_stands 34 rfl) rfl ?_
              refine am_aload_n (q := 56) rfl (am_tab tk_X10_stands 35 rfl) rfl ?_
              refine am_getR (q := 59) (a := 55) (k := 10) (n := 108) (j := 41) (r := some (87)) (Ls_55 hL_T2) (by decide) rfl (Lr_55_41 hL_T2) (by decide) (Or.inl kf_X10_109) (am_tab tk_X10_stands 36 rfl) rfl ?_
              refine am_bipush (q := 61) (n := 8) (by decide) rfl (am_tab tk_X10_stands 37 rfl) rfl ?_
              refine am_iload_n (q := 62) rfl (am_tab tk_X10_stands 38 rfl) rfl ?_
              refine am_iadd (q := 63) (by omega) (am_tab tk_X10_stands 39 rfl) rfl ?_
              refine am_aload_n (q := 64) rfl (am_tab tk_X10_stands 40 rfl) rfl ?_
              refine am_getR (q := 67) (a := 55) (k := 10) (n := 108) (j := 41) (r := some (87)) (Ls_55 hL_T2) (by decide) rfl (Lr_55_41 hL_T2) (by decide) (Or.inl kf_X10_109) (am_tab tk_X10_stands 41 rfl) rfl ?_
              refine am_iload_n (q := 68) rfl (am_tab tk_X10_stands 42 rfl) rfl ?_
              refine am_iald (q := 69) (a := 87) (n := 16) (x := (T1.2.1 87 k2)) (Ls_87 hL_T2) (by omega) (by omega) (cpA_at (by omega) hT2_87) (am_tab tk_X10_stands 43 rfl) rfl ?_
              refine am_iast (q := 70) (a := 87) (n := 16) (Ls_87 hL_T2) (by omega) (by omega) (am_tab tk_X10_stands 44 rfl) rfl ?_
              refine am_aload_n (q := 71) rfl (am_tab tk_X10_stands 45 rfl) rfl ?_
              refine am_getR (q := 74) (a := 55) (k := 10) (n := 108) (j := 42) (r := some (88)) (Ls_55 hL_T2) (by decide) rfl (Lr_55_42 hL_T2) (by decide) (Or.inl kf_X10_112) (am_tab tk_X10_stands 46 rfl) rfl ?_
              refine am_bipush (q := 76) (n := 8) (by decide) rfl (am_tab tk_X10_stands 47 rfl) rfl ?_
              refine am_iload_n (q := 77) rfl (am_tab tk_X10_stands 48 rfl) rfl ?_
              refine am_iadd (q := 78) (by omega) (am_tab tk_X10_stands 49 rfl) rfl ?_
              refine am_aload_n (q := 79) rfl (am_tab tk_X10_stands 50 rfl) rfl ?_
              refine am_getR (q := 82) (a := 55) (k := 10) (n := 108) (j := 42) (r := some (88)) (Ls_55 hL_T2) (by decide) rfl (Lr_55_42 hL_T2) (by decide) (Or.inl kf_X10_112) (am_tab tk_X10_stands 51 rfl) rfl ?_
              refine am_iload_n (q := 83) rfl (am_tab tk_X10_stands 52 rfl) rfl ?_
              refine am_iald (q := 84) (a := 88) (n := 16) (x := (T1.2.1 88 k2)) (Ls_88 hL_T2) (by omega) (by omega) (cpA_at (by omega) hT2_88) (am_tab tk_X10_stands 53 rfl) rfl ?_
              refine am_iast (q := 85) (a := 88) (n := 16) (Ls_88 hL_T2) (by omega) (by omega) (am_tab tk_X10_stands 54 rfl) rfl ?_
              refine am_aload_n (q := 86) rfl (am_tab tk_X10_stands 55 rfl) rfl ?_
              refine am_getR (q := 89) (a := 55) (k := 10) (n := 108) (j := 43) (r := some (89)) (Ls_55 hL_T2) (by decide) rfl (Lr_55_43 hL_T2) (by decide) (Or.inl kf_X10_115) (am_tab tk_X10_stands 56 rfl) rfl ?_
              refine am_bipush (q := 91) (n := 8) (by decide) rfl (am_tab tk_X10_stands 57 rfl) rfl ?_
              refine am_iload_n (q := 92) rfl (am_tab tk_X10_stands 58 rfl) rfl ?_
              refine am_iadd (q := 93) (by omega) (am_tab tk_X10_stands 59 rfl) rfl ?_
              refine am_aload_n (q := 94) rfl (am_tab tk_X10_stands 60 rfl) rfl ?_
              refine am_getR (q := 97) (a := 55) (k := 10) (n := 108) (j := 43) (r := some (89)) (Ls_55 hL_T2) (by decide) rfl (Lr_55_43 hL_T2) (by decide) (Or.inl kf_X10_115) (am_tab tk_X10_stands 61 rfl) rfl ?_
              refine am_iload_n (q := 98) rfl (am_tab tk_X10_stands 62 rfl) rfl ?_
              refine am_iald (q := 99) (a := 89) (n := 16) (x := (T1.2.1 89 k2)) (Ls_89 hL_T2) (by omega) (by omega) (cpA_at (by omega) hT2_89) (am_tab tk_X10_stands 63 rfl) rfl ?_
              refine am_iast (q := 100) (a := 89) (n := 16) (Ls_89 hL_T2) (by omega) (by omega) (am_tab tk_X10_stands 64 rfl) rfl ?_
              refine am_aload_n (q := 101) rfl (am_tab tk_X10_stands 65 rfl) rfl ?_
              refine am_getR (q := 104) (a := 55) (k := 10) (n := 108) (j := 45) (r := some (91)) (Ls_55 hL_T2) (by decide) rfl (Lr_55_45 hL_T2) (by decide) (Or.inl kf_X10_121) (am_tab tk_X10_stands 66 rfl) rfl ?_
              refine am_bipush (q := 106) (n := 8) (by decide) rfl (am_tab tk_X10_stands 67 rfl) rfl ?_
              refine am_iload_n (q := 107) rfl (am_tab tk_X10_stands 68 rfl) rfl ?_
              refine am_iadd (q := 108) (by omega) (am_tab tk_X10_stands 69 rfl) rfl ?_
              refine am_aload_n (q := 109) rfl (am_tab tk_X10_stands 70 rfl) rfl ?_
              refine am_getR (q := 112) (a := 55) (k := 10) (n := 108) (j := 45) (r := some (91)) (Ls_55 hL_T2) (by decide) rfl (Lr_55_45 hL_T2) (by decide) (Or.inl kf_X10_121) (am_tab tk_X10_stands 71 rfl) rfl ?_
              refine am_iload_n (q := 113) rfl (am_tab tk_X10_stands 72 rfl) rfl ?_
              refine am_iald (q := 114) (a := 91) (n := 16) (x := (T1.2.1 91 k2)) (Ls_91 hL_T2) (by omega) (by omega) (cpA_at (by omega) hT2_91) (am_tab tk_X10_stands 73 rfl) rfl ?_
              refine am_iast (q := 115) (a := 91) (n := 16) (Ls_91 hL_T2) (by omega) (by omega) (am_tab tk_X10_stands 74 rfl) rfl ?_
              refine am_iinc (q := 118) rfl (by omega) (by decide) (ls2 := [(1, am_i (((k2 : Int) + 1))), (0, am_r 55)]) rfl (am_tab tk_X10_stands 75 rfl) rfl ?_
              refine am_goto (t := 34) (am_tab tk_X10_stands 76 rfl) (by decide) ?_
              exact am_less (by intro q hq; simp only [List.mem_cons, List.not_mem_nil, or_false] at hq; rcases hq with rfl | rfl <;> simp) (ih34 (k2 + 1) (am_setN (am_setN (am_setN (am_setN (am_setN T2 86 (Int.toNat (8 + (k2 : Int))) (T1.2.1 86 k2)) 87 (Int.toNat (8 + (k2 : Int))) (T1.2.1 87 k2)) 88 (Int.toNat (8 + (k2 : Int))) (T1.2.1 88 k2)) 89 (Int.toNat (8 + (k2 : Int))) (T1.2.1 89 k2)) 91 (Int.toNat (8 + (k2 : Int))) (T1.2.1 91 k2)) (by omega) (((((hT2.setN (by unfold W_l2; omega)).setN (by unfold W_l2; omega)).setN (by unfold W_l2; omega)).setN (by unfold W_l2; omega)).setN (by unfold W_l2; omega)) (cpA_on (by omega) hT2_86) (cpA_on (by omega) hT2_87) (cpA_on (by omega) hT2_88) (cpA_on (by omega) hT2_89) (cpA_on (by omega) hT2_91) (by omega))
        refine am_less (by intro q hq; simp only [List.mem_cons, List.not_mem_nil, or_false] at hq; rcases hq with rfl | rfl <;> simp) (L34 (_ + 1) 0 T1 (by exact Nat.lt_succ_self _) (frw.refl _ _) cpA_0 cpA_0 cpA_0 cpA_0 cpA_0 (Nat.zero_le _))
      · refine am_aload_n (q := 13) rfl (am_tab tk_X10_stands 8 rfl) rfl ?_
        refine am_getR (q := 16) (a := 55) (k := 10) (n := 108) (j := 39) (r := some (85)) (Ls_55 hL_T1) (by decide) rfl (Lr_55_39 hL_T1) (by decide) (Or.inl kf_X10_102) (am_tab tk_X10_stands 9 rfl) rfl ?_
        refine am_iconst (q := 17) (n := 5) (by decide) (am_tab tk_X10_stands 10 rfl) rfl ?_
        refine am_iload_n (q := 18) rfl (am_tab tk_X10_stands 11 rfl) rfl ?_
        refine am_iadd (q := 19) (by omega) (am_tab tk_X10_stands 12 rfl) rfl ?_
        refine am_aload_n (q := 20) rfl (am_tab tk_X10_stands 13 rfl) rfl ?_
        refine am_getR (q := 23) (a := 55) (k := 10) (n := 108) (j := 39) (r := some (85)) (Ls_55 hL_T1) (by decide) rfl (Lr_55_39 hL_T1) (by decide) (Or.inl kf_X10_102) (am_tab tk_X10_stands 14 rfl) rfl ?_
        refine am_iload_n (q := 24) rfl (am_tab tk_X10_stands 15 rfl) rfl ?_
        refine am_iald (q := 25) (a := 85) (n := 10) (x := ((am_setN S 55 52 1).2.1 85 k1)) (Ls_85 hL_T1) (by omega) (by omega) (cpA_at (by omega) hT1_85) (am_tab tk_X10_stands 16 rfl) rfl ?_
        refine am_iast (q := 26) (a := 85) (n := 10) (Ls_85 hL_T1) (by omega) (by omega) (am_tab tk_X10_stands 17 rfl) rfl ?_
        refine am_iinc (q := 29) rfl (by omega) (by decide) (ls2 := [(1, am_i (((k1 : Int) + 1))), (0, am_r 55)]) rfl (am_tab tk_X10_stands 18 rfl) rfl ?_
        refine am_goto (t := 7) (am_tab tk_X10_stands 19 rfl) (by decide) ?_
        exact am_less (by intro q hq; simp only [List.mem_cons, List.not_mem_nil, or_false] at hq; rcases hq with rfl | rfl <;> simp) (ih7 (k1 + 1) (am_setN T1 85 (Int.toNat (5 + (k1 : Int))) ((am_setN S 55 52 1).2.1 85 k1)) (by omega) (hT1.setN (by unfold W_l1; omega)) (cpA_on (by omega) hT1_85) (by omega))
  refine am_less (by intro q hq; simp only [List.mem_cons, List.not_mem_nil, or_false] at hq; rcases hq with rfl | rfl <;> simp) (L7 (_ + 1) 0 (am_setN S 55 52 1) (by exact Nat.lt_succ_self _) (frw.refl _ _) cpA_0 (Nat.zero_le _))
