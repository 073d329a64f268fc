/-- how an answer goes on with a person's value -/
def tkQ (kind v i A nw : Int) : Int :=
  if kind = 0 then (if v = 1 ∧ A = -1 then i else A)
  else if kind = 1 then (if v = 1 then i else A)
  else if kind = 2 then (if v = 1 then A + 1 else A)
  else if kind = 3 then A + v
  else if kind = 4 then (if ¬ nw = 0 ∨ A < v then v else A)
  else (if ¬ nw = 0 ∨ v < A then v else A)
theorem c_qTakes0 (S : am_H) (hL : lay S) (kind : Int) (v : Int) (i : Int) (hk : kind = 0) (hi : 0 ≤ i ∧ i < 8) (hv : -4000000000000000000 ≤ v ∧ v ≤ 4000000000000000000) (hA : -4000000000000000000 ≤ S.2.1 55 104 ∧ S.2.1 55 104 ≤ 4000000000000000000) : am_met M_X10_qTakes [am_r 55, am_i kind, am_l v, am_i i] S (fun r σ' => r = none ∧ σ' = am_setN (am_setN S 55 104 (tkQ kind v i (S.2.1 55 104) (S.2.1 55 105))) 55 105 0) := by
  refine am_qq (fun Q hQ => ?_)
  refine am_enter (show plainFor yX10_qTakes = true by decide +kernel) rfl (Nat.le_of_ble_eq_true rfl) (fun _ _ _ => trivial) ?_
  refine am_iload_n (q := 1) rfl (am_tab tk_X10_qTakes 0 rfl) rfl ?_
  refine am_iconst (q := 2) (n := 3) (by decide) (am_tab tk_X10_qTakes 1 rfl) rfl ?_
  refine am_icmp_ge (q := 5) (t := 15) (am_tab tk_X10_qTakes 2 rfl) (by decide) rfl (fun h2 => ?_) (fun h2 => ?_)
  · omega
  · refine am_lload_n (q := 6) rfl (am_tab tk_X10_qTakes 3 rfl) rfl ?_
    refine am_lconst1 (q := 7) (am_tab tk_X10_qTakes 4 rfl) rfl ?_
    refine am_lcmp (q := 8) (am_tab tk_X10_qTakes 5 rfl) rfl ?_
    refine am_if_ne (q := 11) (t := 15) (am_tab tk_X10_qTakes 6 rfl) (by decide) rfl (fun h8 => ?_) (fun h8 => ?_)
    · rw [ao_cmp_eq] at h8
      refine am_iconst (q := 16) (n := 0) (by decide) (am_tab tk_X10_qTakes 9 rfl) rfl ?_
      refine am_istore (q := 18) (by decide) (ls2 := [(5, am_i 0), (0, am_r 55), (1, am_i kind), (2, am_l v), (4, am_i i)]) rfl (am_tab tk_X10_qTakes 10 rfl) rfl ?_
      refine am_iload_n (q := 19) rfl (am_tab tk_X10_qTakes 11 rfl) rfl ?_
      refine am_if_ne (q := 22) (t := 38) (am_tab tk_X10_qTakes 12 rfl) (by decide) rfl (fun h19 => ?_) (fun h19 => ?_)
      · omega
      · refine am_iload (q := 24) rfl (am_tab tk_X10_qTakes 13 rfl) rfl ?_
        refine am_if_eq (q := 27) (t := 38) (am_tab tk_X10_qTakes 14 rfl) (by decide) rfl (fun h24 => ?_) (fun h24 => ?_)
        · refine am_iload_n (q := 39) rfl (am_tab tk_X10_qTakes 20 rfl) rfl ?_
          refine am_iconst (q := 40) (n := 1) (by decide) (am_tab tk_X10_qTakes 21 rfl) rfl ?_
          refine am_icmp_ne (q := 43) (t := 55) (am_tab tk_X10_qTakes 22 rfl) (by decide) rfl (fun h40 => ?_) (fun h40 => ?_)
          · refine am_iload_n (q := 56) rfl (am_tab tk_X10_qTakes 29 rfl) rfl ?_
            refine am_iconst (q := 57) (n := 2) (by decide) (am_tab tk_X10_qTakes 30 rfl) rfl ?_
            refine am_icmp_ne (q := 60) (t := 75) (am_tab tk_X10_qTakes 31 rfl) (by decide) rfl (fun h57 => ?_) (fun h57 => ?_)
            · refine am_iload_n (q := 76) rfl (am_tab tk_X10_qTakes 40 rfl) rfl ?_
              refine am_iconst (q := 77) (n := 3) (by decide) (am_tab tk_X10_qTakes 41 rfl) rfl ?_
              refine am_icmp_ne (q := 80) (t := 90) (am_tab tk_X10_qTakes 42 rfl) (by decide) rfl (fun h77 => ?_) (fun h77 => ?_)
              · refine am_iload_n (q := 91) rfl (am_tab tk_X10_qTakes 49 rfl) rfl ?_
                refine am_iconst (q := 92) (n := 3) (by decide) (am_tab tk_X10_qTakes 50 rfl) rfl ?_
                refine am_icmp_le (q := 95) (t := 133) (am_tab tk_X10_qTakes 51 rfl) (by decide) rfl (fun h92 => ?_) (fun h92 => ?_)
                · refine am_aload_n (q := 134) rfl (am_tab tk_X10_qTakes 72 rfl) rfl ?_
                  refine am_iconst (q := 135) (n := 0) (by decide) (am_tab tk_X10_qTakes 73 rfl) rfl ?_
                  refine am_putZ (q := 138) (k := 10) (n := 108) (j := 105) (Ls_55 hL) (by decide) rfl (by first | exact Or.inl rfl | exact Or.inr rfl | omega) (by decide) (Or.inl ⟨kf_X10_663, rfl⟩) (am_tab tk_X10_qTakes 74 rfl) rfl ?_
                  refine am_vret rfl (Nat.le_of_ble_eq_true rfl) (Nat.le_of_ble_eq_true rfl) (am_tab tk_X10_qTakes 75 rfl) ?_
                  refine hQ _ _ ?_
                  have ht : tkQ kind v i (S.2.1 55 104) (S.2.1 55 105) = S.2.1 55 104 := by
                    unfold tkQ
                    repeat (first | rw [if_pos (by omega)] | rw [if_neg (by omega)])
                  refine ⟨rfl, ?_⟩
                  rw [ht, am_setN_self]
                · omega
              · omega
            · omega
          · omega
        · exact absurd h24 (by decide)
    · rw [ao_cmp_eq] at h8
      refine am_iconst (q := 12) (n := 1) (by decide) (am_tab tk_X10_qTakes 7 rfl) rfl ?_
      refine am_goto (t := 16) (am_tab tk_X10_qTakes 8 rfl) (by decide) ?_
      refine am_istore (q := 18) (by decide) (ls2 := [(5, am_i 1), (0, am_r 55), (1, am_i kind), (2, am_l v), (4, am_i i)]) rfl (am_tab tk_X10_qTakes 10 rfl) rfl ?_
      refine am_iload_n (q := 19) rfl (am_tab tk_X10_qTakes 11 rfl) rfl ?_
      refine am_if_ne (q := 22) (t := 38) (am_tab tk_X10_qTakes 12 rfl) (by decide) rfl (fun h19 => ?_) (fun h19 => ?_)
      · omega
      · refine am_iload (q := 24) rfl (am_tab tk_X10_qTakes 13 rfl) rfl ?_
        refine am_if_eq (q := 27) (t := 38) (am_tab tk_X10_qTakes 14 rfl) (by decide) rfl (fun h24 => ?_) (fun h24 => ?_)
        · exact absurd h24 (by decide)
        · refine am_aload_n (q := 28) rfl (am_tab tk_X10_qTakes 15 rfl) rfl ?_
          refine am_getL (q := 31) (a := 55) (k := 10) (n := 108) (j := 104) (x := (S.2.1 55 104)) (Ls_55 hL) (by decide) rfl rfl (by decide) (Or.inl kf_X10_658) (am_tab tk_X10_qTakes 16 rfl) rfl ?_
          refine am_ldc2 (q := 34) (n := (-1)) (by decide) kk_X10_661 (am_tab tk_X10_qTakes 17 rfl) rfl ?_
          refine am_lcmp (q := 35) (am_tab tk_X10_qTakes 18 rfl) rfl ?_
          refine am_if_eq (q := 38) (t := 48) (am_tab tk_X10_qTakes 19 rfl) (by decide) rfl (fun h35 => ?_) (fun h35 => ?_)
          · rw [ao_cmp_eq] at h35
            refine am_aload_n (q := 49) rfl (am_tab tk_X10_qTakes 25 rfl) rfl ?_
            refine am_iload (q := 51) rfl (am_tab tk_X10_qTakes 26 rfl) rfl ?_
            refine am_i2l (q := 52) (am_tab tk_X10_qTakes 27 rfl) rfl ?_
            refine am_putL (q := 55) (k := 10) (n := 108) (j := 104) (Ls_55 hL) (by decide) rfl (by decide) (Or.inl ⟨kf_X10_658, rfl⟩) (am_tab tk_X10_qTakes 28 rfl) rfl ?_
            refine am_iload_n (q := 56) rfl (am_tab tk_X10_qTakes 29 rfl) rfl ?_
            refine am_iconst (q := 57) (n := 2) (by decide) (am_tab tk_X10_qTakes 30 rfl) rfl ?_
            refine am_icmp_ne (q := 60) (t := 75) (am_tab tk_X10_qTakes 31 rfl) (by decide) rfl (fun h57 => ?_) (fun h57 => ?_)
            · refine am_iload_n (q := 76) rfl (am_tab tk_X10_qTakes 40 rfl) rfl ?_
              refine am_iconst (q := 77) (n := 3) (by decide) (am_tab tk_X10_qTakes 41 rfl) rfl ?_
              refine am_icmp_ne (q := 80) (t := 90) (am_tab tk_X10_qTakes 42 rfl) (by decide) rfl (fun h77 => ?_) (fun h77 => ?_)
              · refine am_iload_n (q := 91) rfl (am_tab tk_X10_qTakes 49 rfl) rfl ?_
                refine am_iconst (q := 92) (n := 3) (by decide) (am_tab tk_X10_qTakes 50 rfl) rfl ?_
                refine am_icmp_le (q := 95) (t := 133) (am_tab tk_X10_qTakes 51 rfl) (by decide) rfl (fun h92 => ?_) (fun h92 => ?_)
                · refine am_aload_n (q := 134) rfl (am_tab tk_X10_qTakes 72 rfl) rfl ?_
                  refine am_iconst (q := 135) (n := 0) (by decide) (am_tab tk_X10_qTakes 73 rfl) rfl ?_
                  refine am_putZ (q := 138) (k := 10) (n := 108) (j := 105) (Ls_55 hL) (by decide) rfl (by first | exact Or.inl rfl | exact Or.inr rfl | omega) (by decide) (Or.inl ⟨kf_X10_663, rfl⟩) (am_tab tk_X10_qTakes 74 rfl) rfl ?_
                  refine am_vret rfl (Nat.le_of_ble_eq_true rfl) (Nat.le_of_ble_eq_true rfl) (am_tab tk_X10_qTakes 75 rfl) ?_
                  refine hQ _ _ ?_
                  have ht : tkQ kind v i (S.2.1 55 104) (S.2.1 55 105) = i := by
                    unfold tkQ
                    repeat (first | rw [if_pos (by omega)] | rw [if_neg (by omega)])
                  refine ⟨rfl, ?_⟩
                  rw [ht]
                · omega
              · omega
            · omega
          · rw [ao_cmp_eq] at h35
            refine am_iload_n (q := 39) rfl (am_tab tk_X10_qTakes 20 rfl) rfl ?_
            refine am_iconst (q := 40) (n := 1) (by decide) (am_tab tk_X10_qTakes 21 rfl) rfl ?_
            refine am_icmp_ne (q := 43) (t := 55) (am_tab tk_X10_qTakes 22 rfl) (by decide) rfl (fun h40 => ?_) (fun h40 => ?_)
            · refine am_iload_n (q := 56) rfl (am_tab tk_X10_qTakes 29 rfl) rfl ?_
              refine am_iconst (q := 57) (n := 2) (by decide) (am_tab tk_X10_qTakes 30 rfl) rfl ?_
              refine am_icmp_ne (q := 60) (t := 75) (am_tab tk_X10_qTakes 31 rfl) (by decide) rfl (fun h57 => ?_) (fun h57 => ?_)
              · refine am_iload_n (q := 76) rfl (am_tab tk_X10_qTakes 40 rfl) rfl ?_
                refine am_iconst (q := 77) (n := 3) (by decide) (am_tab tk_X10_qTakes 41 rfl) rfl ?_
                refine am_icmp_ne (q := 80) (t := 90) (am_tab tk_X10_qTakes 42 rfl) (by decide) rfl (fun h77 => ?_) (fun h77 => ?_)
                · refine am_iload_n (q := 91) rfl (am_tab tk_X10_qTakes 49 rfl) rfl ?_
                  refine am_iconst (q := 92) (n := 3) (by decide) (am_tab tk_X10_qTakes 50 rfl) rfl ?_
                  refine am_icmp_le (q := 95) (t := 133) (am_tab tk_X10_qTakes 51 rfl) (by decide) rfl (fun h92 => ?_) (fun h92 => ?_)
                  · refine am_aload_n (q := 134) rfl (am_tab tk_X10_qTakes 72 rfl) rfl ?_
                    refine am_iconst (q := 135) (n := 0) (by decide) (am_tab tk_X10_qTakes 73 rfl) rfl ?_
                    refine am_putZ (q := 138) (k := 10) (n := 108) (j := 105) (Ls_55 hL) (by decide) rfl (by first | exact Or.inl rfl | exact Or.inr rfl | omega) (by decide) (Or.inl ⟨kf_X10_663, rfl⟩) (am_tab tk_X10_qTakes 74 rfl) rfl ?_
                    refine am_vret rfl (Nat.le_of_ble_eq_true rfl) (Nat.le_of_ble_eq_true rfl) (am_tab tk_X10_qTakes 75 rfl) ?_
                    refine hQ _ _ ?_
                    have ht : tkQ kind v i (S.2.1 55 104) (S.2.1 55 105) = S.2.1 55 104 := by
                      unfold tkQ
                      repeat (first | rw [if_pos (by omega)] | rw [if_neg (by omega)])
                    refine ⟨rfl, ?_⟩
                    rw [ht, am_setN_self]
                  · omega
                · omega
              · omega
            · omega
theorem c_qTakes1 (S : am_H) (hL : lay S) (kind : Int) (v : Int) (i : Int) (hk : kind = 1) (hi : 0 ≤ i ∧ i < 8) (hv : -4000000000000000000 ≤ v ∧ v ≤ 4000000000000000000) (hA : -4000000000000000000 ≤ S.2.1 55 104 ∧ S.2.1 55 104 ≤ 4000000000000000000) : am_met M_X10_qTakes [am_r 55, am_i kind, am_l v, am_i i] S (fun r σ' => r = none ∧ σ' = am_setN (am_setN S 55 104 (tkQ kind v i (S.2.1 55 104) (S.2.1 55 105))) 55 105 0) := by
  refine am_qq (fun Q hQ => ?_)
  refine am_enter (show plainFor yX10_qTakes = true by decide +kernel) rfl (Nat.le_of_ble_eq_true rfl) (fun _ _ _ => trivial) ?_
  refine am_iload_n (q := 1) rfl (am_tab tk_X10_qTakes 0 rfl) rfl ?_
  refine am_iconst (q := 2) (n := 3) (by decide) (am_tab tk_X10_qTakes 1 rfl) rfl ?_
  refine am_icmp_ge (q := 5) (t := 15) (am_tab tk_X10_qTakes 2 rfl) (by decide) rfl (fun h2 => ?_) (fun h2 => ?_)
  · omega
  · refine am_lload_n (q := 6) rfl (am_tab tk_X10_qTakes 3 rfl) rfl ?_
    refine am_lconst1 (q := 7) (am_tab tk_X10_qTakes 4 rfl) rfl ?_
    refine am_lcmp (q := 8) (am_tab tk_X10_qTakes 5 rfl) rfl ?_
    refine am_if_ne (q := 11) (t := 15) (am_tab tk_X10_qTakes 6 rfl) (by decide) rfl (fun h8 => ?_) (fun h8 => ?_)
    · rw [ao_cmp_eq] at h8
      refine am_iconst (q := 16) (n := 0) (by decide) (am_tab tk_X10_qTakes 9 rfl) rfl ?_
      refine am_istore (q := 18) (by decide) (ls2 := [(5, am_i 0), (0, am_r 55), (1, am_i kind), (2, am_l v), (4, am_i i)]) rfl (am_tab tk_X10_qTakes 10 rfl) rfl ?_
      refine am_iload_n (q := 19) rfl (am_tab tk_X10_qTakes 11 rfl) rfl ?_
      refine am_if_ne (q := 22) (t := 38) (am_tab tk_X10_qTakes 12 rfl) (by decide) rfl (fun h19 => ?_) (fun h19 => ?_)
      · refine am_iload_n (q := 39) rfl (am_tab tk_X10_qTakes 20 rfl) rfl ?_
        refine am_iconst (q := 40) (n := 1) (by decide) (am_tab tk_X10_qTakes 21 rfl) rfl ?_
        refine am_icmp_ne (q := 43) (t := 55) (am_tab tk_X10_qTakes 22 rfl) (by decide) rfl (fun h40 => ?_) (fun h40 => ?_)
        · omega
        · refine am_iload (q := 45) rfl (am_tab tk_X10_qTakes 23 rfl) rfl ?_
          refine am_if_eq (q := 48) (t := 55) (am_tab tk_X10_qTakes 24 rfl) (by decide) rfl (fun h45 => ?_) (fun h45 => ?_)
          · refine am_iload_n (q := 56) rfl (am_tab tk_X10_qTakes 29 rfl) rfl ?_
            refine am_iconst (q := 57) (n := 2) (by decide) (am_tab tk_X10_qTakes 30 rfl) rfl ?_
            refine am_icmp_ne (q := 60) (t := 75) (am_tab tk_X10_qTakes 31 rfl) (by decide) rfl (fun h57 => ?_) (fun h57 => ?_)
            · refine am_iload_n (q := 76) rfl (am_tab tk_X10_qTakes 40 rfl) rfl ?_
              refine am_iconst (q := 77) (n := 3) (by decide) (am_tab tk_X10_qTakes 41 rfl) rfl ?_
              refine am_icmp_ne (q := 80) (t := 90) (am_tab tk_X10_qTakes 42 rfl) (by decide) rfl (fun h77 => ?_) (fun h77 => ?_)
              · refine am_iload_n (q := 91) rfl (am_tab tk_X10_qTakes 49 rfl) rfl ?_
                refine am_iconst (q := 92) (n := 3) (by decide) (am_tab tk_X10_qTakes 50 rfl) rfl ?_
                refine am_icmp_le (q := 95) (t := 133) (am_tab tk_X10_qTakes 51 rfl) (by decide) rfl (fun h92 => ?_) (fun h92 => ?_)
                · refine am_aload_n (q := 134) rfl (am_tab tk_X10_qTakes 72 rfl) rfl ?_
                  refine am_iconst (q := 135) (n := 0) (by decide) (am_tab tk_X10_qTakes 73 rfl) rfl ?_
                  refine am_putZ (q := 138) (k := 10) (n := 108) (j := 105) (Ls_55 hL) (by decide) rfl (by first | exact Or.inl rfl | exact Or.inr rfl | omega) (by decide) (Or.inl ⟨kf_X10_663, rfl⟩) (am_tab tk_X10_qTakes 74 rfl) rfl ?_
                  refine am_vret rfl (Nat.le_of_ble_eq_true rfl) (Nat.le_of_ble_eq_true rfl) (am_tab tk_X10_qTakes 75 rfl) ?_
                  refine hQ _ _ ?_
                  have ht : tkQ kind v i (S.2.1 55 104) (S.2.1 55 105) = S.2.1 55 104 := by
                    unfold tkQ
                    repeat (first | rw [if_pos (by omega)] | rw [if_neg (by omega)])
                  refine ⟨rfl, ?_⟩
                  rw [ht, am_setN_self]
                · omega
              · omega
            · omega
          · exact absurd h45 (by decide)
      · omega
    · rw [ao_cmp_eq] at h8
      refine am_iconst (q := 12) (n := 1) (by decide) (am_tab tk_X10_qTakes 7 rfl) rfl ?_
      refine am_goto (t := 16) (am_tab tk_X10_qTakes 8 rfl) (by decide) ?_
      refine am_istore (q := 18) (by decide) (ls2 := [(5, am_i 1), (0, am_r 55), (1, am_i kind), (2, am_l v), (4, am_i i)]) rfl (am_tab tk_X10_qTakes 10 rfl) rfl ?_
      refine am_iload_n (q := 19) rfl (am_tab tk_X10_qTakes 11 rfl) rfl ?_
      refine am_if_ne (q := 22) (t := 38) (am_tab tk_X10_qTakes 12 rfl) (by decide) rfl (fun h19 => ?_) (fun h19 => ?_)
      · refine am_iload_n (q := 39) rfl (am_tab tk_X10_qTakes 20 rfl) rfl ?_
        refine am_iconst (q := 40) (n := 1) (by decide) (am_tab tk_X10_qTakes 21 rfl) rfl ?_
        refine am_icmp_ne (q := 43) (t := 55) (am_tab tk_X10_qTakes 22 rfl) (by decide) rfl (fun h40 => ?_) (fun h40 => ?_)
        · omega
        · refine am_iload (q := 45) rfl (am_tab tk_X10_qTakes 23 rfl) rfl ?_
          refine am_if_eq (q := 48) (t := 55) (am_tab tk_X10_qTakes 24 rfl) (by decide) rfl (fun h45 => ?_) (fun h45 => ?_)
          · exact absurd h45 (by decide)
          · refine am_aload_n (q := 49) rfl (am_tab tk_X10_qTakes 25 rfl) rfl ?_
            refine am_iload (q := 51) rfl (am_tab tk_X10_qTakes 26 rfl) rfl ?_
            refine am_i2l (q := 52) (am_tab tk_X10_qTakes 27 rfl) rfl ?_
            refine am_putL (q := 55) (k := 10) (n := 108) (j := 104) (Ls_55 hL) (by decide) rfl (by decide) (Or.inl ⟨kf_X10_658, rfl⟩) (am_tab tk_X10_qTakes 28 rfl) rfl ?_
            refine am_iload_n (q := 56) rfl (am_tab tk_X10_qTakes 29 rfl) rfl ?_
            refine am_iconst (q := 57) (n := 2) (by decide) (am_tab tk_X10_qTakes 30 rfl) rfl ?_
            refine am_icmp_ne (q := 60) (t := 75) (am_tab tk_X10_qTakes 31 rfl) (by decide) rfl (fun h57 => ?_) (fun h57 => ?_)
            · refine am_iload_n (q := 76) rfl (am_tab tk_X10_qTakes 40 rfl) rfl ?_
              refine am_iconst (q := 77) (n := 3) (by decide) (am_tab tk_X10_qTakes 41 rfl) rfl ?_
              refine am_icmp_ne (q := 80) (t := 90) (am_tab tk_X10_qTakes 42 rfl) (by decide) rfl (fun h77 => ?_) (fun h77 => ?_)
              · refine am_iload_n (q := 91) rfl (am_tab tk_X10_qTakes 49 rfl) rfl ?_
                refine am_iconst (q := 92) (n := 3) (by decide) (am_tab tk_X10_qTakes 50 rfl) rfl ?_
                refine am_icmp_le (q := 95) (t := 133) (am_tab tk_X10_qTakes 51 rfl) (by decide) rfl (fun h92 => ?_) (fun h92 => ?_)
                · refine am_aload_n (q := 134) rfl (am_tab tk_X10_qTakes 72 rfl) rfl ?_
                  refine am_iconst (q := 135) (n := 0) (by decide) (am_tab tk_X10_qTakes 73 rfl) rfl ?_
                  refine am_putZ (q := 138) (k := 10) (n := 108) (j := 105) (Ls_55 hL) (by decide) rfl (by first | exact Or.inl rfl | exact Or.inr rfl | omega) (by decide) (Or.inl ⟨kf_X10_663, rfl⟩) (am_tab tk_X10_qTakes 74 rfl) rfl ?_
                  refine am_vret rfl (Nat.le_of_ble_eq_true rfl) (Nat.le_of_ble_eq_true rfl) (am_tab tk_X10_qTakes 75 rfl) ?_
                  refine hQ _ _ ?_
                  have ht : tkQ kind v i (S.2.1 55 104) (S.2.1 55 105) = i := by
                    unfold tkQ
                    repeat (first | rw [if_pos (by omega)] | rw [if_neg (by omega)])
                  refine ⟨rfl, ?_⟩
                  rw [ht]
                · omega
              · omega
            · omega
      · omega
theorem c_qTakes2 (S : am_H) (hL : lay S) (kind : Int) (v : Int) (i : Int) (hk : kind = 2) (hi : 0 ≤ i ∧ i < 8) (hv : -4000000000000000000 ≤ v ∧ v ≤ 4000000000000000000) (hA : -4000000000000000000 ≤ S.2.1 55 104 ∧ S.2.1 55 104 ≤ 4000000000000000000) : am_met M_X10_qTakes [am_r 55, am_i kind, am_l v, am_i i] S (fun r σ' => r = none ∧ σ' = am_setN (am_setN S 55 104 (tkQ kind v i (S.2.1 55 104) (S.2.1 55 105))) 55 105 0) := by
  refine am_qq (fun Q hQ => ?_)
  refine am_enter (show plainFor yX10_qTakes = true by decide +kernel) rfl (Nat.le_of_ble_eq_true rfl) (fun _ _ _ => trivial) ?_
  refine am_iload_n (q := 1) rfl (am_tab tk_X10_qTakes 0 rfl) rfl ?_
  refine am_iconst (q := 2) (n := 3) (by decide) (am_tab tk_X10_qTakes 1 rfl) rfl ?_
  refine am_icmp_ge (q := 5) (t := 15) (am_tab tk_X10_qTakes 2 rfl) (by decide) rfl (fun h2 => ?_) (fun h2 => ?_)
  · omega
  · refine am_lload_n (q := 6) rfl (am_tab tk_X10_qTakes 3 rfl) rfl ?_
    refine am_lconst1 (q := 7) (am_tab tk_X10_qTakes 4 rfl) rfl ?_
    refine am_lcmp (q := 8) (am_tab tk_X10_qTakes 5 rfl) rfl ?_
    refine am_if_ne (q := 11) (t := 15) (am_tab tk_X10_qTakes 6 rfl) (by decide) rfl (fun h8 => ?_) (fun h8 => ?_)
    · rw [ao_cmp_eq] at h8
      refine am_iconst (q := 16) (n := 0) (by decide) (am_tab tk_X10_qTakes 9 rfl) rfl ?_
      refine am_istore (q := 18) (by decide) (ls2 := [(5, am_i 0), (0, am_r 55), (1, am_i kind), (2, am_l v), (4, am_i i)]) rfl (am_tab tk_X10_qTakes 10 rfl) rfl ?_
      refine am_iload_n (q := 19) rfl (am_tab tk_X10_qTakes 11 rfl) rfl ?_
      refine am_if_ne (q := 22) (t := 38) (am_tab tk_X10_qTakes 12 rfl) (by decide) rfl (fun h19 => ?_) (fun h19 => ?_)
      · refine am_iload_n (q := 39) rfl (am_tab tk_X10_qTakes 20 rfl) rfl ?_
        refine am_iconst (q := 40) (n := 1) (by decide) (am_tab tk_X10_qTakes 21 rfl) rfl ?_
        refine am_icmp_ne (q := 43) (t := 55) (am_tab tk_X10_qTakes 22 rfl) (by decide) rfl (fun h40 => ?_) (fun h40 => ?_)
        · refine am_iload_n (q := 56) rfl (am_tab tk_X10_qTakes 29 rfl) rfl ?_
          refine am_iconst (q := 57) (n := 2) (by decide) (am_tab tk_X10_qTakes 30 rfl) rfl ?_
          refine am_icmp_ne (q := 60) (t := 75) (am_tab tk_X10_qTakes 31 rfl) (by decide) rfl (fun h57 => ?_) (fun h57 => ?_)
          · omega
          · refine am_iload (q := 62) rfl (am_tab tk_X10_qTakes 32 rfl) rfl ?_
            refine am_if_eq (q := 65) (t := 75) (am_tab tk_X10_qTakes 33 rfl) (by decide) rfl (fun h62 => ?_) (fun h62 => ?_)
            · refine am_iload_n (q := 76) rfl (am_tab tk_X10_qTakes 40 rfl) rfl ?_
              refine am_iconst (q := 77) (n := 3) (by decide) (am_tab tk_X10_qTakes 41 rfl) rfl ?_
              refine am_icmp_ne (q := 80) (t := 90) (am_tab tk_X10_qTakes 42 rfl) (by decide) rfl (fun h77 => ?_) (fun h77 => ?_)
              · refine am_iload_n (q := 91) rfl (am_tab tk_X10_qTakes 49 rfl) rfl ?_
                refine am_iconst (q := 92) (n := 3) (by decide) (am_tab tk_X10_qTakes 50 rfl) rfl ?_
                refine am_icmp_le (q := 95) (t := 133) (am_tab tk_X10_qTakes 51 rfl) (by decide) rfl (fun h92 => ?_) (fun h92 => ?_)
                · refine am_aload_n (q := 134) rfl (am_tab tk_X10_qTakes 72 rfl) rfl ?_
                  refine am_iconst (q := 135) (n := 0) (by decide) (am_tab tk_X10_qTakes 73 rfl) rfl ?_
                  refine am_putZ (q := 138) (k := 10) (n := 108) (j := 105) (Ls_55 hL) (by decide) rfl (by first | exact Or.inl rfl | exact Or.inr rfl | omega) (by decide) (Or.inl ⟨kf_X10_663, rfl⟩) (am_tab tk_X10_qTakes 74 rfl) rfl ?_
                  refine am_vret rfl (Nat.le_of_ble_eq_true rfl) (Nat.le_of_ble_eq_true rfl) (am_tab tk_X10_qTakes 75 rfl) ?_
                  refine hQ _ _ ?_
                  have ht : tkQ kind v i (S.2.1 55 104) (S.2.1 55 105) = S.2.1 55 104 := by
                    unfold tkQ
                    repeat (first | rw [if_pos (by omega)] | rw [if_neg (by omega)])
                  refine ⟨rfl, ?_⟩
                  rw [ht, am_setN_self]
                · omega
              · omega
            · exact absurd h62 (by decide)
        · omega
      · omega
    · rw [ao_cmp_eq] at h8
      refine am_iconst (q := 12) (n := 1) (by decide) (am_tab tk_X10_qTakes 7 rfl) rfl ?_
      refine am_goto (t := 16) (am_tab tk_X10_qTakes 8 rfl) (by decide) ?_
      refine am_istore (q := 18) (by decide) (ls2 := [(5, am_i 1), (0, am_r 55), (1, am_i kind), (2, am_l v), (4, am_i i)]) rfl (am_tab tk_X10_qTakes 10 rfl) rfl ?_
      refine am_iload_n (q := 19) rfl (am_tab tk_X10_qTakes 11 rfl) rfl ?_
      refine am_if_ne (q := 22) (t := 38) (am_tab tk_X10_qTakes 12 rfl) (by decide) rfl (fun h19 => ?_) (fun h19 => ?_)
      · refine am_iload_n (q := 39) rfl (am_tab tk_X10_qTakes 20 rfl) rfl ?_
        refine am_iconst (q := 40) (n := 1) (by decide) (am_tab tk_X10_qTakes 21 rfl) rfl ?_
        refine am_icmp_ne (q := 43) (t := 55) (am_tab tk_X10_qTakes 22 rfl) (by decide) rfl (fun h40 => ?_) (fun h40 => ?_)
        · refine am_iload_n (q := 56) rfl (am_tab tk_X10_qTakes 29 rfl) rfl ?_
          refine am_iconst (q := 57) (n := 2) (by decide) (am_tab tk_X10_qTakes 30 rfl) rfl ?_
          refine am_icmp_ne (q := 60) (t := 75) (am_tab tk_X10_qTakes 31 rfl) (by decide) rfl (fun h57 => ?_) (fun h57 => ?_)
          · omega
          · refine am_iload (q := 62) rfl (am_tab tk_X10_qTakes 32 rfl) rfl ?_
            refine am_if_eq (q := 65) (t := 75) (am_tab tk_X10_qTakes 33 rfl) (by decide) rfl (fun h62 => ?_) (fun h62 => ?_)
            · exact absurd h62 (by decide)
            · refine am_aload_n (q := 66) rfl (am_tab tk_X10_qTakes 34 rfl) rfl ?_
              refine am_dup (q := 67) rfl (am_tab tk_X10_qTakes 35 rfl) rfl ?_
              refine am_getL (q := 70) (a := 55) (k := 10) (n := 108) (j := 104) (x := (S.2.1 55 104)) (Ls_55 hL) (by decide) rfl rfl (by decide) (Or.inl kf_X10_658) (am_tab tk_X10_qTakes 36 rfl) rfl ?_
              refine am_lconst1 (q := 71) (am_tab tk_X10_qTakes 37 rfl) rfl ?_
              refine am_ladd (q := 72) (by omega) (am_tab tk_X10_qTakes 38 rfl) rfl ?_
              refine am_putL (q := 75) (k := 10) (n := 108) (j := 104) (Ls_55 hL) (by decide) rfl (by decide) (Or.inl ⟨kf_X10_658, rfl⟩) (am_tab tk_X10_qTakes 39 rfl) rfl ?_
              refine am_iload_n (q := 76) rfl (am_tab tk_X10_qTakes 40 rfl) rfl ?_
              refine am_iconst (q := 77) (n := 3) (by decide) (am_tab tk_X10_qTakes 41 rfl) rfl ?_
              refine am_icmp_ne (q := 80) (t := 90) (am_tab tk_X10_qTakes 42 rfl) (by decide) rfl (fun h77 => ?_) (fun h77 => ?_)
              · refine am_iload_n (q := 91) rfl (am_tab tk_X10_qTakes 49 rfl) rfl ?_
                refine am_iconst (q := 92) (n := 3) (by decide) (am_tab tk_X10_qTakes 50 rfl) rfl ?_
                refine am_icmp_le (q := 95) (t := 133) (am_tab tk_X10_qTakes 51 rfl) (by decide) rfl (fun h92 => ?_) (fun h92 => ?_)
                · refine am_aload_n (q := 134) rfl (am_tab tk_X10_qTakes 72 rfl) rfl ?_
                  refine am_iconst (q := 135) (n := 0) (by decide) (am_tab tk_X10_qTakes 73 rfl) rfl ?_
                  refine am_putZ (q := 138) (k := 10) (n := 108) (j := 105) (Ls_55 hL) (by decide) rfl (by first | exact Or.inl rfl | exact Or.inr rfl | omega) (by decide) (Or.inl ⟨kf_X10_663, rfl⟩) (am_tab tk_X10_qTakes 74 rfl) rfl ?_
                  refine am_vret rfl (Nat.le_of_ble_eq_true rfl) (Nat.le_of_ble_eq_true rfl) (am_tab tk_X10_qTakes 75 rfl) ?_
                  refine hQ _ _ ?_
                  have ht : tkQ kind v i (S.2.1 55 104) (S.2.1 55 105) = ((S.2.1 55 104) + 1) := by
                    unfold tkQ
                    repeat (first | rw [if_pos (by omega)] | rw [if_neg (by omega)])
                  refine ⟨rfl, ?_⟩
                  rw [ht]
                · omega
              · omega
        · omega
      · omega
theorem c_qTakes3 (S : am_H) (hL : lay S) (kind : Int) (v : Int) (i : Int) (hk : kind = 3) (hi : 0 ≤ i ∧ i < 8) (hv : -4000000000000000000 ≤ v ∧ v ≤ 4000000000000000000) (hA : -4000000000000000000 ≤ S.2.1 55 104 ∧ S.2.1 55 104 ≤ 4000000000000000000) : am_met M_X10_qTakes [am_r 55, am_i kind, am_l v, am_i i] S (fun r σ' => r = none ∧ σ' = am_setN (am_setN S 55 104 (tkQ kind v i (S.2.1 55 104) (S.2.1 55 105))) 55 105 0) := by
  refine am_qq (fun Q hQ => ?_)
  refine am_enter (show plainFor yX10_qTakes = true by decide +kernel) rfl (Nat.le_of_ble_eq_true rfl) (fun _ _ _ => trivial) ?_
  refine am_iload_n (q := 1) rfl (am_tab tk_X10_qTakes 0 rfl) rfl ?_
  refine am_iconst (q := 2) (n := 3) (by decide) (am_tab tk_X10_qTakes 1 rfl) rfl ?_
  refine am_icmp_ge (q := 5) (t := 15) (am_tab tk_X10_qTakes 2 rfl) (by decide) rfl (fun h2 => ?_) (fun h2 => ?_)
  · refine am_iconst (q := 16) (n := 0) (by decide) (am_tab tk_X10_qTakes 9 rfl) rfl ?_
    refine am_istore (q := 18) (by decide) (ls2 := [(5, am_i 0), (0, am_r 55), (1, am_i kind), (2, am_l v), (4, am_i i)]) rfl (am_tab tk_X10_qTakes 10 rfl) rfl ?_
    refine am_iload_n (q := 19) rfl (am_tab tk_X10_qTakes 11 rfl) rfl ?_
    refine am_if_ne (q := 22) (t := 38) (am_tab tk_X10_qTakes 12 rfl) (by decide) rfl (fun h19 => ?_) (fun h19 => ?_)
    · refine am_iload_n (q := 39) rfl (am_tab tk_X10_qTakes 20 rfl) rfl ?_
      refine am_iconst (q := 40) (n := 1) (by decide) (am_tab tk_X10_qTakes 21 rfl) rfl ?_
      refine am_icmp_ne (q := 43) (t := 55) (am_tab tk_X10_qTakes 22 rfl) (by decide) rfl (fun h40 => ?_) (fun h40 => ?_)
      · refine am_iload_n (q := 56) rfl (am_tab tk_X10_qTakes 29 rfl) rfl ?_
        refine am_iconst (q := 57) (n := 2) (by decide) (am_tab tk_X10_qTakes 30 rfl) rfl ?_
        refine am_icmp_ne (q := 60) (t := 75) (am_tab tk_X10_qTakes 31 rfl) (by decide) rfl (fun h57 => ?_) (fun h57 => ?_)
        · refine am_iload_n (q := 76) rfl (am_tab tk_X10_qTakes 40 rfl) rfl ?_
          refine am_iconst (q := 77) (n := 3) (by decide) (am_tab tk_X10_qTakes 41 rfl) rfl ?_
          refine am_icmp_ne (q := 80) (t := 90) (am_tab tk_X10_qTakes 42 rfl) (by decide) rfl (fun h77 => ?_) (fun h77 => ?_)
          · omega
          · refine am_aload_n (q := 81) rfl (am_tab tk_X10_qTakes 43 rfl) rfl ?_
            refine am_dup (q := 82) rfl (am_tab tk_X10_qTakes 44 rfl) rfl ?_
            refine am_getL (q := 85) (a := 55) (k := 10) (n := 108) (j := 104) (x := (S.2.1 55 104)) (Ls_55 hL) (by decide) rfl rfl (by decide) (Or.inl kf_X10_658) (am_tab tk_X10_qTakes 45 rfl) rfl ?_
            refine am_lload_n (q := 86) rfl (am_tab tk_X10_qTakes 46 rfl) rfl ?_
            refine am_ladd (q := 87) (by omega) (am_tab tk_X10_qTakes 47 rfl) rfl ?_
            refine am_putL (q := 90) (k := 10) (n := 108) (j := 104) (Ls_55 hL) (by decide) rfl (by decide) (Or.inl ⟨kf_X10_658, rfl⟩) (am_tab tk_X10_qTakes 48 rfl) rfl ?_
            refine am_iload_n (q := 91) rfl (am_tab tk_X10_qTakes 49 rfl) rfl ?_
            refine am_iconst (q := 92) (n := 3) (by decide) (am_tab tk_X10_qTakes 50 rfl) rfl ?_
            refine am_icmp_le (q := 95) (t := 133) (am_tab tk_X10_qTakes 51 rfl) (by decide) rfl (fun h92 => ?_) (fun h92 => ?_)
            · refine am_aload_n (q := 134) rfl (am_tab tk_X10_qTakes 72 rfl) rfl ?_
              refine am_iconst (q := 135) (n := 0) (by decide) (am_tab tk_X10_qTakes 73 rfl) rfl ?_
              refine am_putZ (q := 138) (k := 10) (n := 108) (j := 105) (Ls_55 hL) (by decide) rfl (by first | exact Or.inl rfl | exact Or.inr rfl | omega) (by decide) (Or.inl ⟨kf_X10_663, rfl⟩) (am_tab tk_X10_qTakes 74 rfl) rfl ?_
              refine am_vret rfl (Nat.le_of_ble_eq_true rfl) (Nat.le_of_ble_eq_true rfl) (am_tab tk_X10_qTakes 75 rfl) ?_
              refine hQ _ _ ?_
              have ht : tkQ kind v i (S.2.1 55 104) (S.2.1 55 105) = ((S.2.1 55 104) + v) := by
                unfold tkQ
                repeat (first | rw [if_pos (by omega)] | rw [if_neg (by omega)])
              refine ⟨rfl, ?_⟩
              rw [ht]
            · omega
        · omega
      · omega
    · omega
  · omega
theorem c_qTakes4 (S : am_H) (hL : lay S) (kind : Int) (v : Int) (i : Int) (hk : kind = 4) (hi : 0 ≤ i ∧ i < 8) (hv : -4000000000000000000 ≤ v ∧ v ≤ 4000000000000000000) (hA : -4000000000000000000 ≤ S.2.1 55 104 ∧ S.2.1 55 104 ≤ 4000000000000000000) : am_met M_X10_qTakes [am_r 55, am_i kind, am_l v, am_i i] S (fun r σ' => r = none ∧ σ' = am_setN (am_setN S 55 104 (tkQ kind v i (S.2.1 55 104) (S.2.1 55 105))) 55 105 0) := by
  refine am_qq (fun Q hQ => ?_)
  refine am_enter (show plainFor yX10_qTakes = true by decide +kernel) rfl (Nat.le_of_ble_eq_true rfl) (fun _ _ _ => trivial) ?_
  refine am_iload_n (q := 1) rfl (am_tab tk_X10_qTakes 0 rfl) rfl ?_
  refine am_iconst (q := 2) (n := 3) (by decide) (am_tab tk_X10_qTakes 1 rfl) rfl ?_
  refine am_icmp_ge (q := 5) (t := 15) (am_tab tk_X10_qTakes 2 rfl) (by decide) rfl (fun h2 => ?_) (fun h2 => ?_)
  · refine am_iconst (q := 16) (n := 0) (by decide) (am_tab tk_X10_qTakes 9 rfl) rfl ?_
    refine am_istore (q := 18) (by decide) (ls2 := [(5, am_i 0), (0, am_r 55), (1, am_i kind), (2, am_l v), (4, am_i i)]) rfl (am_tab tk_X10_qTakes 10 rfl) rfl ?_
    refine am_iload_n (q := 19) rfl (am_tab tk_X10_qTakes 11 rfl) rfl ?_
    refine am_if_ne (q := 22) (t := 38) (am_tab tk_X10_qTakes 12 rfl) (by decide) rfl (fun h19 => ?_) (fun h19 => ?_)
    · refine am_iload_n (q := 39) rfl (am_tab tk_X10_qTakes 20 rfl) rfl ?_
      refine am_iconst (q := 40) (n := 1) (by decide) (am_tab tk_X10_qTakes 21 rfl) rfl ?_
      refine am_icmp_ne (q := 43) (t := 55) (am_tab tk_X10_qTakes 22 rfl) (by decide) rfl (fun h40 => ?_) (fun h40 => ?_)
      · refine am_iload_n (q := 56) rfl (am_tab tk_X10_qTakes 29 rfl) rfl ?_
        refine am_iconst (q := 57) (n := 2) (by decide) (am_tab tk_X10_qTakes 30 rfl) rfl ?_
        refine am_icmp_ne (q := 60) (t := 75) (am_tab tk_X10_qTakes 31 rfl) (by decide) rfl (fun h57 => ?_) (fun h57 => ?_)
        · refine am_iload_n (q := 76) rfl (am_tab tk_X10_qTakes 40 rfl) rfl ?_
          refine am_iconst (q := 77) (n := 3) (by decide) (am_tab tk_X10_qTakes 41 rfl) rfl ?_
          refine am_icmp_ne (q := 80) (t := 90) (am_tab tk_X10_qTakes 42 rfl) (by decide) rfl (fun h77 => ?_) (fun h77 => ?_)
          · refine am_iload_n (q := 91) rfl (am_tab tk_X10_qTakes 49 rfl) rfl ?_
            refine am_iconst (q := 92) (n := 3) (by decide) (am_tab tk_X10_qTakes 50 rfl) rfl ?_
            refine am_icmp_le (q := 95) (t := 133) (am_tab tk_X10_qTakes 51 rfl) (by decide) rfl (fun h92 => ?_) (fun h92 => ?_)
            · omega
            · refine am_aload_n (q := 96) rfl (am_tab tk_X10_qTakes 52 rfl) rfl ?_
              refine am_getI (q := 99) (a := 55) (k := 10) (n := 108) (j := 105) (x := (S.2.1 55 105)) (Ls_55 hL) (by decide) rfl rfl (by decide) (Or.inl kf_X10_663) (am_tab tk_X10_qTakes 53 rfl) rfl ?_
              refine am_if_ne (q := 102) (t := 128) (am_tab tk_X10_qTakes 54 rfl) (by decide) rfl (fun h99 => ?_) (fun h99 => ?_)
              · refine am_aload_n (q := 129) rfl (am_tab tk_X10_qTakes 69 rfl) rfl ?_
                refine am_lload_n (q := 130) rfl (am_tab tk_X10_qTakes 70 rfl) rfl ?_
                refine am_putL (q := 133) (k := 10) (n := 108) (j := 104) (Ls_55 hL) (by decide) rfl (by decide) (Or.inl ⟨kf_X10_658, rfl⟩) (am_tab tk_X10_qTakes 71 rfl) rfl ?_
                refine am_aload_n (q := 134) rfl (am_tab tk_X10_qTakes 72 rfl) rfl ?_
                refine am_iconst (q := 135) (n := 0) (by decide) (am_tab tk_X10_qTakes 73 rfl) rfl ?_
                refine am_putZ (q := 138) (k := 10) (n := 108) (j := 105) (Ls_55 hL) (by decide) rfl (by first | exact Or.inl rfl | exact Or.inr rfl | omega) (by decide) (Or.inl ⟨kf_X10_663, rfl⟩) (am_tab tk_X10_qTakes 74 rfl) rfl ?_
                refine am_vret rfl (Nat.le_of_ble_eq_true rfl) (Nat.le_of_ble_eq_true rfl) (am_tab tk_X10_qTakes 75 rfl) ?_
                refine hQ _ _ ?_
                have ht : tkQ kind v i (S.2.1 55 104) (S.2.1 55 105) = v := by
                  unfold tkQ
                  repeat (first | rw [if_pos (by omega)] | rw [if_neg (by omega)])
                refine ⟨rfl, ?_⟩
                rw [ht]
              · refine am_iload_n (q := 103) rfl (am_tab tk_X10_qTakes 55 rfl) rfl ?_
                refine am_iconst (q := 104) (n := 4) (by decide) (am_tab tk_X10_qTakes 56 rfl) rfl ?_
                refine am_icmp_ne (q := 107) (t := 119) (am_tab tk_X10_qTakes 57 rfl) (by decide) rfl (fun h104 => ?_) (fun h104 => ?_)
                · omega
                · refine am_lload_n (q := 108) rfl (am_tab tk_X10_qTakes 58 rfl) rfl ?_
                  refine am_aload_n (q := 109) rfl (am_tab tk_X10_qTakes 59 rfl) rfl ?_
                  refine am_getL (q := 112) (a := 55) (k := 10) (n := 108) (j := 104) (x := (S.2.1 55 104)) (Ls_55 hL) (by decide) rfl rfl (by decide) (Or.inl kf_X10_658) (am_tab tk_X10_qTakes 60 rfl) rfl ?_
                  refine am_lcmp (q := 113) (am_tab tk_X10_qTakes 61 rfl) rfl ?_
                  refine am_if_le (q := 116) (t := 133) (am_tab tk_X10_qTakes 62 rfl) (by decide) rfl (fun h113 => ?_) (fun h113 => ?_)
                  · rw [ao_cmp_le] at h113
                    refine am_aload_n (q := 134) rfl (am_tab tk_X10_qTakes 72 rfl) rfl ?_
                    refine am_iconst (q := 135) (n := 0) (by decide) (am_tab tk_X10_qTakes 73 rfl) rfl ?_
                    refine am_putZ (q := 138) (k := 10) (n := 108) (j := 105) (Ls_55 hL) (by decide) rfl (by first | exact Or.inl rfl | exact Or.inr rfl | omega) (by decide) (Or.inl ⟨kf_X10_663, rfl⟩) (am_tab tk_X10_qTakes 74 rfl) rfl ?_
                    refine am_vret rfl (Nat.le_of_ble_eq_true rfl) (Nat.le_of_ble_eq_true rfl) (am_tab tk_X10_qTakes 75 rfl) ?_
                    refine hQ _ _ ?_
                    have ht : tkQ kind v i (S.2.1 55 104) (S.2.1 55 105) = S.2.1 55 104 := by
                      unfold tkQ
                      repeat (first | rw [if_pos (by omega)] | rw [if_neg (by omega)])
                    refine ⟨rfl, ?_⟩
                    rw [ht, am_setN_self]
                  · rw [ao_cmp_le] at h113
                    refine am_goto (t := 128) (am_tab tk_X10_qTakes 63 rfl) (by decide) ?_
                    refine am_aload_n (q := 129) rfl (am_tab tk_X10_qTakes 69 rfl) rfl ?_
                    refine am_lload_n (q := 130) rfl (am_tab tk_X10_qTakes 70 rfl) rfl ?_
                    refine am_putL (q := 133) (k := 10) (n := 108) (j := 104) (Ls_55 hL) (by decide) rfl (by decide) (Or.inl ⟨kf_X10_658, rfl⟩) (am_tab tk_X10_qTakes 71 rfl) rfl ?_
                    refine am_aload_n (q := 134) rfl (am_tab tk_X10_qTakes 72 rfl) rfl ?_
                    refine am_iconst (q := 135) (n := 0) (by decide) (am_tab tk_X10_qTakes 73 rfl) rfl ?_
                    refine am_putZ (q := 138) (k := 10) (n := 108) (j := 105) (Ls_55 hL) (by decide) rfl (by first | exact Or.inl rfl | exact Or.inr rfl | omega) (by decide) (Or.inl ⟨kf_X10_663, rfl⟩) (am_tab tk_X10_qTakes 74 rfl) rfl ?_
                    refine am_vret rfl (Nat.le_of_ble_eq_true rfl) (Nat.le_of_ble_eq_true rfl) (am_tab tk_X10_qTakes 75 rfl) ?_
                    refine hQ _ _ ?_
                    have ht : tkQ kind v i (S.2.1 55 104) (S.2.1 55 105) = v := by
                      unfold tkQ
                      repeat (first | rw [if_pos (by omega)] | rw [if_neg (by omega)])
                    refine ⟨rfl, ?_⟩
                    rw [ht]
          · omega
        · omega
      · omega
    · omega
  · omega
theorem c_qTakes5 (S : am_H) (hL : lay S) (kind : Int) (v : Int) (i : Int) (hk : kind = 5) (hi : 0 ≤ i ∧ i < 8) (hv : -4000000000000000000 ≤ v ∧ v ≤ 4000000000000000000) (hA : -4000000000000000000 ≤ S.2.1 55 104 ∧ S.2.1 55 104 ≤ 4000000000000000000) : am_met M_X10_qTakes [am_r 55, am_i kind, am_l v, am_i i] S (fun r σ' => r = none ∧ σ' = am_setN (am_setN S 55 104 (tkQ kind v i (S.2.1 55 104) (S.2.1 55 105))) 55 105 0) := by
  refine am_qq (fun Q hQ => ?_)
  refine am_enter (show plainFor yX10_qTakes = true by decide +kernel) rfl (Nat.le_of_ble_eq_true rfl) (fun _ _ _ => trivial) ?_
  refine am_iload_n (q := 1) rfl (am_tab tk_X10_qTakes 0 rfl) rfl ?_
  refine am_iconst (q := 2) (n := 3) (by decide) (am_tab tk_X10_qTakes 1 rfl) rfl ?_
  refine am_icmp_ge (q := 5) (t := 15) (am_tab tk_X10_qTakes 2 rfl) (by decide) rfl (fun h2 => ?_) (fun h2 => ?_)
  · refine am_iconst (q := 16) (n := 0) (by decide) (am_tab tk_X10_qTakes 9 rfl) rfl ?_
    refine am_istore (q := 18) (by decide) (ls2 := [(5, am_i 0), (0, am_r 55), (1, am_i kind), (2, am_l v), (4, am_i i)]) rfl (am_tab tk_X10_qTakes 10 rfl) rfl ?_
    refine am_iload_n (q := 19) rfl (am_tab tk_X10_qTakes 11 rfl) rfl ?_
    refine am_if_ne (q := 22) (t := 38) (am_tab tk_X10_qTakes 12 rfl) (by decide) rfl (fun h19 => ?_) (fun h19 => ?_)
    · refine am_iload_n (q := 39) rfl (am_tab tk_X10_qTakes 20 rfl) rfl ?_
      refine am_iconst (q := 40) (n := 1) (by decide) (am_tab tk_X10_qTakes 21 rfl) rfl ?_
      refine am_icmp_ne (q := 43) (t := 55) (am_tab tk_X10_qTakes 22 rfl) (by decide) rfl (fun h40 => ?_) (fun h40 => ?_)
      · refine am_iload_n (q := 56) rfl (am_tab tk_X10_qTakes 29 rfl) rfl ?_
        refine am_iconst (q := 57) (n := 2) (by decide) (am_tab tk_X10_qTakes 30 rfl) rfl ?_
        refine am_icmp_ne (q := 60) (t := 75) (am_tab tk_X10_qTakes 31 rfl) (by decide) rfl (fun h57 => ?_) (fun h57 => ?_)
        · refine am_iload_n (q := 76) rfl (am_tab tk_X10_qTakes 40 rfl) rfl ?_
          refine am_iconst (q := 77) (n := 3) (by decide) (am_tab tk_X10_qTakes 41 rfl) rfl ?_
          refine am_icmp_ne (q := 80) (t := 90) (am_tab tk_X10_qTakes 42 rfl) (by decide) rfl (fun h77 => ?_) (fun h77 => ?_)
          · refine am_iload_n (q := 91) rfl (am_tab tk_X10_qTakes 49 rfl) rfl ?_
            refine am_iconst (q := 92) (n := 3) (by decide) (am_tab tk_X10_qTakes 50 rfl) rfl ?_
            refine am_icmp_le (q := 95) (t := 133) (am_tab tk_X10_qTakes 51 rfl) (by decide) rfl (fun h92 => ?_) (fun h92 => ?_)
            · omega
            · refine am_aload_n (q := 96) rfl (am_tab tk_X10_qTakes 52 rfl) rfl ?_
              refine am_getI (q := 99) (a := 55) (k := 10) (n := 108) (j := 105) (x := (S.2.1 55 105)) (Ls_55 hL) (by decide) rfl rfl (by decide) (Or.inl kf_X10_663) (am_tab tk_X10_qTakes 53 rfl) rfl ?_
              refine am_if_ne (q := 102) (t := 128) (am_tab tk_X10_qTakes 54 rfl) (by decide) rfl (fun h99 => ?_) (fun h99 => ?_)
              · refine am_aload_n (q := 129) rfl (am_tab tk_X10_qTakes 69 rfl) rfl ?_
                refine am_lload_n (q := 130) rfl (am_tab tk_X10_qTakes 70 rfl) rfl ?_
                refine am_putL (q := 133) (k := 10) (n := 108) (j := 104) (Ls_55 hL) (by decide) rfl (by decide) (Or.inl ⟨kf_X10_658, rfl⟩) (am_tab tk_X10_qTakes 71 rfl) rfl ?_
                refine am_aload_n (q := 134) rfl (am_tab tk_X10_qTakes 72 rfl) rfl ?_
                refine am_iconst (q := 135) (n := 0) (by decide) (am_tab tk_X10_qTakes 73 rfl) rfl ?_
                refine am_putZ (q := 138) (k := 10) (n := 108) (j := 105) (Ls_55 hL) (by decide) rfl (by first | exact Or.inl rfl | exact Or.inr rfl | omega) (by decide) (Or.inl ⟨kf_X10_663, rfl⟩) (am_tab tk_X10_qTakes 74 rfl) rfl ?_
                refine am_vret rfl (Nat.le_of_ble_eq_true rfl) (Nat.le_of_ble_eq_true rfl) (am_tab tk_X10_qTakes 75 rfl) ?_
                refine hQ _ _ ?_
                have ht : tkQ kind v i (S.2.1 55 104) (S.2.1 55 105) = v := by
                  unfold tkQ
                  repeat (first | rw [if_pos (by omega)] | rw [if_neg (by omega)])
                refine ⟨rfl, ?_⟩
                rw [ht]
              · refine am_iload_n (q := 103) rfl (am_tab tk_X10_qTakes 55 rfl) rfl ?_
                refine am_iconst (q := 104) (n := 4) (by decide) (am_tab tk_X10_qTakes 56 rfl) rfl ?_
                refine am_icmp_ne (q := 107) (t := 119) (am_tab tk_X10_qTakes 57 rfl) (by decide) rfl (fun h104 => ?_) (fun h104 => ?_)
                · refine am_lload_n (q := 120) rfl (am_tab tk_X10_qTakes 64 rfl) rfl ?_
                  refine am_aload_n (q := 121) rfl (am_tab tk_X10_qTakes 65 rfl) rfl ?_
                  refine am_getL (q := 124) (a := 55) (k := 10) (n := 108) (j := 104) (x := (S.2.1 55 104)) (Ls_55 hL) (by decide) rfl rfl (by decide) (Or.inl kf_X10_658) (am_tab tk_X10_qTakes 66 rfl) rfl ?_
                  refine am_lcmp (q := 125) (am_tab tk_X10_qTakes 67 rfl) rfl ?_
                  refine am_if_ge (q := 128) (t := 133) (am_tab tk_X10_qTakes 68 rfl) (by decide) rfl (fun h125 => ?_) (fun h125 => ?_)
                  · rw [ao_cmp_ge] at h125
                    refine am_aload_n (q := 134) rfl (am_tab tk_X10_qTakes 72 rfl) rfl ?_
                    refine am_iconst (q := 135) (n := 0) (by decide) (am_tab tk_X10_qTakes 73 rfl) rfl ?_
                    refine am_putZ (q := 138) (k := 10) (n := 108) (j := 105) (Ls_55 hL) (by decide) rfl (by first | exact Or.inl rfl | exact Or.inr rfl | omega) (by decide) (Or.inl ⟨kf_X10_663, rfl⟩) (am_tab tk_X10_qTakes 74 rfl) rfl ?_
                    refine am_vret rfl (Nat.le_of_ble_eq_true rfl) (Nat.le_of_ble_eq_true rfl) (am_tab tk_X10_qTakes 75 rfl) ?_
                    refine hQ _ _ ?_
                    have ht : tkQ kind v i (S.2.1 55 104) (S.2.1 55 105) = S.2.1 55 104 := by
                      unfold tkQ
                      repeat (first | rw [if_pos (by omega)] | rw [if_neg (by omega)])
                    refine ⟨rfl, ?_⟩
                    rw [ht, am_setN_self]
                  · rw [ao_cmp_ge] at h125
                    refine am_aload_n (q := 129) rfl (am_tab tk_X10_qTakes 69 rfl) rfl ?_
                    refine am_lload_n (q := 130) rfl (am_tab tk_X10_qTakes 70 rfl) rfl ?_
                    refine am_putL (q := 133) (k := 10) (n := 108) (j := 104) (Ls_55 hL) (by decide) rfl (by decide) (Or.inl ⟨kf_X10_658, rfl⟩) (am_tab tk_X10_qTakes 71 rfl) rfl ?_
                    refine am_aload_n (q := 134) rfl (am_tab tk_X10_qTakes 72 rfl) rfl ?_
                    refine am_iconst (q := 135) (n := 0) (by decide) (am_tab tk_X10_qTakes 73 rfl) rfl ?_
                    refine am_putZ (q := 138) (k := 10) (n := 108) (j := 105) (Ls_55 hL) (by decide) rfl (by first | exact Or.inl rfl | exact Or.inr rfl | omega) (by decide) (Or.inl ⟨kf_X10_663, rfl⟩) (am_tab tk_X10_qTakes 74 rfl) rfl ?_
                    refine am_vret rfl (Nat.le_of_ble_eq_true rfl) (Nat.le_of_ble_eq_true rfl) (am_tab tk_X10_qTakes 75 rfl) ?_
                    refine hQ _ _ ?_
                    have ht : tkQ kind v i (S.2.1 55 104) (S.2.1 55 105) = v := by
                      unfold tkQ
                      repeat (first | rw [if_pos (by omega)] | rw [if_neg (by omega)])
                    refine ⟨rfl, ?_⟩
                    rw [ht]
                · omega
          · omega
        · omega
      · omega
    · omega
  · omega
theorem c_X10_qTakes (S : am_H) (hL : lay S) (kind v i : Int) (hk : 0 ≤ kind ∧ kind ≤ 5) (hi : 0 ≤ i ∧ i < 8) (hv : -4000000000000000000 ≤ v ∧ v ≤ 4000000000000000000) (hA : -4000000000000000000 ≤ S.2.1 55 104 ∧ S.2.1 55 104 ≤ 4000000000000000000) : am_met M_X10_qTakes [am_r 55, am_i kind, am_l v, am_i i] S (fun r σ' => r = none ∧ σ' = am_setN (am_setN S 55 104 (tkQ kind v i (S.2.1 55 104) (S.2.1 55 105))) 55 105 0) := by
  rcases (show kind = 0 ∨ kind = 1 ∨ kind = 2 ∨ kind = 3 ∨ kind = 4 ∨ kind = 5 by omega) with h | h | h | h | h | h
  · exact c_qTakes0 S hL kind v i h hi hv hA
  · exact c_qTakes1 S hL kind v i h hi hv hA
  · exact c_qTakes2 S hL kind v i h hi hv hA
  · exact c_qTakes3 S hL kind v i h hi hv hA
  · exact c_qTakes4 S hL kind v i h hi hv hA
  · exact c_qTakes5 S hL kind v i h hi hv hA
