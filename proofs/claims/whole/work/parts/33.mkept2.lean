theorem kept_tail {Q : Option am_V → am_H → Prop} (T : am_H) (hL : lay T) (n : Nat) (hn : T.2.1 96 202 = n) (h1 : 1 ≤ n) (h60 : n ≤ 60) (hts : 0 ≤ T.2.1 55 61 ∧ T.2.1 55 61 < 256) (ls : am_Ls) (h0 : am_get? ls 0 = some (am_r 55)) (hQ : Q none (am_setN (am_setN (am_setN (am_setN T 96 (199 + 4 * n) (T.2.1 96 0)) 96 (200 + 4 * n) (T.2.1 96 1)) 96 (201 + 4 * n) (bc (T.2.1 55 61))) 96 (202 + 4 * n) (if T.2.1 55 62 = 0 then 0 else 1))) : am_wp M_X10_isKept Q 0 0 59 [(0, am_r 55)] [] T := by
  have e0 : (((203 : Int) + (4 * (n : Int))) - 4).toNat = 199 + 4 * n := by omega
  have e1 : ((((203 : Int) + (4 * (n : Int))) - 4) + 1).toNat = 200 + 4 * n := by omega
  have e2 : ((((203 : Int) + (4 * (n : Int))) - 4) + 2).toNat = 201 + 4 * n := by omega
  have e3 : ((((203 : Int) + (4 * (n : Int))) - 4) + 3).toNat = 202 + 4 * n := by omega
  refine am_sipush (q := 62) (n := 203) (by decide) rfl (am_tab tk_X10_isKept 32 rfl) rfl ?_
  refine am_iconst (q := 63) (n := 4) (by decide) (am_tab tk_X10_isKept 33 rfl) rfl ?_
  refine am_aload_n (q := 64) rfl (am_tab tk_X10_isKept 34 rfl) rfl ?_
  refine am_getR (q := 67) (a := 55) (k := 10) (n := 108) (j := 54) (r := some (96)) (Ls_55 hL) (by decide) rfl (Lr_55_54 hL) (by decide) (Or.inl kf_X10_136) (am_tab tk_X10_isKept 35 rfl) rfl ?_
  refine am_sipush (q := 70) (n := 202) (by decide) rfl (am_tab tk_X10_isKept 36 rfl) rfl ?_
  refine am_iald (q := 71) (a := 96) (n := 443) (x := (n : Int)) (Ls_96 hL) (by omega) (by omega) hn (am_tab tk_X10_isKept 37 rfl) rfl ?_
  refine am_imul (q := 72) (by omega) (am_tab tk_X10_isKept 38 rfl) rfl ?_
  refine am_iadd (q := 73) (by omega) (am_tab tk_X10_isKept 39 rfl) rfl ?_
  refine am_iconst (q := 74) (n := 4) (by decide) (am_tab tk_X10_isKept 40 rfl) rfl ?_
  refine am_isub (q := 75) (by omega) (am_tab tk_X10_isKept 41 rfl) rfl ?_
  refine am_istore_n (q := 76) (by decide) (ls2 := [(1, am_i ((((203 + ((4 * (n : Int))))) - 4))), (0, am_r 55)]) rfl (am_tab tk_X10_isKept 42 rfl) rfl ?_
  refine am_aload_n (q := 77) rfl (am_tab tk_X10_isKept 43 rfl) rfl ?_
  refine am_getR (q := 80) (a := 55) (k := 10) (n := 108) (j := 54) (r := some (96)) (Ls_55 hL) (by decide) rfl (Lr_55_54 hL) (by decide) (Or.inl kf_X10_136) (am_tab tk_X10_isKept 44 rfl) rfl ?_
  refine am_iload_n (q := 81) rfl (am_tab tk_X10_isKept 45 rfl) rfl ?_
  refine am_aload_n (q := 82) rfl (am_tab tk_X10_isKept 46 rfl) rfl ?_
  refine am_getR (q := 85) (a := 55) (k := 10) (n := 108) (j := 54) (r := some (96)) (Ls_55 hL) (by decide) rfl (Lr_55_54 hL) (by decide) (Or.inl kf_X10_136) (am_tab tk_X10_isKept 47 rfl) rfl ?_
  refine am_iconst (q := 86) (n := 0) (by decide) (am_tab tk_X10_isKept 48 rfl) rfl ?_
  refine am_iald (q := 87) (a := 96) (n := 443) (x := (T.2.1 96 0)) (Ls_96 hL) (by omega) (by omega) rfl (am_tab tk_X10_isKept 49 rfl) rfl ?_
  refine am_iast (q := 88) (a := 96) (n := 443) (Ls_96 hL) (by omega) (by omega) (am_tab tk_X10_isKept 50 rfl) rfl ?_
  refine am_aload_n (q := 89) rfl (am_tab tk_X10_isKept 51 rfl) rfl ?_
  refine am_getR (q := 92) (a := 55) (k := 10) (n := 108) (j := 54) (r := some (96)) (Ls_55 hL) (by decide) rfl (Lr_55_54 hL) (by decide) (Or.inl kf_X10_136) (am_tab tk_X10_isKept 52 rfl) rfl ?_
  refine am_iload_n (q := 93) rfl (am_tab tk_X10_isKept 53 rfl) rfl ?_
  refine am_iconst (q := 94) (n := 1) (by decide) (am_tab tk_X10_isKept 54 rfl) rfl ?_
  refine am_iadd (q := 95) (by omega) (am_tab tk_X10_isKept 55 rfl) rfl ?_
  refine am_aload_n (q := 96) rfl (am_tab tk_X10_isKept 56 rfl) rfl ?_
  refine am_getR (q := 99) (a := 55) (k := 10) (n := 108) (j := 54) (r := some (96)) (Ls_55 hL) (by decide) rfl (Lr_55_54 hL) (by decide) (Or.inl kf_X10_136) (am_tab tk_X10_isKept 57 rfl) rfl ?_
  refine am_iconst (q := 100) (n := 1) (by decide) (am_tab tk_X10_isKept 58 rfl) rfl ?_
  refine am_iald (q := 101) (a := 96) (n := 443) (x := (T.2.1 96 1)) (Ls_96 hL) (by omega) (by omega) (by show (if _ then _ else _) = _; rw [if_neg (by omega)]; rfl) (am_tab tk_X10_isKept 59 rfl) rfl ?_
  refine am_iast (q := 102) (a := 96) (n := 443) (Ls_96 hL) (by omega) (by omega) (am_tab tk_X10_isKept 60 rfl) rfl ?_
  refine am_aload_n (q := 103) rfl (am_tab tk_X10_isKept 61 rfl) rfl ?_
  refine am_getR (q := 106) (a := 55) (k := 10) (n := 108) (j := 54) (r := some (96)) (Ls_55 hL) (by decide) rfl (Lr_55_54 hL) (by decide) (Or.inl kf_X10_136) (am_tab tk_X10_isKept 62 rfl) rfl ?_
  refine am_iload_n (q := 107) rfl (am_tab tk_X10_isKept 63 rfl) rfl ?_
  refine am_iconst (q := 108) (n := 2) (by decide) (am_tab tk_X10_isKept 64 rfl) rfl ?_
  refine am_iadd (q := 109) (by omega) (am_tab tk_X10_isKept 65 rfl) rfl ?_
  refine am_aload_n (q := 110) rfl (am_tab tk_X10_isKept 66 rfl) rfl ?_
  refine am_getI (q := 113) (a := 55) (k := 10) (n := 108) (j := 61) (x := (T.2.1 55 61)) (Ls_55 hL) (by decide) rfl rfl (by decide) (Or.inl kf_X10_461) (am_tab tk_X10_isKept 67 rfl) rfl ?_
  refine am_callS0 (q := 116) (me2 := M_X10_bits) (As := [am_i ((T.2.1 55 61))]) (rest := [am_i ((((((203 + ((4 * (n : Int))))) - 4)) + 2)), am_r 96]) (out := [am_i (bc (T.2.1 55 61)), am_i ((((((203 + ((4 * (n : Int))))) - 4)) + 2)), am_r 96]) (c_X10_bits ((am_setN (am_setN T 96 (Int.toNat ((((203 + ((4 * (n : Int))))) - 4))) (T.2.1 96 0)) 96 (Int.toNat ((((((203 + ((4 * (n : Int))))) - 4)) + 1))) (T.2.1 96 1))) hL (T.2.1 55 61) hts) ⟨rfl, rfl⟩ ⟨Or.inl km_X10_473, kc_X10_bits, kn_X10, kd_X10_bits, ⟨(Nat.le_of_ble_eq_true rfl), (Nat.le_of_ble_eq_true rfl)⟩, ⟨(Nat.le_of_ble_eq_true rfl), (Nat.le_of_ble_eq_true rfl)⟩, (Nat.le_of_ble_eq_true rfl)⟩ ki_X10_bits rfl rfl (am_tab tk_X10_isKept 68 rfl) rfl ?_
  refine am_iast (q := 117) (a := 96) (n := 443) (Ls_96 hL) (by omega) (by omega) (am_tab tk_X10_isKept 69 rfl) rfl ?_
  refine am_aload_n (q := 118) rfl (am_tab tk_X10_isKept 70 rfl) rfl ?_
  refine am_getR (q := 121) (a := 55) (k := 10) (n := 108) (j := 54) (r := some (96)) (Ls_55 hL) (by decide) rfl (Lr_55_54 hL) (by decide) (Or.inl kf_X10_136) (am_tab tk_X10_isKept 71 rfl) rfl ?_
  refine am_iload_n (q := 122) rfl (am_tab tk_X10_isKept 72 rfl) rfl ?_
  refine am_iconst (q := 123) (n := 3) (by decide) (am_tab tk_X10_isKept 73 rfl) rfl ?_
  refine am_iadd (q := 124) (by omega) (am_tab tk_X10_isKept 74 rfl) rfl ?_
  refine am_aload_n (q := 125) rfl (am_tab tk_X10_isKept 75 rfl) rfl ?_
  refine am_getI (q := 128) (a := 55) (k := 10) (n := 108) (j := 62) (x := (T.2.1 55 62)) (Ls_55 hL) (by decide) rfl rfl (by decide) (Or.inl kf_X10_464) (am_tab tk_X10_isKept 76 rfl) rfl ?_
  refine am_if_eq (q := 131) (t := 135) (am_tab tk_X10_isKept 77 rfl) (by decide) rfl (fun h128 => ?_) (fun h128 => ?_)
  · refine am_iconst (q := 136) (n := 0) (by decide) (am_tab tk_X10_isKept 80 rfl) rfl ?_
    refine am_iast (q := 137) (a := 96) (n := 443) (Ls_96 hL) (by omega) (by omega) (am_tab tk_X10_isKept 81 rfl) rfl ?_
    refine am_vret rfl (Nat.le_of_ble_eq_true rfl) (Nat.le_of_ble_eq_true rfl) (am_tab tk_X10_isKept 82 rfl) ?_
    rw [e0, e1, e2, e3]
    first
      | (rw [if_pos h128] at hQ; exact hQ)
      | (rw [if_neg h128] at hQ; exact hQ)
  · refine am_iconst (q := 132) (n := 1) (by decide) (am_tab tk_X10_isKept 78 rfl) rfl ?_
    refine am_goto (t := 136) (am_tab tk_X10_isKept 79 rfl) (by decide) ?_
    refine am_iast (q := 137) (a := 96) (n := 443) (Ls_96 hL) (by omega) (by omega) (am_tab tk_X10_isKept 81 rfl) rfl ?_
    refine am_vret rfl (Nat.le_of_ble_eq_true rfl) (Nat.le_of_ble_eq_true rfl) (am_tab tk_X10_isKept 82 rfl) ?_
    rw [e0, e1, e2, e3]
    first
      | (rw [if_pos h128] at hQ; exact hQ)
      | (rw [if_neg h128] at hQ; exact hQ)
theorem kpA_full (f : Nat → Int) (h : f 202 = 60) (y d n b : Int) : (fun k => if k = 202 + 4 * 60 then b else if k = 201 + 4 * 60 then n else if k = 200 + 4 * 60 then d else if k = 199 + 4 * 60 then y else if 203 ≤ k ∧ k < 203 + 236 then f (k + 4) else f k) = kpA f y d n b := by
  funext k
  unfold kpA
  rw [if_pos h]
  repeat' split
  all_goals first | rfl | omega
theorem kpA_part (f : Nat → Int) (m : Nat) (hm : f 202 = m) (h : m < 60) (y d n b : Int) : (fun k => if k = 202 + 4 * (m + 1) then b else if k = 201 + 4 * (m + 1) then n else if k = 200 + 4 * (m + 1) then d else if k = 199 + 4 * (m + 1) then y else if k = 202 then f 202 + 1 else f k) = kpA f y d n b := by
  funext k
  unfold kpA
  have hc : (f 202).toNat = m := by omega
  rw [if_neg (show ¬ f 202 = 60 by omega), hc]
  repeat' split
  all_goals first | rfl | omega
theorem shift_loop (σ : am_H) (hL : lay σ) (hk : σ.2.1 96 202 = 60) (hts : 0 ≤ σ.2.1 55 61 ∧ σ.2.1 55 61 < 256) : ∀ m i : Nat, i + m = 236 → am_wp M_X10_isKept (fun r σ' => r = none ∧ σ' = am_setA σ 96 (kpA (fun k => σ.2.1 96 k) (σ.2.1 96 0) (σ.2.1 96 1) (bc (σ.2.1 55 61)) (if σ.2.1 55 62 = 0 then 0 else 1))) 0 0 17 [(1, am_i (((i : Int) + 203))), (0, am_r 55)] [] (am_setA σ 96 (fun k => if 203 ≤ k ∧ k < 203 + i then σ.2.1 96 (k + 4) else σ.2.1 96 k)) := by
  intro m
  induction m with
  | zero =>
    intro i hi
    refine am_iload_n (q := 18) rfl (am_tab tk_X10_isKept 8 rfl) rfl ?_
    refine am_sipush (q := 21) (n := 439) (by decide) rfl (am_tab tk_X10_isKept 9 rfl) rfl ?_
    refine am_icmp_ge (q := 24) (t := 44) (am_tab tk_X10_isKept 10 rfl) (by decide) rfl (fun h21 => ?_) (fun h21 => ?_)
    · refine am_goto (t := 59) (am_tab tk_X10_isKept 23 rfl) (by decide) ?_
      have ei : i = 236 := by omega
      subst ei
      refine am_less (ls2 := [(0, am_r 55)]) (by intro q hq; simp only [List.mem_cons, List.not_mem_nil, or_false] at hq; rcases hq with rfl; simp) ?_
      refine kept_tail (am_setA σ 96 (fun k => if 203 ≤ k ∧ k < 203 + 236 then σ.2.1 96 (k + 4) else σ.2.1 96 k)) hL 60 (by simp [am_setA, hk]) (by omega) (by omega) hts [(0, am_r 55)] rfl ⟨rfl, ?_⟩
      rw [am_setA_N, am_setA_N, am_setA_N, am_setA_N, ← kpA_full (fun k => σ.2.1 96 k) hk]
      rfl
    · exact absurd h21 (by omega)
  | succ m ih =>
    intro i hi
    have e1 : ((((i : Int) + 203)) + 4).toNat = 203 + i + 4 := by omega
    have e0 : ((i : Int) + 203).toNat = 203 + i := by omega
    refine am_iload_n (q := 18) rfl (am_tab tk_X10_isKept 8 rfl) rfl ?_
    refine am_sipush (q := 21) (n := 439) (by decide) rfl (am_tab tk_X10_isKept 9 rfl) rfl ?_
    refine am_icmp_ge (q := 24) (t := 44) (am_tab tk_X10_isKept 10 rfl) (by decide) rfl (fun h21 => ?_) (fun h21 => ?_)
    · exact absurd h21 (by omega)
    · refine am_aload_n (q := 25) rfl (am_tab tk_X10_isKept 11 rfl) rfl ?_
      refine am_getR (q := 28) (a := 55) (k := 10) (n := 108) (j := 54) (r := some (96)) (Ls_55 hL) (by decide) rfl (Lr_55_54 hL) (by decide) (Or.inl kf_X10_136) (am_tab tk_X10_isKept 12 rfl) rfl ?_
      refine am_iload_n (q := 29) rfl (am_tab tk_X10_isKept 13 rfl) rfl ?_
      refine am_aload_n (q := 30) rfl (am_tab tk_X10_isKept 14 rfl) rfl ?_
      refine am_getR (q := 33) (a := 55) (k := 10) (n := 108) (j := 54) (r := some (96)) (Ls_55 hL) (by decide) rfl (Lr_55_54 hL) (by decide) (Or.inl kf_X10_136) (am_tab tk_X10_isKept 15 rfl) rfl ?_
      refine am_iload_n (q := 34) rfl (am_tab tk_X10_isKept 16 rfl) rfl ?_
      refine am_iconst (q := 35) (n := 4) (by decide) (am_tab tk_X10_isKept 17 rfl) rfl ?_
      refine am_iadd (q := 36) (by omega) (am_tab tk_X10_isKept 18 rfl) rfl ?_
      refine am_iald (q := 37) (a := 96) (n := 443) (x := (σ.2.1 96 (203 + i + 4))) (Ls_96 hL) (by omega) (by omega) (by rw [e1]; show (if _ then _ else _) = _; rw [if_neg (by omega)]) (am_tab tk_X10_isKept 19 rfl) rfl ?_
      refine am_iast (q := 38) (a := 96) (n := 443) (Ls_96 hL) (by omega) (by omega) (am_tab tk_X10_isKept 20 rfl) rfl ?_
      refine am_iinc (q := 41) rfl (by omega) (by decide) (ls2 := [(1, am_i (((((i : Int) + 203)) + 1))), (0, am_r 55)]) rfl (am_tab tk_X10_isKept 21 rfl) rfl ?_
      refine am_goto (t := 17) (am_tab tk_X10_isKept 22 rfl) (by decide) ?_
      refine am_hp2 (σ1 := am_setA σ 96 (fun k => if 203 ≤ k ∧ k < 203 + (i + 1) then σ.2.1 96 (k + 4) else σ.2.1 96 k)) ?_ ?_
      · rw [e0, am_setA_N]; congr 1; funext k; repeat' split
        all_goals first | rfl | omega | (rename_i h9 _; subst h9; rfl)
      · have h9 := ih (i + 1) (by omega)
        rw [show (((i + 1 : Nat) : Int) + 203) = (i : Int) + 203 + 1 by omega] at h9
        exact h9
theorem c_X10_isKept (σ : am_H) (hL : lay σ)  (hR : MR σ) (hts : 0 ≤ σ.2.1 55 61 ∧ σ.2.1 55 61 < 256) : am_met M_X10_isKept [am_r 55] σ (fun r σ' => r = none ∧ σ' = am_setA σ 96 (kpA (fun k => σ.2.1 96 k) (σ.2.1 96 0) (σ.2.1 96 1) (bc (σ.2.1 55 61)) (if σ.2.1 55 62 = 0 then 0 else 1))) := by
  refine am_enter (show plainFor yX10_isKept = true by decide +kernel) rfl (Nat.le_of_ble_eq_true rfl) (fun _ _ _ => trivial) ?_
  have hk := hR.kept
  refine am_aload_n (q := 1) rfl (am_tab tk_X10_isKept 0 rfl) rfl ?_
  refine am_getR (q := 4) (a := 55) (k := 10) (n := 108) (j := 54) (r := some (96)) (Ls_55 hL) (by decide) rfl (Lr_55_54 hL) (by decide) (Or.inl kf_X10_136) (am_tab tk_X10_isKept 1 rfl) rfl ?_
  refine am_sipush (q := 7) (n := 202) (by decide) rfl (am_tab tk_X10_isKept 2 rfl) rfl ?_
  refine am_iald (q := 8) (a := 96) (n := 443) (x := (σ.2.1 96 202)) (Ls_96 hL) (by omega) (by omega) rfl (am_tab tk_X10_isKept 3 rfl) rfl ?_
  refine am_bipush (q := 10) (n := 60) (by decide) rfl (am_tab tk_X10_isKept 4 rfl) rfl ?_
  refine am_icmp_ne (q := 13) (t := 47) (am_tab tk_X10_isKept 5 rfl) (by decide) rfl (fun h10 => ?_) (fun h10 => ?_)
  · refine am_aload_n (q := 48) rfl (am_tab tk_X10_isKept 24 rfl) rfl ?_
    refine am_getR (q := 51) (a := 55) (k := 10) (n := 108) (j := 54) (r := some (96)) (Ls_55 hL) (by decide) rfl (Lr_55_54 hL) (by decide) (Or.inl kf_X10_136) (am_tab tk_X10_isKept 25 rfl) rfl ?_
    refine am_sipush (q := 54) (n := 202) (by decide) rfl (am_tab tk_X10_isKept 26 rfl) rfl ?_
    refine am_dup2 (q := 55) rfl rfl (am_tab tk_X10_isKept 27 rfl) rfl ?_
    refine am_iald (q := 56) (a := 96) (n := 443) (x := (σ.2.1 96 202)) (Ls_96 hL) (by omega) (by omega) rfl (am_tab tk_X10_isKept 28 rfl) rfl ?_
    refine am_iconst (q := 57) (n := 1) (by decide) (am_tab tk_X10_isKept 29 rfl) rfl ?_
    refine am_iadd (q := 58) (by omega) (am_tab tk_X10_isKept 30 rfl) rfl ?_
    refine am_iast (q := 59) (a := 96) (n := 443) (Ls_96 hL) (by omega) (by omega) (am_tab tk_X10_isKept 31 rfl) rfl ?_
    obtain ⟨m, hm⟩ : ∃ m : Nat, σ.2.1 96 202 = m := ⟨(σ.2.1 96 202).toNat, by omega⟩
    refine kept_tail (am_setN σ 96 202 (((σ.2.1 96 202) + 1))) hL (m + 1) (by show σ.2.1 96 202 + 1 = ((m + 1 : Nat) : Int); omega) (by omega) (by omega) hts [(0, am_r 55)] rfl ⟨rfl, ?_⟩
    rw [am_setN_A σ, am_setA_N, am_setA_N, am_setA_N, am_setA_N, ← kpA_part (fun k => σ.2.1 96 k) m hm (by omega)]
    rfl
  · refine am_sipush (q := 16) (n := 203) (by decide) rfl (am_tab tk_X10_isKept 6 rfl) rfl ?_
    refine am_istore_n (q := 17) (by decide) (ls2 := [(1, am_i 203), (0, am_r 55)]) rfl (am_tab tk_X10_isKept 7 rfl) rfl ?_
    have h0 := shift_loop σ hL h10 hts 236 0 (by omega)
    rw [show (fun k => if 203 ≤ k ∧ k < 203 + 0 then σ.2.1 96 (k + 4) else σ.2.1 96 k) = (fun k => σ.2.1 96 k) from funext fun k => if_neg (by omega), am_setA_self] at h0
    exact h0
