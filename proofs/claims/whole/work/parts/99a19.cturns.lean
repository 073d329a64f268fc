/-- one can still be told, or bribed; else a turn passes -/
def cnT (f : Int) (p : Nat) : Bool := decide (tb f p = 1) || (decide (f = 0) && decide (p = 0))
def rmB9 (f : Int) (p : Nat) : Int := ao_and f (ao_xor (ao_shl 1 (p : Int)) (-1))
def sbF (U T : Int) : Nat → Int → Int → Bool
  | 0, f, o => decide (¬ ao_and (ao_or (ao_and U f) (ao_and T (ao_xor f (-1)))) o = 0)
  | r + 1, f, o => anyB (fun p => cnT f p && !(anyB (fun q => cnT o q && !(sbF U T r (rmB9 f p) (rmB9 o q))) 8)) 8
def csF (U T : Int) (r : Nat) (f o : Int) : Bool := anyB (fun q => cnT o q && !(sbF U T r f (rmB9 o q))) 8
theorem rmB9_rng {f : Int} {p : Nat} (hf : 0 ≤ f ∧ f < 256) (hp : p < 8) : 0 ≤ rmB9 f p ∧ rmB9 f p < 256 := (dif_tb hf (shl_rng p hp)).1
theorem c_sb0 (σ : am_H) (U T : Int) (d : Nat) (f : Int) (o : Int)  : am_met (M_X9_somebodyByTurns d) [am_i 0, am_i U, am_i T, am_i f, am_i o] σ (fun r σ' => r = some (am_i (b2i (sbF U T 0 f o))) ∧ σ' = σ) := by
  refine am_qq (fun Q hQ => ?_)
  refine am_enter (show plainFor yX9_somebodyByTurns = true by decide +kernel) rfl (Nat.le_of_ble_eq_true rfl) (fun _ _ _ => trivial) ?_
  refine am_iload_n (q := 1) rfl (am_tab tk_X9_somebodyByTurns 0 rfl) rfl ?_
  refine am_if_gt (q := 4) (t := 25) (am_tab tk_X9_somebodyByTurns 1 rfl) (by decide) rfl (fun h1 => ?_) (fun h1 => ?_)
  · exact absurd h1 (by decide)
  · refine am_iload_n (q := 5) rfl (am_tab tk_X9_somebodyByTurns 2 rfl) rfl ?_
    refine am_iload_n (q := 6) rfl (am_tab tk_X9_somebodyByTurns 3 rfl) rfl ?_
    refine am_iand (q := 7) (am_tab tk_X9_somebodyByTurns 4 rfl) rfl ?_
    refine am_iload_n (q := 8) rfl (am_tab tk_X9_somebodyByTurns 5 rfl) rfl ?_
    refine am_iload_n (q := 9) rfl (am_tab tk_X9_somebodyByTurns 6 rfl) rfl ?_
    refine am_iconst (q := 10) (n := (-1)) (by decide) (am_tab tk_X9_somebodyByTurns 7 rfl) rfl ?_
    refine am_ixor (q := 11) (am_tab tk_X9_somebodyByTurns 8 rfl) rfl ?_
    refine am_iand (q := 12) (am_tab tk_X9_somebodyByTurns 9 rfl) rfl ?_
    refine am_ior (q := 13) (am_tab tk_X9_somebodyByTurns 10 rfl) rfl ?_
    refine am_iload (q := 15) rfl (am_tab tk_X9_somebodyByTurns 11 rfl) rfl ?_
    refine am_iand (q := 16) (am_tab tk_X9_somebodyByTurns 12 rfl) rfl ?_
    refine am_if_eq (q := 19) (t := 23) (am_tab tk_X9_somebodyByTurns 13 rfl) (by decide) rfl (fun h16 => ?_) (fun h16 => ?_)
    · refine am_iconst (q := 24) (n := 0) (by decide) (am_tab tk_X9_somebodyByTurns 16 rfl) rfl ?_
      refine am_iret (Or.inr ⟨rfl, by first | exact Or.inl rfl | exact Or.inr rfl | omega⟩) (Nat.le_of_ble_eq_true rfl) (Nat.le_of_ble_eq_true rfl) (am_tab tk_X9_somebodyByTurns 17 rfl) ?_
      refine hQ _ _ ?_
      refine ⟨congrArg (fun z => some (am_i z)) ?_, rfl⟩
      unfold sbF
      rw [decide_eq_false (p := ¬ _) (fun h => h h16)]; rfl
    · refine am_iconst (q := 20) (n := 1) (by decide) (am_tab tk_X9_somebodyByTurns 14 rfl) rfl ?_
      refine am_goto (t := 24) (am_tab tk_X9_somebodyByTurns 15 rfl) (by decide) ?_
      refine am_iret (Or.inr ⟨rfl, by first | exact Or.inl rfl | exact Or.inr rfl | omega⟩) (Nat.le_of_ble_eq_true rfl) (Nat.le_of_ble_eq_true rfl) (am_tab tk_X9_somebodyByTurns 17 rfl) ?_
      refine hQ _ _ ?_
      refine ⟨congrArg (fun z => some (am_i z)) ?_, rfl⟩
      unfold sbF
      rw [decide_eq_true (p := ¬ _) h16]; rfl
theorem c_cs (σ : am_H) (U T : Int) (r d : Nat) (f : Int) (o : Int) (hf : (0 ≤ f ∧ f < 256)) (ho : (0 ≤ o ∧ o < 256)) (IH : ∀ o2 : Int, 0 ≤ o2 ∧ o2 < 256 → am_met (M_X9_somebodyByTurns d) [am_i ((r : Int)), am_i U, am_i T, am_i f, am_i o2] σ (fun x σ' => x = some (am_i (b2i (sbF U T r f o2))) ∧ σ' = σ)) (hr : r ≤ 2) : am_met (M_X9_canBeSilenced d) [am_i (((r : Int) + 1)), am_i U, am_i T, am_i f, am_i o] σ (fun r9 σ' => r9 = some (am_i (b2i (csF U T r f o))) ∧ σ' = σ) := by
  refine am_qq (fun Q hQ => ?_)
  refine am_enter (show plainFor yX9_canBeSilenced = true by decide +kernel) rfl (Nat.le_of_ble_eq_true rfl) (fun _ _ _ => trivial) ?_
  refine am_iconst (q := 1) (n := 0) (by decide) (am_tab tk_X9_canBeSilenced 0 rfl) rfl ?_
  refine am_istore (q := 3) (Nat.le_of_ble_eq_true rfl) (ls2 := [(5, am_i 0), (0, am_i (((r : Int) + 1))), (1, am_i U), (2, am_i T), (3, am_i f), (4, am_i o)]) rfl (am_tab tk_X9_canBeSilenced 1 rfl) rfl ?_
  have L3 : ∀ (n3 : Nat) (p : Nat), 8 - p < n3 → p ≤ 8 → anyB (fun q => cnT o q && !(sbF U T r f (rmB9 o q))) p = false → am_wp (M_X9_canBeSilenced d) Q 0 0 3 [(5, am_i ((p : Int))), (0, am_i (((r : Int) + 1))), (1, am_i U), (2, am_i T), (3, am_i f), (4, am_i o)] [] σ := by
    intro n3
    induction n3 with
    | zero => intro p hn3; exact absurd hn3 (Nat.not_lt_zero _)
    | succ n3 ih3 =>
      intro p hn3 hp hno
      refine am_iload (q := 5) rfl (am_tab tk_X9_canBeSilenced 2 rfl) rfl ?_
      refine am_bipush (q := 7) (n := 8) (by decide) rfl (am_tab tk_X9_canBeSilenced 3 rfl) rfl ?_
      refine am_icmp_ge (q := 10) (t := 72) (am_tab tk_X9_canBeSilenced 4 rfl) (by decide) rfl (fun h7 => ?_) (fun h7 => ?_)
      · refine am_iconst (q := 73) (n := 0) (by decide) (am_tab tk_X9_canBeSilenced 39 rfl) rfl ?_
        refine am_iret (Or.inr ⟨rfl, by first | exact Or.inl rfl | exact Or.inr rfl | omega⟩) (Nat.le_of_ble_eq_true rfl) (Nat.le_of_ble_eq_true rfl) (am_tab tk_X9_canBeSilenced 40 rfl) ?_
        refine hQ _ _ ?_
        refine ⟨congrArg (fun z => some (am_i z)) ?_, rfl⟩
        have h9 : csF U T r f o = false := by
          have e8 : p = 8 := by omega
          subst e8
          exact hno
        rw [h9]; rfl
      · by_cases ct : cnT o p = true
        · refine am_iload (q := 12) rfl (am_tab tk_X9_canBeSilenced 5 rfl) rfl ?_
          refine am_iload (q := 14) rfl (am_tab tk_X9_canBeSilenced 6 rfl) rfl ?_
          refine am_callS0 (q := 17) (me2 := M_X9_bit) (As := [am_i o, am_i ((p : Int))]) (rest := []) (out := [am_i (tb o (p : Int))]) (c_bit σ o (p : Int) (ho) (by omega)) ⟨rfl, rfl⟩ ⟨Or.inl km_X9_185, kc_X9_bit, kn_X9, kd_X9_bit, ⟨by show 0 + 1 ≤ 2 * d + 2; omega, by show 8 + (2 + 11) + 60 ≤ 60 * (2 * d + 3); omega⟩, ⟨(Nat.le_of_ble_eq_true rfl), (Nat.le_of_ble_eq_true rfl)⟩, (Nat.le_of_ble_eq_true rfl)⟩ ki_X9_bit rfl rfl (am_tab tk_X9_canBeSilenced 7 rfl) rfl ?_
          refine am_iconst (q := 18) (n := 1) (by decide) (am_tab tk_X9_canBeSilenced 8 rfl) rfl ?_
          refine am_icmp_eq (q := 21) (t := 31) (am_tab tk_X9_canBeSilenced 9 rfl) (by decide) rfl (fun h18 => ?_) (fun h18 => ?_)
          · refine am_iconst (q := 32) (n := 1) (by decide) (am_tab tk_X9_canBeSilenced 14 rfl) rfl ?_
            refine am_goto (t := 36) (am_tab tk_X9_canBeSilenced 15 rfl) (by decide) ?_
            refine am_istore (q := 38) (Nat.le_of_ble_eq_true rfl) (ls2 := [(6, am_i 1), (5, am_i ((p : Int))), (0, am_i (((r : Int) + 1))), (1, am_i U), (2, am_i T), (3, am_i f), (4, am_i o)]) rfl (am_tab tk_X9_canBeSilenced 17 rfl) rfl ?_
            refine am_iload (q := 40) rfl (am_tab tk_X9_canBeSilenced 18 rfl) rfl ?_
            refine am_if_eq (q := 43) (t := 66) (am_tab tk_X9_canBeSilenced 19 rfl) (by decide) rfl (fun h40 => ?_) (fun h40 => ?_)
            · exact absurd h40 (by decide)
            · refine am_iload_n (q := 44) rfl (am_tab tk_X9_canBeSilenced 20 rfl) rfl ?_
              refine am_iconst (q := 45) (n := 1) (by decide) (am_tab tk_X9_canBeSilenced 21 rfl) rfl ?_
              refine am_isub (q := 46) (by omega) (am_tab tk_X9_canBeSilenced 22 rfl) rfl ?_
              refine am_iload_n (q := 47) rfl (am_tab tk_X9_canBeSilenced 23 rfl) rfl ?_
              refine am_iload_n (q := 48) rfl (am_tab tk_X9_canBeSilenced 24 rfl) rfl ?_
              refine am_iload_n (q := 49) rfl (am_tab tk_X9_canBeSilenced 25 rfl) rfl ?_
              refine am_iload (q := 51) rfl (am_tab tk_X9_canBeSilenced 26 rfl) rfl ?_
              refine am_iconst (q := 52) (n := 1) (by decide) (am_tab tk_X9_canBeSilenced 27 rfl) rfl ?_
              refine am_iload (q := 54) rfl (am_tab tk_X9_canBeSilenced 28 rfl) rfl ?_
              refine am_ishl (q := 55) (am_tab tk_X9_canBeSilenced 29 rfl) rfl ?_
              refine am_iconst (q := 56) (n := (-1)) (by decide) (am_tab tk_X9_canBeSilenced 30 rfl) rfl ?_
              refine am_ixor (q := 57) (am_tab tk_X9_canBeSilenced 31 rfl) rfl ?_
              refine am_iand (q := 58) (am_tab tk_X9_canBeSilenced 32 rfl) rfl ?_
              refine am_st (st2 := [am_i (rmB9 o p), am_i f, am_i T, am_i U, am_i ((r : Int))]) (by unfold rmB9; rw [show (r : Int) + 1 - 1 = (r : Int) by omega]) ?_
              refine am_callSr (q := 61) (me2 := (M_X9_somebodyByTurns d)) (As := [am_i ((r : Int)), am_i U, am_i T, am_i f, am_i (rmB9 o p)]) (rest := []) (IH (rmB9 o p) (rmB9_rng ho (by omega))) ⟨rfl, rfl⟩ ⟨Or.inl km_X9_271, kc_X9_somebodyByTurns, kn_X9, kd_X9_somebodyByTurns, ⟨by show 2 * d + 1 + 1 ≤ 2 * d + 2; omega, by show 8 + (7 + 11) + 60 * (2 * d + 2) ≤ 60 * (2 * d + 3); omega⟩, ⟨(Nat.le_of_ble_eq_true rfl), (Nat.le_of_ble_eq_true rfl)⟩, (Nat.le_of_ble_eq_true rfl)⟩ ki_X9_somebodyByTurns rfl (am_tab tk_X9_canBeSilenced 33 rfl) rfl ?_
              rintro x τ ⟨hr9, hτ⟩
              rw [hr9, hτ]
              refine am_st (st2 := [am_i (b2i (sbF U T r f (rmB9 o p)))]) rfl ?_
              refine am_if_ne (q := 64) (t := 66) (am_tab tk_X9_canBeSilenced 34 rfl) (by decide) rfl (fun h61 => ?_) (fun h61 => ?_)
              · refine am_iinc (q := 69) rfl (by omega) (Nat.le_of_ble_eq_true rfl) (ls2 := [(5, am_i (((p : Int) + 1))), (6, am_i 1), (0, am_i (((r : Int) + 1))), (1, am_i U), (2, am_i T), (3, am_i f), (4, am_i o)]) rfl (am_tab tk_X9_canBeSilenced 37 rfl) rfl ?_
                refine am_goto (t := 3) (am_tab tk_X9_canBeSilenced 38 rfl) (by decide) ?_
                exact am_less (by intro q hq; simp only [List.mem_cons, List.not_mem_nil, or_false] at hq; rcases hq with rfl | rfl | rfl | rfl | rfl | rfl <;> simp) (ih3 (p + 1) (by omega) (by omega) (anyB_f hno (by rw [ct, b2t9 h61]; rfl)))
              · refine am_iconst (q := 65) (n := 1) (by decide) (am_tab tk_X9_canBeSilenced 35 rfl) rfl ?_
                refine am_iret (Or.inr ⟨rfl, by first | exact Or.inl rfl | exact Or.inr rfl | omega⟩) (Nat.le_of_ble_eq_true rfl) (Nat.le_of_ble_eq_true rfl) (am_tab tk_X9_canBeSilenced 36 rfl) ?_
                refine hQ _ _ ?_
                refine ⟨congrArg (fun z => some (am_i z)) ?_, rfl⟩
                have h9 : csF U T r f o = true := anyB_t (i := p) (by show (cnT o p && !(sbF U T r f (rmB9 o p))) = true; rw [ct, Bool.eq_false_iff.mpr (b2f9 h61)]; rfl) (by omega)
                rw [h9]; rfl
          · refine am_iload (q := 23) rfl (am_tab tk_X9_canBeSilenced 10 rfl) rfl ?_
            refine am_if_ne (q := 26) (t := 35) (am_tab tk_X9_canBeSilenced 11 rfl) (by decide) rfl (fun h23 => ?_) (fun h23 => ?_)
            · exact absurd ct (by unfold cnT; simp [h18, h23])
            · refine am_iload (q := 28) rfl (am_tab tk_X9_canBeSilenced 12 rfl) rfl ?_
              refine am_if_ne (q := 31) (t := 35) (am_tab tk_X9_canBeSilenced 13 rfl) (by decide) rfl (fun h28 => ?_) (fun h28 => ?_)
              · exact absurd ct (by unfold cnT; simp [h18, h28]; omega)
              · refine am_iconst (q := 32) (n := 1) (by decide) (am_tab tk_X9_canBeSilenced 14 rfl) rfl ?_
                refine am_goto (t := 36) (am_tab tk_X9_canBeSilenced 15 rfl) (by decide) ?_
                refine am_istore (q := 38) (Nat.le_of_ble_eq_true rfl) (ls2 := [(6, am_i 1), (5, am_i ((p : Int))), (0, am_i (((r : Int) + 1))), (1, am_i U), (2, am_i T), (3, am_i f), (4, am_i o)]) rfl (am_tab tk_X9_canBeSilenced 17 rfl) rfl ?_
                refine am_iload (q := 40) rfl (am_tab tk_X9_canBeSilenced 18 rfl) rfl ?_
                refine am_if_eq (q := 43) (t := 66) (am_tab tk_X9_canBeSilenced 19 rfl) (by decide) rfl (fun h40 => ?_) (fun h40 => ?_)
                · exact absurd h40 (by decide)
                · refine am_iload_n (q := 44) rfl (am_tab tk_X9_canBeSilenced 20 rfl) rfl ?_
                  refine am_iconst (q := 45) (n := 1) (by decide) (am_tab tk_X9_canBeSilenced 21 rfl) rfl ?_
                  refine am_isub (q := 46) (by omega) (am_tab tk_X9_canBeSilenced 22 rfl) rfl ?_
                  refine am_iload_n (q := 47) rfl (am_tab tk_X9_canBeSilenced 23 rfl) rfl ?_
                  refine am_iload_n (q := 48) rfl (am_tab tk_X9_canBeSilenced 24 rfl) rfl ?_
                  refine am_iload_n (q := 49) rfl (am_tab tk_X9_canBeSilenced 25 rfl) rfl ?_
                  refine am_iload (q := 51) rfl (am_tab tk_X9_canBeSilenced 26 rfl) rfl ?_
                  refine am_iconst (q := 52) (n := 1) (by decide) (am_tab tk_X9_canBeSilenced 27 rfl) rfl ?_
                  refine am_iload (q := 54) rfl (am_tab tk_X9_canBeSilenced 28 rfl) rfl ?_
                  refine am_ishl (q := 55) (am_tab tk_X9_canBeSilenced 29 rfl) rfl ?_
                  refine am_iconst (q := 56) (n := (-1)) (by decide) (am_tab tk_X9_canBeSilenced 30 rfl) rfl ?_
                  refine am_ixor (q := 57) (am_tab tk_X9_canBeSilenced 31 rfl) rfl ?_
                  refine am_iand (q := 58) (am_tab tk_X9_canBeSilenced 32 rfl) rfl ?_
                  refine am_st (st2 := [am_i (rmB9 o p), am_i f, am_i T, am_i U, am_i ((r : Int))]) (by unfold rmB9; rw [show (r : Int) + 1 - 1 = (r : Int) by omega]) ?_
                  refine am_callSr (q := 61) (me2 := (M_X9_somebodyByTurns d)) (As := [am_i ((r : Int)), am_i U, am_i T, am_i f, am_i (rmB9 o p)]) (rest := []) (IH (rmB9 o p) (rmB9_rng ho (by omega))) ⟨rfl, rfl⟩ ⟨Or.inl km_X9_271, kc_X9_somebodyByTurns, kn_X9, kd_X9_somebodyByTurns, ⟨by show 2 * d + 1 + 1 ≤ 2 * d + 2; omega, by show 8 + (7 + 11) + 60 * (2 * d + 2) ≤ 60 * (2 * d + 3); omega⟩, ⟨(Nat.le_of_ble_eq_true rfl), (Nat.le_of_ble_eq_true rfl)⟩, (Nat.le_of_ble_eq_true rfl)⟩ ki_X9_somebodyByTurns rfl (am_tab tk_X9_canBeSilenced 33 rfl) rfl ?_
                  rintro x τ ⟨hr9, hτ⟩
                  rw [hr9, hτ]
                  refine am_st (st2 := [am_i (b2i (sbF U T r f (rmB9 o p)))]) rfl ?_
                  refine am_if_ne (q := 64) (t := 66) (am_tab tk_X9_canBeSilenced 34 rfl) (by decide) rfl (fun h61 => ?_) (fun h61 => ?_)
                  · refine am_iinc (q := 69) rfl (by omega) (Nat.le_of_ble_eq_true rfl) (ls2 := [(5, am_i (((p : Int) + 1))), (6, am_i 1), (0, am_i (((r : Int) + 1))), (1, am_i U), (2, am_i T), (3, am_i f), (4, am_i o)]) rfl (am_tab tk_X9_canBeSilenced 37 rfl) rfl ?_
                    refine am_goto (t := 3) (am_tab tk_X9_canBeSilenced 38 rfl) (by decide) ?_
                    exact am_less (by intro q hq; simp only [List.mem_cons, List.not_mem_nil, or_false] at hq; rcases hq with rfl | rfl | rfl | rfl | rfl | rfl <;> simp) (ih3 (p + 1) (by omega) (by omega) (anyB_f hno (by rw [ct, b2t9 h61]; rfl)))
                  · refine am_iconst (q := 65) (n := 1) (by decide) (am_tab tk_X9_canBeSilenced 35 rfl) rfl ?_
                    refine am_iret (Or.inr ⟨rfl, by first | exact Or.inl rfl | exact Or.inr rfl | omega⟩) (Nat.le_of_ble_eq_true rfl) (Nat.le_of_ble_eq_true rfl) (am_tab tk_X9_canBeSilenced 36 rfl) ?_
                    refine hQ _ _ ?_
                    refine ⟨congrArg (fun z => some (am_i z)) ?_, rfl⟩
                    have h9 : csF U T r f o = true := anyB_t (i := p) (by show (cnT o p && !(sbF U T r f (rmB9 o p))) = true; rw [ct, Bool.eq_false_iff.mpr (b2f9 h61)]; rfl) (by omega)
                    rw [h9]; rfl
        · refine am_iload (q := 12) rfl (am_tab tk_X9_canBeSilenced 5 rfl) rfl ?_
          refine am_iload (q := 14) rfl (am_tab tk_X9_canBeSilenced 6 rfl) rfl ?_
          refine am_callS0 (q := 17) (me2 := M_X9_bit) (As := [am_i o, am_i ((p : Int))]) (rest := []) (out := [am_i (tb o (p : Int))]) (c_bit σ o (p : Int) (ho) (by omega)) ⟨rfl, rfl⟩ ⟨Or.inl km_X9_185, kc_X9_bit, kn_X9, kd_X9_bit, ⟨by show 0 + 1 ≤ 2 * d + 2; omega, by show 8 + (2 + 11) + 60 ≤ 60 * (2 * d + 3); omega⟩, ⟨(Nat.le_of_ble_eq_true rfl), (Nat.le_of_ble_eq_true rfl)⟩, (Nat.le_of_ble_eq_true rfl)⟩ ki_X9_bit rfl rfl (am_tab tk_X9_canBeSilenced 7 rfl) rfl ?_
          refine am_iconst (q := 18) (n := 1) (by decide) (am_tab tk_X9_canBeSilenced 8 rfl) rfl ?_
          refine am_icmp_eq (q := 21) (t := 31) (am_tab tk_X9_canBeSilenced 9 rfl) (by decide) rfl (fun h18 => ?_) (fun h18 => ?_)
          · exact absurd (show cnT o p = true by unfold cnT; simp [h18]) ct
          · refine am_iload (q := 23) rfl (am_tab tk_X9_canBeSilenced 10 rfl) rfl ?_
            refine am_if_ne (q := 26) (t := 35) (am_tab tk_X9_canBeSilenced 11 rfl) (by decide) rfl (fun h23 => ?_) (fun h23 => ?_)
            · refine am_iconst (q := 36) (n := 0) (by decide) (am_tab tk_X9_canBeSilenced 16 rfl) rfl ?_
              refine am_istore (q := 38) (Nat.le_of_ble_eq_true rfl) (ls2 := [(6, am_i 0), (5, am_i ((p : Int))), (0, am_i (((r : Int) + 1))), (1, am_i U), (2, am_i T), (3, am_i f), (4, am_i o)]) rfl (am_tab tk_X9_canBeSilenced 17 rfl) rfl ?_
              refine am_iload (q := 40) rfl (am_tab tk_X9_canBeSilenced 18 rfl) rfl ?_
              refine am_if_eq (q := 43) (t := 66) (am_tab tk_X9_canBeSilenced 19 rfl) (by decide) rfl (fun h40 => ?_) (fun h40 => ?_)
              · refine am_iinc (q := 69) rfl (by omega) (Nat.le_of_ble_eq_true rfl) (ls2 := [(5, am_i (((p : Int) + 1))), (6, am_i 0), (0, am_i (((r : Int) + 1))), (1, am_i U), (2, am_i T), (3, am_i f), (4, am_i o)]) rfl (am_tab tk_X9_canBeSilenced 37 rfl) rfl ?_
                refine am_goto (t := 3) (am_tab tk_X9_canBeSilenced 38 rfl) (by decide) ?_
                exact am_less (by intro q hq; simp only [List.mem_cons, List.not_mem_nil, or_false] at hq; rcases hq with rfl | rfl | rfl | rfl | rfl | rfl <;> simp) (ih3 (p + 1) (by omega) (by omega) (anyB_f hno (by rw [Bool.eq_false_iff.mpr ct]; rfl)))
              · exact absurd h40 (by decide)
            · refine am_iload (q := 28) rfl (am_tab tk_X9_canBeSilenced 12 rfl) rfl ?_
              refine am_if_ne (q := 31) (t := 35) (am_tab tk_X9_canBeSilenced 13 rfl) (by decide) rfl (fun h28 => ?_) (fun h28 => ?_)
              · refine am_iconst (q := 36) (n := 0) (by decide) (am_tab tk_X9_canBeSilenced 16 rfl) rfl ?_
                refine am_istore (q := 38) (Nat.le_of_ble_eq_true rfl) (ls2 := [(6, am_i 0), (5, am_i ((p : Int))), (0, am_i (((r : Int) + 1))), (1, am_i U), (2, am_i T), (3, am_i f), (4, am_i o)]) rfl (am_tab tk_X9_canBeSilenced 17 rfl) rfl ?_
                refine am_iload (q := 40) rfl (am_tab tk_X9_canBeSilenced 18 rfl) rfl ?_
                refine am_if_eq (q := 43) (t := 66) (am_tab tk_X9_canBeSilenced 19 rfl) (by decide) rfl (fun h40 => ?_) (fun h40 => ?_)
                · refine am_iinc (q := 69) rfl (by omega) (Nat.le_of_ble_eq_true rfl) (ls2 := [(5, am_i (((p : Int) + 1))), (6, am_i 0), (0, am_i (((r : Int) + 1))), (1, am_i U), (2, am_i T), (3, am_i f), (4, am_i o)]) rfl (am_tab tk_X9_canBeSilenced 37 rfl) rfl ?_
                  refine am_goto (t := 3) (am_tab tk_X9_canBeSilenced 38 rfl) (by decide) ?_
                  exact am_less (by intro q hq; simp only [List.mem_cons, List.not_mem_nil, or_false] at hq; rcases hq with rfl | rfl | rfl | rfl | rfl | rfl <;> simp) (ih3 (p + 1) (by omega) (by omega) (anyB_f hno (by rw [Bool.eq_false_iff.mpr ct]; rfl)))
                · exact absurd h40 (by decide)
              · exact absurd (show cnT o p = true by unfold cnT; simp [h23]; right; omega) ct
  refine am_less (by intro q hq; simp only [List.mem_cons, List.not_mem_nil, or_false] at hq; rcases hq with rfl | rfl | rfl | rfl | rfl | rfl <;> simp) (L3 (_ + 1) 0 (by exact Nat.lt_succ_self _) (by omega) rfl)
theorem c_sbS (σ : am_H) (U T : Int) (r d : Nat) (f : Int) (o : Int) (hf : (0 ≤ f ∧ f < 256)) (ho : (0 ≤ o ∧ o < 256)) (IH : ∀ f2 : Int, 0 ≤ f2 ∧ f2 < 256 → am_met (M_X9_canBeSilenced d) [am_i ((r : Int) + 1), am_i U, am_i T, am_i f2, am_i o] σ (fun x σ' => x = some (am_i (b2i (csF U T r f2 o))) ∧ σ' = σ)) (hr : r ≤ 2) : am_met (M_X9_somebodyByTurns (d + 1)) [am_i (((r : Int) + 1)), am_i U, am_i T, am_i f, am_i o] σ (fun r9 σ' => r9 = some (am_i (b2i (sbF U T (r + 1) f o))) ∧ σ' = σ) := by
  refine am_qq (fun Q hQ => ?_)
  refine am_enter (show plainFor yX9_somebodyByTurns = true by decide +kernel) rfl (Nat.le_of_ble_eq_true rfl) (fun _ _ _ => trivial) ?_
  refine am_iload_n (q := 1) rfl (am_tab tk_X9_somebodyByTurns 0 rfl) rfl ?_
  refine am_if_gt (q := 4) (t := 25) (am_tab tk_X9_somebodyByTurns 1 rfl) (by decide) rfl (fun h1 => ?_) (fun h1 => ?_)
  · refine am_iconst (q := 26) (n := 0) (by decide) (am_tab tk_X9_somebodyByTurns 18 rfl) rfl ?_
    refine am_istore (q := 28) (Nat.le_of_ble_eq_true rfl) (ls2 := [(5, am_i 0), (0, am_i (((r : Int) + 1))), (1, am_i U), (2, am_i T), (3, am_i f), (4, am_i o)]) rfl (am_tab tk_X9_somebodyByTurns 19 rfl) rfl ?_
    have L28 : ∀ (n28 : Nat) (p : Nat), 8 - p < n28 → p ≤ 8 → anyB (fun q => cnT f q && !(csF U T r (rmB9 f q) o)) p = false → am_wp (M_X9_somebodyByTurns (d + 1)) Q 0 0 28 [(5, am_i ((p : Int))), (0, am_i (((r : Int) + 1))), (1, am_i U), (2, am_i T), (3, am_i f), (4, am_i o)] [] σ := by
      intro n28
      induction n28 with
      | zero => intro p hn28; exact absurd hn28 (Nat.not_lt_zero _)
      | succ n28 ih28 =>
        intro p hn28 hp hno
        refine am_iload (q := 30) rfl (am_tab tk_X9_somebodyByTurns 20 rfl) rfl ?_
        refine am_bipush (q := 32) (n := 8) (by decide) rfl (am_tab tk_X9_somebodyByTurns 21 rfl) rfl ?_
        refine am_icmp_ge (q := 35) (t := 93) (am_tab tk_X9_somebodyByTurns 22 rfl) (by decide) rfl (fun h32 => ?_) (fun h32 => ?_)
        · refine am_iconst (q := 94) (n := 0) (by decide) (am_tab tk_X9_somebodyByTurns 55 rfl) rfl ?_
          refine am_iret (Or.inr ⟨rfl, by first | exact Or.inl rfl | exact Or.inr rfl | omega⟩) (Nat.le_of_ble_eq_true rfl) (Nat.le_of_ble_eq_true rfl) (am_tab tk_X9_somebodyByTurns 56 rfl) ?_
          refine hQ _ _ ?_
          refine ⟨congrArg (fun z => some (am_i z)) ?_, rfl⟩
          have h9 : sbF U T (r + 1) f o = false := by
            have e8 : p = 8 := by omega
            subst e8
            exact hno
          rw [h9]; rfl
        · by_cases ct : cnT f p = true
          · refine am_iload_n (q := 36) rfl (am_tab tk_X9_somebodyByTurns 23 rfl) rfl ?_
            refine am_iload (q := 38) rfl (am_tab tk_X9_somebodyByTurns 24 rfl) rfl ?_
            refine am_callS0 (q := 41) (me2 := M_X9_bit) (As := [am_i f, am_i ((p : Int))]) (rest := []) (out := [am_i (tb f (p : Int))]) (c_bit σ f (p : Int) (hf) (by omega)) ⟨rfl, rfl⟩ ⟨Or.inl km_X9_185, kc_X9_bit, kn_X9, kd_X9_bit, ⟨by show 0 + 1 ≤ 2 * (d + 1) + 1; omega, by show 8 + (2 + 11) + 60 ≤ 60 * (2 * (d + 1) + 2); omega⟩, ⟨(Nat.le_of_ble_eq_true rfl), (Nat.le_of_ble_eq_true rfl)⟩, (Nat.le_of_ble_eq_true rfl)⟩ ki_X9_bit rfl rfl (am_tab tk_X9_somebodyByTurns 25 rfl) rfl ?_
            refine am_iconst (q := 42) (n := 1) (by decide) (am_tab tk_X9_somebodyByTurns 26 rfl) rfl ?_
            refine am_icmp_eq (q := 45) (t := 54) (am_tab tk_X9_somebodyByTurns 27 rfl) (by decide) rfl (fun h42 => ?_) (fun h42 => ?_)
            · refine am_iconst (q := 55) (n := 1) (by decide) (am_tab tk_X9_somebodyByTurns 32 rfl) rfl ?_
              refine am_goto (t := 59) (am_tab tk_X9_somebodyByTurns 33 rfl) (by decide) ?_
              refine am_istore (q := 61) (Nat.le_of_ble_eq_true rfl) (ls2 := [(6, am_i 1), (5, am_i ((p : Int))), (0, am_i (((r : Int) + 1))), (1, am_i U), (2, am_i T), (3, am_i f), (4, am_i o)]) rfl (am_tab tk_X9_somebodyByTurns 35 rfl) rfl ?_
              refine am_iload (q := 63) rfl (am_tab tk_X9_somebodyByTurns 36 rfl) rfl ?_
              refine am_if_eq (q := 66) (t := 87) (am_tab tk_X9_somebodyByTurns 37 rfl) (by decide) rfl (fun h63 => ?_) (fun h63 => ?_)
              · exact absurd h63 (by decide)
              · refine am_iload_n (q := 67) rfl (am_tab tk_X9_somebodyByTurns 38 rfl) rfl ?_
                refine am_iload_n (q := 68) rfl (am_tab tk_X9_somebodyByTurns 39 rfl) rfl ?_
                refine am_iload_n (q := 69) rfl (am_tab tk_X9_somebodyByTurns 40 rfl) rfl ?_
                refine am_iload_n (q := 70) rfl (am_tab tk_X9_somebodyByTurns 41 rfl) rfl ?_
                refine am_iconst (q := 71) (n := 1) (by decide) (am_tab tk_X9_somebodyByTurns 42 rfl) rfl ?_
                refine am_iload (q := 73) rfl (am_tab tk_X9_somebodyByTurns 43 rfl) rfl ?_
                refine am_ishl (q := 74) (am_tab tk_X9_somebodyByTurns 44 rfl) rfl ?_
                refine am_iconst (q := 75) (n := (-1)) (by decide) (am_tab tk_X9_somebodyByTurns 45 rfl) rfl ?_
                refine am_ixor (q := 76) (am_tab tk_X9_somebodyByTurns 46 rfl) rfl ?_
                refine am_iand (q := 77) (am_tab tk_X9_somebodyByTurns 47 rfl) rfl ?_
                refine am_iload (q := 79) rfl (am_tab tk_X9_somebodyByTurns 48 rfl) rfl ?_
                refine am_st (st2 := [am_i o, am_i (rmB9 f p), am_i T, am_i U, am_i (((r : Int) + 1))]) rfl ?_
                refine am_callSr (q := 82) (me2 := (M_X9_canBeSilenced d)) (As := [am_i (((r : Int) + 1)), am_i U, am_i T, am_i (rmB9 f p), am_i o]) (rest := []) (IH (rmB9 f p) (rmB9_rng hf (by omega))) ⟨rfl, rfl⟩ ⟨Or.inl km_X9_348, kc_X9_canBeSilenced, kn_X9, kd_X9_canBeSilenced, ⟨by show 2 * d + 2 + 1 ≤ 2 * (d + 1) + 1; omega, by show 8 + (7 + 11) + 60 * (2 * d + 3) ≤ 60 * (2 * (d + 1) + 2); omega⟩, ⟨(Nat.le_of_ble_eq_true rfl), (Nat.le_of_ble_eq_true rfl)⟩, (Nat.le_of_ble_eq_true rfl)⟩ ki_X9_canBeSilenced rfl (am_tab tk_X9_somebodyByTurns 49 rfl) rfl ?_
                rintro x τ ⟨hr9, hτ⟩
                rw [hr9, hτ]
                refine am_st (st2 := [am_i (b2i (csF U T r (rmB9 f p) o))]) rfl ?_
                refine am_if_ne (q := 85) (t := 87) (am_tab tk_X9_somebodyByTurns 50 rfl) (by decide) rfl (fun h82 => ?_) (fun h82 => ?_)
                · refine am_iinc (q := 90) rfl (by omega) (Nat.le_of_ble_eq_true rfl) (ls2 := [(5, am_i (((p : Int) + 1))), (6, am_i 1), (0, am_i (((r : Int) + 1))), (1, am_i U), (2, am_i T), (3, am_i f), (4, am_i o)]) rfl (am_tab tk_X9_somebodyByTurns 53 rfl) rfl ?_
                  refine am_goto (t := 28) (am_tab tk_X9_somebodyByTurns 54 rfl) (by decide) ?_
                  exact am_less (by intro q hq; simp only [List.mem_cons, List.not_mem_nil, or_false] at hq; rcases hq with rfl | rfl | rfl | rfl | rfl | rfl <;> simp) (ih28 (p + 1) (by omega) (by omega) (anyB_f hno (by rw [ct, b2t9 h82]; rfl)))
                · refine am_iconst (q := 86) (n := 1) (by decide) (am_tab tk_X9_somebodyByTurns 51 rfl) rfl ?_
                  refine am_iret (Or.inr ⟨rfl, by first | exact Or.inl rfl | exact Or.inr rfl | omega⟩) (Nat.le_of_ble_eq_true rfl) (Nat.le_of_ble_eq_true rfl) (am_tab tk_X9_somebodyByTurns 52 rfl) ?_
                  refine hQ _ _ ?_
                  refine ⟨congrArg (fun z => some (am_i z)) ?_, rfl⟩
                  have h9 : sbF U T (r + 1) f o = true := anyB_t (i := p) (by show (cnT f p && !(csF U T r (rmB9 f p) o)) = true; rw [ct, Bool.eq_false_iff.mpr (b2f9 h82)]; rfl) (by omega)
                  rw [h9]; rfl
            · refine am_iload_n (q := 46) rfl (am_tab tk_X9_somebodyByTurns 28 rfl) rfl ?_
              refine am_if_ne (q := 49) (t := 58) (am_tab tk_X9_somebodyByTurns 29 rfl) (by decide) rfl (fun h46 => ?_) (fun h46 => ?_)
              · exact absurd ct (by unfold cnT; simp [h42, h46])
              · refine am_iload (q := 51) rfl (am_tab tk_X9_somebodyByTurns 30 rfl) rfl ?_
                refine am_if_ne (q := 54) (t := 58) (am_tab tk_X9_somebodyByTurns 31 rfl) (by decide) rfl (fun h51 => ?_) (fun h51 => ?_)
                · exact absurd ct (by unfold cnT; simp [h42, h51]; omega)
                · refine am_iconst (q := 55) (n := 1) (by decide) (am_tab tk_X9_somebodyByTurns 32 rfl) rfl ?_
                  refine am_goto (t := 59) (am_tab tk_X9_somebodyByTurns 33 rfl) (by decide) ?_
                  refine am_istore (q := 61) (Nat.le_of_ble_eq_true rfl) (ls2 := [(6, am_i 1), (5, am_i ((p : Int))), (0, am_i (((r : Int) + 1))), (1, am_i U), (2, am_i T), (3, am_i f), (4, am_i o)]) rfl (am_tab tk_X9_somebodyByTurns 35 rfl) rfl ?_
                  refine am_iload (q := 63) rfl (am_tab tk_X9_somebodyByTurns 36 rfl) rfl ?_
                  refine am_if_eq (q := 66) (t := 87) (am_tab tk_X9_somebodyByTurns 37 rfl) (by decide) rfl (fun h63 => ?_) (fun h63 => ?_)
                  · exact absurd h63 (by decide)
                  · refine am_iload_n (q := 67) rfl (am_tab tk_X9_somebodyByTurns 38 rfl) rfl ?_
                    refine am_iload_n (q := 68) rfl (am_tab tk_X9_somebodyByTurns 39 rfl) rfl ?_
                    refine am_iload_n (q := 69) rfl (am_tab tk_X9_somebodyByTurns 40 rfl) rfl ?_
                    refine am_iload_n (q := 70) rfl (am_tab tk_X9_somebodyByTurns 41 rfl) rfl ?_
                    refine am_iconst (q := 71) (n := 1) (by decide) (am_tab tk_X9_somebodyByTurns 42 rfl) rfl ?_
                    refine am_iload (q := 73) rfl (am_tab tk_X9_somebodyByTurns 43 rfl) rfl ?_
                    refine am_ishl (q := 74) (am_tab tk_X9_somebodyByTurns 44 rfl) rfl ?_
                    refine am_iconst (q := 75) (n := (-1)) (by decide) (am_tab tk_X9_somebodyByTurns 45 rfl) rfl ?_
                    refine am_ixor (q := 76) (am_tab tk_X9_somebodyByTurns 46 rfl) rfl ?_
                    refine am_iand (q := 77) (am_tab tk_X9_somebodyByTurns 47 rfl) rfl ?_
                    refine am_iload (q := 79) rfl (am_tab tk_X9_somebodyByTurns 48 rfl) rfl ?_
                    refine am_st (st2 := [am_i o, am_i (rmB9 f p), am_i T, am_i U, am_i (((r : Int) + 1))]) rfl ?_
                    refine am_callSr (q := 82) (me2 := (M_X9_canBeSilenced d)) (As := [am_i (((r : Int) + 1)), am_i U, am_i T, am_i (rmB9 f p), am_i o]) (rest := []) (IH (rmB9 f p) (rmB9_rng hf (by omega))) ⟨rfl, rfl⟩ ⟨Or.inl km_X9_348, kc_X9_canBeSilenced, kn_X9, kd_X9_canBeSilenced, ⟨by show 2 * d + 2 + 1 ≤ 2 * (d + 1) + 1; omega, by show 8 + (7 + 11) + 60 * (2 * d + 3) ≤ 60 * (2 * (d + 1) + 2); omega⟩, ⟨(Nat.le_of_ble_eq_true rfl), (Nat.le_of_ble_eq_true rfl)⟩, (Nat.le_of_ble_eq_true rfl)⟩ ki_X9_canBeSilenced rfl (am_tab tk_X9_somebodyByTurns 49 rfl) rfl ?_
                    rintro x τ ⟨hr9, hτ⟩
                    rw [hr9, hτ]
                    refine am_st (st2 := [am_i (b2i (csF U T r (rmB9 f p) o))]) rfl ?_
                    refine am_if_ne (q := 85) (t := 87) (am_tab tk_X9_somebodyByTurns 50 rfl) (by decide) rfl (fun h82 => ?_) (fun h82 => ?_)
                    · refine am_iinc (q := 90) rfl (by omega) (Nat.le_of_ble_eq_true rfl) (ls2 := [(5, am_i (((p : Int) + 1))), (6, am_i 1), (0, am_i (((r : Int) + 1))), (1, am_i U), (2, am_i T), (3, am_i f), (4, am_i o)]) rfl (am_tab tk_X9_somebodyByTurns 53 rfl) rfl ?_
                      refine am_goto (t := 28) (am_tab tk_X9_somebodyByTurns 54 rfl) (by decide) ?_
                      exact am_less (by intro q hq; simp only [List.mem_cons, List.not_mem_nil, or_false] at hq; rcases hq with rfl | rfl | rfl | rfl | rfl | rfl <;> simp) (ih28 (p + 1) (by omega) (by omega) (anyB_f hno (by rw [ct, b2t9 h82]; rfl)))
                    · refine am_iconst (q := 86) (n := 1) (by decide) (am_tab tk_X9_somebodyByTurns 51 rfl) rfl ?_
                      refine am_iret (Or.inr ⟨rfl, by first | exact Or.inl rfl | exact Or.inr rfl | omega⟩) (Nat.le_of_ble_eq_true rfl) (Nat.le_of_ble_eq_true rfl) (am_tab tk_X9_somebodyByTurns 52 rfl) ?_
                      refine hQ _ _ ?_
                      refine ⟨congrArg (fun z => some (am_i z)) ?_, rfl⟩
                      have h9 : sbF U T (r + 1) f o = true := anyB_t (i := p) (by show (cnT f p && !(csF U T r (rmB9 f p) o)) = true; rw [ct, Bool.eq_false_iff.mpr (b2f9 h82)]; rfl) (by omega)
                      rw [h9]; rfl
          · refine am_iload_n (q := 36) rfl (am_tab tk_X9_somebodyByTurns 23 rfl) rfl ?_
            refine am_iload (q := 38) rfl (am_tab tk_X9_somebodyByTurns 24 rfl) rfl ?_
            refine am_callS0 (q := 41) (me2 := M_X9_bit) (As := [am_i f, am_i ((p : Int))]) (rest := []) (out := [am_i (tb f (p : Int))]) (c_bit σ f (p : Int) (hf) (by omega)) ⟨rfl, rfl⟩ ⟨Or.inl km_X9_185, kc_X9_bit, kn_X9, kd_X9_bit, ⟨by show 0 + 1 ≤ 2 * (d + 1) + 1; omega, by show 8 + (2 + 11) + 60 ≤ 60 * (2 * (d + 1) + 2); omega⟩, ⟨(Nat.le_of_ble_eq_true rfl), (Nat.le_of_ble_eq_true rfl)⟩, (Nat.le_of_ble_eq_true rfl)⟩ ki_X9_bit rfl rfl (am_tab tk_X9_somebodyByTurns 25 rfl) rfl ?_
            refine am_iconst (q := 42) (n := 1) (by decide) (am_tab tk_X9_somebodyByTurns 26 rfl) rfl ?_
            refine am_icmp_eq (q := 45) (t := 54) (am_tab tk_X9_somebodyByTurns 27 rfl) (by decide) rfl (fun h42 => ?_) (fun h42 => ?_)
            · exact absurd (show cnT f p = true by unfold cnT; simp [h42]) ct
            · refine am_iload_n (q := 46) rfl (am_tab tk_X9_somebodyByTurns 28 rfl) rfl ?_
              refine am_if_ne (q := 49) (t := 58) (am_tab tk_X9_somebodyByTurns 29 rfl) (by decide) rfl (fun h46 => ?_) (fun h46 => ?_)
              · refine am_iconst (q := 59) (n := 0) (by decide) (am_tab tk_X9_somebodyByTurns 34 rfl) rfl ?_
                refine am_istore (q := 61) (Nat.le_of_ble_eq_true rfl) (ls2 := [(6, am_i 0), (5, am_i ((p : Int))), (0, am_i (((r : Int) + 1))), (1, am_i U), (2, am_i T), (3, am_i f), (4, am_i o)]) rfl (am_tab tk_X9_somebodyByTurns 35 rfl) rfl ?_
                refine am_iload (q := 63) rfl (am_tab tk_X9_somebodyByTurns 36 rfl) rfl ?_
                refine am_if_eq (q := 66) (t := 87) (am_tab tk_X9_somebodyByTurns 37 rfl) (by decide) rfl (fun h63 => ?_) (fun h63 => ?_)
                · refine am_iinc (q := 90) rfl (by omega) (Nat.le_of_ble_eq_true rfl) (ls2 := [(5, am_i (((p : Int) + 1))), (6, am_i 0), (0, am_i (((r : Int) + 1))), (1, am_i U), (2, am_i T), (3, am_i f), (4, am_i o)]) rfl (am_tab tk_X9_somebodyByTurns 53 rfl) rfl ?_
                  refine am_goto (t := 28) (am_tab tk_X9_somebodyByTurns 54 rfl) (by decide) ?_
                  exact am_less (by intro q hq; simp only [List.mem_cons, List.not_mem_nil, or_false] at hq; rcases hq with rfl | rfl | rfl | rfl | rfl | rfl <;> simp) (ih28 (p + 1) (by omega) (by omega) (anyB_f hno (by rw [Bool.eq_false_iff.mpr ct]; rfl)))
                · exact absurd h63 (by decide)
              · refine am_iload (q := 51) rfl (am_tab tk_X9_somebodyByTurns 30 rfl) rfl ?_
                refine am_if_ne (q := 54) (t := 58) (am_tab tk_X9_somebodyByTurns 31 rfl) (by decide) rfl (fun h51 => ?_) (fun h51 => ?_)
                · refine am_iconst (q := 59) (n := 0) (by decide) (am_tab tk_X9_somebodyByTurns 34 rfl) rfl ?_
                  refine am_istore (q := 61) (Nat.le_of_ble_eq_true rfl) (ls2 := [(6, am_i 0), (5, am_i ((p : Int))), (0, am_i (((r : Int) + 1))), (1, am_i U), (2, am_i T), (3, am_i f), (4, am_i o)]) rfl (am_tab tk_X9_somebodyByTurns 35 rfl) rfl ?_
                  refine am_iload (q := 63) rfl (am_tab tk_X9_somebodyByTurns 36 rfl) rfl ?_
                  refine am_if_eq (q := 66) (t := 87) (am_tab tk_X9_somebodyByTurns 37 rfl) (by decide) rfl (fun h63 => ?_) (fun h63 => ?_)
                  · refine am_iinc (q := 90) rfl (by omega) (Nat.le_of_ble_eq_true rfl) (ls2 := [(5, am_i (((p : Int) + 1))), (6, am_i 0), (0, am_i (((r : Int) + 1))), (1, am_i U), (2, am_i T), (3, am_i f), (4, am_i o)]) rfl (am_tab tk_X9_somebodyByTurns 53 rfl) rfl ?_
                    refine am_goto (t := 28) (am_tab tk_X9_somebodyByTurns 54 rfl) (by decide) ?_
                    exact am_less (by intro q hq; simp only [List.mem_cons, List.not_mem_nil, or_false] at hq; rcases hq with rfl | rfl | rfl | rfl | rfl | rfl <;> simp) (ih28 (p + 1) (by omega) (by omega) (anyB_f hno (by rw [Bool.eq_false_iff.mpr ct]; rfl)))
                  · exact absurd h63 (by decide)
                · exact absurd (show cnT f p = true by unfold cnT; simp [h46]; right; omega) ct
    refine am_less (by intro q hq; simp only [List.mem_cons, List.not_mem_nil, or_false] at hq; rcases hq with rfl | rfl | rfl | rfl | rfl | rfl <;> simp) (L28 (_ + 1) 0 (by exact Nat.lt_succ_self _) (by omega) rfl)
  · exact absurd h1 (by omega)
theorem c_sbt (σ : am_H) (U T : Int) : ∀ r d : Nat, r ≤ d → r ≤ 2 → ∀ f o : Int, 0 ≤ f ∧ f < 256 → 0 ≤ o ∧ o < 256 → am_met (M_X9_somebodyByTurns d) [am_i ((r : Int)), am_i U, am_i T, am_i f, am_i o] σ (fun x σ' => x = some (am_i (b2i (sbF U T r f o))) ∧ σ' = σ)
  | 0, d, _, _, f, o, _, _ => c_sb0 σ U T d f o
  | r + 1, d, hd, hr, f, o, hf, ho => by
    obtain ⟨e, rfl⟩ : ∃ e, d = e + 1 := ⟨d - 1, by omega⟩
    have h := c_sbS σ U T r e f o hf ho (fun f2 hf2 => c_cs σ U T r e f2 o hf2 ho (fun o2 ho2 => c_sbt σ U T r e (by omega) (by omega) f2 o2 hf2 ho2) (by omega)) (by omega)
    rw [show (((r + 1 : Nat)) : Int) = (r : Int) + 1 by omega]
    exact h
