def coT (σ : am_H) : Int := ((65536 * σ.2.1 56 4) + (256 * σ.2.1 56 5)) + σ.2.1 56 6
theorem c_X10_coinsTold (σ : am_H) (hL : lay σ)  (hT : TPR σ) : am_met M_X10_coinsTold [am_r 55] σ (fun r σ' => r = some (am_i (coT σ)) ∧ σ' = σ) := by
  refine am_qq (fun Q hQ => ?_)
  refine am_enter (show plainFor yX10_coinsTold = true by decide +kernel) rfl (Nat.le_of_ble_eq_true rfl) (fun _ _ _ => trivial) ?_
  have t0 := hT.2 0 (by omega)
  have t1 := hT.2 1 (by omega)
  have t2 := hT.2 2 (by omega)
  have t3 := hT.2 3 (by omega)
  have t4 := hT.2 4 (by omega)
  have t5 := hT.2 5 (by omega)
  have t6 := hT.2 6 (by omega)
  refine am_ldcw (q := 3) (n := 65536) (by decide) kk_X10_685 (am_tab tk_X10_coinsTold 0 rfl) rfl ?_
  refine am_aload_n (q := 4) rfl (am_tab tk_X10_coinsTold 1 rfl) rfl ?_
  refine am_getR (q := 7) (a := 55) (k := 10) (n := 108) (j := 0) (r := some (56)) (Ls_55 hL) (by decide) rfl (Lr_55_0 hL) (by decide) (Or.inl kf_X10_7) (am_tab tk_X10_coinsTold 2 rfl) rfl ?_
  refine am_iconst (q := 8) (n := 4) (by decide) (am_tab tk_X10_coinsTold 3 rfl) rfl ?_
  refine am_iald (q := 9) (a := 56) (n := 1600) (x := (σ.2.1 56 4)) (Ls_56 hL) (by omega) (by omega) rfl (am_tab tk_X10_coinsTold 4 rfl) rfl ?_
  refine am_imul (q := 10) (by omega) (am_tab tk_X10_coinsTold 5 rfl) rfl ?_
  refine am_sipush (q := 13) (n := 256) (by decide) rfl (am_tab tk_X10_coinsTold 6 rfl) rfl ?_
  refine am_aload_n (q := 14) rfl (am_tab tk_X10_coinsTold 7 rfl) rfl ?_
  refine am_getR (q := 17) (a := 55) (k := 10) (n := 108) (j := 0) (r := some (56)) (Ls_55 hL) (by decide) rfl (Lr_55_0 hL) (by decide) (Or.inl kf_X10_7) (am_tab tk_X10_coinsTold 8 rfl) rfl ?_
  refine am_iconst (q := 18) (n := 5) (by decide) (am_tab tk_X10_coinsTold 9 rfl) rfl ?_
  refine am_iald (q := 19) (a := 56) (n := 1600) (x := (σ.2.1 56 5)) (Ls_56 hL) (by omega) (by omega) rfl (am_tab tk_X10_coinsTold 10 rfl) rfl ?_
  refine am_imul (q := 20) (by omega) (am_tab tk_X10_coinsTold 11 rfl) rfl ?_
  refine am_iadd (q := 21) (by omega) (am_tab tk_X10_coinsTold 12 rfl) rfl ?_
  refine am_aload_n (q := 22) rfl (am_tab tk_X10_coinsTold 13 rfl) rfl ?_
  refine am_getR (q := 25) (a := 55) (k := 10) (n := 108) (j := 0) (r := some (56)) (Ls_55 hL) (by decide) rfl (Lr_55_0 hL) (by decide) (Or.inl kf_X10_7) (am_tab tk_X10_coinsTold 14 rfl) rfl ?_
  refine am_bipush (q := 27) (n := 6) (by decide) rfl (am_tab tk_X10_coinsTold 15 rfl) rfl ?_
  refine am_iald (q := 28) (a := 56) (n := 1600) (x := (σ.2.1 56 6)) (Ls_56 hL) (by omega) (by omega) rfl (am_tab tk_X10_coinsTold 16 rfl) rfl ?_
  refine am_iadd (q := 29) (by omega) (am_tab tk_X10_coinsTold 17 rfl) rfl ?_
  refine am_iret (Or.inl rfl) (Nat.le_of_ble_eq_true rfl) (Nat.le_of_ble_eq_true rfl) (am_tab tk_X10_coinsTold 18 rfl) ?_
  refine hQ _ _ ?_
  exact ⟨rfl, rfl⟩
theorem c_X10_setsFrom (σ : am_H) (hL : lay σ)  (hP : 0 ≤ σ.2.1 85 5 ∧ σ.2.1 85 5 ≤ 8) : am_met M_X10_setsFrom [am_r 55] σ (fun r σ' => r = some (am_i (7 + (2 * σ.2.1 85 5))) ∧ σ' = σ) := by
  refine am_qq (fun Q hQ => ?_)
  refine am_enter (show plainFor yX10_setsFrom = true by decide +kernel) rfl (Nat.le_of_ble_eq_true rfl) (fun _ _ _ => trivial) ?_
  refine am_bipush (q := 2) (n := 7) (by decide) rfl (am_tab tk_X10_setsFrom 0 rfl) rfl ?_
  refine am_iconst (q := 3) (n := 2) (by decide) (am_tab tk_X10_setsFrom 1 rfl) rfl ?_
  refine am_aload_n (q := 4) rfl (am_tab tk_X10_setsFrom 2 rfl) rfl ?_
  refine am_callV0 (q := 7) (me2 := M_X10_peopleMany) (b := 55) (kb := 10) (nb := 108) (As := []) (rest := [am_i 2, am_i 7]) (out := [am_i (σ.2.1 85 5), am_i 2, am_i 7]) (c_X10_peopleMany σ hL  ) ⟨rfl, rfl⟩ (Ls_55 hL) (by decide) ⟨Or.inl km_X10_394, kc_X10_peopleMany, kn_X10, kd_X10_peopleMany, ⟨(Nat.le_of_ble_eq_true rfl), (Nat.le_of_ble_eq_true rfl)⟩, ⟨(Nat.le_of_ble_eq_true rfl), (Nat.le_of_ble_eq_true rfl)⟩, (Nat.le_of_ble_eq_true rfl)⟩ ki_X10_peopleMany ks_X10_peopleMany rfl rfl (am_tab tk_X10_setsFrom 3 rfl) rfl ?_
  refine am_imul (q := 8) (by omega) (am_tab tk_X10_setsFrom 4 rfl) rfl ?_
  refine am_iadd (q := 9) (by omega) (am_tab tk_X10_setsFrom 5 rfl) rfl ?_
  refine am_iret (Or.inl rfl) (Nat.le_of_ble_eq_true rfl) (Nat.le_of_ble_eq_true rfl) (am_tab tk_X10_setsFrom 6 rfl) ?_
  refine hQ _ _ ?_
  exact ⟨rfl, rfl⟩
/-- pair k of a list that begins at F -/
def aD (σ : am_H) (F k : Nat) : Int := σ.2.1 56 (F + 1 + 2 * k)
def aP (σ : am_H) (F k : Nat) : Int := σ.2.1 56 (F + 2 + 2 * k)
def aV (σ : am_H) (F k : Nat) : Int := 8 * aD σ F k + aP σ F k
def aLast (σ : am_H) (F : Nat) : Nat → Int
  | 0 => -1
  | k + 1 => aV σ F k
def asB (σ : am_H) (F : Nat) (le : Int) (k : Nat) : Bool := decide (¬ ((1 ≤ aD σ F k ∧ aD σ F k ≤ σ.2.1 85 9) ∧ le < aD σ F k ∧ (0 ≤ aP σ F k ∧ aP σ F k ≤ σ.2.1 85 5 - 1) ∧ aLast σ F k < aV σ F k))
/-- a list of days and people, that ends ahead of n -/
def asC (σ : am_H) (F : Nat) (n le : Int) : Bool := decide ((F : Int) < n ∧ σ.2.1 56 F ≤ 30 ∧ ((F : Int) + 1) + (2 * σ.2.1 56 F) ≤ n) && !(anyB (asB σ F le) (σ.2.1 56 F).toNat)
theorem c_X10_areSetsTold (σ : am_H) (hL : lay σ) (F : Nat) (n : Int) (le : Int) (hT : TPR σ) (hn : 0 ≤ n ∧ n ≤ 1600) (hF : F ≤ 1600) (hP : 0 ≤ σ.2.1 85 5 ∧ σ.2.1 85 5 ≤ 8) : am_met M_X10_areSetsTold [am_r 55, am_i ((F : Int)), am_i n, am_i le] σ (fun r σ' => r = some (am_i (b2i (asC σ F n le))) ∧ σ' = σ) := by
  refine am_qq (fun Q hQ => ?_)
  refine am_enter (show plainFor yX10_areSetsTold = true by decide +kernel) rfl (Nat.le_of_ble_eq_true rfl) (fun _ _ _ => trivial) ?_
  have hF0 : F < 1600 → 0 ≤ σ.2.1 56 F ∧ σ.2.1 56 F ≤ 255 := fun h => hT.2 F h
  refine am_iload_n (q := 1) rfl (am_tab tk_X10_areSetsTold 0 rfl) rfl ?_
  refine am_iload_n (q := 2) rfl (am_tab tk_X10_areSetsTold 1 rfl) rfl ?_
  refine am_icmp_ge (q := 5) (t := 32) (am_tab tk_X10_areSetsTold 2 rfl) (by decide) rfl (fun h2 => ?_) (fun h2 => ?_)
  · refine am_iconst (q := 33) (n := 0) (by decide) (am_tab tk_X10_areSetsTold 21 rfl) rfl ?_
    refine am_iret (Or.inr ⟨rfl, by first | exact Or.inl rfl | exact Or.inr rfl | omega⟩) (Nat.le_of_ble_eq_true rfl) (Nat.le_of_ble_eq_true rfl) (am_tab tk_X10_areSetsTold 22 rfl) ?_
    refine hQ _ _ ?_
    refine ⟨congrArg (fun z => some (am_i z)) ?_, rfl⟩
    unfold asC
    rw [decide_eq_false (by omega)]; rfl
  · refine am_aload_n (q := 6) rfl (am_tab tk_X10_areSetsTold 3 rfl) rfl ?_
    refine am_getR (q := 9) (a := 55) (k := 10) (n := 108) (j := 0) (r := some (56)) (Ls_55 hL) (by decide) rfl (Lr_55_0 hL) (by decide) (Or.inl kf_X10_7) (am_tab tk_X10_areSetsTold 4 rfl) rfl ?_
    refine am_iload_n (q := 10) rfl (am_tab tk_X10_areSetsTold 5 rfl) rfl ?_
    refine am_iald (q := 11) (a := 56) (n := 1600) (x := (σ.2.1 56 F)) (Ls_56 hL) (by omega) (by omega) (by rw [show Int.toNat (F : Int) = F by omega]) (am_tab tk_X10_areSetsTold 6 rfl) rfl ?_
    refine am_bipush (q := 13) (n := 30) (by decide) rfl (am_tab tk_X10_areSetsTold 7 rfl) rfl ?_
    refine am_icmp_gt (q := 16) (t := 32) (am_tab tk_X10_areSetsTold 8 rfl) (by decide) rfl (fun h13 => ?_) (fun h13 => ?_)
    · refine am_iconst (q := 33) (n := 0) (by decide) (am_tab tk_X10_areSetsTold 21 rfl) rfl ?_
      refine am_iret (Or.inr ⟨rfl, by first | exact Or.inl rfl | exact Or.inr rfl | omega⟩) (Nat.le_of_ble_eq_true rfl) (Nat.le_of_ble_eq_true rfl) (am_tab tk_X10_areSetsTold 22 rfl) ?_
      refine hQ _ _ ?_
      refine ⟨congrArg (fun z => some (am_i z)) ?_, rfl⟩
      unfold asC
      rw [decide_eq_false (by omega)]; rfl
    · refine am_iload_n (q := 17) rfl (am_tab tk_X10_areSetsTold 9 rfl) rfl ?_
      refine am_iconst (q := 18) (n := 1) (by decide) (am_tab tk_X10_areSetsTold 10 rfl) rfl ?_
      refine am_iadd (q := 19) (by omega) (am_tab tk_X10_areSetsTold 11 rfl) rfl ?_
      refine am_iconst (q := 20) (n := 2) (by decide) (am_tab tk_X10_areSetsTold 12 rfl) rfl ?_
      refine am_aload_n (q := 21) rfl (am_tab tk_X10_areSetsTold 13 rfl) rfl ?_
      refine am_getR (q := 24) (a := 55) (k := 10) (n := 108) (j := 0) (r := some (56)) (Ls_55 hL) (by decide) rfl (Lr_55_0 hL) (by decide) (Or.inl kf_X10_7) (am_tab tk_X10_areSetsTold 14 rfl) rfl ?_
      refine am_iload_n (q := 25) rfl (am_tab tk_X10_areSetsTold 15 rfl) rfl ?_
      refine am_iald (q := 26) (a := 56) (n := 1600) (x := (σ.2.1 56 F)) (Ls_56 hL) (by omega) (by omega) (by rw [show Int.toNat (F : Int) = F by omega]) (am_tab tk_X10_areSetsTold 16 rfl) rfl ?_
      refine am_imul (q := 27) (by omega) (am_tab tk_X10_areSetsTold 17 rfl) rfl ?_
      refine am_iadd (q := 28) (by omega) (am_tab tk_X10_areSetsTold 18 rfl) rfl ?_
      refine am_iload_n (q := 29) rfl (am_tab tk_X10_areSetsTold 19 rfl) rfl ?_
      refine am_icmp_le (q := 32) (t := 34) (am_tab tk_X10_areSetsTold 20 rfl) (by decide) rfl (fun h29 => ?_) (fun h29 => ?_)
      · refine am_iconst (q := 35) (n := (-1)) (by decide) (am_tab tk_X10_areSetsTold 23 rfl) rfl ?_
        refine am_istore (q := 37) (by decide) (ls2 := [(4, am_i ((-1))), (0, am_r 55), (1, am_i ((F : Int))), (2, am_i n), (3, am_i le)]) rfl (am_tab tk_X10_areSetsTold 24 rfl) rfl ?_
        refine am_iload_n (q := 38) rfl (am_tab tk_X10_areSetsTold 25 rfl) rfl ?_
        refine am_iconst (q := 39) (n := 1) (by decide) (am_tab tk_X10_areSetsTold 26 rfl) rfl ?_
        refine am_iadd (q := 40) (by omega) (am_tab tk_X10_areSetsTold 27 rfl) rfl ?_
        refine am_istore (q := 42) (by decide) (ls2 := [(5, am_i (((F : Int) + 1))), (4, am_i ((-1))), (0, am_r 55), (1, am_i ((F : Int))), (2, am_i n), (3, am_i le)]) rfl (am_tab tk_X10_areSetsTold 28 rfl) rfl ?_
        have L42 : ∀ (n42 : Nat) (k : Nat), 300 - k < n42 → (k : Int) ≤ σ.2.1 56 F → anyB (asB σ F le) k = false → am_wp M_X10_areSetsTold Q 0 0 42 [(5, am_i ((((F : Int) + 1) + (2 * (k : Int))))), (4, am_i (aLast σ F k)), (0, am_r 55), (1, am_i ((F : Int))), (2, am_i n), (3, am_i le)] [] σ := by
          intro n42
          induction n42 with
          | zero => intro k hn42; exact absurd hn42 (Nat.not_lt_zero _)
          | succ n42 ih42 =>
            intro k hn42 hk hq
            have hda : (k : Int) < σ.2.1 56 F → 0 ≤ aD σ F k ∧ aD σ F k ≤ 255 := fun h => hT.2 _ (by omega)
            have hpa : (k : Int) < σ.2.1 56 F → 0 ≤ aP σ F k ∧ aP σ F k ≤ 255 := fun h => hT.2 _ (by omega)
            refine am_iload (q := 44) rfl (am_tab tk_X10_areSetsTold 29 rfl) rfl ?_
            refine am_iload_n (q := 45) rfl (am_tab tk_X10_areSetsTold 30 rfl) rfl ?_
            refine am_iconst (q := 46) (n := 1) (by decide) (am_tab tk_X10_areSetsTold 31 rfl) rfl ?_
            refine am_iadd (q := 47) (by omega) (am_tab tk_X10_areSetsTold 32 rfl) rfl ?_
            refine am_iconst (q := 48) (n := 2) (by decide) (am_tab tk_X10_areSetsTold 33 rfl) rfl ?_
            refine am_aload_n (q := 49) rfl (am_tab tk_X10_areSetsTold 34 rfl) rfl ?_
            refine am_getR (q := 52) (a := 55) (k := 10) (n := 108) (j := 0) (r := some (56)) (Ls_55 hL) (by decide) rfl (Lr_55_0 hL) (by decide) (Or.inl kf_X10_7) (am_tab tk_X10_areSetsTold 35 rfl) rfl ?_
            refine am_iload_n (q := 53) rfl (am_tab tk_X10_areSetsTold 36 rfl) rfl ?_
            refine am_iald (q := 54) (a := 56) (n := 1600) (x := (σ.2.1 56 F)) (Ls_56 hL) (by omega) (by omega) (by rw [show Int.toNat (F : Int) = F by omega]) (am_tab tk_X10_areSetsTold 37 rfl) rfl ?_
            refine am_imul (q := 55) (by omega) (am_tab tk_X10_areSetsTold 38 rfl) rfl ?_
            refine am_iadd (q := 56) (by omega) (am_tab tk_X10_areSetsTold 39 rfl) rfl ?_
            refine am_icmp_ge (q := 59) (t := 141) (am_tab tk_X10_areSetsTold 40 rfl) (by decide) rfl (fun h56 => ?_) (fun h56 => ?_)
            · refine am_iconst (q := 142) (n := 1) (by decide) (am_tab tk_X10_areSetsTold 86 rfl) rfl ?_
              refine am_iret (Or.inr ⟨rfl, by first | exact Or.inl rfl | exact Or.inr rfl | omega⟩) (Nat.le_of_ble_eq_true rfl) (Nat.le_of_ble_eq_true rfl) (am_tab tk_X10_areSetsTold 87 rfl) ?_
              refine hQ _ _ ?_
              refine ⟨congrArg (fun z => some (am_i z)) ?_, rfl⟩
              unfold asC
              rw [decide_eq_true (by omega), ← show k = (σ.2.1 56 F).toNat by omega, hq]; rfl
            · refine am_bipush (q := 61) (n := 8) (by decide) rfl (am_tab tk_X10_areSetsTold 41 rfl) rfl ?_
              refine am_aload_n (q := 62) rfl (am_tab tk_X10_areSetsTold 42 rfl) rfl ?_
              refine am_getR (q := 65) (a := 55) (k := 10) (n := 108) (j := 0) (r := some (56)) (Ls_55 hL) (by decide) rfl (Lr_55_0 hL) (by decide) (Or.inl kf_X10_7) (am_tab tk_X10_areSetsTold 43 rfl) rfl ?_
              refine am_iload (q := 67) rfl (am_tab tk_X10_areSetsTold 44 rfl) rfl ?_
              refine am_iald (q := 68) (a := 56) (n := 1600) (x := (aD σ F k)) (Ls_56 hL) (by omega) (by omega) (by rw [show Int.toNat (((F : Int) + 1) + (2 * (k : Int))) = F + 1 + 2 * k by omega]; rfl) (am_tab tk_X10_areSetsTold 45 rfl) rfl ?_
              refine am_imul (q := 69) (by omega) (am_tab tk_X10_areSetsTold 46 rfl) rfl ?_
              refine am_aload_n (q := 70) rfl (am_tab tk_X10_areSetsTold 47 rfl) rfl ?_
              refine am_getR (q := 73) (a := 55) (k := 10) (n := 108) (j := 0) (r := some (56)) (Ls_55 hL) (by decide) rfl (Lr_55_0 hL) (by decide) (Or.inl kf_X10_7) (am_tab tk_X10_areSetsTold 48 rfl) rfl ?_
              refine am_iload (q := 75) rfl (am_tab tk_X10_areSetsTold 49 rfl) rfl ?_
              refine am_iconst (q := 76) (n := 1) (by decide) (am_tab tk_X10_areSetsTold 50 rfl) rfl ?_
              refine am_iadd (q := 77) (by omega) (am_tab tk_X10_areSetsTold 51 rfl) rfl ?_
              refine am_iald (q := 78) (a := 56) (n := 1600) (x := (aP σ F k)) (Ls_56 hL) (by omega) (by omega) (by rw [show Int.toNat ((((F : Int) + 1) + (2 * (k : Int))) + 1) = F + 2 + 2 * k by omega]; rfl) (am_tab tk_X10_areSetsTold 52 rfl) rfl ?_
              refine am_iadd (q := 79) (by omega) (am_tab tk_X10_areSetsTold 53 rfl) rfl ?_
              refine am_istore (q := 81) (by decide) (ls2 := [(6, am_i (((8 * (aD σ F k)) + (aP σ F k)))), (5, am_i ((((F : Int) + 1) + (2 * (k : Int))))), (4, am_i (aLast σ F k)), (0, am_r 55), (1, am_i ((F : Int))), (2, am_i n), (3, am_i le)]) rfl (am_tab tk_X10_areSetsTold 54 rfl) rfl ?_
              refine am_aload_n (q := 82) rfl (am_tab tk_X10_areSetsTold 55 rfl) rfl ?_
              refine am_aload_n (q := 83) rfl (am_tab tk_X10_areSetsTold 56 rfl) rfl ?_
              refine am_getR (q := 86) (a := 55) (k := 10) (n := 108) (j := 0) (r := some (56)) (Ls_55 hL) (by decide) rfl (Lr_55_0 hL) (by decide) (Or.inl kf_X10_7) (am_tab tk_X10_areSetsTold 57 rfl) rfl ?_
              refine am_iload (q := 88) rfl (am_tab tk_X10_areSetsTold 58 rfl) rfl ?_
              refine am_iald (q := 89) (a := 56) (n := 1600) (x := (aD σ F k)) (Ls_56 hL) (by omega) (by omega) (by rw [show Int.toNat (((F : Int) + 1) + (2 * (k : Int))) = F + 1 + 2 * k by omega]; rfl) (am_tab tk_X10_areSetsTold 59 rfl) rfl ?_
              refine am_callV0 (q := 92) (me2 := M_X10_isDay) (b := 55) (kb := 10) (nb := 108) (As := [am_i ((aD σ F k))]) (rest := []) (out := [am_i (if 1 ≤ (aD σ F k) ∧ (aD σ F k) ≤ σ.2.1 85 9 then 1 else 0)]) (c_X10_isDay σ hL (aD σ F k)) ⟨rfl, rfl⟩ (Ls_55 hL) (by decide) ⟨Or.inl km_X10_504, kc_X10_isDay, kn_X10, kd_X10_isDay, ⟨(Nat.le_of_ble_eq_true rfl), (Nat.le_of_ble_eq_true rfl)⟩, ⟨(Nat.le_of_ble_eq_true rfl), (Nat.le_of_ble_eq_true rfl)⟩, (Nat.le_of_ble_eq_true rfl)⟩ ki_X10_isDay ks_X10_isDay rfl rfl (am_tab tk_X10_areSetsTold 60 rfl) rfl ?_
              refine am_if_eq (q := 95) (t := 129) (am_tab tk_X10_areSetsTold 61 rfl) (by decide) rfl (fun h92 => ?_) (fun h92 => ?_)
              · replace h92 := b01z h92
                refine am_iconst (q := 130) (n := 0) (by decide) (am_tab tk_X10_areSetsTold 80 rfl) rfl ?_
                refine am_iret (Or.inr ⟨rfl, by first | exact Or.inl rfl | exact Or.inr rfl | omega⟩) (Nat.le_of_ble_eq_true rfl) (Nat.le_of_ble_eq_true rfl) (am_tab tk_X10_areSetsTold 81 rfl) ?_
                refine hQ _ _ ?_
                refine ⟨congrArg (fun z => some (am_i z)) ?_, rfl⟩
                unfold asC
                rw [anyB_t (g := asB σ F le) (i := k) (by unfold asB; simp only [decide_eq_true_eq]; intro hx; first | exact absurd hx.1 (by assumption) | exact absurd hx.2.1 (by omega) | exact absurd hx.2.2.1 (by assumption) | exact absurd hx.2.2.2 (by unfold aV; omega)) (by omega)]; simp [b2i]
              · replace h92 := b01n h92
                refine am_aload_n (q := 96) rfl (am_tab tk_X10_areSetsTold 62 rfl) rfl ?_
                refine am_getR (q := 99) (a := 55) (k := 10) (n := 108) (j := 0) (r := some (56)) (Ls_55 hL) (by decide) rfl (Lr_55_0 hL) (by decide) (Or.inl kf_X10_7) (am_tab tk_X10_areSetsTold 63 rfl) rfl ?_
                refine am_iload (q := 101) rfl (am_tab tk_X10_areSetsTold 64 rfl) rfl ?_
                refine am_iald (q := 102) (a := 56) (n := 1600) (x := (aD σ F k)) (Ls_56 hL) (by omega) (by omega) (by rw [show Int.toNat (((F : Int) + 1) + (2 * (k : Int))) = F + 1 + 2 * k by omega]; rfl) (am_tab tk_X10_areSetsTold 65 rfl) rfl ?_
                refine am_iload_n (q := 103) rfl (am_tab tk_X10_areSetsTold 66 rfl) rfl ?_
                refine am_icmp_le (q := 106) (t := 129) (am_tab tk_X10_areSetsTold 67 rfl) (by decide) rfl (fun h103 => ?_) (fun h103 => ?_)
                · refine am_iconst (q := 130) (n := 0) (by decide) (am_tab tk_X10_areSetsTold 80 rfl) rfl ?_
                  refine am_iret (Or.inr ⟨rfl, by first | exact Or.inl rfl | exact Or.inr rfl | omega⟩) (Nat.le_of_ble_eq_true rfl) (Nat.le_of_ble_eq_true rfl) (am_tab tk_X10_areSetsTold 81 rfl) ?_
                  refine hQ _ _ ?_
                  refine ⟨congrArg (fun z => some (am_i z)) ?_, rfl⟩
                  unfold asC
                  rw [anyB_t (g := asB σ F le) (i := k) (by unfold asB; simp only [decide_eq_true_eq]; intro hx; first | exact absurd hx.1 (by assumption) | exact absurd hx.2.1 (by omega) | exact absurd hx.2.2.1 (by assumption) | exact absurd hx.2.2.2 (by unfold aV; omega)) (by omega)]; simp [b2i]
                · refine am_aload_n (q := 107) rfl (am_tab tk_X10_areSetsTold 68 rfl) rfl ?_
                  refine am_aload_n (q := 108) rfl (am_tab tk_X10_areSetsTold 69 rfl) rfl ?_
                  refine am_getR (q := 111) (a := 55) (k := 10) (n := 108) (j := 0) (r := some (56)) (Ls_55 hL) (by decide) rfl (Lr_55_0 hL) (by decide) (Or.inl kf_X10_7) (am_tab tk_X10_areSetsTold 70 rfl) rfl ?_
                  refine am_iload (q := 113) rfl (am_tab tk_X10_areSetsTold 71 rfl) rfl ?_
                  refine am_iconst (q := 114) (n := 1) (by decide) (am_tab tk_X10_areSetsTold 72 rfl) rfl ?_
                  refine am_iadd (q := 115) (by omega) (am_tab tk_X10_areSetsTold 73 rfl) rfl ?_
                  refine am_iald (q := 116) (a := 56) (n := 1600) (x := (aP σ F k)) (Ls_56 hL) (by omega) (by omega) (by rw [show Int.toNat ((((F : Int) + 1) + (2 * (k : Int))) + 1) = F + 2 + 2 * k by omega]; rfl) (am_tab tk_X10_areSetsTold 74 rfl) rfl ?_
                  refine am_callV0 (q := 119) (me2 := M_X10_isPerson) (b := 55) (kb := 10) (nb := 108) (As := [am_i ((aP σ F k))]) (rest := []) (out := [am_i (if 0 ≤ (aP σ F k) ∧ (aP σ F k) ≤ σ.2.1 85 5 - 1 then 1 else 0)]) (c_X10_isPerson σ hL (aP σ F k) hP) ⟨rfl, rfl⟩ (Ls_55 hL) (by decide) ⟨Or.inl km_X10_490, kc_X10_isPerson, kn_X10, kd_X10_isPerson, ⟨(Nat.le_of_ble_eq_true rfl), (Nat.le_of_ble_eq_true rfl)⟩, ⟨(Nat.le_of_ble_eq_true rfl), (Nat.le_of_ble_eq_true rfl)⟩, (Nat.le_of_ble_eq_true rfl)⟩ ki_X10_isPerson ks_X10_isPerson rfl rfl (am_tab tk_X10_areSetsTold 75 rfl) rfl ?_
                  refine am_if_eq (q := 122) (t := 129) (am_tab tk_X10_areSetsTold 76 rfl) (by decide) rfl (fun h119 => ?_) (fun h119 => ?_)
                  · replace h119 := b01z h119
                    refine am_iconst (q := 130) (n := 0) (by decide) (am_tab tk_X10_areSetsTold 80 rfl) rfl ?_
                    refine am_iret (Or.inr ⟨rfl, by first | exact Or.inl rfl | exact Or.inr rfl | omega⟩) (Nat.le_of_ble_eq_true rfl) (Nat.le_of_ble_eq_true rfl) (am_tab tk_X10_areSetsTold 81 rfl) ?_
                    refine hQ _ _ ?_
                    refine ⟨congrArg (fun z => some (am_i z)) ?_, rfl⟩
                    unfold asC
                    rw [anyB_t (g := asB σ F le) (i := k) (by unfold asB; simp only [decide_eq_true_eq]; intro hx; first | exact absurd hx.1 (by assumption) | exact absurd hx.2.1 (by omega) | exact absurd hx.2.2.1 (by assumption) | exact absurd hx.2.2.2 (by unfold aV; omega)) (by omega)]; simp [b2i]
                  · replace h119 := b01n h119
                    refine am_iload (q := 124) rfl (am_tab tk_X10_areSetsTold 77 rfl) rfl ?_
                    refine am_iload (q := 126) rfl (am_tab tk_X10_areSetsTold 78 rfl) rfl ?_
                    refine am_icmp_gt (q := 129) (t := 131) (am_tab tk_X10_areSetsTold 79 rfl) (by decide) rfl (fun h126 => ?_) (fun h126 => ?_)
                    · refine am_iload (q := 133) rfl (am_tab tk_X10_areSetsTold 82 rfl) rfl ?_
                      refine am_istore (q := 135) (by decide) (ls2 := [(4, am_i (((8 * (aD σ F k)) + (aP σ F k)))), (6, am_i (((8 * (aD σ F k)) + (aP σ F k)))), (5, am_i ((((F : Int) + 1) + (2 * (k : Int))))), (0, am_r 55), (1, am_i ((F : Int))), (2, am_i n), (3, am_i le)]) rfl (am_tab tk_X10_areSetsTold 83 rfl) rfl ?_
                      refine am_iinc (q := 138) rfl (by omega) (by decide) (ls2 := [(5, am_i (((((F : Int) + 1) + (2 * (k : Int))) + 2))), (4, am_i (((8 * (aD σ F k)) + (aP σ F k)))), (6, am_i (((8 * (aD σ F k)) + (aP σ F k)))), (0, am_r 55), (1, am_i ((F : Int))), (2, am_i n), (3, am_i le)]) rfl (am_tab tk_X10_areSetsTold 84 rfl) rfl ?_
                      refine am_goto (t := 42) (am_tab tk_X10_areSetsTold 85 rfl) (by decide) ?_
                      have hgk : asB σ F le k = false := by
                        unfold asB
                        simp only [decide_eq_false_iff_not, Classical.not_not]
                        exact ⟨h92, by omega, h119, by unfold aV; omega⟩
                      rw [show (8 * (aD σ F k)) + (aP σ F k) = aLast σ F (k + 1) from rfl, show (((F : Int) + 1) + (2 * (k : Int))) + 2 = ((F : Int) + 1) + (2 * ((k + 1 : Nat) : Int)) by omega]
                      exact am_less (by intro q hq; simp only [List.mem_cons, List.not_mem_nil, or_false] at hq; rcases hq with rfl | rfl | rfl | rfl | rfl | rfl <;> simp) (ih42 (k + 1) (by omega) (by omega) (anyB_f hq hgk))
                    · refine am_iconst (q := 130) (n := 0) (by decide) (am_tab tk_X10_areSetsTold 80 rfl) rfl ?_
                      refine am_iret (Or.inr ⟨rfl, by first | exact Or.inl rfl | exact Or.inr rfl | omega⟩) (Nat.le_of_ble_eq_true rfl) (Nat.le_of_ble_eq_true rfl) (am_tab tk_X10_areSetsTold 81 rfl) ?_
                      refine hQ _ _ ?_
                      refine ⟨congrArg (fun z => some (am_i z)) ?_, rfl⟩
                      unfold asC
                      rw [anyB_t (g := asB σ F le) (i := k) (by unfold asB; simp only [decide_eq_true_eq]; intro hx; first | exact absurd hx.1 (by assumption) | exact absurd hx.2.1 (by omega) | exact absurd hx.2.2.1 (by assumption) | exact absurd hx.2.2.2 (by unfold aV; omega)) (by omega)]; simp [b2i]
        refine am_less (by intro q hq; simp only [List.mem_cons, List.not_mem_nil, or_false] at hq; rcases hq with rfl | rfl | rfl | rfl | rfl | rfl <;> simp [aLast]) (L42 (_ + 1) 0 (by exact Nat.lt_succ_self _) (by omega) rfl)
      · refine am_iconst (q := 33) (n := 0) (by decide) (am_tab tk_X10_areSetsTold 21 rfl) rfl ?_
        refine am_iret (Or.inr ⟨rfl, by first | exact Or.inl rfl | exact Or.inr rfl | omega⟩) (Nat.le_of_ble_eq_true rfl) (Nat.le_of_ble_eq_true rfl) (am_tab tk_X10_areSetsTold 22 rfl) ?_
        refine hQ _ _ ?_
        refine ⟨congrArg (fun z => some (am_i z)) ?_, rfl⟩
        unfold asC
        rw [decide_eq_false (by omega)]; rfl
def hdB (σ : am_H) (p : Nat) : Bool := decide (¬ (σ.2.1 56 (7 + 2 * p) ≤ 99 ∧ σ.2.1 56 (8 + 2 * p) ≤ 1))
def hdC (σ : am_H) : Bool := decide ((1 ≤ (256 * σ.2.1 56 0) + σ.2.1 56 1 ∧ (256 * σ.2.1 56 0) + σ.2.1 56 1 ≤ 999) ∧ σ.2.1 56 2 ≤ σ.2.1 85 9 ∧ ¬ (σ.2.1 56 2 = 0 ∧ 1 < (256 * σ.2.1 56 0) + σ.2.1 56 1) ∧ σ.2.1 56 3 ≤ σ.2.1 56 2 ∧ coT σ ≤ 999999) && !(anyB (hdB σ) (pN σ))
theorem c_X10_isHeadTold (σ : am_H) (hL : lay σ)  (hT : TPR σ) (hR : MR σ) : am_met M_X10_isHeadTold [am_r 55] σ (fun r σ' => r = some (am_i (b2i (hdC σ))) ∧ σ' = σ) := by
  refine am_qq (fun Q hQ => ?_)
  refine am_enter (show plainFor yX10_isHeadTold = true by decide +kernel) rfl (Nat.le_of_ble_eq_true rfl) (fun _ _ _ => trivial) ?_
  have t0 := hT.2 0 (by omega)
  have t1 := hT.2 1 (by omega)
  have t2 := hT.2 2 (by omega)
  have t3 := hT.2 3 (by omega)
  have t4 := hT.2 4 (by omega)
  have t5 := hT.2 5 (by omega)
  have t6 := hT.2 6 (by omega)
  have hN := pN_eq hR
  have h8 := pN_8 hR
  refine am_sipush (q := 3) (n := 256) (by decide) rfl (am_tab tk_X10_isHeadTold 0 rfl) rfl ?_
  refine am_aload_n (q := 4) rfl (am_tab tk_X10_isHeadTold 1 rfl) rfl ?_
  refine am_getR (q := 7) (a := 55) (k := 10) (n := 108) (j := 0) (r := some (56)) (Ls_55 hL) (by decide) rfl (Lr_55_0 hL) (by decide) (Or.inl kf_X10_7) (am_tab tk_X10_isHeadTold 2 rfl) rfl ?_
  refine am_iconst (q := 8) (n := 0) (by decide) (am_tab tk_X10_isHeadTold 3 rfl) rfl ?_
  refine am_iald (q := 9) (a := 56) (n := 1600) (x := (σ.2.1 56 0)) (Ls_56 hL) (by omega) (by omega) rfl (am_tab tk_X10_isHeadTold 4 rfl) rfl ?_
  refine am_imul (q := 10) (by omega) (am_tab tk_X10_isHeadTold 5 rfl) rfl ?_
  refine am_aload_n (q := 11) rfl (am_tab tk_X10_isHeadTold 6 rfl) rfl ?_
  refine am_getR (q := 14) (a := 55) (k := 10) (n := 108) (j := 0) (r := some (56)) (Ls_55 hL) (by decide) rfl (Lr_55_0 hL) (by decide) (Or.inl kf_X10_7) (am_tab tk_X10_isHeadTold 7 rfl) rfl ?_
  refine am_iconst (q := 15) (n := 1) (by decide) (am_tab tk_X10_isHeadTold 8 rfl) rfl ?_
  refine am_iald (q := 16) (a := 56) (n := 1600) (x := (σ.2.1 56 1)) (Ls_56 hL) (by omega) (by omega) rfl (am_tab tk_X10_isHeadTold 9 rfl) rfl ?_
  refine am_iadd (q := 17) (by omega) (am_tab tk_X10_isHeadTold 10 rfl) rfl ?_
  refine am_istore_n (q := 18) (by decide) (ls2 := [(1, am_i (((256 * (σ.2.1 56 0)) + (σ.2.1 56 1)))), (0, am_r 55)]) rfl (am_tab tk_X10_isHeadTold 11 rfl) rfl ?_
  have L86 : ∀ (n86 : Nat) (p : Nat), pN σ - p < n86 → p ≤ pN σ → anyB (hdB σ) p = false → ((1 ≤ (256 * σ.2.1 56 0) + σ.2.1 56 1 ∧ (256 * σ.2.1 56 0) + σ.2.1 56 1 ≤ 999) ∧ σ.2.1 56 2 ≤ σ.2.1 85 9 ∧ ¬ (σ.2.1 56 2 = 0 ∧ 1 < (256 * σ.2.1 56 0) + σ.2.1 56 1) ∧ σ.2.1 56 3 ≤ σ.2.1 56 2 ∧ coT σ ≤ 999999) → am_wp M_X10_isHeadTold Q 0 0 86 [(2, am_i ((p : Int))), (0, am_r 55), (1, am_i ((256 * (σ.2.1 56 0)) + (σ.2.1 56 1)))] [] σ := by
    intro n86
    induction n86 with
    | zero => intro p hn86; exact absurd hn86 (Nat.not_lt_zero _)
    | succ n86 ih86 =>
      intro p hn86 hp hq hok
      refine am_iload_n (q := 87) rfl (am_tab tk_X10_isHeadTold 50 rfl) rfl ?_
      refine am_aload_n (q := 88) rfl (am_tab tk_X10_isHeadTold 51 rfl) rfl ?_
      refine am_callV0 (q := 91) (me2 := M_X10_peopleMany) (b := 55) (kb := 10) (nb := 108) (As := []) (rest := [am_i ((p : Int))]) (out := [am_i (σ.2.1 85 5), am_i ((p : Int))]) (c_X10_peopleMany σ hL  ) ⟨rfl, rfl⟩ (Ls_55 hL) (by decide) ⟨Or.inl km_X10_394, kc_X10_peopleMany, kn_X10, kd_X10_peopleMany, ⟨(Nat.le_of_ble_eq_true rfl), (Nat.le_of_ble_eq_true rfl)⟩, ⟨(Nat.le_of_ble_eq_true rfl), (Nat.le_of_ble_eq_true rfl)⟩, (Nat.le_of_ble_eq_true rfl)⟩ ki_X10_peopleMany ks_X10_peopleMany rfl rfl (am_tab tk_X10_isHeadTold 52 rfl) rfl ?_
      refine am_icmp_ge (q := 94) (t := 133) (am_tab tk_X10_isHeadTold 53 rfl) (by decide) rfl (fun h91 => ?_) (fun h91 => ?_)
      · refine am_iconst (q := 134) (n := 1) (by decide) (am_tab tk_X10_isHeadTold 78 rfl) rfl ?_
        refine am_iret (Or.inr ⟨rfl, by first | exact Or.inl rfl | exact Or.inr rfl | omega⟩) (Nat.le_of_ble_eq_true rfl) (Nat.le_of_ble_eq_true rfl) (am_tab tk_X10_isHeadTold 79 rfl) ?_
        refine hQ _ _ ?_
        refine ⟨congrArg (fun z => some (am_i z)) ?_, rfl⟩
        unfold hdC
        rw [decide_eq_true (by omega), ← show p = pN σ by omega, hq]; rfl
      · refine am_aload_n (q := 95) rfl (am_tab tk_X10_isHeadTold 54 rfl) rfl ?_
        refine am_getR (q := 98) (a := 55) (k := 10) (n := 108) (j := 0) (r := some (56)) (Ls_55 hL) (by decide) rfl (Lr_55_0 hL) (by decide) (Or.inl kf_X10_7) (am_tab tk_X10_isHeadTold 55 rfl) rfl ?_
        refine am_bipush (q := 100) (n := 7) (by decide) rfl (am_tab tk_X10_isHeadTold 56 rfl) rfl ?_
        refine am_iconst (q := 101) (n := 2) (by decide) (am_tab tk_X10_isHeadTold 57 rfl) rfl ?_
        refine am_iload_n (q := 102) rfl (am_tab tk_X10_isHeadTold 58 rfl) rfl ?_
        refine am_imul (q := 103) (by omega) (am_tab tk_X10_isHeadTold 59 rfl) rfl ?_
        refine am_iadd (q := 104) (by omega) (am_tab tk_X10_isHeadTold 60 rfl) rfl ?_
        refine am_iald (q := 105) (a := 56) (n := 1600) (x := (σ.2.1 56 (7 + 2 * p))) (Ls_56 hL) (by omega) (by omega) (by rw [show Int.toNat (7 + (2 * (p : Int))) = 7 + 2 * p by omega]) (am_tab tk_X10_isHeadTold 61 rfl) rfl ?_
        refine am_bipush (q := 107) (n := 99) (by decide) rfl (am_tab tk_X10_isHeadTold 62 rfl) rfl ?_
        refine am_icmp_gt (q := 110) (t := 125) (am_tab tk_X10_isHeadTold 63 rfl) (by decide) rfl (fun h107 => ?_) (fun h107 => ?_)
        · refine am_iconst (q := 126) (n := 0) (by decide) (am_tab tk_X10_isHeadTold 74 rfl) rfl ?_
          refine am_iret (Or.inr ⟨rfl, by first | exact Or.inl rfl | exact Or.inr rfl | omega⟩) (Nat.le_of_ble_eq_true rfl) (Nat.le_of_ble_eq_true rfl) (am_tab tk_X10_isHeadTold 75 rfl) ?_
          refine hQ _ _ ?_
          refine ⟨congrArg (fun z => some (am_i z)) ?_, rfl⟩
          unfold hdC
          rw [anyB_t (g := hdB σ) (i := p) (by unfold hdB; simp only [decide_eq_true_eq]; omega) (by omega)]; simp [b2i]
        · refine am_aload_n (q := 111) rfl (am_tab tk_X10_isHeadTold 64 rfl) rfl ?_
          refine am_getR (q := 114) (a := 55) (k := 10) (n := 108) (j := 0) (r := some (56)) (Ls_55 hL) (by decide) rfl (Lr_55_0 hL) (by decide) (Or.inl kf_X10_7) (am_tab tk_X10_isHeadTold 65 rfl) rfl ?_
          refine am_bipush (q := 116) (n := 8) (by decide) rfl (am_tab tk_X10_isHeadTold 66 rfl) rfl ?_
          refine am_iconst (q := 117) (n := 2) (by decide) (am_tab tk_X10_isHeadTold 67 rfl) rfl ?_
          refine am_iload_n (q := 118) rfl (am_tab tk_X10_isHeadTold 68 rfl) rfl ?_
          refine am_imul (q := 119) (by omega) (am_tab tk_X10_isHeadTold 69 rfl) rfl ?_
          refine am_iadd (q := 120) (by omega) (am_tab tk_X10_isHeadTold 70 rfl) rfl ?_
          refine am_iald (q := 121) (a := 56) (n := 1600) (x := (σ.2.1 56 (8 + 2 * p))) (Ls_56 hL) (by omega) (by omega) (by rw [show Int.toNat (8 + (2 * (p : Int))) = 8 + 2 * p by omega]) (am_tab tk_X10_isHeadTold 71 rfl) rfl ?_
          refine am_iconst (q := 122) (n := 1) (by decide) (am_tab tk_X10_isHeadTold 72 rfl) rfl ?_
          refine am_icmp_le (q := 125) (t := 127) (am_tab tk_X10_isHeadTold 73 rfl) (by decide) rfl (fun h122 => ?_) (fun h122 => ?_)
          · refine am_iinc (q := 130) rfl (by omega) (by decide) (ls2 := [(2, am_i (((p : Int) + 1))), (0, am_r 55), (1, am_i ((256 * (σ.2.1 56 0)) + (σ.2.1 56 1)))]) rfl (am_tab tk_X10_isHeadTold 76 rfl) rfl ?_
            refine am_goto (t := 86) (am_tab tk_X10_isHeadTold 77 rfl) (by decide) ?_
            exact am_less (by intro q hq; simp only [List.mem_cons, List.not_mem_nil, or_false] at hq; rcases hq with rfl | rfl | rfl <;> simp) (ih86 (p + 1) (by omega) (by omega) (anyB_f hq (by unfold hdB; simp only [decide_eq_false_iff_not, Classical.not_not]; omega)) hok)
          · refine am_iconst (q := 126) (n := 0) (by decide) (am_tab tk_X10_isHeadTold 74 rfl) rfl ?_
            refine am_iret (Or.inr ⟨rfl, by first | exact Or.inl rfl | exact Or.inr rfl | omega⟩) (Nat.le_of_ble_eq_true rfl) (Nat.le_of_ble_eq_true rfl) (am_tab tk_X10_isHeadTold 75 rfl) ?_
            refine hQ _ _ ?_
            refine ⟨congrArg (fun z => some (am_i z)) ?_, rfl⟩
            unfold hdC
            rw [anyB_t (g := hdB σ) (i := p) (by unfold hdB; simp only [decide_eq_true_eq]; omega) (by omega)]; simp [b2i]
  refine am_iload_n (q := 19) rfl (am_tab tk_X10_isHeadTold 12 rfl) rfl ?_
  refine am_i2l (q := 20) (am_tab tk_X10_isHeadTold 13 rfl) rfl ?_
  refine am_lconst1 (q := 21) (am_tab tk_X10_isHeadTold 14 rfl) rfl ?_
  refine am_ldc2 (q := 24) (n := 999) (by decide) kk_X10_693 (am_tab tk_X10_isHeadTold 15 rfl) rfl ?_
  refine am_callS0 (q := 27) (me2 := M_X10_isIn) (As := [am_l (((256 * (σ.2.1 56 0)) + (σ.2.1 56 1))), am_l 1, am_l 999]) (rest := []) (out := [am_i (if 1 ≤ (((256 * (σ.2.1 56 0)) + (σ.2.1 56 1))) ∧ (((256 * (σ.2.1 56 0)) + (σ.2.1 56 1))) ≤ 999 then 1 else 0)]) (c_X10_isIn σ hL (((256 * (σ.2.1 56 0)) + (σ.2.1 56 1))) 1 999 ) ⟨rfl, rfl⟩ ⟨Or.inl km_X10_291, kc_X10_isIn, kn_X10, kd_X10_isIn, ⟨(Nat.le_of_ble_eq_true rfl), (Nat.le_of_ble_eq_true rfl)⟩, ⟨(Nat.le_of_ble_eq_true rfl), (Nat.le_of_ble_eq_true rfl)⟩, (Nat.le_of_ble_eq_true rfl)⟩ ki_X10_isIn rfl rfl (am_tab tk_X10_isHeadTold 16 rfl) rfl ?_
  refine am_if_eq (q := 30) (t := 82) (am_tab tk_X10_isHeadTold 17 rfl) (by decide) rfl (fun h27 => ?_) (fun h27 => ?_)
  · replace h27 := b01z h27
    refine am_iconst (q := 83) (n := 0) (by decide) (am_tab tk_X10_isHeadTold 46 rfl) rfl ?_
    refine am_iret (Or.inr ⟨rfl, by first | exact Or.inl rfl | exact Or.inr rfl | omega⟩) (Nat.le_of_ble_eq_true rfl) (Nat.le_of_ble_eq_true rfl) (am_tab tk_X10_isHeadTold 47 rfl) ?_
    refine hQ _ _ ?_
    refine ⟨congrArg (fun z => some (am_i z)) ?_, rfl⟩
    unfold hdC
    rw [decide_eq_false (by omega)]; rfl
  · replace h27 := b01n h27
    refine am_aload_n (q := 31) rfl (am_tab tk_X10_isHeadTold 18 rfl) rfl ?_
    refine am_getR (q := 34) (a := 55) (k := 10) (n := 108) (j := 0) (r := some (56)) (Ls_55 hL) (by decide) rfl (Lr_55_0 hL) (by decide) (Or.inl kf_X10_7) (am_tab tk_X10_isHeadTold 19 rfl) rfl ?_
    refine am_iconst (q := 35) (n := 2) (by decide) (am_tab tk_X10_isHeadTold 20 rfl) rfl ?_
    refine am_iald (q := 36) (a := 56) (n := 1600) (x := (σ.2.1 56 2)) (Ls_56 hL) (by omega) (by omega) rfl (am_tab tk_X10_isHeadTold 21 rfl) rfl ?_
    refine am_aload_n (q := 37) rfl (am_tab tk_X10_isHeadTold 22 rfl) rfl ?_
    refine am_callV0 (q := 40) (me2 := M_X10_yearDays) (b := 55) (kb := 10) (nb := 108) (As := []) (rest := [am_i ((σ.2.1 56 2))]) (out := [am_i (σ.2.1 85 9), am_i ((σ.2.1 56 2))]) (c_X10_yearDays σ hL  ) ⟨rfl, rfl⟩ (Ls_55 hL) (by decide) ⟨Or.inl km_X10_397, kc_X10_yearDays, kn_X10, kd_X10_yearDays, ⟨(Nat.le_of_ble_eq_true rfl), (Nat.le_of_ble_eq_true rfl)⟩, ⟨(Nat.le_of_ble_eq_true rfl), (Nat.le_of_ble_eq_true rfl)⟩, (Nat.le_of_ble_eq_true rfl)⟩ ki_X10_yearDays ks_X10_yearDays rfl rfl (am_tab tk_X10_isHeadTold 23 rfl) rfl ?_
    refine am_icmp_gt (q := 43) (t := 82) (am_tab tk_X10_isHeadTold 24 rfl) (by decide) rfl (fun h40 => ?_) (fun h40 => ?_)
    · refine am_iconst (q := 83) (n := 0) (by decide) (am_tab tk_X10_isHeadTold 46 rfl) rfl ?_
      refine am_iret (Or.inr ⟨rfl, by first | exact Or.inl rfl | exact Or.inr rfl | omega⟩) (Nat.le_of_ble_eq_true rfl) (Nat.le_of_ble_eq_true rfl) (am_tab tk_X10_isHeadTold 47 rfl) ?_
      refine hQ _ _ ?_
      refine ⟨congrArg (fun z => some (am_i z)) ?_, rfl⟩
      unfold hdC
      rw [decide_eq_false (by omega)]; rfl
    · refine am_aload_n (q := 44) rfl (am_tab tk_X10_isHeadTold 25 rfl) rfl ?_
      refine am_getR (q := 47) (a := 55) (k := 10) (n := 108) (j := 0) (r := some (56)) (Ls_55 hL) (by decide) rfl (Lr_55_0 hL) (by decide) (Or.inl kf_X10_7) (am_tab tk_X10_isHeadTold 26 rfl) rfl ?_
      refine am_iconst (q := 48) (n := 2) (by decide) (am_tab tk_X10_isHeadTold 27 rfl) rfl ?_
      refine am_iald (q := 49) (a := 56) (n := 1600) (x := (σ.2.1 56 2)) (Ls_56 hL) (by omega) (by omega) rfl (am_tab tk_X10_isHeadTold 28 rfl) rfl ?_
      refine am_if_ne (q := 52) (t := 57) (am_tab tk_X10_isHeadTold 29 rfl) (by decide) rfl (fun h49 => ?_) (fun h49 => ?_)
      · refine am_aload_n (q := 58) rfl (am_tab tk_X10_isHeadTold 33 rfl) rfl ?_
        refine am_getR (q := 61) (a := 55) (k := 10) (n := 108) (j := 0) (r := some (56)) (Ls_55 hL) (by decide) rfl (Lr_55_0 hL) (by decide) (Or.inl kf_X10_7) (am_tab tk_X10_isHeadTold 34 rfl) rfl ?_
        refine am_iconst (q := 62) (n := 3) (by decide) (am_tab tk_X10_isHeadTold 35 rfl) rfl ?_
        refine am_iald (q := 63) (a := 56) (n := 1600) (x := (σ.2.1 56 3)) (Ls_56 hL) (by omega) (by omega) rfl (am_tab tk_X10_isHeadTold 36 rfl) rfl ?_
        refine am_aload_n (q := 64) rfl (am_tab tk_X10_isHeadTold 37 rfl) rfl ?_
        refine am_getR (q := 67) (a := 55) (k := 10) (n := 108) (j := 0) (r := some (56)) (Ls_55 hL) (by decide) rfl (Lr_55_0 hL) (by decide) (Or.inl kf_X10_7) (am_tab tk_X10_isHeadTold 38 rfl) rfl ?_
        refine am_iconst (q := 68) (n := 2) (by decide) (am_tab tk_X10_isHeadTold 39 rfl) rfl ?_
        refine am_iald (q := 69) (a := 56) (n := 1600) (x := (σ.2.1 56 2)) (Ls_56 hL) (by omega) (by omega) rfl (am_tab tk_X10_isHeadTold 40 rfl) rfl ?_
        refine am_icmp_gt (q := 72) (t := 82) (am_tab tk_X10_isHeadTold 41 rfl) (by decide) rfl (fun h69 => ?_) (fun h69 => ?_)
        · refine am_iconst (q := 83) (n := 0) (by decide) (am_tab tk_X10_isHeadTold 46 rfl) rfl ?_
          refine am_iret (Or.inr ⟨rfl, by first | exact Or.inl rfl | exact Or.inr rfl | omega⟩) (Nat.le_of_ble_eq_true rfl) (Nat.le_of_ble_eq_true rfl) (am_tab tk_X10_isHeadTold 47 rfl) ?_
          refine hQ _ _ ?_
          refine ⟨congrArg (fun z => some (am_i z)) ?_, rfl⟩
          unfold hdC
          rw [decide_eq_false (by omega)]; rfl
        · refine am_aload_n (q := 73) rfl (am_tab tk_X10_isHeadTold 42 rfl) rfl ?_
          refine am_callV0 (q := 76) (me2 := M_X10_coinsTold) (b := 55) (kb := 10) (nb := 108) (As := []) (rest := []) (out := [am_i (coT σ)]) (c_X10_coinsTold σ hL hT) ⟨rfl, rfl⟩ (Ls_55 hL) (by decide) ⟨Or.inl km_X10_695, kc_X10_coinsTold, kn_X10, kd_X10_coinsTold, ⟨(Nat.le_of_ble_eq_true rfl), (Nat.le_of_ble_eq_true rfl)⟩, ⟨(Nat.le_of_ble_eq_true rfl), (Nat.le_of_ble_eq_true rfl)⟩, (Nat.le_of_ble_eq_true rfl)⟩ ki_X10_coinsTold ks_X10_coinsTold rfl rfl (am_tab tk_X10_isHeadTold 43 rfl) rfl ?_
          refine am_ldcw (q := 79) (n := 999999) (by decide) kk_X10_573 (am_tab tk_X10_isHeadTold 44 rfl) rfl ?_
          refine am_icmp_le (q := 82) (t := 84) (am_tab tk_X10_isHeadTold 45 rfl) (by decide) rfl (fun h79 => ?_) (fun h79 => ?_)
          · refine am_iconst (q := 85) (n := 0) (by decide) (am_tab tk_X10_isHeadTold 48 rfl) rfl ?_
            refine am_istore_n (q := 86) (by decide) (ls2 := [(2, am_i 0), (1, am_i (((256 * (σ.2.1 56 0)) + (σ.2.1 56 1)))), (0, am_r 55)]) rfl (am_tab tk_X10_isHeadTold 49 rfl) rfl ?_
            refine am_less (by intro q hq; simp only [List.mem_cons, List.not_mem_nil, or_false] at hq; rcases hq with rfl | rfl | rfl <;> simp) (L86 (_ + 1) 0 (by exact Nat.lt_succ_self _) (by omega) rfl (by omega))
          · refine am_iconst (q := 83) (n := 0) (by decide) (am_tab tk_X10_isHeadTold 46 rfl) rfl ?_
            refine am_iret (Or.inr ⟨rfl, by first | exact Or.inl rfl | exact Or.inr rfl | omega⟩) (Nat.le_of_ble_eq_true rfl) (Nat.le_of_ble_eq_true rfl) (am_tab tk_X10_isHeadTold 47 rfl) ?_
            refine hQ _ _ ?_
            refine ⟨congrArg (fun z => some (am_i z)) ?_, rfl⟩
            unfold hdC
            rw [decide_eq_false (by omega)]; rfl
      · refine am_iload_n (q := 53) rfl (am_tab tk_X10_isHeadTold 30 rfl) rfl ?_
        refine am_iconst (q := 54) (n := 1) (by decide) (am_tab tk_X10_isHeadTold 31 rfl) rfl ?_
        refine am_icmp_gt (q := 57) (t := 82) (am_tab tk_X10_isHeadTold 32 rfl) (by decide) rfl (fun h54 => ?_) (fun h54 => ?_)
        · refine am_iconst (q := 83) (n := 0) (by decide) (am_tab tk_X10_isHeadTold 46 rfl) rfl ?_
          refine am_iret (Or.inr ⟨rfl, by first | exact Or.inl rfl | exact Or.inr rfl | omega⟩) (Nat.le_of_ble_eq_true rfl) (Nat.le_of_ble_eq_true rfl) (am_tab tk_X10_isHeadTold 47 rfl) ?_
          refine hQ _ _ ?_
          refine ⟨congrArg (fun z => some (am_i z)) ?_, rfl⟩
          unfold hdC
          rw [decide_eq_false (by omega)]; rfl
        · refine am_aload_n (q := 58) rfl (am_tab tk_X10_isHeadTold 33 rfl) rfl ?_
          refine am_getR (q := 61) (a := 55) (k := 10) (n := 108) (j := 0) (r := some (56)) (Ls_55 hL) (by decide) rfl (Lr_55_0 hL) (by decide) (Or.inl kf_X10_7) (am_tab tk_X10_isHeadTold 34 rfl) rfl ?_
          refine am_iconst (q := 62) (n := 3) (by decide) (am_tab tk_X10_isHeadTold 35 rfl) rfl ?_
          refine am_iald (q := 63) (a := 56) (n := 1600) (x := (σ.2.1 56 3)) (Ls_56 hL) (by omega) (by omega) rfl (am_tab tk_X10_isHeadTold 36 rfl) rfl ?_
          refine am_aload_n (q := 64) rfl (am_tab tk_X10_isHeadTold 37 rfl) rfl ?_
          refine am_getR (q := 67) (a := 55) (k := 10) (n := 108) (j := 0) (r := some (56)) (Ls_55 hL) (by decide) rfl (Lr_55_0 hL) (by decide) (Or.inl kf_X10_7) (am_tab tk_X10_isHeadTold 38 rfl) rfl ?_
          refine am_iconst (q := 68) (n := 2) (by decide) (am_tab tk_X10_isHeadTold 39 rfl) rfl ?_
          refine am_iald (q := 69) (a := 56) (n := 1600) (x := (σ.2.1 56 2)) (Ls_56 hL) (by omega) (by omega) rfl (am_tab tk_X10_isHeadTold 40 rfl) rfl ?_
          refine am_icmp_gt (q := 72) (t := 82) (am_tab tk_X10_isHeadTold 41 rfl) (by decide) rfl (fun h69 => ?_) (fun h69 => ?_)
          · refine am_iconst (q := 83) (n := 0) (by decide) (am_tab tk_X10_isHeadTold 46 rfl) rfl ?_
            refine am_iret (Or.inr ⟨rfl, by first | exact Or.inl rfl | exact Or.inr rfl | omega⟩) (Nat.le_of_ble_eq_true rfl) (Nat.le_of_ble_eq_true rfl) (am_tab tk_X10_isHeadTold 47 rfl) ?_
            refine hQ _ _ ?_
            refine ⟨congrArg (fun z => some (am_i z)) ?_, rfl⟩
            unfold hdC
            rw [decide_eq_false (by omega)]; rfl
          · refine am_aload_n (q := 73) rfl (am_tab tk_X10_isHeadTold 42 rfl) rfl ?_
            refine am_callV0 (q := 76) (me2 := M_X10_coinsTold) (b := 55) (kb := 10) (nb := 108) (As := []) (rest := []) (out := [am_i (coT σ)]) (c_X10_coinsTold σ hL hT) ⟨rfl, rfl⟩ (Ls_55 hL) (by decide) ⟨Or.inl km_X10_695, kc_X10_coinsTold, kn_X10, kd_X10_coinsTold, ⟨(Nat.le_of_ble_eq_true rfl), (Nat.le_of_ble_eq_true rfl)⟩, ⟨(Nat.le_of_ble_eq_true rfl), (Nat.le_of_ble_eq_true rfl)⟩, (Nat.le_of_ble_eq_true rfl)⟩ ki_X10_coinsTold ks_X10_coinsTold rfl rfl (am_tab tk_X10_isHeadTold 43 rfl) rfl ?_
            refine am_ldcw (q := 79) (n := 999999) (by decide) kk_X10_573 (am_tab tk_X10_isHeadTold 44 rfl) rfl ?_
            refine am_icmp_le (q := 82) (t := 84) (am_tab tk_X10_isHeadTold 45 rfl) (by decide) rfl (fun h79 => ?_) (fun h79 => ?_)
            · refine am_iconst (q := 85) (n := 0) (by decide) (am_tab tk_X10_isHeadTold 48 rfl) rfl ?_
              refine am_istore_n (q := 86) (by decide) (ls2 := [(2, am_i 0), (1, am_i (((256 * (σ.2.1 56 0)) + (σ.2.1 56 1)))), (0, am_r 55)]) rfl (am_tab tk_X10_isHeadTold 49 rfl) rfl ?_
              refine am_less (by intro q hq; simp only [List.mem_cons, List.not_mem_nil, or_false] at hq; rcases hq with rfl | rfl | rfl <;> simp) (L86 (_ + 1) 0 (by exact Nat.lt_succ_self _) (by omega) rfl (by omega))
            · refine am_iconst (q := 83) (n := 0) (by decide) (am_tab tk_X10_isHeadTold 46 rfl) rfl ?_
              refine am_iret (Or.inr ⟨rfl, by first | exact Or.inl rfl | exact Or.inr rfl | omega⟩) (Nat.le_of_ble_eq_true rfl) (Nat.le_of_ble_eq_true rfl) (am_tab tk_X10_isHeadTold 47 rfl) ?_
              refine hQ _ _ ?_
              refine ⟨congrArg (fun z => some (am_i z)) ?_, rfl⟩
              unfold hdC
              rw [decide_eq_false (by omega)]; rfl
def sF (σ : am_H) : Nat := 7 + 2 * pN σ
def sF2 (σ : am_H) : Nat := sF σ + 1 + 2 * (σ.2.1 56 (sF σ)).toNat
/-- the first n bytes of the tape are an image of this town -/
def iiC (σ : am_H) (n : Int) : Bool := decide (¬ σ.2.1 55 52 = 0 ∧ (sF σ : Int) + 3 ≤ n ∧ σ.2.1 56 (n - 1).toNat = ckN (fun i => σ.2.1 56 i) (n - 1).toNat) && hdC σ && asC σ (sF σ) (n - 1) 0 && asC σ (sF2 σ) (n - 1) (σ.2.1 56 2) && decide ((sF2 σ : Int) + 2 + 2 * σ.2.1 56 (sF2 σ) = n)
theorem c_areS (σ : am_H) (hL : lay σ) (F : Nat) (x n le : Int) (hx : x = (F : Int)) (hT : TPR σ) (hn : 0 ≤ n ∧ n ≤ 1600) (hF : F ≤ 1600) (hP : 0 ≤ σ.2.1 85 5 ∧ σ.2.1 85 5 ≤ 8) : am_met M_X10_areSetsTold [am_r 55, am_i x, am_i n, am_i le] σ (fun r σ' => r = some (am_i (b2i (asC σ F n le))) ∧ σ' = σ) := by
  rw [hx]
  exact c_X10_areSetsTold σ hL F n le hT hn hF hP
theorem asC_get {σ : am_H} {F : Nat} {n le : Int} (h : asC σ F n le = true) : ((F : Int) < n ∧ σ.2.1 56 F ≤ 30 ∧ ((F : Int) + 1) + (2 * σ.2.1 56 F) ≤ n) ∧ anyB (asB σ F le) (σ.2.1 56 F).toNat = false := by
  unfold asC at h
  simp only [Bool.and_eq_true, decide_eq_true_eq, Bool.not_eq_true'] at h
  exact h
theorem b2t {b : Bool} (h : ¬ b2i b = 0) : b = true := by cases b <;> simp [b2i] at *
theorem b2f {b : Bool} (h : b2i b = 0) : b = false := by cases b <;> simp [b2i] at *
theorem c_X10_isImage (σ : am_H) (hL : lay σ) (n : Int) (hT : TPR σ) (hR : MR σ) (hn : 0 ≤ n ∧ n ≤ 1600) : am_met M_X10_isImage [am_r 55, am_i n] σ (fun r σ' => r = some (am_i (b2i (iiC σ n))) ∧ σ' = σ) := by
  refine am_qq (fun Q hQ => ?_)
  refine am_enter (show plainFor yX10_isImage = true by decide +kernel) rfl (Nat.le_of_ble_eq_true rfl) (fun _ _ _ => trivial) ?_
  have hN := pN_eq hR
  have h8 := pN_8 hR
  have esF : (sF σ : Int) = 7 + (2 * σ.2.1 85 5) := by unfold sF; omega
  have htF := hT.2 (sF σ) (by omega)
  have esF2 : (sF2 σ : Int) = ((7 + (2 * σ.2.1 85 5)) + 1) + (2 * (σ.2.1 56 (sF σ))) := by unfold sF2; omega
  refine am_aload_n (q := 1) rfl (am_tab tk_X10_isImage 0 rfl) rfl ?_
  refine am_getI (q := 4) (a := 55) (k := 10) (n := 108) (j := 52) (x := (σ.2.1 55 52)) (Ls_55 hL) (by decide) rfl rfl (by decide) (Or.inl kf_X10_384) (am_tab tk_X10_isImage 1 rfl) rfl ?_
  refine am_if_eq (q := 7) (t := 60) (am_tab tk_X10_isImage 2 rfl) (by decide) rfl (fun h4 => ?_) (fun h4 => ?_)
  · refine am_iconst (q := 61) (n := 0) (by decide) (am_tab tk_X10_isImage 34 rfl) rfl ?_
    refine am_iret (Or.inr ⟨rfl, by first | exact Or.inl rfl | exact Or.inr rfl | omega⟩) (Nat.le_of_ble_eq_true rfl) (Nat.le_of_ble_eq_true rfl) (am_tab tk_X10_isImage 35 rfl) ?_
    refine hQ _ _ ?_
    refine ⟨congrArg (fun z => some (am_i z)) ?_, rfl⟩
    unfold iiC
    first
      | (rw [decide_eq_false (by intro hx; first | exact absurd (by assumption) hx.1 | exact absurd hx.2.1 (by unfold sF; omega) | exact absurd hx.2.2 (by assumption))]; simp [b2i])
      | (rw [show hdC σ = false from b2f h42]; simp [b2i])
      | (rw [show asC σ (sF σ) (n - 1) 0 = false from b2f h57]; simp [b2i])
      | (rw [show asC σ (sF2 σ) (n - 1) (σ.2.1 56 2) = false from b2f h95]; simp [b2i])
      | (rw [decide_eq_false (p := (sF2 σ : Int) + 2 + 2 * σ.2.1 56 (sF2 σ) = n) (by omega)]; simp [b2i])
  · refine am_iload_n (q := 8) rfl (am_tab tk_X10_isImage 3 rfl) rfl ?_
    refine am_aload_n (q := 9) rfl (am_tab tk_X10_isImage 4 rfl) rfl ?_
    refine am_callV0 (q := 12) (me2 := M_X10_setsFrom) (b := 55) (kb := 10) (nb := 108) (As := []) (rest := [am_i n]) (out := [am_i (7 + (2 * σ.2.1 85 5)), am_i n]) (c_X10_setsFrom σ hL hR.P) ⟨rfl, rfl⟩ (Ls_55 hL) (by decide) ⟨Or.inl km_X10_698, kc_X10_setsFrom, kn_X10, kd_X10_setsFrom, ⟨(Nat.le_of_ble_eq_true rfl), (Nat.le_of_ble_eq_true rfl)⟩, ⟨(Nat.le_of_ble_eq_true rfl), (Nat.le_of_ble_eq_true rfl)⟩, (Nat.le_of_ble_eq_true rfl)⟩ ki_X10_setsFrom ks_X10_setsFrom rfl rfl (am_tab tk_X10_isImage 5 rfl) rfl ?_
    refine am_iconst (q := 13) (n := 3) (by decide) (am_tab tk_X10_isImage 6 rfl) rfl ?_
    refine am_iadd (q := 14) (by omega) (am_tab tk_X10_isImage 7 rfl) rfl ?_
    refine am_icmp_lt (q := 17) (t := 60) (am_tab tk_X10_isImage 8 rfl) (by decide) rfl (fun h14 => ?_) (fun h14 => ?_)
    · refine am_iconst (q := 61) (n := 0) (by decide) (am_tab tk_X10_isImage 34 rfl) rfl ?_
      refine am_iret (Or.inr ⟨rfl, by first | exact Or.inl rfl | exact Or.inr rfl | omega⟩) (Nat.le_of_ble_eq_true rfl) (Nat.le_of_ble_eq_true rfl) (am_tab tk_X10_isImage 35 rfl) ?_
      refine hQ _ _ ?_
      refine ⟨congrArg (fun z => some (am_i z)) ?_, rfl⟩
      unfold iiC
      first
        | (rw [decide_eq_false (by intro hx; first | exact absurd (by assumption) hx.1 | exact absurd hx.2.1 (by unfold sF; omega) | exact absurd hx.2.2 (by assumption))]; simp [b2i])
        | (rw [show hdC σ = false from b2f h42]; simp [b2i])
        | (rw [show asC σ (sF σ) (n - 1) 0 = false from b2f h57]; simp [b2i])
        | (rw [show asC σ (sF2 σ) (n - 1) (σ.2.1 56 2) = false from b2f h95]; simp [b2i])
        | (rw [decide_eq_false (p := (sF2 σ : Int) + 2 + 2 * σ.2.1 56 (sF2 σ) = n) (by omega)]; simp [b2i])
    · have ckq := c_X10_checked_56 σ hL (n - 1).toNat (by omega) (fun i hi => hT.2 i (by omega))
      rw [show (((n - 1).toNat : Nat) : Int) = n - 1 by omega] at ckq
      refine am_aload_n (q := 18) rfl (am_tab tk_X10_isImage 9 rfl) rfl ?_
      refine am_getR (q := 21) (a := 55) (k := 10) (n := 108) (j := 0) (r := some (56)) (Ls_55 hL) (by decide) rfl (Lr_55_0 hL) (by decide) (Or.inl kf_X10_7) (am_tab tk_X10_isImage 10 rfl) rfl ?_
      refine am_iload_n (q := 22) rfl (am_tab tk_X10_isImage 11 rfl) rfl ?_
      refine am_iconst (q := 23) (n := 1) (by decide) (am_tab tk_X10_isImage 12 rfl) rfl ?_
      refine am_isub (q := 24) (by omega) (am_tab tk_X10_isImage 13 rfl) rfl ?_
      refine am_iald (q := 25) (a := 56) (n := 1600) (x := (σ.2.1 56 (n - 1).toNat)) (Ls_56 hL) (by omega) (by omega) rfl (am_tab tk_X10_isImage 14 rfl) rfl ?_
      refine am_aload_n (q := 26) rfl (am_tab tk_X10_isImage 15 rfl) rfl ?_
      refine am_getR (q := 29) (a := 55) (k := 10) (n := 108) (j := 0) (r := some (56)) (Ls_55 hL) (by decide) rfl (Lr_55_0 hL) (by decide) (Or.inl kf_X10_7) (am_tab tk_X10_isImage 16 rfl) rfl ?_
      refine am_iload_n (q := 30) rfl (am_tab tk_X10_isImage 17 rfl) rfl ?_
      refine am_iconst (q := 31) (n := 1) (by decide) (am_tab tk_X10_isImage 18 rfl) rfl ?_
      refine am_isub (q := 32) (by omega) (am_tab tk_X10_isImage 19 rfl) rfl ?_
      refine am_callS0 (q := 35) (me2 := M_X10_checked) (As := [am_r 56, am_i ((n - 1))]) (rest := [am_i ((σ.2.1 56 (n - 1).toNat))]) (out := [am_i (ckN (fun i => σ.2.1 56 i) (n - 1).toNat), am_i ((σ.2.1 56 (n - 1).toNat))]) (ckq) ⟨rfl, rfl⟩ ⟨Or.inl km_X10_689, kc_X10_checked, kn_X10, kd_X10_checked, ⟨(Nat.le_of_ble_eq_true rfl), (Nat.le_of_ble_eq_true rfl)⟩, ⟨(Nat.le_of_ble_eq_true rfl), (Nat.le_of_ble_eq_true rfl)⟩, (Nat.le_of_ble_eq_true rfl)⟩ ki_X10_checked rfl rfl (am_tab tk_X10_isImage 20 rfl) rfl ?_
      refine am_icmp_ne (q := 38) (t := 60) (am_tab tk_X10_isImage 21 rfl) (by decide) rfl (fun h35 => ?_) (fun h35 => ?_)
      · refine am_iconst (q := 61) (n := 0) (by decide) (am_tab tk_X10_isImage 34 rfl) rfl ?_
        refine am_iret (Or.inr ⟨rfl, by first | exact Or.inl rfl | exact Or.inr rfl | omega⟩) (Nat.le_of_ble_eq_true rfl) (Nat.le_of_ble_eq_true rfl) (am_tab tk_X10_isImage 35 rfl) ?_
        refine hQ _ _ ?_
        refine ⟨congrArg (fun z => some (am_i z)) ?_, rfl⟩
        unfold iiC
        first
          | (rw [decide_eq_false (by intro hx; first | exact absurd (by assumption) hx.1 | exact absurd hx.2.1 (by unfold sF; omega) | exact absurd hx.2.2 (by assumption))]; simp [b2i])
          | (rw [show hdC σ = false from b2f h42]; simp [b2i])
          | (rw [show asC σ (sF σ) (n - 1) 0 = false from b2f h57]; simp [b2i])
          | (rw [show asC σ (sF2 σ) (n - 1) (σ.2.1 56 2) = false from b2f h95]; simp [b2i])
          | (rw [decide_eq_false (p := (sF2 σ : Int) + 2 + 2 * σ.2.1 56 (sF2 σ) = n) (by omega)]; simp [b2i])
      · refine am_aload_n (q := 39) rfl (am_tab tk_X10_isImage 22 rfl) rfl ?_
        refine am_callV0 (q := 42) (me2 := M_X10_isHeadTold) (b := 55) (kb := 10) (nb := 108) (As := []) (rest := []) (out := [am_i (b2i (hdC σ))]) (c_X10_isHeadTold σ hL hT hR) ⟨rfl, rfl⟩ (Ls_55 hL) (by decide) ⟨Or.inl km_X10_701, kc_X10_isHeadTold, kn_X10, kd_X10_isHeadTold, ⟨(Nat.le_of_ble_eq_true rfl), (Nat.le_of_ble_eq_true rfl)⟩, ⟨(Nat.le_of_ble_eq_true rfl), (Nat.le_of_ble_eq_true rfl)⟩, (Nat.le_of_ble_eq_true rfl)⟩ ki_X10_isHeadTold ks_X10_isHeadTold rfl rfl (am_tab tk_X10_isImage 23 rfl) rfl ?_
        refine am_if_eq (q := 45) (t := 60) (am_tab tk_X10_isImage 24 rfl) (by decide) rfl (fun h42 => ?_) (fun h42 => ?_)
        · refine am_iconst (q := 61) (n := 0) (by decide) (am_tab tk_X10_isImage 34 rfl) rfl ?_
          refine am_iret (Or.inr ⟨rfl, by first | exact Or.inl rfl | exact Or.inr rfl | omega⟩) (Nat.le_of_ble_eq_true rfl) (Nat.le_of_ble_eq_true rfl) (am_tab tk_X10_isImage 35 rfl) ?_
          refine hQ _ _ ?_
          refine ⟨congrArg (fun z => some (am_i z)) ?_, rfl⟩
          unfold iiC
          first
            | (rw [decide_eq_false (by intro hx; first | exact absurd (by assumption) hx.1 | exact absurd hx.2.1 (by unfold sF; omega) | exact absurd hx.2.2 (by assumption))]; simp [b2i])
            | (rw [show hdC σ = false from b2f h42]; simp [b2i])
            | (rw [show asC σ (sF σ) (n - 1) 0 = false from b2f h57]; simp [b2i])
            | (rw [show asC σ (sF2 σ) (n - 1) (σ.2.1 56 2) = false from b2f h95]; simp [b2i])
            | (rw [decide_eq_false (p := (sF2 σ : Int) + 2 + 2 * σ.2.1 56 (sF2 σ) = n) (by omega)]; simp [b2i])
        · refine am_aload_n (q := 46) rfl (am_tab tk_X10_isImage 25 rfl) rfl ?_
          refine am_aload_n (q := 47) rfl (am_tab tk_X10_isImage 26 rfl) rfl ?_
          refine am_callV0 (q := 50) (me2 := M_X10_setsFrom) (b := 55) (kb := 10) (nb := 108) (As := []) (rest := [am_r 55]) (out := [am_i (7 + (2 * σ.2.1 85 5)), am_r 55]) (c_X10_setsFrom σ hL hR.P) ⟨rfl, rfl⟩ (Ls_55 hL) (by decide) ⟨Or.inl km_X10_698, kc_X10_setsFrom, kn_X10, kd_X10_setsFrom, ⟨(Nat.le_of_ble_eq_true rfl), (Nat.le_of_ble_eq_true rfl)⟩, ⟨(Nat.le_of_ble_eq_true rfl), (Nat.le_of_ble_eq_true rfl)⟩, (Nat.le_of_ble_eq_true rfl)⟩ ki_X10_setsFrom ks_X10_setsFrom rfl rfl (am_tab tk_X10_isImage 27 rfl) rfl ?_
          refine am_iload_n (q := 51) rfl (am_tab tk_X10_isImage 28 rfl) rfl ?_
          refine am_iconst (q := 52) (n := 1) (by decide) (am_tab tk_X10_isImage 29 rfl) rfl ?_
          refine am_isub (q := 53) (by omega) (am_tab tk_X10_isImage 30 rfl) rfl ?_
          refine am_iconst (q := 54) (n := 0) (by decide) (am_tab tk_X10_isImage 31 rfl) rfl ?_
          refine am_callV0 (q := 57) (me2 := M_X10_areSetsTold) (b := 55) (kb := 10) (nb := 108) (As := [am_i (7 + (2 * σ.2.1 85 5)), am_i ((n - 1)), am_i 0]) (rest := []) (out := [am_i (b2i (asC σ (sF σ) (n - 1) 0))]) (c_areS σ hL (sF σ) (7 + (2 * σ.2.1 85 5)) (n - 1) 0 (by unfold sF; omega) hT (by omega) (by omega) hR.P) ⟨rfl, rfl⟩ (Ls_55 hL) (by decide) ⟨Or.inl km_X10_704, kc_X10_areSetsTold, kn_X10, kd_X10_areSetsTold, ⟨(Nat.le_of_ble_eq_true rfl), (Nat.le_of_ble_eq_true rfl)⟩, ⟨(Nat.le_of_ble_eq_true rfl), (Nat.le_of_ble_eq_true rfl)⟩, (Nat.le_of_ble_eq_true rfl)⟩ ki_X10_areSetsTold ks_X10_areSetsTold rfl rfl (am_tab tk_X10_isImage 32 rfl) rfl ?_
          refine am_if_ne (q := 60) (t := 62) (am_tab tk_X10_isImage 33 rfl) (by decide) rfl (fun h57 => ?_) (fun h57 => ?_)
          · have hg1 := (asC_get (b2t h57)).1
            refine am_aload_n (q := 63) rfl (am_tab tk_X10_isImage 36 rfl) rfl ?_
            refine am_callV0 (q := 66) (me2 := M_X10_setsFrom) (b := 55) (kb := 10) (nb := 108) (As := []) (rest := []) (out := [am_i (7 + (2 * σ.2.1 85 5))]) (c_X10_setsFrom σ hL hR.P) ⟨rfl, rfl⟩ (Ls_55 hL) (by decide) ⟨Or.inl km_X10_698, kc_X10_setsFrom, kn_X10, kd_X10_setsFrom, ⟨(Nat.le_of_ble_eq_true rfl), (Nat.le_of_ble_eq_true rfl)⟩, ⟨(Nat.le_of_ble_eq_true rfl), (Nat.le_of_ble_eq_true rfl)⟩, (Nat.le_of_ble_eq_true rfl)⟩ ki_X10_setsFrom ks_X10_setsFrom rfl rfl (am_tab tk_X10_isImage 37 rfl) rfl ?_
            refine am_iconst (q := 67) (n := 1) (by decide) (am_tab tk_X10_isImage 38 rfl) rfl ?_
            refine am_iadd (q := 68) (by omega) (am_tab tk_X10_isImage 39 rfl) rfl ?_
            refine am_iconst (q := 69) (n := 2) (by decide) (am_tab tk_X10_isImage 40 rfl) rfl ?_
            refine am_aload_n (q := 70) rfl (am_tab tk_X10_isImage 41 rfl) rfl ?_
            refine am_getR (q := 73) (a := 55) (k := 10) (n := 108) (j := 0) (r := some (56)) (Ls_55 hL) (by decide) rfl (Lr_55_0 hL) (by decide) (Or.inl kf_X10_7) (am_tab tk_X10_isImage 42 rfl) rfl ?_
            refine am_aload_n (q := 74) rfl (am_tab tk_X10_isImage 43 rfl) rfl ?_
            refine am_callV0 (q := 77) (me2 := M_X10_setsFrom) (b := 55) (kb := 10) (nb := 108) (As := []) (rest := [am_r 56, am_i 2, am_i (((7 + (2 * σ.2.1 85 5)) + 1))]) (out := [am_i (7 + (2 * σ.2.1 85 5)), am_r 56, am_i 2, am_i (((7 + (2 * σ.2.1 85 5)) + 1))]) (c_X10_setsFrom σ hL hR.P) ⟨rfl, rfl⟩ (Ls_55 hL) (by decide) ⟨Or.inl km_X10_698, kc_X10_setsFrom, kn_X10, kd_X10_setsFrom, ⟨(Nat.le_of_ble_eq_true rfl), (Nat.le_of_ble_eq_true rfl)⟩, ⟨(Nat.le_of_ble_eq_true rfl), (Nat.le_of_ble_eq_true rfl)⟩, (Nat.le_of_ble_eq_true rfl)⟩ ki_X10_setsFrom ks_X10_setsFrom rfl rfl (am_tab tk_X10_isImage 44 rfl) rfl ?_
            refine am_iald (q := 78) (a := 56) (n := 1600) (x := (σ.2.1 56 (sF σ))) (Ls_56 hL) (by omega) (by omega) (by rw [show Int.toNat (7 + (2 * σ.2.1 85 5)) = sF σ by unfold sF; omega]) (am_tab tk_X10_isImage 45 rfl) rfl ?_
            refine am_imul (q := 79) (by omega) (am_tab tk_X10_isImage 46 rfl) rfl ?_
            refine am_iadd (q := 80) (by omega) (am_tab tk_X10_isImage 47 rfl) rfl ?_
            refine am_istore_n (q := 81) (by decide) (ls2 := [(2, am_i ((((7 + (2 * σ.2.1 85 5)) + 1) + (2 * (σ.2.1 56 (sF σ)))))), (0, am_r 55), (1, am_i n)]) rfl (am_tab tk_X10_isImage 48 rfl) rfl ?_
            refine am_aload_n (q := 82) rfl (am_tab tk_X10_isImage 49 rfl) rfl ?_
            refine am_iload_n (q := 83) rfl (am_tab tk_X10_isImage 50 rfl) rfl ?_
            refine am_iload_n (q := 84) rfl (am_tab tk_X10_isImage 51 rfl) rfl ?_
            refine am_iconst (q := 85) (n := 1) (by decide) (am_tab tk_X10_isImage 52 rfl) rfl ?_
            refine am_isub (q := 86) (by omega) (am_tab tk_X10_isImage 53 rfl) rfl ?_
            refine am_aload_n (q := 87) rfl (am_tab tk_X10_isImage 54 rfl) rfl ?_
            refine am_getR (q := 90) (a := 55) (k := 10) (n := 108) (j := 0) (r := some (56)) (Ls_55 hL) (by decide) rfl (Lr_55_0 hL) (by decide) (Or.inl kf_X10_7) (am_tab tk_X10_isImage 55 rfl) rfl ?_
            refine am_iconst (q := 91) (n := 2) (by decide) (am_tab tk_X10_isImage 56 rfl) rfl ?_
            refine am_iald (q := 92) (a := 56) (n := 1600) (x := (σ.2.1 56 2)) (Ls_56 hL) (by omega) (by omega) rfl (am_tab tk_X10_isImage 57 rfl) rfl ?_
            refine am_callV0 (q := 95) (me2 := M_X10_areSetsTold) (b := 55) (kb := 10) (nb := 108) (As := [am_i ((((7 + (2 * σ.2.1 85 5)) + 1) + (2 * (σ.2.1 56 (sF σ))))), am_i ((n - 1)), am_i ((σ.2.1 56 2))]) (rest := []) (out := [am_i (b2i (asC σ (sF2 σ) (n - 1) (σ.2.1 56 2)))]) (c_areS σ hL (sF2 σ) (((7 + (2 * σ.2.1 85 5)) + 1) + (2 * (σ.2.1 56 (sF σ)))) (n - 1) (σ.2.1 56 2) (by omega) hT (by omega) (by omega) hR.P) ⟨rfl, rfl⟩ (Ls_55 hL) (by decide) ⟨Or.inl km_X10_704, kc_X10_areSetsTold, kn_X10, kd_X10_areSetsTold, ⟨(Nat.le_of_ble_eq_true rfl), (Nat.le_of_ble_eq_true rfl)⟩, ⟨(Nat.le_of_ble_eq_true rfl), (Nat.le_of_ble_eq_true rfl)⟩, (Nat.le_of_ble_eq_true rfl)⟩ ki_X10_areSetsTold ks_X10_areSetsTold rfl rfl (am_tab tk_X10_isImage 58 rfl) rfl ?_
            refine am_if_eq (q := 98) (t := 118) (am_tab tk_X10_isImage 59 rfl) (by decide) rfl (fun h95 => ?_) (fun h95 => ?_)
            · refine am_iconst (q := 119) (n := 0) (by decide) (am_tab tk_X10_isImage 74 rfl) rfl ?_
              refine am_iret (Or.inr ⟨rfl, by first | exact Or.inl rfl | exact Or.inr rfl | omega⟩) (Nat.le_of_ble_eq_true rfl) (Nat.le_of_ble_eq_true rfl) (am_tab tk_X10_isImage 75 rfl) ?_
              refine hQ _ _ ?_
              refine ⟨congrArg (fun z => some (am_i z)) ?_, rfl⟩
              unfold iiC
              first
                | (rw [decide_eq_false (by intro hx; first | exact absurd (by assumption) hx.1 | exact absurd hx.2.1 (by unfold sF; omega) | exact absurd hx.2.2 (by assumption))]; simp [b2i])
                | (rw [show hdC σ = false from b2f h42]; simp [b2i])
                | (rw [show asC σ (sF σ) (n - 1) 0 = false from b2f h57]; simp [b2i])
                | (rw [show asC σ (sF2 σ) (n - 1) (σ.2.1 56 2) = false from b2f h95]; simp [b2i])
                | (rw [decide_eq_false (p := (sF2 σ : Int) + 2 + 2 * σ.2.1 56 (sF2 σ) = n) (by omega)]; simp [b2i])
            · have hg2 := (asC_get (b2t h95)).1
              have htF2 := hT.2 (sF2 σ) (by omega)
              refine am_iload_n (q := 99) rfl (am_tab tk_X10_isImage 60 rfl) rfl ?_
              refine am_iconst (q := 100) (n := 2) (by decide) (am_tab tk_X10_isImage 61 rfl) rfl ?_
              refine am_iadd (q := 101) (by omega) (am_tab tk_X10_isImage 62 rfl) rfl ?_
              refine am_iconst (q := 102) (n := 2) (by decide) (am_tab tk_X10_isImage 63 rfl) rfl ?_
              refine am_aload_n (q := 103) rfl (am_tab tk_X10_isImage 64 rfl) rfl ?_
              refine am_getR (q := 106) (a := 55) (k := 10) (n := 108) (j := 0) (r := some (56)) (Ls_55 hL) (by decide) rfl (Lr_55_0 hL) (by decide) (Or.inl kf_X10_7) (am_tab tk_X10_isImage 65 rfl) rfl ?_
              refine am_iload_n (q := 107) rfl (am_tab tk_X10_isImage 66 rfl) rfl ?_
              refine am_iald (q := 108) (a := 56) (n := 1600) (x := (σ.2.1 56 (sF2 σ))) (Ls_56 hL) (by omega) (by omega) (by rw [show Int.toNat (((7 + (2 * σ.2.1 85 5)) + 1) + (2 * (σ.2.1 56 (sF σ)))) = sF2 σ by omega]) (am_tab tk_X10_isImage 67 rfl) rfl ?_
              refine am_imul (q := 109) (by omega) (am_tab tk_X10_isImage 68 rfl) rfl ?_
              refine am_iadd (q := 110) (by omega) (am_tab tk_X10_isImage 69 rfl) rfl ?_
              refine am_iload_n (q := 111) rfl (am_tab tk_X10_isImage 70 rfl) rfl ?_
              refine am_icmp_ne (q := 114) (t := 118) (am_tab tk_X10_isImage 71 rfl) (by decide) rfl (fun h111 => ?_) (fun h111 => ?_)
              · refine am_iconst (q := 119) (n := 0) (by decide) (am_tab tk_X10_isImage 74 rfl) rfl ?_
                refine am_iret (Or.inr ⟨rfl, by first | exact Or.inl rfl | exact Or.inr rfl | omega⟩) (Nat.le_of_ble_eq_true rfl) (Nat.le_of_ble_eq_true rfl) (am_tab tk_X10_isImage 75 rfl) ?_
                refine hQ _ _ ?_
                refine ⟨congrArg (fun z => some (am_i z)) ?_, rfl⟩
                unfold iiC
                first
                  | (rw [decide_eq_false (by intro hx; first | exact absurd (by assumption) hx.1 | exact absurd hx.2.1 (by unfold sF; omega) | exact absurd hx.2.2 (by assumption))]; simp [b2i])
                  | (rw [show hdC σ = false from b2f h42]; simp [b2i])
                  | (rw [show asC σ (sF σ) (n - 1) 0 = false from b2f h57]; simp [b2i])
                  | (rw [show asC σ (sF2 σ) (n - 1) (σ.2.1 56 2) = false from b2f h95]; simp [b2i])
                  | (rw [decide_eq_false (p := (sF2 σ : Int) + 2 + 2 * σ.2.1 56 (sF2 σ) = n) (by omega)]; simp [b2i])
              · refine am_iconst (q := 115) (n := 1) (by decide) (am_tab tk_X10_isImage 72 rfl) rfl ?_
                refine am_goto (t := 119) (am_tab tk_X10_isImage 73 rfl) (by decide) ?_
                refine am_iret (Or.inr ⟨rfl, by first | exact Or.inl rfl | exact Or.inr rfl | omega⟩) (Nat.le_of_ble_eq_true rfl) (Nat.le_of_ble_eq_true rfl) (am_tab tk_X10_isImage 75 rfl) ?_
                refine hQ _ _ ?_
                refine ⟨congrArg (fun z => some (am_i z)) ?_, rfl⟩
                unfold iiC
                rw [decide_eq_true (by unfold sF; omega), show hdC σ = true from b2t h42, show asC σ (sF σ) (n - 1) 0 = true from b2t h57, show asC σ (sF2 σ) (n - 1) (σ.2.1 56 2) = true from b2t h95, decide_eq_true (by omega)]; rfl
          · refine am_iconst (q := 61) (n := 0) (by decide) (am_tab tk_X10_isImage 34 rfl) rfl ?_
            refine am_iret (Or.inr ⟨rfl, by first | exact Or.inl rfl | exact Or.inr rfl | omega⟩) (Nat.le_of_ble_eq_true rfl) (Nat.le_of_ble_eq_true rfl) (am_tab tk_X10_isImage 35 rfl) ?_
            refine hQ _ _ ?_
            refine ⟨congrArg (fun z => some (am_i z)) ?_, rfl⟩
            unfold iiC
            first
              | (rw [decide_eq_false (by intro hx; first | exact absurd (by assumption) hx.1 | exact absurd hx.2.1 (by unfold sF; omega) | exact absurd hx.2.2 (by assumption))]; simp [b2i])
              | (rw [show hdC σ = false from b2f h42]; simp [b2i])
              | (rw [show asC σ (sF σ) (n - 1) 0 = false from b2f h57]; simp [b2i])
              | (rw [show asC σ (sF2 σ) (n - 1) (σ.2.1 56 2) = false from b2f h95]; simp [b2i])
              | (rw [decide_eq_false (p := (sF2 σ : Int) + 2 + 2 * σ.2.1 56 (sF2 σ) = n) (by omega)]; simp [b2i])
