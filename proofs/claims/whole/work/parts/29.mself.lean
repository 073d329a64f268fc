theorem nfS (S : am_H) (g g2 : Nat → Int) (z z2 : Int) : am_setN (am_setA (am_setN (am_setA S 129 g) 55 103 z) 129 g2) 55 103 z2 = am_setN (am_setA S 129 g2) 55 103 z2 := by
  refine am_Hext rfl (fun b i => ?_) (fun _ _ => rfl)
  simp only [am_setN, am_setA]
  by_cases h1 : b = 55 ∧ i = 103
  · simp [h1]
  · by_cases h2 : b = 129
    · simp [h2]
    · simp [h1, h2]
/-- who thinks of himself, with these told off and those bribed -/
def selB (S : am_H) (ts bs : Int) (p : Nat) : Bool := decide (¬ S.2.1 96 (12 + p) = 1 ∧ ¬ tb bs p = 1 ∧ (if S.2.1 93 2 = -1 then tb ts p = 1 else tdM S 0 p = 1))
theorem selves_loop (S : am_H) (hL : lay S) (hR : MR S) (hK : RK S) (ts bs : Int) (hts : 0 ≤ ts ∧ ts < 256) (hbs : 0 ≤ bs ∧ bs < 256) (ha : 0 ≤ S.2.1 55 56 ∧ S.2.1 55 56 < 256) (ht : 0 ≤ S.2.1 55 61 ∧ S.2.1 55 61 < 256) (ho : 0 ≤ S.2.1 55 59 ∧ S.2.1 55 59 ≤ 99) (hf : 0 ≤ S.2.1 55 57 ∧ S.2.1 55 57 ≤ 1) (hz : 0 ≤ S.2.1 55 58 ∧ S.2.1 55 58 ≤ 1) (N : Nat) (hN : S.2.1 85 5 = N) (h8 : N ≤ 8) : ∀ (m i : Nat) (g : Nat → Int) (z : Int), i + m = N → am_wp M_X10_selves (fun r σ' => r = some (am_i (mkS (selB S ts bs) N)) ∧ ∃ g : Nat → Int, ∃ z : Int, σ' = am_setN (am_setA S 129 g) 55 103 z) 0 0 10 [(4, am_i ((i : Int))), (3, am_i (mkS (selB S ts bs) i)), (0, am_r 55), (1, am_i ts), (2, am_i bs)] [] (am_setN (am_setA S 129 g) 55 103 z) := by
  intro m
  induction m with
  | zero =>
    intro i g z hi
    refine am_iload (q := 12) rfl (am_tab tk_X10_selves 7 rfl) rfl ?_
    refine am_aload_n (q := 13) rfl (am_tab tk_X10_selves 8 rfl) rfl ?_
    refine am_callV0 (q := 16) (me2 := M_X10_peopleMany) (b := 55) (kb := 10) (nb := 108) (As := []) (rest := [am_i ((i : Int))]) (out := [am_i (S.2.1 85 5), am_i ((i : Int))]) (c_X10_peopleMany ((am_setN (am_setA S 129 g) 55 103 z)) hL  ) ⟨rfl, rfl⟩ (Ls_55 hL) (by decide) ⟨Or.inl km_X10_394, kc_X10_peopleMany, kn_X10, kd_X10_peopleMany, ⟨(Nat.le_of_ble_eq_true rfl), (Nat.le_of_ble_eq_true rfl)⟩, ⟨(Nat.le_of_ble_eq_true rfl), (Nat.le_of_ble_eq_true rfl)⟩, (Nat.le_of_ble_eq_true rfl)⟩ ki_X10_peopleMany ks_X10_peopleMany rfl rfl (am_tab tk_X10_selves 9 rfl) rfl ?_
    refine am_icmp_ge (q := 19) (t := 87) (am_tab tk_X10_selves 10 rfl) (by decide) rfl (fun h16 => ?_) (fun h16 => ?_)
    · refine am_iload_n (q := 88) rfl (am_tab tk_X10_selves 50 rfl) rfl ?_
      refine am_iret (Or.inl rfl) (Nat.le_of_ble_eq_true rfl) (Nat.le_of_ble_eq_true rfl) (am_tab tk_X10_selves 51 rfl) ?_
      exact ⟨by rw [show i = N by omega], g, z, rfl⟩
    · exact absurd h16 (by omega)
  | succ m ih =>
    intro i g z hi
    have e1 : ((12 : Int) + (i : Int)).toNat = 12 + i := by omega
    refine am_iload (q := 12) rfl (am_tab tk_X10_selves 7 rfl) rfl ?_
    refine am_aload_n (q := 13) rfl (am_tab tk_X10_selves 8 rfl) rfl ?_
    refine am_callV0 (q := 16) (me2 := M_X10_peopleMany) (b := 55) (kb := 10) (nb := 108) (As := []) (rest := [am_i ((i : Int))]) (out := [am_i (S.2.1 85 5), am_i ((i : Int))]) (c_X10_peopleMany ((am_setN (am_setA S 129 g) 55 103 z)) hL  ) ⟨rfl, rfl⟩ (Ls_55 hL) (by decide) ⟨Or.inl km_X10_394, kc_X10_peopleMany, kn_X10, kd_X10_peopleMany, ⟨(Nat.le_of_ble_eq_true rfl), (Nat.le_of_ble_eq_true rfl)⟩, ⟨(Nat.le_of_ble_eq_true rfl), (Nat.le_of_ble_eq_true rfl)⟩, (Nat.le_of_ble_eq_true rfl)⟩ ki_X10_peopleMany ks_X10_peopleMany rfl rfl (am_tab tk_X10_selves 9 rfl) rfl ?_
    refine am_icmp_ge (q := 19) (t := 87) (am_tab tk_X10_selves 10 rfl) (by decide) rfl (fun h16 => ?_) (fun h16 => ?_)
    · exact absurd h16 (by omega)
    · refine am_aload_n (q := 20) rfl (am_tab tk_X10_selves 11 rfl) rfl ?_
      refine am_iload (q := 22) rfl (am_tab tk_X10_selves 12 rfl) rfl ?_
      refine am_callV0 (q := 25) (me2 := M_X10_isDead) (b := 55) (kb := 10) (nb := 108) (As := [am_i ((i : Int))]) (rest := []) (out := [am_i (if S.2.1 96 (12 + (i : Int)).toNat = 1 then 1 else 0)]) (c_X10_isDead ((am_setN (am_setA S 129 g) 55 103 z)) hL (i : Int) (by omega)) ⟨rfl, rfl⟩ (Ls_55 hL) (by decide) ⟨Or.inl km_X10_400, kc_X10_isDead, kn_X10, kd_X10_isDead, ⟨(Nat.le_of_ble_eq_true rfl), (Nat.le_of_ble_eq_true rfl)⟩, ⟨(Nat.le_of_ble_eq_true rfl), (Nat.le_of_ble_eq_true rfl)⟩, (Nat.le_of_ble_eq_true rfl)⟩ ki_X10_isDead ks_X10_isDead rfl rfl (am_tab tk_X10_selves 13 rfl) rfl ?_
      refine am_if_ne (q := 28) (t := 81) (am_tab tk_X10_selves 14 rfl) (by decide) rfl (fun h25 => ?_) (fun h25 => ?_)
      · replace h25 := b01n h25
        refine am_iinc (q := 84) rfl (by omega) (by decide) (ls2 := [(4, am_i (((i : Int) + 1))), (3, am_i (mkS (selB S ts bs) i)), (0, am_r 55), (1, am_i ts), (2, am_i bs)]) rfl (am_tab tk_X10_selves 48 rfl) rfl ?_
        refine am_goto (t := 10) (am_tab tk_X10_selves 49 rfl) (by decide) ?_
        try rw [e1] at h25
        try rw [tb_eq hbs ⟨by omega, by omega⟩] at h35
        try rw [tb_eq hts ⟨by omega, by omega⟩] at h58
        have hs : ¬ selB S ts bs i = true := by unfold selB; simp_all
        rw [mkS_no (selB S ts bs) (n := i) hs]
        exact am_less (by intro q hq; simp only [List.mem_cons, List.not_mem_nil, or_false] at hq; rcases hq with rfl | rfl | rfl | rfl | rfl <;> simp) (ih (i + 1) g z (by omega))
      · replace h25 := b01z h25
        refine am_iload_n (q := 29) rfl (am_tab tk_X10_selves 15 rfl) rfl ?_
        refine am_iload (q := 31) rfl (am_tab tk_X10_selves 16 rfl) rfl ?_
        refine am_ishr (q := 32) (am_tab tk_X10_selves 17 rfl) rfl ?_
        refine am_iconst (q := 33) (n := 1) (by decide) (am_tab tk_X10_selves 18 rfl) rfl ?_
        refine am_iand (q := 34) (am_tab tk_X10_selves 19 rfl) rfl ?_
        refine am_iconst (q := 35) (n := 1) (by decide) (am_tab tk_X10_selves 20 rfl) rfl ?_
        refine am_icmp_ne (q := 38) (t := 41) (am_tab tk_X10_selves 21 rfl) (by decide) rfl (fun h35 => ?_) (fun h35 => ?_)
        · refine am_aload_n (q := 42) rfl (am_tab tk_X10_selves 23 rfl) rfl ?_
          refine am_getR (q := 45) (a := 55) (k := 10) (n := 108) (j := 47) (r := some (93)) (Ls_55 hL) (by decide) rfl (Lr_55_47 hL) (by decide) (Or.inl kf_X10_127) (am_tab tk_X10_selves 24 rfl) rfl ?_
          refine am_iconst (q := 46) (n := 2) (by decide) (am_tab tk_X10_selves 25 rfl) rfl ?_
          refine am_iald (q := 47) (a := 93) (n := 4) (x := (S.2.1 93 2)) (Ls_93 hL) (by omega) (by omega) rfl (am_tab tk_X10_selves 26 rfl) rfl ?_
          refine am_iconst (q := 48) (n := (-1)) (by decide) (am_tab tk_X10_selves 27 rfl) rfl ?_
          refine am_icmp_ne (q := 51) (t := 64) (am_tab tk_X10_selves 28 rfl) (by decide) rfl (fun h48 => ?_) (fun h48 => ?_)
          · refine am_aload_n (q := 65) rfl (am_tab tk_X10_selves 37 rfl) rfl ?_
            refine am_iconst (q := 66) (n := 0) (by decide) (am_tab tk_X10_selves 38 rfl) rfl ?_
            refine am_iload (q := 68) rfl (am_tab tk_X10_selves 39 rfl) rfl ?_
            refine am_callVr (q := 71) (me2 := M_X10_isTold) (b := 55) (kb := 10) (nb := 108) (As := [am_i 0, am_i ((i : Int))]) (rest := []) (c_told ((am_setN (am_setA S 129 g) 55 103 z)) hL hR hK 0 i (by omega) (by omega) ha ht ho hf hz h48) ⟨rfl, rfl⟩ (Ls_55 hL) (by decide) ⟨Or.inl km_X10_432, kc_X10_isTold, kn_X10, kd_X10_isTold, ⟨(Nat.le_of_ble_eq_true rfl), (Nat.le_of_ble_eq_true rfl)⟩, ⟨(Nat.le_of_ble_eq_true rfl), (Nat.le_of_ble_eq_true rfl)⟩, (Nat.le_of_ble_eq_true rfl)⟩ ki_X10_isTold ks_X10_isTold rfl (am_tab tk_X10_selves 40 rfl) rfl ?_
            rintro r σ2 ⟨rfl, g2, z2, rfl⟩
            refine am_hp2 (σ1 := (am_setN (am_setA S 129 g2) 55 103 z2)) (nfS _ _ _ _ _) ?_
            refine am_st (st2 := [am_i (if tdM S 0 i = 1 then 1 else 0)]) rfl ?_
            refine am_if_eq (q := 74) (t := 81) (am_tab tk_X10_selves 41 rfl) (by decide) rfl (fun h71 => ?_) (fun h71 => ?_)
            · replace h71 := b01z h71
              refine am_iinc (q := 84) rfl (by omega) (by decide) (ls2 := [(4, am_i (((i : Int) + 1))), (3, am_i (mkS (selB S ts bs) i)), (0, am_r 55), (1, am_i ts), (2, am_i bs)]) rfl (am_tab tk_X10_selves 48 rfl) rfl ?_
              refine am_goto (t := 10) (am_tab tk_X10_selves 49 rfl) (by decide) ?_
              try rw [e1] at h25
              try rw [tb_eq hbs ⟨by omega, by omega⟩] at h35
              try rw [tb_eq hts ⟨by omega, by omega⟩] at h58
              have hs : ¬ selB S ts bs i = true := by unfold selB; simp_all
              rw [mkS_no (selB S ts bs) (n := i) hs]
              exact am_less (by intro q hq; simp only [List.mem_cons, List.not_mem_nil, or_false] at hq; rcases hq with rfl | rfl | rfl | rfl | rfl <;> simp) (ih (i + 1) g2 z2 (by omega))
            · replace h71 := b01n h71
              refine am_iload_n (q := 75) rfl (am_tab tk_X10_selves 42 rfl) rfl ?_
              refine am_iconst (q := 76) (n := 1) (by decide) (am_tab tk_X10_selves 43 rfl) rfl ?_
              refine am_iload (q := 78) rfl (am_tab tk_X10_selves 44 rfl) rfl ?_
              refine am_ishl (q := 79) (am_tab tk_X10_selves 45 rfl) rfl ?_
              refine am_ior (q := 80) (am_tab tk_X10_selves 46 rfl) rfl ?_
              refine am_istore_n (q := 81) (by decide) (ls2 := [(3, am_i ((ao_or (mkS (selB S ts bs) i) ((ao_shl 1 (i : Int)))))), (4, am_i ((i : Int))), (0, am_r 55), (1, am_i ts), (2, am_i bs)]) rfl (am_tab tk_X10_selves 47 rfl) rfl ?_
              refine am_iinc (q := 84) rfl (by omega) (by decide) (ls2 := [(4, am_i (((i : Int) + 1))), (3, am_i ((ao_or (mkS (selB S ts bs) i) ((ao_shl 1 (i : Int)))))), (0, am_r 55), (1, am_i ts), (2, am_i bs)]) rfl (am_tab tk_X10_selves 48 rfl) rfl ?_
              refine am_goto (t := 10) (am_tab tk_X10_selves 49 rfl) (by decide) ?_
              try rw [e1] at h25
              try rw [tb_eq hbs ⟨by omega, by omega⟩] at h35
              try rw [tb_eq hts ⟨by omega, by omega⟩] at h58
              have hs : selB S ts bs i = true := by unfold selB; simp_all
              rw [mkS_or (selB S ts bs) (n := i) (by omega) hs]
              exact am_less (by intro q hq; simp only [List.mem_cons, List.not_mem_nil, or_false] at hq; rcases hq with rfl | rfl | rfl | rfl | rfl <;> simp) (ih (i + 1) g2 z2 (by omega))
          · refine am_iload_n (q := 52) rfl (am_tab tk_X10_selves 29 rfl) rfl ?_
            refine am_iload (q := 54) rfl (am_tab tk_X10_selves 30 rfl) rfl ?_
            refine am_ishr (q := 55) (am_tab tk_X10_selves 31 rfl) rfl ?_
            refine am_iconst (q := 56) (n := 1) (by decide) (am_tab tk_X10_selves 32 rfl) rfl ?_
            refine am_iand (q := 57) (am_tab tk_X10_selves 33 rfl) rfl ?_
            refine am_iconst (q := 58) (n := 1) (by decide) (am_tab tk_X10_selves 34 rfl) rfl ?_
            refine am_icmp_ne (q := 61) (t := 81) (am_tab tk_X10_selves 35 rfl) (by decide) rfl (fun h58 => ?_) (fun h58 => ?_)
            · refine am_iinc (q := 84) rfl (by omega) (by decide) (ls2 := [(4, am_i (((i : Int) + 1))), (3, am_i (mkS (selB S ts bs) i)), (0, am_r 55), (1, am_i ts), (2, am_i bs)]) rfl (am_tab tk_X10_selves 48 rfl) rfl ?_
              refine am_goto (t := 10) (am_tab tk_X10_selves 49 rfl) (by decide) ?_
              try rw [e1] at h25
              try rw [tb_eq hbs ⟨by omega, by omega⟩] at h35
              try rw [tb_eq hts ⟨by omega, by omega⟩] at h58
              have hs : ¬ selB S ts bs i = true := by unfold selB; simp_all
              rw [mkS_no (selB S ts bs) (n := i) hs]
              exact am_less (by intro q hq; simp only [List.mem_cons, List.not_mem_nil, or_false] at hq; rcases hq with rfl | rfl | rfl | rfl | rfl <;> simp) (ih (i + 1) g z (by omega))
            · refine am_goto (t := 74) (am_tab tk_X10_selves 36 rfl) (by decide) ?_
              refine am_iload_n (q := 75) rfl (am_tab tk_X10_selves 42 rfl) rfl ?_
              refine am_iconst (q := 76) (n := 1) (by decide) (am_tab tk_X10_selves 43 rfl) rfl ?_
              refine am_iload (q := 78) rfl (am_tab tk_X10_selves 44 rfl) rfl ?_
              refine am_ishl (q := 79) (am_tab tk_X10_selves 45 rfl) rfl ?_
              refine am_ior (q := 80) (am_tab tk_X10_selves 46 rfl) rfl ?_
              refine am_istore_n (q := 81) (by decide) (ls2 := [(3, am_i ((ao_or (mkS (selB S ts bs) i) ((ao_shl 1 (i : Int)))))), (4, am_i ((i : Int))), (0, am_r 55), (1, am_i ts), (2, am_i bs)]) rfl (am_tab tk_X10_selves 47 rfl) rfl ?_
              refine am_iinc (q := 84) rfl (by omega) (by decide) (ls2 := [(4, am_i (((i : Int) + 1))), (3, am_i ((ao_or (mkS (selB S ts bs) i) ((ao_shl 1 (i : Int)))))), (0, am_r 55), (1, am_i ts), (2, am_i bs)]) rfl (am_tab tk_X10_selves 48 rfl) rfl ?_
              refine am_goto (t := 10) (am_tab tk_X10_selves 49 rfl) (by decide) ?_
              try rw [e1] at h25
              try rw [tb_eq hbs ⟨by omega, by omega⟩] at h35
              try rw [tb_eq hts ⟨by omega, by omega⟩] at h58
              have hs : selB S ts bs i = true := by unfold selB; simp_all
              rw [mkS_or (selB S ts bs) (n := i) (by omega) hs]
              exact am_less (by intro q hq; simp only [List.mem_cons, List.not_mem_nil, or_false] at hq; rcases hq with rfl | rfl | rfl | rfl | rfl <;> simp) (ih (i + 1) g z (by omega))
        · refine am_goto (t := 81) (am_tab tk_X10_selves 22 rfl) (by decide) ?_
          refine am_iinc (q := 84) rfl (by omega) (by decide) (ls2 := [(4, am_i (((i : Int) + 1))), (3, am_i (mkS (selB S ts bs) i)), (0, am_r 55), (1, am_i ts), (2, am_i bs)]) rfl (am_tab tk_X10_selves 48 rfl) rfl ?_
          refine am_goto (t := 10) (am_tab tk_X10_selves 49 rfl) (by decide) ?_
          try rw [e1] at h25
          try rw [tb_eq hbs ⟨by omega, by omega⟩] at h35
          try rw [tb_eq hts ⟨by omega, by omega⟩] at h58
          have hs : ¬ selB S ts bs i = true := by unfold selB; simp_all
          rw [mkS_no (selB S ts bs) (n := i) hs]
          exact am_less (by intro q hq; simp only [List.mem_cons, List.not_mem_nil, or_false] at hq; rcases hq with rfl | rfl | rfl | rfl | rfl <;> simp) (ih (i + 1) g z (by omega))
