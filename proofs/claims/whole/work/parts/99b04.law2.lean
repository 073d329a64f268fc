set_option maxRecDepth 20000 in
theorem law_head {L : Nat} {xs : Nat → Int32} {cells slots k : Nat} {σ : am_H} (hL : L ≤ 3072) (hR : RMk k cells slots) (body : 6 * (k : Int) ≤ (L : Int) - 6 → am_wp (M_L L xs) (fun r _ => r = some (am_i 1)) cells slots 27 [(3, am_i (6 * (k : Int))), (2, am_r 55), (1, am_r 0), (0, am_s 2)] [] σ) : am_wp (M_L L xs) (fun r _ => r = some (am_i 1)) cells slots 18 [(3, am_i (6 * (k : Int))), (2, am_r 55), (1, am_r 0), (0, am_s 2)] [] σ := by
  unfold RMk at hR
  refine am_iload_n (q := 19) rfl (am_tab tk_L_law 10 rfl) rfl ?_
  refine am_sload (q := 20) (k := 2) rfl (am_tab tk_L_law 11 rfl) rfl ?_
  refine am_slen (q := 21) hL (am_tab tk_L_law 12 rfl) rfl ?_
  refine am_bipush (q := 23) (n := 6) (by decide) rfl (am_tab tk_L_law 13 rfl) rfl ?_
  refine am_isub (q := 24) (by omega) (am_tab tk_L_law 14 rfl) rfl ?_
  refine am_icmp_gt (q := 27) (t := 1033) (am_tab tk_L_law 15 rfl) (by decide) rfl (fun h => ?_) (fun h => ?_)
  · refine am_iconst (q := 1034) (n := 1) (by decide) (am_tab tk_L_law 663 rfl) rfl ?_
    exact am_iret (Or.inr ⟨rfl, Or.inr rfl⟩) (by show cells ≤ 600000; omega) (by show slots ≤ 7302250; omega) (am_tab tk_L_law 664 rfl) rfl
  · exact body (by omega)
set_option maxRecDepth 20000 in
theorem law_body {L : Nat} {xs : Nat → Int32} {cells slots k : Nat} {σ : am_H} (hL : L ≤ 3072) (hkL : 6 * (k : Int) ≤ (L : Int) - 6) (hI : INV k σ) (hR : RMk k cells slots) (kk : ∀ (cells slots : Nat) (σ' : am_H), INV (k + 1) σ' → cells ≤ 131 + 5 * (k + 1) → slots ≤ 26526 + 4800 * (k + 1) → am_wp (M_L L xs) (fun r _ => r = some (am_i 1)) cells slots 1027 [(3, am_i (6 * (k : Int))), (2, am_r 55), (1, am_r 0), (0, am_s 2)] [] σ') : am_wp (M_L L xs) (fun r _ => r = some (am_i 1)) cells slots 27 [(3, am_i (6 * (k : Int))), (2, am_r 55), (1, am_r 0), (0, am_s 2)] [] σ := by
  refine am_sload (q := 28) (k := 2) rfl (am_tab tk_L_law 16 rfl) rfl ?_
  refine am_iload_n (q := 29) rfl (am_tab tk_L_law 17 rfl) rfl ?_
  refine am_sld (q := 30) (by omega) (by omega) (am_tab tk_L_law 18 rfl) rfl ?_
  refine am_bipush (q := 32) (n := 63) (by decide) rfl (am_tab tk_L_law 19 rfl) rfl ?_
  refine am_iand (q := 33) (am_tab tk_L_law 20 rfl) rfl ?_
  have hv := and63 (xs (6 * (k : Int)).toNat).toInt
  generalize ao_and (xs (6 * (k : Int)).toNat).toInt 63 = v at hv ⊢
  rcases (show v = 0 ∨ v = 1 ∨ v = 2 ∨ v = 3 ∨ v = 4 ∨ v = 5 ∨ v = 6 ∨ v = 7 ∨ v = 8 ∨ v = 9 ∨ v = 10 ∨ v = 11 ∨ v = 12 ∨ v = 13 ∨ v = 14 ∨ v = 15 ∨ v = 16 ∨ v = 17 ∨ v = 18 ∨ v = 19 ∨ v = 20 ∨ v = 21 ∨ v = 22 ∨ v = 23 ∨ v = 24 ∨ v = 25 ∨ v = 26 ∨ v = 27 ∨ v = 28 ∨ v = 29 ∨ v = 30 ∨ v = 31 ∨ v = 32 ∨ v = 33 ∨ 33 < v by omega) with rfl | rfl | rfl | rfl | rfl | rfl | rfl | rfl | rfl | rfl | rfl | rfl | rfl | rfl | rfl | rfl | rfl | rfl | rfl | rfl | rfl | rfl | rfl | rfl | rfl | rfl | rfl | rfl | rfl | rfl | rfl | rfl | rfl | rfl | hv2
  · exact am_tableIn (t := 184) (off := 151) (by decide) (by decide) rfl dsw_L_law_33 (by decide) (law_feed hL hkL hI hR kk)
  · exact am_tableIn (t := 247) (off := 214) (by decide) (by decide) rfl dsw_L_law_33 (by decide) (law_end hL hkL hI hR kk)
  · exact am_tableIn (t := 270) (off := 237) (by decide) (by decide) rfl dsw_L_law_33 (by decide) (law_town hL hkL hI hR kk)
  · exact am_tableIn (t := 283) (off := 250) (by decide) (by decide) rfl dsw_L_law_33 (by decide) (law_fault hL hkL hI hR kk)
  · exact am_tableIn (t := 306) (off := 273) (by decide) (by decide) rfl dsw_L_law_33 (by decide) (law_has hL hkL hI hR kk)
  · exact am_tableIn (t := 329) (off := 296) (by decide) (by decide) rfl dsw_L_law_33 (by decide) (law_letter hL hkL hI hR kk)
  · exact am_tableIn (t := 362) (off := 329) (by decide) (by decide) rfl dsw_L_law_33 (by decide) (law_person hL hkL hI hR kk)
  · exact am_tableIn (t := 395) (off := 362) (by decide) (by decide) rfl dsw_L_law_33 (by decide) (law_day hL hkL hI hR kk)
  · exact am_tableIn (t := 428) (off := 395) (by decide) (by decide) rfl dsw_L_law_33 (by decide) (law_kept hL hkL hI hR kk)
  · exact am_tableIn (t := 461) (off := 428) (by decide) (by decide) rfl dsw_L_law_33 (by decide) (law_later hL hkL hI hR kk)
  · exact am_tableIn (t := 494) (off := 461) (by decide) (by decide) rfl dsw_L_law_33 (by decide) (law_first hL hkL hI hR kk)
  · exact am_tableIn (t := 517) (off := 484) (by decide) (by decide) rfl dsw_L_law_33 (by decide) (law_hangs hL hkL hI hR kk)
  · exact am_tableIn (t := 540) (off := 507) (by decide) (by decide) rfl dsw_L_law_33 (by decide) (law_sure hL hkL hI hR kk)
  · exact am_tableIn (t := 563) (off := 530) (by decide) (by decide) rfl dsw_L_law_33 (by decide) (law_slips hL hkL hI hR kk)
  · exact am_tableIn (t := 586) (off := 553) (by decide) (by decide) rfl dsw_L_law_33 (by decide) (law_costs hL hkL hI hR kk)
  · exact am_tableIn (t := 609) (off := 576) (by decide) (by decide) rfl dsw_L_law_33 (by decide) (law_cheapest hL hkL hI hR kk)
  · exact am_tableIn (t := 632) (off := 599) (by decide) (by decide) rfl dsw_L_law_33 (by decide) (law_enough hL hkL hI hR kk)
  · exact am_tableIn (t := 655) (off := 622) (by decide) (by decide) rfl dsw_L_law_33 (by decide) (law_turnsOf hL hkL hI hR kk)
  · exact am_tableIn (t := 678) (off := 645) (by decide) (by decide) rfl dsw_L_law_33 (by decide) (law_see hL hkL hI hR kk)
  · exact am_tableIn (t := 691) (off := 658) (by decide) (by decide) rfl dsw_L_law_33 (by decide) (law_thought hL hkL hI hR kk)
  · exact am_tableIn (t := 714) (off := 681) (by decide) (by decide) rfl dsw_L_law_33 (by decide) (law_hours hL hkL hI hR kk)
  · exact am_tableIn (t := 737) (off := 704) (by decide) (by decide) rfl dsw_L_law_33 (by decide) (law_law hL hkL hI hR kk)
  · exact am_tableIn (t := 760) (off := 727) (by decide) (by decide) rfl dsw_L_law_33 (by decide) (law_go hL hkL hI hR kk)
  · exact am_tableIn (t := 783) (off := 750) (by decide) (by decide) rfl dsw_L_law_33 (by decide) (law_tell hL hkL hI hR kk)
  · exact am_tableIn (t := 816) (off := 783) (by decide) (by decide) rfl dsw_L_law_33 (by decide) (law_bribe hL hkL hI hR kk)
  · exact am_tableIn (t := 849) (off := 816) (by decide) (by decide) rfl dsw_L_law_33 (by decide) (law_dies hL hkL hI hR kk)
  · exact am_tableIn (t := 872) (off := 839) (by decide) (by decide) rfl dsw_L_law_33 (by decide) (law_chance hL hkL hI hR kk)
  · exact am_tableIn (t := 895) (off := 862) (by decide) (by decide) rfl dsw_L_law_33 (by decide) (law_undo hL hkL hI hR kk)
  · exact am_tableIn (t := 908) (off := 875) (by decide) (by decide) rfl dsw_L_law_33 (by decide) (law_seed hL hkL hI hR kk)
  · exact am_tableIn (t := 931) (off := 898) (by decide) (by decide) rfl dsw_L_law_33 (by decide) (law_ask hL hkL hI hR kk)
  · exact am_tableIn (t := 955) (off := 922) (by decide) (by decide) rfl dsw_L_law_33 (by decide) (law_image hL hkL hI hR kk)
  · exact am_tableIn (t := 968) (off := 935) (by decide) (by decide) rfl dsw_L_law_33 (by decide) (law_octet hL hkL hI hR kk)
  · exact am_tableIn (t := 991) (off := 958) (by decide) (by decide) rfl dsw_L_law_33 (by decide) (law_on hL hkL hI hR kk)
  · exact am_tableIn (t := 1004) (off := 971) (by decide) (by decide) rfl dsw_L_law_33 (by decide) (law_status hL hkL hI hR kk)
  · refine am_tableOut (t := 1027) (Or.inr (by omega)) dsw_L_law_33 (by decide) ?_
    obtain ⟨t, f, c, h⟩ := hI
    unfold RMk at hR
    exact kk cells slots σ ⟨t, f, c, h.up (by omega)⟩ (by omega) (by omega)
set_option maxRecDepth 20000 in
theorem law_loop {L : Nat} {xs : Nat → Int32} (hL : L ≤ 3072) : ∀ (n k cells slots : Nat) (σ : am_H), L ≤ 6 * k + n → INV k σ → RMk k cells slots → am_wp (M_L L xs) (fun r _ => r = some (am_i 1)) cells slots 18 [(3, am_i (6 * (k : Int))), (2, am_r 55), (1, am_r 0), (0, am_s 2)] [] σ := by
  intro n
  induction n with
  | zero =>
    intro k cells slots σ hn hI hR
    exact law_head hL hR (fun h => by omega)
  | succ n ih =>
    intro k cells slots σ hn hI hR
    refine law_head hL hR (fun hkL => law_body hL hkL hI hR (fun cells2 slots2 σ' hI2 h1 h2 => ?_))
    refine am_iinc (q := 1030) (i := 3) (x := 6 * (k : Int)) (n := 6) (ls2 := [(3, am_i (6 * ((k + 1 : Nat) : Int))), (2, am_r 55), (1, am_r 0), (0, am_s 2)]) rfl (by omega) (Nat.le_of_ble_eq_true rfl) (by rw [show 6 * ((k + 1 : Nat) : Int) = 6 * (k : Int) + 6 by omega]; rfl) (am_tab tk_L_law 661 rfl) rfl ?_
    refine am_goto (t := 18) (am_tab tk_L_law 662 rfl) (by decide) ?_
    exact ih (k + 1) cells2 slots2 σ' (by omega) hI2 (by unfold RMk; exact ⟨by omega, h1, h2⟩)
theorem s_len9 : (iX9 (am_newAt am_0 0 9 17)).1.length = 55 := by decide +kernel
theorem s_now9 : (mj_77 (am_newAt (iX9 (am_newAt am_0 0 9 17)) 55 10 108)).1[96]? = some (11, 443) := by decide +kernel
theorem s_nor9 : (mj_77 (am_newAt (iX9 (am_newAt am_0 0 9 17)) 55 10 108)).2.2 55 54 = some 96 := by decide +kernel
set_option maxRecDepth 20000 in
theorem law_all {L : Nat} {xs : Nat → Int32} (hL : L ≤ 3072) : am_wp (M_L L xs) (fun r _ => r = some (am_i 1)) 0 0 0 [(0, am_s 2)] [] am_0 := by
  refine am_newOa (q := 3) (a := 0) (k := 9) rfl (by decide) kl_L_7 kt_X9 kn_X9 (Nat.le_of_ble_eq_true rfl) (Nat.le_of_ble_eq_true rfl) (am_tab tk_L_law 0 rfl) rfl ?_
  refine am_dup (q := 4) rfl (am_tab tk_L_law 1 rfl) rfl ?_
  refine am_callI0 (q := 7) (me2 := M_X9_init) (b := 0) (As := []) (rest := [am_r 0]) (c_X9_init _ rfl rfl) rfl rfl ⟨Or.inl km_L_9, kc_X9_init, kn_X9, kd_X9_init, ⟨(Nat.le_of_ble_eq_true rfl), (Nat.le_of_ble_eq_true rfl)⟩, ⟨(Nat.le_of_ble_eq_true rfl), (Nat.le_of_ble_eq_true rfl)⟩, (Nat.le_of_ble_eq_true rfl)⟩ ki_X9_init rfl (am_tab tk_L_law 2 rfl) rfl ?_
  refine am_astore_n (q := 8) (Nat.le_of_ble_eq_true rfl) (ls2 := [(1, am_r 0), (0, am_s 2)]) rfl (am_tab tk_L_law 3 rfl) rfl ?_
  refine am_newOa (q := 11) (a := 55) (k := 10) s_len9 (by decide) kl_L_10 kt_X10 kn_X10 (Nat.le_of_ble_eq_true rfl) (Nat.le_of_ble_eq_true rfl) (am_tab tk_L_law 4 rfl) rfl ?_
  refine am_dup (q := 12) rfl (am_tab tk_L_law 5 rfl) rfl ?_
  refine am_callI0 (q := 15) (me2 := M_X10_init) (b := 55) (As := []) (rest := [am_r 55]) (c_X10_init _ (am_newAt_len s_len9) (am_newAt_at s_len9) s_now9 s_nor9) rfl rfl ⟨Or.inl km_L_12, kc_X10_init, kn_X10, kd_X10_init, ⟨(Nat.le_of_ble_eq_true rfl), (Nat.le_of_ble_eq_true rfl)⟩, ⟨(Nat.le_of_ble_eq_true rfl), (Nat.le_of_ble_eq_true rfl)⟩, (Nat.le_of_ble_eq_true rfl)⟩ ki_X10_init rfl (am_tab tk_L_law 6 rfl) rfl ?_
  refine am_astore_n (q := 16) (Nat.le_of_ble_eq_true rfl) (ls2 := [(2, am_r 55), (1, am_r 0), (0, am_s 2)]) rfl (am_tab tk_L_law 7 rfl) rfl ?_
  refine am_iconst (q := 17) (n := 0) (by decide) (am_tab tk_L_law 8 rfl) rfl ?_
  refine am_istore_n (q := 18) (Nat.le_of_ble_eq_true rfl) (ls2 := [(3, am_i 0), (2, am_r 55), (1, am_r 0), (0, am_s 2)]) rfl (am_tab tk_L_law 9 rfl) rfl ?_
  exact law_loop hL L 0 _ _ s_init (by omega) INV_0 ⟨by omega, Nat.le_of_ble_eq_true rfl, Nat.le_of_ble_eq_true rfl⟩
