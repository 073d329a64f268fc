theorem ob_all : (List.range 256).all (fun s => (List.range 8).all (fun p => decide (tb (s : Nat) (p : Nat) = 0 → ao_or (s : Nat) (ao_shl 1 (p : Nat)) = (s : Nat) + 2 ^ p ∧ (s : Int) + 2 ^ p < 256))) = true := by decide +kernel
theorem ob_eq {s : Int} {p : Nat} (hs : 0 ≤ s ∧ s < 256) (hp : p < 8) (h : tb s p = 0) : ao_or s (ao_shl 1 (p : Int)) = s + 2 ^ p ∧ s + 2 ^ p < 256 := by
  obtain ⟨a, rfl⟩ : ∃ n : Nat, s = n := ⟨s.toNat, by omega⟩
  exact of_decide_eq_true (List.all_eq_true.mp (List.all_eq_true.mp ob_all a (List.mem_range.mpr (by omega))) p (List.mem_range.mpr hp)) h
theorem pow_pos8 (p : Nat) : (0 : Int) < 2 ^ p := Int.pow_pos (by omega)
/-- does the next one come to think -/
def rgo (S : am_H) (bs set : Int) (p : Nat) : Bool := decide (¬ S.2.1 96 (12 + p) = 1 ∧ ¬ tb bs p = 1 ∧ ¬ tb set p = 1 ∧ rmV S p set = 1)
/-- once by all numbers -/
def rps (S : am_H) (bs set : Int) : Nat → Int
  | 0 => set
  | n + 1 => if rgo S bs (rps S bs set n) n = true then rps S bs set n + 2 ^ n else rps S bs set n
theorem rps_rng {S : am_H} {bs set : Int} (h : 0 ≤ set ∧ set < 256) : ∀ n, n ≤ 8 → set ≤ rps S bs set n ∧ rps S bs set n < 256
  | 0, _ => ⟨Int.le_refl _, h.2⟩
  | n + 1, hn => by
    have ih := rps_rng (S := S) (bs := bs) h n (by omega)
    unfold rps
    split
    · rename_i hg
      have h1 : ¬ tb (rps S bs set n) n = 1 := by
        unfold rgo at hg
        simp only [decide_eq_true_eq] at hg
        exact hg.2.2.1
      have h2 := tb_01 (rps S bs set n) n
      have h3 := (ob_eq (s := rps S bs set n) (p := n) (by omega) (by omega) (by omega)).2
      have h4 := pow_pos8 n
      omega
    · exact ih
/-- again and again -/
def rmd (S : am_H) (bs : Int) : Nat → Int → Int
  | 0, s => s
  | k + 1, s => if rps S bs s (pN S) = s then s else rmd S bs k (rps S bs s (pN S))
theorem rem_in {Q : Option am_V → am_H → Prop} (S : am_H) (hL : lay S) (hR : MR S) (hK : RK S) (bs : Int) (hbs : 0 ≤ bs ∧ bs < 256) (ha : 0 ≤ S.2.1 55 56 ∧ S.2.1 55 56 < 256) (ht : 0 ≤ S.2.1 55 61 ∧ S.2.1 55 61 < 256) (hf : 0 ≤ S.2.1 55 57 ∧ S.2.1 55 57 ≤ 1) (hz : 0 ≤ S.2.1 55 58 ∧ S.2.1 55 58 ≤ 1) (own set : Int) (hset : 0 ≤ set ∧ set < 256) (K : ∀ (o : Int) (g : Nat → Int) (z : Int), 0 ≤ o ∧ o ≤ 99 → am_wp M_X10_reminded Q 0 0 5 [(5, am_i ((pN S : Int))), (3, am_i (rps S bs set (pN S))), (4, am_i ((if rps S bs set (pN S) = set then 0 else 1))), (0, am_r 55), (1, am_i own), (2, am_i bs)] [] (SC S o g z)) : ∀ (m i : Nat) (o : Int) (g : Nat → Int) (z : Int), 0 ≤ o ∧ o ≤ 99 → i + m = pN S → am_wp M_X10_reminded Q 0 0 16 [(5, am_i ((i : Int))), (3, am_i (rps S bs set i)), (4, am_i ((if rps S bs set i = set then 0 else 1))), (0, am_r 55), (1, am_i own), (2, am_i bs)] [] (SC S o g z) := by
  have hN := pN_eq hR
  have h8 := pN_8 hR
  intro m
  induction m with
  | zero =>
    intro i o g z ho hi
    refine am_iload (q := 18) rfl (am_tab tk_X10_reminded 10 rfl) rfl ?_
    refine am_aload_n (q := 19) rfl (am_tab tk_X10_reminded 11 rfl) rfl ?_
    refine am_callV0 (q := 22) (me2 := M_X10_peopleMany) (b := 55) (kb := 10) (nb := 108) (As := []) (rest := [am_i ((i : Int))]) (out := [am_i (S.2.1 85 5), am_i ((i : Int))]) (c_X10_peopleMany (SC S o g z) hL) ⟨rfl, rfl⟩ (Ls_55 hL) (by decide) ⟨Or.inl km_X10_394, kc_X10_peopleMany, kn_X10, kd_X10_peopleMany, ⟨(Nat.le_of_ble_eq_true rfl), (Nat.le_of_ble_eq_true rfl)⟩, ⟨(Nat.le_of_ble_eq_true rfl), (Nat.le_of_ble_eq_true rfl)⟩, (Nat.le_of_ble_eq_true rfl)⟩ ki_X10_peopleMany ks_X10_peopleMany rfl rfl (am_tab tk_X10_reminded 12 rfl) rfl ?_
    refine am_icmp_ge (q := 25) (t := 83) (am_tab tk_X10_reminded 13 rfl) (by decide) rfl (fun h22 => ?_) (fun h22 => ?_)
    · refine am_goto (t := 5) (am_tab tk_X10_reminded 48 rfl) (by decide) ?_
      have e0 : i = pN S := by omega
      subst e0
      exact am_less (by intro q hq; simp only [List.mem_cons, List.not_mem_nil, or_false] at hq; rcases hq with rfl | rfl | rfl | rfl | rfl | rfl <;> simp) (K o g z ho)
    · exact absurd h22 (by omega)
  | succ m ih =>
    intro i o g z ho hi
    have e1 : ((12 : Int) + (i : Int)).toNat = 12 + i := by omega
    have hr := rps_rng (S := S) (bs := bs) hset i (by omega)
    refine am_iload (q := 18) rfl (am_tab tk_X10_reminded 10 rfl) rfl ?_
    refine am_aload_n (q := 19) rfl (am_tab tk_X10_reminded 11 rfl) rfl ?_
    refine am_callV0 (q := 22) (me2 := M_X10_peopleMany) (b := 55) (kb := 10) (nb := 108) (As := []) (rest := [am_i ((i : Int))]) (out := [am_i (S.2.1 85 5), am_i ((i : Int))]) (c_X10_peopleMany (SC S o g z) hL) ⟨rfl, rfl⟩ (Ls_55 hL) (by decide) ⟨Or.inl km_X10_394, kc_X10_peopleMany, kn_X10, kd_X10_peopleMany, ⟨(Nat.le_of_ble_eq_true rfl), (Nat.le_of_ble_eq_true rfl)⟩, ⟨(Nat.le_of_ble_eq_true rfl), (Nat.le_of_ble_eq_true rfl)⟩, (Nat.le_of_ble_eq_true rfl)⟩ ki_X10_peopleMany ks_X10_peopleMany rfl rfl (am_tab tk_X10_reminded 12 rfl) rfl ?_
    refine am_icmp_ge (q := 25) (t := 83) (am_tab tk_X10_reminded 13 rfl) (by decide) rfl (fun h22 => ?_) (fun h22 => ?_)
    · exact absurd h22 (by omega)
    · refine am_aload_n (q := 26) rfl (am_tab tk_X10_reminded 14 rfl) rfl ?_
      refine am_iload (q := 28) rfl (am_tab tk_X10_reminded 15 rfl) rfl ?_
      refine am_callV0 (q := 31) (me2 := M_X10_isDead) (b := 55) (kb := 10) (nb := 108) (As := [am_i ((i : Int))]) (rest := []) (out := [am_i (if S.2.1 96 (12 + (i : Int)).toNat = 1 then 1 else 0)]) (c_X10_isDead (SC S o g z) hL (i : Int) (by omega)) ⟨rfl, rfl⟩ (Ls_55 hL) (by decide) ⟨Or.inl km_X10_400, kc_X10_isDead, kn_X10, kd_X10_isDead, ⟨(Nat.le_of_ble_eq_true rfl), (Nat.le_of_ble_eq_true rfl)⟩, ⟨(Nat.le_of_ble_eq_true rfl), (Nat.le_of_ble_eq_true rfl)⟩, (Nat.le_of_ble_eq_true rfl)⟩ ki_X10_isDead ks_X10_isDead rfl rfl (am_tab tk_X10_reminded 16 rfl) rfl ?_
      refine am_if_ne (q := 34) (t := 77) (am_tab tk_X10_reminded 17 rfl) (by decide) rfl (fun h31 => ?_) (fun h31 => ?_)
      · replace h31 := b01n h31
        refine am_iinc (q := 80) rfl (by omega) (by decide) (ls2 := [(5, am_i (((i : Int) + 1))), (3, am_i (rps S bs set i)), (4, am_i ((if rps S bs set i = set then 0 else 1))), (0, am_r 55), (1, am_i own), (2, am_i bs)]) rfl (am_tab tk_X10_reminded 46 rfl) rfl ?_
        refine am_goto (t := 16) (am_tab tk_X10_reminded 47 rfl) (by decide) ?_
        try rw [e1] at h31
        try rw [tb_eq hbs ⟨by omega, by omega⟩] at h41
        try rw [tb_eq (s := rps S bs set i) (by omega) ⟨by omega, by omega⟩] at h51
        have hg : ¬ rgo S bs (rps S bs set i) i = true := by unfold rgo; simp only [decide_eq_true_eq]; intro hc; omega
        have hn : rps S bs set (i + 1) = rps S bs set i := by show (if _ then _ else _) = _; rw [if_neg hg]
        rw [← hn]
        exact am_less (by intro q hq; simp only [List.mem_cons, List.not_mem_nil, or_false] at hq; rcases hq with rfl | rfl | rfl | rfl | rfl | rfl <;> simp) (ih (i + 1) o g z ho (by omega))
      · replace h31 := b01z h31
        refine am_iload_n (q := 35) rfl (am_tab tk_X10_reminded 18 rfl) rfl ?_
        refine am_iload (q := 37) rfl (am_tab tk_X10_reminded 19 rfl) rfl ?_
        refine am_ishr (q := 38) (am_tab tk_X10_reminded 20 rfl) rfl ?_
        refine am_iconst (q := 39) (n := 1) (by decide) (am_tab tk_X10_reminded 21 rfl) rfl ?_
        refine am_iand (q := 40) (am_tab tk_X10_reminded 22 rfl) rfl ?_
        refine am_iconst (q := 41) (n := 1) (by decide) (am_tab tk_X10_reminded 23 rfl) rfl ?_
        refine am_icmp_eq (q := 44) (t := 77) (am_tab tk_X10_reminded 24 rfl) (by decide) rfl (fun h41 => ?_) (fun h41 => ?_)
        · refine am_iinc (q := 80) rfl (by omega) (by decide) (ls2 := [(5, am_i (((i : Int) + 1))), (3, am_i (rps S bs set i)), (4, am_i ((if rps S bs set i = set then 0 else 1))), (0, am_r 55), (1, am_i own), (2, am_i bs)]) rfl (am_tab tk_X10_reminded 46 rfl) rfl ?_
          refine am_goto (t := 16) (am_tab tk_X10_reminded 47 rfl) (by decide) ?_
          try rw [e1] at h31
          try rw [tb_eq hbs ⟨by omega, by omega⟩] at h41
          try rw [tb_eq (s := rps S bs set i) (by omega) ⟨by omega, by omega⟩] at h51
          have hg : ¬ rgo S bs (rps S bs set i) i = true := by unfold rgo; simp only [decide_eq_true_eq]; intro hc; omega
          have hn : rps S bs set (i + 1) = rps S bs set i := by show (if _ then _ else _) = _; rw [if_neg hg]
          rw [← hn]
          exact am_less (by intro q hq; simp only [List.mem_cons, List.not_mem_nil, or_false] at hq; rcases hq with rfl | rfl | rfl | rfl | rfl | rfl <;> simp) (ih (i + 1) o g z ho (by omega))
        · refine am_iload_n (q := 45) rfl (am_tab tk_X10_reminded 25 rfl) rfl ?_
          refine am_iload (q := 47) rfl (am_tab tk_X10_reminded 26 rfl) rfl ?_
          refine am_ishr (q := 48) (am_tab tk_X10_reminded 27 rfl) rfl ?_
          refine am_iconst (q := 49) (n := 1) (by decide) (am_tab tk_X10_reminded 28 rfl) rfl ?_
          refine am_iand (q := 50) (am_tab tk_X10_reminded 29 rfl) rfl ?_
          refine am_iconst (q := 51) (n := 1) (by decide) (am_tab tk_X10_reminded 30 rfl) rfl ?_
          refine am_icmp_eq (q := 54) (t := 77) (am_tab tk_X10_reminded 31 rfl) (by decide) rfl (fun h51 => ?_) (fun h51 => ?_)
          · refine am_iinc (q := 80) rfl (by omega) (by decide) (ls2 := [(5, am_i (((i : Int) + 1))), (3, am_i (rps S bs set i)), (4, am_i ((if rps S bs set i = set then 0 else 1))), (0, am_r 55), (1, am_i own), (2, am_i bs)]) rfl (am_tab tk_X10_reminded 46 rfl) rfl ?_
            refine am_goto (t := 16) (am_tab tk_X10_reminded 47 rfl) (by decide) ?_
            try rw [e1] at h31
            try rw [tb_eq hbs ⟨by omega, by omega⟩] at h41
            try rw [tb_eq (s := rps S bs set i) (by omega) ⟨by omega, by omega⟩] at h51
            have hg : ¬ rgo S bs (rps S bs set i) i = true := by unfold rgo; simp only [decide_eq_true_eq]; intro hc; omega
            have hn : rps S bs set (i + 1) = rps S bs set i := by show (if _ then _ else _) = _; rw [if_neg hg]
            rw [← hn]
            exact am_less (by intro q hq; simp only [List.mem_cons, List.not_mem_nil, or_false] at hq; rcases hq with rfl | rfl | rfl | rfl | rfl | rfl <;> simp) (ih (i + 1) o g z ho (by omega))
          · refine am_aload_n (q := 55) rfl (am_tab tk_X10_reminded 32 rfl) rfl ?_
            refine am_iload (q := 57) rfl (am_tab tk_X10_reminded 33 rfl) rfl ?_
            refine am_iload_n (q := 58) rfl (am_tab tk_X10_reminded 34 rfl) rfl ?_
            refine am_callVr (q := 61) (me2 := M_X10_isReminded) (b := 55) (kb := 10) (nb := 108) (As := [am_i ((i : Int)), am_i (rps S bs set i)]) (rest := []) (c_X10_isReminded (SC S o g z) hL i (rps S bs set i) hR hK (by omega) (by omega) ha ht ho hf hz) ⟨rfl, rfl⟩ (Ls_55 hL) (by decide) ⟨Or.inl km_X10_446, kc_X10_isReminded, kn_X10, kd_X10_isReminded, ⟨(Nat.le_of_ble_eq_true rfl), (Nat.le_of_ble_eq_true rfl)⟩, ⟨(Nat.le_of_ble_eq_true rfl), (Nat.le_of_ble_eq_true rfl)⟩, (Nat.le_of_ble_eq_true rfl)⟩ ki_X10_isReminded ks_X10_isReminded rfl (am_tab tk_X10_reminded 35 rfl) rfl ?_
            rintro r σ2 ⟨rfl, o2, g2, z2, ho2, rfl⟩
            refine am_hp2 (σ1 := SC S o2 g2 z2) (SC_SC _ _ _ _ _ _ _) ?_
            refine am_st (st2 := [am_i (rmV S i (rps S bs set i))]) rfl ?_
            refine am_if_ne (q := 64) (t := 67) (am_tab tk_X10_reminded 36 rfl) (by decide) rfl (fun h61 => ?_) (fun h61 => ?_)
            · refine am_iload_n (q := 68) rfl (am_tab tk_X10_reminded 38 rfl) rfl ?_
              refine am_iconst (q := 69) (n := 1) (by decide) (am_tab tk_X10_reminded 39 rfl) rfl ?_
              refine am_iload (q := 71) rfl (am_tab tk_X10_reminded 40 rfl) rfl ?_
              refine am_ishl (q := 72) (am_tab tk_X10_reminded 41 rfl) rfl ?_
              refine am_ior (q := 73) (am_tab tk_X10_reminded 42 rfl) rfl ?_
              refine am_istore_n (q := 74) (by decide) (ls2 := [(3, am_i ((ao_or (rps S bs set i) ((ao_shl 1 (i : Int)))))), (5, am_i ((i : Int))), (4, am_i ((if rps S bs set i = set then 0 else 1))), (0, am_r 55), (1, am_i own), (2, am_i bs)]) rfl (am_tab tk_X10_reminded 43 rfl) rfl ?_
              refine am_iconst (q := 75) (n := 1) (by decide) (am_tab tk_X10_reminded 44 rfl) rfl ?_
              refine am_istore (q := 77) (by decide) (ls2 := [(4, am_i 1), (3, am_i ((ao_or (rps S bs set i) ((ao_shl 1 (i : Int)))))), (5, am_i ((i : Int))), (0, am_r 55), (1, am_i own), (2, am_i bs)]) rfl (am_tab tk_X10_reminded 45 rfl) rfl ?_
              refine am_iinc (q := 80) rfl (by omega) (by decide) (ls2 := [(5, am_i (((i : Int) + 1))), (4, am_i 1), (3, am_i ((ao_or (rps S bs set i) ((ao_shl 1 (i : Int)))))), (0, am_r 55), (1, am_i own), (2, am_i bs)]) rfl (am_tab tk_X10_reminded 46 rfl) rfl ?_
              refine am_goto (t := 16) (am_tab tk_X10_reminded 47 rfl) (by decide) ?_
              try rw [e1] at h31
              try rw [tb_eq hbs ⟨by omega, by omega⟩] at h41
              try rw [tb_eq (s := rps S bs set i) (by omega) ⟨by omega, by omega⟩] at h51
              have hv : rmV S i (rps S bs set i) = 1 := by
                have h01 : rmV S i (rps S bs set i) = 0 ∨ rmV S i (rps S bs set i) = 1 := by unfold rmV; split; simp; split; simp; split <;> simp
                omega
              have hg : rgo S bs (rps S bs set i) i = true := by unfold rgo; simp [h31, h41, h51, hv]
              have h0 : tb (rps S bs set i) i = 0 := by have := tb_01 (rps S bs set i) i; omega
              have ho1 := ob_eq (s := rps S bs set i) (p := i) (by omega) (by omega) h0
              have hp2 := pow_pos8 i
              have hn : rps S bs set (i + 1) = rps S bs set i + 2 ^ i := by show (if _ then _ else _) = _; rw [if_pos hg]
              rw [ho1.1, ← hn]
              have hne : ¬ rps S bs set (i + 1) = set := by omega
              exact am_less (by intro q hq; simp only [List.mem_cons, List.not_mem_nil, or_false] at hq; rcases hq with rfl | rfl | rfl | rfl | rfl | rfl <;> simp [hne]) (ih (i + 1) o2 g2 z2 ho2 (by omega))
            · refine am_goto (t := 77) (am_tab tk_X10_reminded 37 rfl) (by decide) ?_
              refine am_iinc (q := 80) rfl (by omega) (by decide) (ls2 := [(5, am_i (((i : Int) + 1))), (3, am_i (rps S bs set i)), (4, am_i ((if rps S bs set i = set then 0 else 1))), (0, am_r 55), (1, am_i own), (2, am_i bs)]) rfl (am_tab tk_X10_reminded 46 rfl) rfl ?_
              refine am_goto (t := 16) (am_tab tk_X10_reminded 47 rfl) (by decide) ?_
              try rw [e1] at h31
              try rw [tb_eq hbs ⟨by omega, by omega⟩] at h41
              try rw [tb_eq (s := rps S bs set i) (by omega) ⟨by omega, by omega⟩] at h51
              have hg : ¬ rgo S bs (rps S bs set i) i = true := by unfold rgo; simp only [decide_eq_true_eq]; intro hc; omega
              have hn : rps S bs set (i + 1) = rps S bs set i := by show (if _ then _ else _) = _; rw [if_neg hg]
              rw [← hn]
              exact am_less (by intro q hq; simp only [List.mem_cons, List.not_mem_nil, or_false] at hq; rcases hq with rfl | rfl | rfl | rfl | rfl | rfl <;> simp) (ih (i + 1) o2 g2 z2 ho2 (by omega))
theorem rem_end (S : am_H) (hL : lay S) (own bs set RES : Int) (hres : RES = set) (o : Int) (g : Nat → Int) (z : Int) (ho : 0 ≤ o ∧ o ≤ 99) : am_wp M_X10_reminded (fun r σ' => r = some (am_i RES) ∧ ∃ o : Int, ∃ g : Nat → Int, ∃ z : Int, (0 ≤ o ∧ o ≤ 99) ∧ σ' = SC S o g z) 0 0 5 [(4, am_i 0), (3, am_i set), (0, am_r 55), (1, am_i own), (2, am_i bs)] [] (SC S o g z) := by
  refine am_iload (q := 7) rfl (am_tab tk_X10_reminded 4 rfl) rfl ?_
  refine am_if_eq (q := 10) (t := 86) (am_tab tk_X10_reminded 5 rfl) (by decide) rfl (fun h7 => ?_) (fun h7 => ?_)
  · refine am_iload_n (q := 87) rfl (am_tab tk_X10_reminded 49 rfl) rfl ?_
    refine am_iret (Or.inl rfl) (Nat.le_of_ble_eq_true rfl) (Nat.le_of_ble_eq_true rfl) (am_tab tk_X10_reminded 50 rfl) ?_
    exact ⟨by rw [hres], o, g, z, ho, rfl⟩
  · exact absurd rfl h7
theorem rem_out (S : am_H) (hL : lay S) (hR : MR S) (hK : RK S) (bs : Int) (hbs : 0 ≤ bs ∧ bs < 256) (ha : 0 ≤ S.2.1 55 56 ∧ S.2.1 55 56 < 256) (ht : 0 ≤ S.2.1 55 61 ∧ S.2.1 55 61 < 256) (hf : 0 ≤ S.2.1 55 57 ∧ S.2.1 55 57 ≤ 1) (hz : 0 ≤ S.2.1 55 58 ∧ S.2.1 55 58 ≤ 1) (own RES : Int) : ∀ (k : Nat) (set o : Int) (g : Nat → Int) (z : Int), 0 ≤ o ∧ o ≤ 99 → 0 ≤ set ∧ set < 256 → 256 - set ≤ k → rmd S bs k set = RES → am_wp M_X10_reminded (fun r σ' => r = some (am_i RES) ∧ ∃ o : Int, ∃ g : Nat → Int, ∃ z : Int, (0 ≤ o ∧ o ≤ 99) ∧ σ' = SC S o g z) 0 0 5 [(4, am_i 1), (3, am_i set), (0, am_r 55), (1, am_i own), (2, am_i bs)] [] (SC S o g z) := by
  intro k
  induction k with
  | zero =>
    intro set o g z ho hset hk
    exact absurd hk (by omega)
  | succ k ih =>
    intro set o g z ho hset hk hres
    refine am_iload (q := 7) rfl (am_tab tk_X10_reminded 4 rfl) rfl ?_
    refine am_if_eq (q := 10) (t := 86) (am_tab tk_X10_reminded 5 rfl) (by decide) rfl (fun h7 => ?_) (fun h7 => ?_)
    · exact absurd h7 (by omega)
    · refine am_iconst (q := 11) (n := 0) (by decide) (am_tab tk_X10_reminded 6 rfl) rfl ?_
      refine am_istore (q := 13) (by decide) (ls2 := [(4, am_i 0), (3, am_i set), (0, am_r 55), (1, am_i own), (2, am_i bs)]) rfl (am_tab tk_X10_reminded 7 rfl) rfl ?_
      refine am_iconst (q := 14) (n := 0) (by decide) (am_tab tk_X10_reminded 8 rfl) rfl ?_
      refine am_istore (q := 16) (by decide) (ls2 := [(5, am_i 0), (4, am_i 0), (3, am_i set), (0, am_r 55), (1, am_i own), (2, am_i bs)]) rfl (am_tab tk_X10_reminded 9 rfl) rfl ?_
      have hr := rps_rng (S := S) (bs := bs) hset (pN S) (pN_8 hR)
      have h0 := rem_in (Q := (fun r σ' => r = some (am_i RES) ∧ ∃ o : Int, ∃ g : Nat → Int, ∃ z : Int, (0 ≤ o ∧ o ≤ 99) ∧ σ' = SC S o g z)) S hL hR hK bs hbs ha ht hf hz own set hset (fun o g z ho => ?_) (pN S) 0 o g z ho (by omega)
      · exact am_less (by intro q hq; simp only [List.mem_cons, List.not_mem_nil, or_false] at hq; rcases hq with rfl | rfl | rfl | rfl | rfl | rfl <;> simp [rps]) h0
      · by_cases he : rps S bs set (pN S) = set
        · exact am_less (by intro q hq; simp only [List.mem_cons, List.not_mem_nil, or_false] at hq; rcases hq with rfl | rfl | rfl | rfl | rfl <;> simp [he]) (rem_end S hL own bs set RES (by rw [← hres]; unfold rmd; rw [if_pos he]) o g z ho)
        · exact am_less (by intro q hq; simp only [List.mem_cons, List.not_mem_nil, or_false] at hq; rcases hq with rfl | rfl | rfl | rfl | rfl <;> simp [he]) (ih (rps S bs set (pN S)) o g z ho (by omega) (by omega) (by rw [← hres]; show _ = (if _ then _ else _); rw [if_neg he]))
