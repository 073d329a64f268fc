/-- the reader of statements: ahead of a token, or at a fault -/
abbrev PZ : Type := Nat ⊕ (Int × Int)
def inM (M : Nat) : PZ → Prop
  | .inl i => i ≤ M
  | .inr _ => True
def RY (b : Nat → Int) (E : Nat) (cv : Nat → Int) (M : Nat) (σ : am_H) (p : PZ) : Prop := lay σ ∧ TKc b E cv M σ ∧ TKv b E cv M ∧ RZ b E cv σ p ∧ inM M p
def kdZ (b : Nat → Int) (E : Nat) : PZ → Int
  | .inl i => zK b E i
  | .inr _ => 6
def npZ : PZ → PZ
  | .inl i => .inl (i + 1)
  | .inr e => .inr e
def flZ (k pl : Int) : PZ → PZ
  | .inl _ => .inr (k, pl)
  | .inr e => .inr e
def ftZ (b : Nat → Int) (E : Nat) (k : Int) : PZ → PZ
  | .inl i => .inr (k, (zP b E i : Int))
  | .inr e => .inr e
theorem TKc.rz {b : Nat → Int} {E : Nat} {cv : Nat → Int} {M : Nat} {σ τ : am_H} (h : TKc b E cv M σ) (hF : frw W_rz σ τ) : TKc b E cv M τ := ⟨(hF.2.2 30 2 (by unfold W_rz; omega)).trans h.1, h.2.1, fun i hi => (hF.2.2 31 i (by unfold W_rz; omega)).trans (h.2.2.1 i hi), h.2.2.2⟩
theorem RY.go {b : Nat → Int} {E : Nat} {cv : Nat → Int} {M : Nat} {σ τ : am_H} {p q : PZ} (h : RY b E cv M σ p) (hF : frw W_rz σ τ) (hZ : RZ b E cv τ q) (hq : inM M q) : RY b E cv M τ q := ⟨hF.L h.1, h.2.1.rz hF, h.2.2.1, hZ, hq⟩
theorem RY.kd {b : Nat → Int} {E : Nat} {cv : Nat → Int} {M : Nat} {σ : am_H} {p : PZ} (h : RY b E cv M σ p) : σ.2.1 27 4 = kdZ b E p := by
  cases p with
  | inl i => exact h.2.2.2.1.2.1
  | inr e => exact h.2.2.2.1.2.2.2
theorem RY.kr {b : Nat → Int} {E : Nat} {cv : Nat → Int} {M : Nat} {σ : am_H} {p : PZ} (h : RY b E cv M σ p) : 0 ≤ kdZ b E p ∧ kdZ b E p < 256 := by
  cases p with
  | inl i => exact (h.2.1.2.2.2.1 i h.2.2.2.2).1
  | inr e => exact ⟨(by decide : (0 : Int) ≤ 6), (by decide : (6 : Int) < 256)⟩
/-- the fault: none, or this one -/
def fkZ : PZ → Int
  | .inl _ => 0
  | .inr e => e.1
theorem RY.fk {b : Nat → Int} {E : Nat} {cv : Nat → Int} {M : Nat} {σ : am_H} {p : PZ} (h : RY b E cv M σ p) : σ.2.1 27 8 = fkZ p := by
  cases p with
  | inl i => exact h.2.2.2.1.2.2.2.2.1
  | inr e => exact h.2.2.2.1.1
theorem RY.fk0 {b : Nat → Int} {E : Nat} {cv : Nat → Int} {M : Nat} {σ : am_H} {p : PZ} (h : RY b E cv M σ p) : fkZ p = 0 ↔ p.isLeft = true := by
  cases p with
  | inl i => exact ⟨fun _ => rfl, fun _ => rfl⟩
  | inr e => exact ⟨fun h2 => absurd h2 h.2.2.2.1.2.1, fun h2 => absurd h2 (by simp)⟩
theorem RY.sp {b : Nat → Int} {E : Nat} {cv : Nat → Int} {M : Nat} {σ : am_H} {p : PZ} (h : RY b E cv M σ p) (k : Int) : flZ k (σ.2.1 27 5) p = ftZ b E k p := by
  cases p with
  | inl i => show Sum.inr (k, σ.2.1 27 5) = Sum.inr (k, (zP b E i : Int)); rw [h.2.2.2.1.2.2.1]
  | inr e => rfl
theorem c_passYT {b : Nat → Int} {E : Nat} {cv : Nat → Int} {M : Nat} {σ : am_H} {p : PZ} (h : RY b E cv M σ p) (h6 : ¬ kdZ b E p = 6) (k : Int) : am_met M_X4_pass [am_r 27, am_i 1, am_i k] σ (fun r σ' => r = none ∧ RY b E cv M σ' (npZ p) ∧ frw W_rz σ σ') := by
  cases p with
  | inl i =>
    have h6' : ¬ zK b E i = 6 := h6
    have hiM : i ≤ M := h.2.2.2.2
    refine am_mono (c_pass1 b E cv σ h.1 k M h.2.1 i h.2.2.2.1 h6' hiM) (fun r τ g => ⟨g.1, h.go g.2.2 g.2.1 ?_, g.2.2⟩)
    show i + 1 ≤ M
    by_cases hm : i = M
    · rw [hm] at h6'; exact absurd h.2.1.2.2.2.2.1 h6'
    · omega
  | inr e => exact absurd rfl h6
theorem c_passYF {b : Nat → Int} {E : Nat} {cv : Nat → Int} {M : Nat} {σ : am_H} {p : PZ} (h : RY b E cv M σ p) (k : Int) (hk : ¬ k = 0) : am_met M_X4_pass [am_r 27, am_i 0, am_i k] σ (fun r σ' => r = none ∧ RY b E cv M σ' (ftZ b E k p) ∧ frw W_rz σ σ') := by
  cases p with
  | inl i => exact am_mono (c_pass0 b E cv σ h.1 k i h.2.2.2.1 hk) (fun r τ g => ⟨g.1, h.go g.2.2 g.2.1 trivial, g.2.2⟩)
  | inr e => exact am_mono (c_passB b E cv σ h.1 k e h.2.2.2.1) (fun r τ g => ⟨g.1, h.go g.2.2 g.2.1 trivial, g.2.2⟩)
theorem c_failY {b : Nat → Int} {E : Nat} {cv : Nat → Int} {M : Nat} {σ : am_H} {p : PZ} (h : RY b E cv M σ p) (k pl : Int) (hk : ¬ k = 0) : am_met M_X4_fail [am_r 27, am_i k, am_i pl] σ (fun r σ' => r = none ∧ RY b E cv M σ' (flZ k pl p) ∧ frw W_rz σ σ') := by
  cases p with
  | inl i => exact am_mono (c_rfail b E cv σ h.1 k pl h.2.2.2.1.2.2.2.2.1 hk) (fun r τ g => ⟨g.1, h.go g.2.2 g.2.1 trivial, g.2.2⟩)
  | inr e => exact am_mono (c_rfailB b E cv σ h.1 k pl e h.2.2.2.1) (fun r τ g => ⟨g.1, h.go g.2.2 g.2.1 trivial, g.2.2⟩)
theorem c_numYi (b : Nat → Int) (E : Nat) (cv : Nat → Int) (M : Nat) (i : Nat) (σ : am_H) (hX : RY b E cv M σ (.inl i)) (lo : Int) (hi : Int)  : am_met M_X4_readNumber [am_r 27, am_i lo, am_i hi] σ (fun r σ' => ∃ v, r = some (am_i v) ∧ RY b E cv M σ' (nuF b E lo hi (.inl i)) ∧ frw W_rz σ σ' ∧ ((nuF b E lo hi (.inl i)).isLeft = true → v = zV b E i)) := by
  refine am_qq (fun Q hQ => ?_)
  refine am_enter (show plainFor yX4_readNumber = true by decide +kernel) rfl (Nat.le_of_ble_eq_true rfl) (fun _ _ _ => trivial) ?_
  have hcv := (hX.2.2.1 i hX.2.2.2.2).1
  have hzp := zP_rng b E i
  have hE16 := hX.2.1.2.1.2
  refine am_aload_n (q := 1) rfl (am_tab tk_X4_readNumber 0 rfl) rfl ?_
  refine am_getI (q := 4) (a := 27) (k := 4) (n := 13) (j := 6) (x := (cv i)) (Ls_27 hX.1) (by decide) rfl hX.2.2.2.1.2.2.2.1 (by decide) (Or.inl kf_X4_104) (am_tab tk_X4_readNumber 1 rfl) rfl ?_
  refine am_istore_n (q := 5) (by decide) (ls2 := [(3, am_i ((cv i))), (0, am_r 27), (1, am_i lo), (2, am_i hi)]) rfl (am_tab tk_X4_readNumber 2 rfl) rfl ?_
  refine am_aload_n (q := 6) rfl (am_tab tk_X4_readNumber 3 rfl) rfl ?_
  refine am_getI (q := 9) (a := 27) (k := 4) (n := 13) (j := 4) (x := (zK b E i)) (Ls_27 hX.1) (by decide) rfl hX.2.2.2.1.2.1 (by decide) (Or.inl kf_X4_45) (am_tab tk_X4_readNumber 4 rfl) rfl ?_
  refine am_iconst (q := 10) (n := 1) (by decide) (am_tab tk_X4_readNumber 5 rfl) rfl ?_
  refine am_icmp_eq (q := 13) (t := 41) (am_tab tk_X4_readNumber 6 rfl) (by decide) rfl (fun h10 => ?_) (fun h10 => ?_)
  · have hcz := hcv h10
    refine am_aload_n (q := 42) rfl (am_tab tk_X4_readNumber 23 rfl) rfl ?_
    refine am_iload_n (q := 43) rfl (am_tab tk_X4_readNumber 24 rfl) rfl ?_
    refine am_iload_n (q := 44) rfl (am_tab tk_X4_readNumber 25 rfl) rfl ?_
    refine am_icmp_lt (q := 47) (t := 56) (am_tab tk_X4_readNumber 26 rfl) (by decide) rfl (fun h44 => ?_) (fun h44 => ?_)
    · refine am_iconst (q := 57) (n := 0) (by decide) (am_tab tk_X4_readNumber 32 rfl) rfl ?_
      refine am_iconst (q := 58) (n := 2) (by decide) (am_tab tk_X4_readNumber 33 rfl) rfl ?_
      refine am_callVr (q := 61) (me2 := M_X4_pass) (b := 27) (kb := 4) (nb := 13) (As := [am_i 0, am_i 2]) (rest := []) (c_passYF hX 2 (by decide)) ⟨rfl, rfl⟩ (Ls_27 hX.1) (by decide) ⟨Or.inl km_X4_71, kc_X4_pass, kn_X4, kd_X4_pass, ⟨(Nat.le_of_ble_eq_true rfl), (Nat.le_of_ble_eq_true rfl)⟩, ⟨(Nat.le_of_ble_eq_true rfl), (Nat.le_of_ble_eq_true rfl)⟩, (Nat.le_of_ble_eq_true rfl)⟩ ki_X4_pass ks_X4_pass rfl (am_tab tk_X4_readNumber 34 rfl) rfl ?_
      rintro r T1 ⟨rfl, hX1, hG1⟩
      refine am_iload_n (q := 62) rfl (am_tab tk_X4_readNumber 35 rfl) rfl ?_
      refine am_iret (Or.inl rfl) (Nat.le_of_ble_eq_true rfl) (Nat.le_of_ble_eq_true rfl) (am_tab tk_X4_readNumber 36 rfl) ?_
      refine hQ _ _ ?_
      have e9 : nuF b E lo hi (.inl i) = .inr (2, (zP b E i : Int)) := by
        show (if zK b E i = 1 ∧ lo ≤ zV b E i ∧ zV b E i ≤ hi then (.inl (i + 1) : PZ) else .inr (nfK b E i, nfP b E i)) = _
        rw [if_neg (fun h => by omega)]
        unfold nfK nfP
        rw [if_pos h10, if_neg (show ¬ zK b E i = 2 by omega)]
      refine ⟨cv i, rfl, ?_, hG1, ?_⟩
      · rw [e9]; exact hX1
      · rw [e9]; intro h; exact absurd h (by simp)
    · refine am_iload_n (q := 48) rfl (am_tab tk_X4_readNumber 27 rfl) rfl ?_
      refine am_iload_n (q := 49) rfl (am_tab tk_X4_readNumber 28 rfl) rfl ?_
      refine am_icmp_gt (q := 52) (t := 56) (am_tab tk_X4_readNumber 29 rfl) (by decide) rfl (fun h49 => ?_) (fun h49 => ?_)
      · refine am_iconst (q := 57) (n := 0) (by decide) (am_tab tk_X4_readNumber 32 rfl) rfl ?_
        refine am_iconst (q := 58) (n := 2) (by decide) (am_tab tk_X4_readNumber 33 rfl) rfl ?_
        refine am_callVr (q := 61) (me2 := M_X4_pass) (b := 27) (kb := 4) (nb := 13) (As := [am_i 0, am_i 2]) (rest := []) (c_passYF hX 2 (by decide)) ⟨rfl, rfl⟩ (Ls_27 hX.1) (by decide) ⟨Or.inl km_X4_71, kc_X4_pass, kn_X4, kd_X4_pass, ⟨(Nat.le_of_ble_eq_true rfl), (Nat.le_of_ble_eq_true rfl)⟩, ⟨(Nat.le_of_ble_eq_true rfl), (Nat.le_of_ble_eq_true rfl)⟩, (Nat.le_of_ble_eq_true rfl)⟩ ki_X4_pass ks_X4_pass rfl (am_tab tk_X4_readNumber 34 rfl) rfl ?_
        rintro r T1 ⟨rfl, hX1, hG1⟩
        refine am_iload_n (q := 62) rfl (am_tab tk_X4_readNumber 35 rfl) rfl ?_
        refine am_iret (Or.inl rfl) (Nat.le_of_ble_eq_true rfl) (Nat.le_of_ble_eq_true rfl) (am_tab tk_X4_readNumber 36 rfl) ?_
        refine hQ _ _ ?_
        have e9 : nuF b E lo hi (.inl i) = .inr (2, (zP b E i : Int)) := by
          show (if zK b E i = 1 ∧ lo ≤ zV b E i ∧ zV b E i ≤ hi then (.inl (i + 1) : PZ) else .inr (nfK b E i, nfP b E i)) = _
          rw [if_neg (fun h => by omega)]
          unfold nfK nfP
          rw [if_pos h10, if_neg (show ¬ zK b E i = 2 by omega)]
        refine ⟨cv i, rfl, ?_, hG1, ?_⟩
        · rw [e9]; exact hX1
        · rw [e9]; intro h; exact absurd h (by simp)
      · refine am_iconst (q := 53) (n := 1) (by decide) (am_tab tk_X4_readNumber 30 rfl) rfl ?_
        refine am_goto (t := 57) (am_tab tk_X4_readNumber 31 rfl) (by decide) ?_
        refine am_iconst (q := 58) (n := 2) (by decide) (am_tab tk_X4_readNumber 33 rfl) rfl ?_
        refine am_callVr (q := 61) (me2 := M_X4_pass) (b := 27) (kb := 4) (nb := 13) (As := [am_i 1, am_i 2]) (rest := []) (c_passYT hX (show ¬ zK b E i = 6 by omega) 2) ⟨rfl, rfl⟩ (Ls_27 hX.1) (by decide) ⟨Or.inl km_X4_71, kc_X4_pass, kn_X4, kd_X4_pass, ⟨(Nat.le_of_ble_eq_true rfl), (Nat.le_of_ble_eq_true rfl)⟩, ⟨(Nat.le_of_ble_eq_true rfl), (Nat.le_of_ble_eq_true rfl)⟩, (Nat.le_of_ble_eq_true rfl)⟩ ki_X4_pass ks_X4_pass rfl (am_tab tk_X4_readNumber 34 rfl) rfl ?_
        rintro r T1 ⟨rfl, hX1, hG1⟩
        refine am_iload_n (q := 62) rfl (am_tab tk_X4_readNumber 35 rfl) rfl ?_
        refine am_iret (Or.inl rfl) (Nat.le_of_ble_eq_true rfl) (Nat.le_of_ble_eq_true rfl) (am_tab tk_X4_readNumber 36 rfl) ?_
        refine hQ _ _ ?_
        have e9 : nuF b E lo hi (.inl i) = .inl (i + 1) := by
          show (if zK b E i = 1 ∧ lo ≤ zV b E i ∧ zV b E i ≤ hi then (.inl (i + 1) : PZ) else .inr (nfK b E i, nfP b E i)) = _
          rw [if_pos ⟨h10, by omega, by omega⟩]
        refine ⟨cv i, rfl, ?_, hG1, fun _ => hcv h10⟩
        rw [e9]; exact hX1
  · refine am_aload_n (q := 14) rfl (am_tab tk_X4_readNumber 7 rfl) rfl ?_
    refine am_iconst (q := 15) (n := 1) (by decide) (am_tab tk_X4_readNumber 8 rfl) rfl ?_
    refine am_aload_n (q := 16) rfl (am_tab tk_X4_readNumber 9 rfl) rfl ?_
    refine am_getI (q := 19) (a := 27) (k := 4) (n := 13) (j := 4) (x := (zK b E i)) (Ls_27 hX.1) (by decide) rfl hX.2.2.2.1.2.1 (by decide) (Or.inl kf_X4_45) (am_tab tk_X4_readNumber 10 rfl) rfl ?_
    refine am_iconst (q := 20) (n := 2) (by decide) (am_tab tk_X4_readNumber 11 rfl) rfl ?_
    refine am_icmp_ne (q := 23) (t := 32) (am_tab tk_X4_readNumber 12 rfl) (by decide) rfl (fun h20 => ?_) (fun h20 => ?_)
    · refine am_aload_n (q := 33) rfl (am_tab tk_X4_readNumber 18 rfl) rfl ?_
      refine am_getI (q := 36) (a := 27) (k := 4) (n := 13) (j := 5) (x := (zP b E i : Int)) (Ls_27 hX.1) (by decide) rfl hX.2.2.2.1.2.2.1 (by decide) (Or.inl kf_X4_55) (am_tab tk_X4_readNumber 19 rfl) rfl ?_
      refine am_callVr (q := 39) (me2 := M_X4_fail) (b := 27) (kb := 4) (nb := 13) (As := [am_i 1, am_i ((zP b E i : Int))]) (rest := []) (c_failY hX 1 (zP b E i : Int) (by decide)) ⟨rfl, rfl⟩ (Ls_27 hX.1) (by decide) ⟨Or.inl km_X4_58, kc_X4_fail, kn_X4, kd_X4_fail, ⟨(Nat.le_of_ble_eq_true rfl), (Nat.le_of_ble_eq_true rfl)⟩, ⟨(Nat.le_of_ble_eq_true rfl), (Nat.le_of_ble_eq_true rfl)⟩, (Nat.le_of_ble_eq_true rfl)⟩ ki_X4_fail ks_X4_fail rfl (am_tab tk_X4_readNumber 20 rfl) rfl ?_
      rintro r T1 ⟨rfl, hX1, hG1⟩
      refine am_iload_n (q := 40) rfl (am_tab tk_X4_readNumber 21 rfl) rfl ?_
      refine am_iret (Or.inl rfl) (Nat.le_of_ble_eq_true rfl) (Nat.le_of_ble_eq_true rfl) (am_tab tk_X4_readNumber 22 rfl) ?_
      refine hQ _ _ ?_
      have e9 : nuF b E lo hi (.inl i) = .inr (1, (zP b E i : Int)) := by
        show (if zK b E i = 1 ∧ lo ≤ zV b E i ∧ zV b E i ≤ hi then (.inl (i + 1) : PZ) else .inr (nfK b E i, nfP b E i)) = _
        rw [if_neg (fun h => h10 h.1)]
        unfold nfK nfP
        rw [if_neg h10, if_neg h20]
      refine ⟨lo, rfl, ?_, hG1, ?_⟩
      · rw [e9]; exact hX1
      · rw [e9]; intro h; exact absurd h (by simp)
    · refine am_aload_n (q := 24) rfl (am_tab tk_X4_readNumber 13 rfl) rfl ?_
      refine am_getI (q := 27) (a := 27) (k := 4) (n := 13) (j := 5) (x := (zP b E i : Int)) (Ls_27 hX.1) (by decide) rfl hX.2.2.2.1.2.2.1 (by decide) (Or.inl kf_X4_55) (am_tab tk_X4_readNumber 14 rfl) rfl ?_
      refine am_iconst (q := 28) (n := 4) (by decide) (am_tab tk_X4_readNumber 15 rfl) rfl ?_
      refine am_iadd (q := 29) (by omega) (am_tab tk_X4_readNumber 16 rfl) rfl ?_
      refine am_goto (t := 36) (am_tab tk_X4_readNumber 17 rfl) (by decide) ?_
      refine am_callVr (q := 39) (me2 := M_X4_fail) (b := 27) (kb := 4) (nb := 13) (As := [am_i 1, am_i (((zP b E i : Int) + 4))]) (rest := []) (c_failY hX 1 ((zP b E i : Int) + 4) (by decide)) ⟨rfl, rfl⟩ (Ls_27 hX.1) (by decide) ⟨Or.inl km_X4_58, kc_X4_fail, kn_X4, kd_X4_fail, ⟨(Nat.le_of_ble_eq_true rfl), (Nat.le_of_ble_eq_true rfl)⟩, ⟨(Nat.le_of_ble_eq_true rfl), (Nat.le_of_ble_eq_true rfl)⟩, (Nat.le_of_ble_eq_true rfl)⟩ ki_X4_fail ks_X4_fail rfl (am_tab tk_X4_readNumber 20 rfl) rfl ?_
      rintro r T1 ⟨rfl, hX1, hG1⟩
      refine am_iload_n (q := 40) rfl (am_tab tk_X4_readNumber 21 rfl) rfl ?_
      refine am_iret (Or.inl rfl) (Nat.le_of_ble_eq_true rfl) (Nat.le_of_ble_eq_true rfl) (am_tab tk_X4_readNumber 22 rfl) ?_
      refine hQ _ _ ?_
      have e9 : nuF b E lo hi (.inl i) = .inr (1, (zP b E i : Int) + 4) := by
        show (if zK b E i = 1 ∧ lo ≤ zV b E i ∧ zV b E i ≤ hi then (.inl (i + 1) : PZ) else .inr (nfK b E i, nfP b E i)) = _
        rw [if_neg (fun h => h10 h.1)]
        unfold nfK nfP
        rw [if_neg h10, if_pos h20]
      refine ⟨lo, rfl, ?_, hG1, ?_⟩
      · rw [e9]; exact hX1
      · rw [e9]; intro h; exact absurd h (by simp)
theorem c_numYb (b : Nat → Int) (E : Nat) (cv : Nat → Int) (M : Nat) (e : Int × Int) (σ : am_H) (hX : RY b E cv M σ (.inr e)) (lo : Int) (hi : Int)  : am_met M_X4_readNumber [am_r 27, am_i lo, am_i hi] σ (fun r σ' => ∃ v, r = some (am_i v) ∧ RY b E cv M σ' (.inr e) ∧ frw W_rz σ σ') := by
  refine am_qq (fun Q hQ => ?_)
  refine am_enter (show plainFor yX4_readNumber = true by decide +kernel) rfl (Nat.le_of_ble_eq_true rfl) (fun _ _ _ => trivial) ?_
  refine am_aload_n (q := 1) rfl (am_tab tk_X4_readNumber 0 rfl) rfl ?_
  refine am_getI (q := 4) (a := 27) (k := 4) (n := 13) (j := 6) (x := (σ.2.1 27 6)) (Ls_27 hX.1) (by decide) rfl rfl (by decide) (Or.inl kf_X4_104) (am_tab tk_X4_readNumber 1 rfl) rfl ?_
  refine am_istore_n (q := 5) (by decide) (ls2 := [(3, am_i ((σ.2.1 27 6))), (0, am_r 27), (1, am_i lo), (2, am_i hi)]) rfl (am_tab tk_X4_readNumber 2 rfl) rfl ?_
  refine am_aload_n (q := 6) rfl (am_tab tk_X4_readNumber 3 rfl) rfl ?_
  refine am_getI (q := 9) (a := 27) (k := 4) (n := 13) (j := 4) (x := 6) (Ls_27 hX.1) (by decide) rfl hX.2.2.2.1.2.2.2 (by decide) (Or.inl kf_X4_45) (am_tab tk_X4_readNumber 4 rfl) rfl ?_
  refine am_iconst (q := 10) (n := 1) (by decide) (am_tab tk_X4_readNumber 5 rfl) rfl ?_
  refine am_icmp_eq (q := 13) (t := 41) (am_tab tk_X4_readNumber 6 rfl) (by decide) rfl (fun h10 => ?_) (fun h10 => ?_)
  · exact absurd h10 (by decide)
  · refine am_aload_n (q := 14) rfl (am_tab tk_X4_readNumber 7 rfl) rfl ?_
    refine am_iconst (q := 15) (n := 1) (by decide) (am_tab tk_X4_readNumber 8 rfl) rfl ?_
    refine am_aload_n (q := 16) rfl (am_tab tk_X4_readNumber 9 rfl) rfl ?_
    refine am_getI (q := 19) (a := 27) (k := 4) (n := 13) (j := 4) (x := 6) (Ls_27 hX.1) (by decide) rfl hX.2.2.2.1.2.2.2 (by decide) (Or.inl kf_X4_45) (am_tab tk_X4_readNumber 10 rfl) rfl ?_
    refine am_iconst (q := 20) (n := 2) (by decide) (am_tab tk_X4_readNumber 11 rfl) rfl ?_
    refine am_icmp_ne (q := 23) (t := 32) (am_tab tk_X4_readNumber 12 rfl) (by decide) rfl (fun h20 => ?_) (fun h20 => ?_)
    · refine am_aload_n (q := 33) rfl (am_tab tk_X4_readNumber 18 rfl) rfl ?_
      refine am_getI (q := 36) (a := 27) (k := 4) (n := 13) (j := 5) (x := (σ.2.1 27 5)) (Ls_27 hX.1) (by decide) rfl rfl (by decide) (Or.inl kf_X4_55) (am_tab tk_X4_readNumber 19 rfl) rfl ?_
      refine am_callVr (q := 39) (me2 := M_X4_fail) (b := 27) (kb := 4) (nb := 13) (As := [am_i 1, am_i ((σ.2.1 27 5))]) (rest := []) (c_failY hX 1 (σ.2.1 27 5) (by decide)) ⟨rfl, rfl⟩ (Ls_27 hX.1) (by decide) ⟨Or.inl km_X4_58, kc_X4_fail, kn_X4, kd_X4_fail, ⟨(Nat.le_of_ble_eq_true rfl), (Nat.le_of_ble_eq_true rfl)⟩, ⟨(Nat.le_of_ble_eq_true rfl), (Nat.le_of_ble_eq_true rfl)⟩, (Nat.le_of_ble_eq_true rfl)⟩ ki_X4_fail ks_X4_fail rfl (am_tab tk_X4_readNumber 20 rfl) rfl ?_
      rintro r T1 ⟨rfl, hX1, hG1⟩
      refine am_iload_n (q := 40) rfl (am_tab tk_X4_readNumber 21 rfl) rfl ?_
      refine am_iret (Or.inl rfl) (Nat.le_of_ble_eq_true rfl) (Nat.le_of_ble_eq_true rfl) (am_tab tk_X4_readNumber 22 rfl) ?_
      refine hQ _ _ ?_
      exact ⟨lo, rfl, hX1, hG1⟩
    · exact absurd h20 (by decide)
theorem c_numZ {b : Nat → Int} {E : Nat} {cv : Nat → Int} {M : Nat} {σ : am_H} {p : PZ} (hX : RY b E cv M σ p) (lo hi : Int) : am_met M_X4_readNumber [am_r 27, am_i lo, am_i hi] σ (fun r σ' => ∃ v, r = some (am_i v) ∧ RY b E cv M σ' (nuF b E lo hi p) ∧ frw W_rz σ σ' ∧ ((nuF b E lo hi p).isLeft = true → v = vZ b E p)) := by
  cases p with
  | inl i => exact c_numYi b E cv M i σ hX lo hi
  | inr e => exact am_mono (c_numYb b E cv M e σ hX lo hi) (fun r τ h => by
      obtain ⟨v, h1, h2, h3⟩ := h
      exact ⟨v, h1, h2, h3, fun h4 => absurd h4 (by simp [nuF])⟩)
/-- a name that is good here, or not -/
def naG (b : Nat → Int) (E : Nat) (g : Bool) : PZ → PZ
  | .inl i => if zK b E i = 3 ∨ 155 ≤ zK b E i then (if g = true then .inl (i + 1) else .inr (3, (zP b E i : Int))) else .inr (1, mfP b E i)
  | .inr e => .inr e
theorem c_nameYi1 (b : Nat → Int) (E : Nat) (cv : Nat → Int) (M : Nat) (i : Nat) (σ : am_H) (hX : RY b E cv M σ (.inl i))   : am_met M_X4_readName [am_r 27, am_i 1] σ (fun r σ' => r = none ∧ RY b E cv M σ' (naG b E true (.inl i)) ∧ frw W_rz σ σ') := by
  refine am_qq (fun Q hQ => ?_)
  refine am_enter (show plainFor yX4_readName = true by decide +kernel) rfl (Nat.le_of_ble_eq_true rfl) (fun _ _ _ => trivial) ?_
  have hzp := zP_rng b E i
  have hE16 := hX.2.1.2.1.2
  refine am_aload_n (q := 1) rfl (am_tab tk_X4_readName 0 rfl) rfl ?_
  refine am_getI (q := 4) (a := 27) (k := 4) (n := 13) (j := 4) (x := (zK b E i)) (Ls_27 hX.1) (by decide) rfl hX.2.2.2.1.2.1 (by decide) (Or.inl kf_X4_45) (am_tab tk_X4_readName 1 rfl) rfl ?_
  refine am_iconst (q := 5) (n := 3) (by decide) (am_tab tk_X4_readName 2 rfl) rfl ?_
  refine am_icmp_eq (q := 8) (t := 18) (am_tab tk_X4_readName 3 rfl) (by decide) rfl (fun h5 => ?_) (fun h5 => ?_)
  · refine am_aload_n (q := 19) rfl (am_tab tk_X4_readName 8 rfl) rfl ?_
    refine am_iload_n (q := 20) rfl (am_tab tk_X4_readName 9 rfl) rfl ?_
    refine am_iconst (q := 21) (n := 3) (by decide) (am_tab tk_X4_readName 10 rfl) rfl ?_
    refine am_callVr (q := 24) (me2 := M_X4_pass) (b := 27) (kb := 4) (nb := 13) (As := [am_i 1, am_i 3]) (rest := []) (c_passYT hX (show ¬ zK b E i = 6 by omega) 3) ⟨rfl, rfl⟩ (Ls_27 hX.1) (by decide) ⟨Or.inl km_X4_71, kc_X4_pass, kn_X4, kd_X4_pass, ⟨(Nat.le_of_ble_eq_true rfl), (Nat.le_of_ble_eq_true rfl)⟩, ⟨(Nat.le_of_ble_eq_true rfl), (Nat.le_of_ble_eq_true rfl)⟩, (Nat.le_of_ble_eq_true rfl)⟩ ki_X4_pass ks_X4_pass rfl (am_tab tk_X4_readName 11 rfl) rfl ?_
    rintro r T1 ⟨rfl, hX1, hG1⟩
    refine am_goto (t := 54) (am_tab tk_X4_readName 12 rfl) (by decide) ?_
    refine am_vret rfl (Nat.le_of_ble_eq_true rfl) (Nat.le_of_ble_eq_true rfl) (am_tab tk_X4_readName 27 rfl) ?_
    refine hQ _ _ ?_
    have e9 : naG b E true (.inl i) = .inl (i + 1) := by
      show (if zK b E i = 3 ∨ 155 ≤ zK b E i then (if true = true then (.inl (i + 1) : PZ) else .inr (3, (zP b E i : Int))) else .inr (1, mfP b E i)) = _
      rw [if_pos (by omega), if_pos rfl]
    rw [e9]
    exact ⟨rfl, hX1, hG1⟩
  · refine am_aload_n (q := 9) rfl (am_tab tk_X4_readName 4 rfl) rfl ?_
    refine am_getI (q := 12) (a := 27) (k := 4) (n := 13) (j := 4) (x := (zK b E i)) (Ls_27 hX.1) (by decide) rfl hX.2.2.2.1.2.1 (by decide) (Or.inl kf_X4_45) (am_tab tk_X4_readName 5 rfl) rfl ?_
    refine am_sipush (q := 15) (n := 155) (by decide) rfl (am_tab tk_X4_readName 6 rfl) rfl ?_
    refine am_icmp_lt (q := 18) (t := 27) (am_tab tk_X4_readName 7 rfl) (by decide) rfl (fun h15 => ?_) (fun h15 => ?_)
    · refine am_aload_n (q := 28) rfl (am_tab tk_X4_readName 13 rfl) rfl ?_
      refine am_iconst (q := 29) (n := 1) (by decide) (am_tab tk_X4_readName 14 rfl) rfl ?_
      refine am_aload_n (q := 30) rfl (am_tab tk_X4_readName 15 rfl) rfl ?_
      refine am_getI (q := 33) (a := 27) (k := 4) (n := 13) (j := 4) (x := (zK b E i)) (Ls_27 hX.1) (by decide) rfl hX.2.2.2.1.2.1 (by decide) (Or.inl kf_X4_45) (am_tab tk_X4_readName 16 rfl) rfl ?_
      refine am_iconst (q := 34) (n := 4) (by decide) (am_tab tk_X4_readName 17 rfl) rfl ?_
      refine am_icmp_ne (q := 37) (t := 47) (am_tab tk_X4_readName 18 rfl) (by decide) rfl (fun h34 => ?_) (fun h34 => ?_)
      · refine am_aload_n (q := 48) rfl (am_tab tk_X4_readName 24 rfl) rfl ?_
        refine am_getI (q := 51) (a := 27) (k := 4) (n := 13) (j := 5) (x := (zP b E i : Int)) (Ls_27 hX.1) (by decide) rfl hX.2.2.2.1.2.2.1 (by decide) (Or.inl kf_X4_55) (am_tab tk_X4_readName 25 rfl) rfl ?_
        refine am_callVr (q := 54) (me2 := M_X4_fail) (b := 27) (kb := 4) (nb := 13) (As := [am_i 1, am_i ((zP b E i : Int))]) (rest := []) (c_failY hX 1 (zP b E i : Int) (by decide)) ⟨rfl, rfl⟩ (Ls_27 hX.1) (by decide) ⟨Or.inl km_X4_58, kc_X4_fail, kn_X4, kd_X4_fail, ⟨(Nat.le_of_ble_eq_true rfl), (Nat.le_of_ble_eq_true rfl)⟩, ⟨(Nat.le_of_ble_eq_true rfl), (Nat.le_of_ble_eq_true rfl)⟩, (Nat.le_of_ble_eq_true rfl)⟩ ki_X4_fail ks_X4_fail rfl (am_tab tk_X4_readName 26 rfl) rfl ?_
        rintro r T1 ⟨rfl, hX1, hG1⟩
        refine am_vret rfl (Nat.le_of_ble_eq_true rfl) (Nat.le_of_ble_eq_true rfl) (am_tab tk_X4_readName 27 rfl) ?_
        refine hQ _ _ ?_
        have e9 : naG b E true (.inl i) = .inr (1, (zP b E i : Int)) := by
          show (if zK b E i = 3 ∨ 155 ≤ zK b E i then (if true = true then (.inl (i + 1) : PZ) else .inr (3, (zP b E i : Int))) else .inr (1, mfP b E i)) = _
          rw [if_neg (by omega)]
          unfold mfP
          rw [if_neg h34]
        rw [e9]
        exact ⟨rfl, hX1, hG1⟩
      · refine am_aload_n (q := 38) rfl (am_tab tk_X4_readName 19 rfl) rfl ?_
        refine am_getI (q := 41) (a := 27) (k := 4) (n := 13) (j := 5) (x := (zP b E i : Int)) (Ls_27 hX.1) (by decide) rfl hX.2.2.2.1.2.2.1 (by decide) (Or.inl kf_X4_55) (am_tab tk_X4_readName 20 rfl) rfl ?_
        refine am_bipush (q := 43) (n := 6) (by decide) rfl (am_tab tk_X4_readName 21 rfl) rfl ?_
        refine am_iadd (q := 44) (by omega) (am_tab tk_X4_readName 22 rfl) rfl ?_
        refine am_goto (t := 51) (am_tab tk_X4_readName 23 rfl) (by decide) ?_
        refine am_callVr (q := 54) (me2 := M_X4_fail) (b := 27) (kb := 4) (nb := 13) (As := [am_i 1, am_i (((zP b E i : Int) + 6))]) (rest := []) (c_failY hX 1 ((zP b E i : Int) + 6) (by decide)) ⟨rfl, rfl⟩ (Ls_27 hX.1) (by decide) ⟨Or.inl km_X4_58, kc_X4_fail, kn_X4, kd_X4_fail, ⟨(Nat.le_of_ble_eq_true rfl), (Nat.le_of_ble_eq_true rfl)⟩, ⟨(Nat.le_of_ble_eq_true rfl), (Nat.le_of_ble_eq_true rfl)⟩, (Nat.le_of_ble_eq_true rfl)⟩ ki_X4_fail ks_X4_fail rfl (am_tab tk_X4_readName 26 rfl) rfl ?_
        rintro r T1 ⟨rfl, hX1, hG1⟩
        refine am_vret rfl (Nat.le_of_ble_eq_true rfl) (Nat.le_of_ble_eq_true rfl) (am_tab tk_X4_readName 27 rfl) ?_
        refine hQ _ _ ?_
        have e9 : naG b E true (.inl i) = .inr (1, (zP b E i : Int) + 6) := by
          show (if zK b E i = 3 ∨ 155 ≤ zK b E i then (if true = true then (.inl (i + 1) : PZ) else .inr (3, (zP b E i : Int))) else .inr (1, mfP b E i)) = _
          rw [if_neg (by omega)]
          unfold mfP
          rw [if_pos h34]
        rw [e9]
        exact ⟨rfl, hX1, hG1⟩
    · refine am_aload_n (q := 19) rfl (am_tab tk_X4_readName 8 rfl) rfl ?_
      refine am_iload_n (q := 20) rfl (am_tab tk_X4_readName 9 rfl) rfl ?_
      refine am_iconst (q := 21) (n := 3) (by decide) (am_tab tk_X4_readName 10 rfl) rfl ?_
      refine am_callVr (q := 24) (me2 := M_X4_pass) (b := 27) (kb := 4) (nb := 13) (As := [am_i 1, am_i 3]) (rest := []) (c_passYT hX (show ¬ zK b E i = 6 by omega) 3) ⟨rfl, rfl⟩ (Ls_27 hX.1) (by decide) ⟨Or.inl km_X4_71, kc_X4_pass, kn_X4, kd_X4_pass, ⟨(Nat.le_of_ble_eq_true rfl), (Nat.le_of_ble_eq_true rfl)⟩, ⟨(Nat.le_of_ble_eq_true rfl), (Nat.le_of_ble_eq_true rfl)⟩, (Nat.le_of_ble_eq_true rfl)⟩ ki_X4_pass ks_X4_pass rfl (am_tab tk_X4_readName 11 rfl) rfl ?_
      rintro r T1 ⟨rfl, hX1, hG1⟩
      refine am_goto (t := 54) (am_tab tk_X4_readName 12 rfl) (by decide) ?_
      refine am_vret rfl (Nat.le_of_ble_eq_true rfl) (Nat.le_of_ble_eq_true rfl) (am_tab tk_X4_readName 27 rfl) ?_
      refine hQ _ _ ?_
      have e9 : naG b E true (.inl i) = .inl (i + 1) := by
        show (if zK b E i = 3 ∨ 155 ≤ zK b E i then (if true = true then (.inl (i + 1) : PZ) else .inr (3, (zP b E i : Int))) else .inr (1, mfP b E i)) = _
        rw [if_pos (by omega), if_pos rfl]
      rw [e9]
      exact ⟨rfl, hX1, hG1⟩
theorem c_nameYb1 (b : Nat → Int) (E : Nat) (cv : Nat → Int) (M : Nat) (e : Int × Int) (σ : am_H) (hX : RY b E cv M σ (.inr e))   : am_met M_X4_readName [am_r 27, am_i 1] σ (fun r σ' => r = none ∧ RY b E cv M σ' (.inr e) ∧ frw W_rz σ σ') := by
  refine am_qq (fun Q hQ => ?_)
  refine am_enter (show plainFor yX4_readName = true by decide +kernel) rfl (Nat.le_of_ble_eq_true rfl) (fun _ _ _ => trivial) ?_
  refine am_aload_n (q := 1) rfl (am_tab tk_X4_readName 0 rfl) rfl ?_
  refine am_getI (q := 4) (a := 27) (k := 4) (n := 13) (j := 4) (x := 6) (Ls_27 hX.1) (by decide) rfl hX.2.2.2.1.2.2.2 (by decide) (Or.inl kf_X4_45) (am_tab tk_X4_readName 1 rfl) rfl ?_
  refine am_iconst (q := 5) (n := 3) (by decide) (am_tab tk_X4_readName 2 rfl) rfl ?_
  refine am_icmp_eq (q := 8) (t := 18) (am_tab tk_X4_readName 3 rfl) (by decide) rfl (fun h5 => ?_) (fun h5 => ?_)
  · exact absurd h5 (by decide)
  · refine am_aload_n (q := 9) rfl (am_tab tk_X4_readName 4 rfl) rfl ?_
    refine am_getI (q := 12) (a := 27) (k := 4) (n := 13) (j := 4) (x := 6) (Ls_27 hX.1) (by decide) rfl hX.2.2.2.1.2.2.2 (by decide) (Or.inl kf_X4_45) (am_tab tk_X4_readName 5 rfl) rfl ?_
    refine am_sipush (q := 15) (n := 155) (by decide) rfl (am_tab tk_X4_readName 6 rfl) rfl ?_
    refine am_icmp_lt (q := 18) (t := 27) (am_tab tk_X4_readName 7 rfl) (by decide) rfl (fun h15 => ?_) (fun h15 => ?_)
    · refine am_aload_n (q := 28) rfl (am_tab tk_X4_readName 13 rfl) rfl ?_
      refine am_iconst (q := 29) (n := 1) (by decide) (am_tab tk_X4_readName 14 rfl) rfl ?_
      refine am_aload_n (q := 30) rfl (am_tab tk_X4_readName 15 rfl) rfl ?_
      refine am_getI (q := 33) (a := 27) (k := 4) (n := 13) (j := 4) (x := 6) (Ls_27 hX.1) (by decide) rfl hX.2.2.2.1.2.2.2 (by decide) (Or.inl kf_X4_45) (am_tab tk_X4_readName 16 rfl) rfl ?_
      refine am_iconst (q := 34) (n := 4) (by decide) (am_tab tk_X4_readName 17 rfl) rfl ?_
      refine am_icmp_ne (q := 37) (t := 47) (am_tab tk_X4_readName 18 rfl) (by decide) rfl (fun h34 => ?_) (fun h34 => ?_)
      · refine am_aload_n (q := 48) rfl (am_tab tk_X4_readName 24 rfl) rfl ?_
        refine am_getI (q := 51) (a := 27) (k := 4) (n := 13) (j := 5) (x := (σ.2.1 27 5)) (Ls_27 hX.1) (by decide) rfl rfl (by decide) (Or.inl kf_X4_55) (am_tab tk_X4_readName 25 rfl) rfl ?_
        refine am_callVr (q := 54) (me2 := M_X4_fail) (b := 27) (kb := 4) (nb := 13) (As := [am_i 1, am_i ((σ.2.1 27 5))]) (rest := []) (c_failY hX 1 (σ.2.1 27 5) (by decide)) ⟨rfl, rfl⟩ (Ls_27 hX.1) (by decide) ⟨Or.inl km_X4_58, kc_X4_fail, kn_X4, kd_X4_fail, ⟨(Nat.le_of_ble_eq_true rfl), (Nat.le_of_ble_eq_true rfl)⟩, ⟨(Nat.le_of_ble_eq_true rfl), (Nat.le_of_ble_eq_true rfl)⟩, (Nat.le_of_ble_eq_true rfl)⟩ ki_X4_fail ks_X4_fail rfl (am_tab tk_X4_readName 26 rfl) rfl ?_
        rintro r T1 ⟨rfl, hX1, hG1⟩
        refine am_vret rfl (Nat.le_of_ble_eq_true rfl) (Nat.le_of_ble_eq_true rfl) (am_tab tk_X4_readName 27 rfl) ?_
        refine hQ _ _ ?_
        exact ⟨rfl, hX1, hG1⟩
      · exact absurd h34 (by decide)
    · exact absurd h15 (by decide)
theorem c_nameZ1 {b : Nat → Int} {E : Nat} {cv : Nat → Int} {M : Nat} {σ : am_H} {p : PZ} (hX : RY b E cv M σ p) : am_met M_X4_readName [am_r 27, am_i 1] σ (fun r σ' => r = none ∧ RY b E cv M σ' (naG b E true p) ∧ frw W_rz σ σ') := by
  cases p with
  | inl i => exact c_nameYi1 b E cv M i σ hX
  | inr e => exact c_nameYb1 b E cv M e σ hX
theorem c_nameYi0 (b : Nat → Int) (E : Nat) (cv : Nat → Int) (M : Nat) (i : Nat) (σ : am_H) (hX : RY b E cv M σ (.inl i))   : am_met M_X4_readName [am_r 27, am_i 0] σ (fun r σ' => r = none ∧ RY b E cv M σ' (naG b E false (.inl i)) ∧ frw W_rz σ σ') := by
  refine am_qq (fun Q hQ => ?_)
  refine am_enter (show plainFor yX4_readName = true by decide +kernel) rfl (Nat.le_of_ble_eq_true rfl) (fun _ _ _ => trivial) ?_
  have hzp := zP_rng b E i
  have hE16 := hX.2.1.2.1.2
  refine am_aload_n (q := 1) rfl (am_tab tk_X4_readName 0 rfl) rfl ?_
  refine am_getI (q := 4) (a := 27) (k := 4) (n := 13) (j := 4) (x := (zK b E i)) (Ls_27 hX.1) (by decide) rfl hX.2.2.2.1.2.1 (by decide) (Or.inl kf_X4_45) (am_tab tk_X4_readName 1 rfl) rfl ?_
  refine am_iconst (q := 5) (n := 3) (by decide) (am_tab tk_X4_readName 2 rfl) rfl ?_
  refine am_icmp_eq (q := 8) (t := 18) (am_tab tk_X4_readName 3 rfl) (by decide) rfl (fun h5 => ?_) (fun h5 => ?_)
  · refine am_aload_n (q := 19) rfl (am_tab tk_X4_readName 8 rfl) rfl ?_
    refine am_iload_n (q := 20) rfl (am_tab tk_X4_readName 9 rfl) rfl ?_
    refine am_iconst (q := 21) (n := 3) (by decide) (am_tab tk_X4_readName 10 rfl) rfl ?_
    refine am_callVr (q := 24) (me2 := M_X4_pass) (b := 27) (kb := 4) (nb := 13) (As := [am_i 0, am_i 3]) (rest := []) (c_passYF hX 3 (by decide)) ⟨rfl, rfl⟩ (Ls_27 hX.1) (by decide) ⟨Or.inl km_X4_71, kc_X4_pass, kn_X4, kd_X4_pass, ⟨(Nat.le_of_ble_eq_true rfl), (Nat.le_of_ble_eq_true rfl)⟩, ⟨(Nat.le_of_ble_eq_true rfl), (Nat.le_of_ble_eq_true rfl)⟩, (Nat.le_of_ble_eq_true rfl)⟩ ki_X4_pass ks_X4_pass rfl (am_tab tk_X4_readName 11 rfl) rfl ?_
    rintro r T1 ⟨rfl, hX1, hG1⟩
    refine am_goto (t := 54) (am_tab tk_X4_readName 12 rfl) (by decide) ?_
    refine am_vret rfl (Nat.le_of_ble_eq_true rfl) (Nat.le_of_ble_eq_true rfl) (am_tab tk_X4_readName 27 rfl) ?_
    refine hQ _ _ ?_
    have e9 : naG b E false (.inl i) = .inr (3, (zP b E i : Int)) := by
      show (if zK b E i = 3 ∨ 155 ≤ zK b E i then (if false = true then (.inl (i + 1) : PZ) else .inr (3, (zP b E i : Int))) else .inr (1, mfP b E i)) = _
      rw [if_pos (by omega), if_neg (by decide)]
    rw [e9]
    exact ⟨rfl, hX1, hG1⟩
  · refine am_aload_n (q := 9) rfl (am_tab tk_X4_readName 4 rfl) rfl ?_
    refine am_getI (q := 12) (a := 27) (k := 4) (n := 13) (j := 4) (x := (zK b E i)) (Ls_27 hX.1) (by decide) rfl hX.2.2.2.1.2.1 (by decide) (Or.inl kf_X4_45) (am_tab tk_X4_readName 5 rfl) rfl ?_
    refine am_sipush (q := 15) (n := 155) (by decide) rfl (am_tab tk_X4_readName 6 rfl) rfl ?_
    refine am_icmp_lt (q := 18) (t := 27) (am_tab tk_X4_readName 7 rfl) (by decide) rfl (fun h15 => ?_) (fun h15 => ?_)
    · refine am_aload_n (q := 28) rfl (am_tab tk_X4_readName 13 rfl) rfl ?_
      refine am_iconst (q := 29) (n := 1) (by decide) (am_tab tk_X4_readName 14 rfl) rfl ?_
      refine am_aload_n (q := 30) rfl (am_tab tk_X4_readName 15 rfl) rfl ?_
      refine am_getI (q := 33) (a := 27) (k := 4) (n := 13) (j := 4) (x := (zK b E i)) (Ls_27 hX.1) (by decide) rfl hX.2.2.2.1.2.1 (by decide) (Or.inl kf_X4_45) (am_tab tk_X4_readName 16 rfl) rfl ?_
      refine am_iconst (q := 34) (n := 4) (by decide) (am_tab tk_X4_readName 17 rfl) rfl ?_
      refine am_icmp_ne (q := 37) (t := 47) (am_tab tk_X4_readName 18 rfl) (by decide) rfl (fun h34 => ?_) (fun h34 => ?_)
      · refine am_aload_n (q := 48) rfl (am_tab tk_X4_readName 24 rfl) rfl ?_
        refine am_getI (q := 51) (a := 27) (k := 4) (n := 13) (j := 5) (x := (zP b E i : Int)) (Ls_27 hX.1) (by decide) rfl hX.2.2.2.1.2.2.1 (by decide) (Or.inl kf_X4_55) (am_tab tk_X4_readName 25 rfl) rfl ?_
        refine am_callVr (q := 54) (me2 := M_X4_fail) (b := 27) (kb := 4) (nb := 13) (As := [am_i 1, am_i ((zP b E i : Int))]) (rest := []) (c_failY hX 1 (zP b E i : Int) (by decide)) ⟨rfl, rfl⟩ (Ls_27 hX.1) (by decide) ⟨Or.inl km_X4_58, kc_X4_fail, kn_X4, kd_X4_fail, ⟨(Nat.le_of_ble_eq_true rfl), (Nat.le_of_ble_eq_true rfl)⟩, ⟨(Nat.le_of_ble_eq_true rfl), (Nat.le_of_ble_eq_true rfl)⟩, (Nat.le_of_ble_eq_true rfl)⟩ ki_X4_fail ks_X4_fail rfl (am_tab tk_X4_readName 26 rfl) rfl ?_
        rintro r T1 ⟨rfl, hX1, hG1⟩
        refine am_vret rfl (Nat.le_of_ble_eq_true rfl) (Nat.le_of_ble_eq_true rfl) (am_tab tk_X4_readName 27 rfl) ?_
        refine hQ _ _ ?_
        have e9 : naG b E false (.inl i) = .inr (1, (zP b E i : Int)) := by
          show (if zK b E i = 3 ∨ 155 ≤ zK b E i then (if false = true then (.inl (i + 1) : PZ) else .inr (3, (zP b E i : Int))) else .inr (1, mfP b E i)) = _
          rw [if_neg (by omega)]
          unfold mfP
          rw [if_neg h34]
        rw [e9]
        exact ⟨rfl, hX1, hG1⟩
      · refine am_aload_n (q := 38) rfl (am_tab tk_X4_readName 19 rfl) rfl ?_
        refine am_getI (q := 41) (a := 27) (k := 4) (n := 13) (j := 5) (x := (zP b E i : Int)) (Ls_27 hX.1) (by decide) rfl hX.2.2.2.1.2.2.1 (by decide) (Or.inl kf_X4_55) (am_tab tk_X4_readName 20 rfl) rfl ?_
        refine am_bipush (q := 43) (n := 6) (by decide) rfl (am_tab tk_X4_readName 21 rfl) rfl ?_
        refine am_iadd (q := 44) (by omega) (am_tab tk_X4_readName 22 rfl) rfl ?_
        refine am_goto (t := 51) (am_tab tk_X4_readName 23 rfl) (by decide) ?_
        refine am_callVr (q := 54) (me2 := M_X4_fail) (b := 27) (kb := 4) (nb := 13) (As := [am_i 1, am_i (((zP b E i : Int) + 6))]) (rest := []) (c_failY hX 1 ((zP b E i : Int) + 6) (by decide)) ⟨rfl, rfl⟩ (Ls_27 hX.1) (by decide) ⟨Or.inl km_X4_58, kc_X4_fail, kn_X4, kd_X4_fail, ⟨(Nat.le_of_ble_eq_true rfl), (Nat.le_of_ble_eq_true rfl)⟩, ⟨(Nat.le_of_ble_eq_true rfl), (Nat.le_of_ble_eq_true rfl)⟩, (Nat.le_of_ble_eq_true rfl)⟩ ki_X4_fail ks_X4_fail rfl (am_tab tk_X4_readName 26 rfl) rfl ?_
        rintro r T1 ⟨rfl, hX1, hG1⟩
        refine am_vret rfl (Nat.le_of_ble_eq_true rfl) (Nat.le_of_ble_eq_true rfl) (am_tab tk_X4_readName 27 rfl) ?_
        refine hQ _ _ ?_
        have e9 : naG b E false (.inl i) = .inr (1, (zP b E i : Int) + 6) := by
          show (if zK b E i = 3 ∨ 155 ≤ zK b E i then (if false = true then (.inl (i + 1) : PZ) else .inr (3, (zP b E i : Int))) else .inr (1, mfP b E i)) = _
          rw [if_neg (by omega)]
          unfold mfP
          rw [if_pos h34]
        rw [e9]
        exact ⟨rfl, hX1, hG1⟩
    · refine am_aload_n (q := 19) rfl (am_tab tk_X4_readName 8 rfl) rfl ?_
      refine am_iload_n (q := 20) rfl (am_tab tk_X4_readName 9 rfl) rfl ?_
      refine am_iconst (q := 21) (n := 3) (by decide) (am_tab tk_X4_readName 10 rfl) rfl ?_
      refine am_callVr (q := 24) (me2 := M_X4_pass) (b := 27) (kb := 4) (nb := 13) (As := [am_i 0, am_i 3]) (rest := []) (c_passYF hX 3 (by decide)) ⟨rfl, rfl⟩ (Ls_27 hX.1) (by decide) ⟨Or.inl km_X4_71, kc_X4_pass, kn_X4, kd_X4_pass, ⟨(Nat.le_of_ble_eq_true rfl), (Nat.le_of_ble_eq_true rfl)⟩, ⟨(Nat.le_of_ble_eq_true rfl), (Nat.le_of_ble_eq_true rfl)⟩, (Nat.le_of_ble_eq_true rfl)⟩ ki_X4_pass ks_X4_pass rfl (am_tab tk_X4_readName 11 rfl) rfl ?_
      rintro r T1 ⟨rfl, hX1, hG1⟩
      refine am_goto (t := 54) (am_tab tk_X4_readName 12 rfl) (by decide) ?_
      refine am_vret rfl (Nat.le_of_ble_eq_true rfl) (Nat.le_of_ble_eq_true rfl) (am_tab tk_X4_readName 27 rfl) ?_
      refine hQ _ _ ?_
      have e9 : naG b E false (.inl i) = .inr (3, (zP b E i : Int)) := by
        show (if zK b E i = 3 ∨ 155 ≤ zK b E i then (if false = true then (.inl (i + 1) : PZ) else .inr (3, (zP b E i : Int))) else .inr (1, mfP b E i)) = _
        rw [if_pos (by omega), if_neg (by decide)]
      rw [e9]
      exact ⟨rfl, hX1, hG1⟩
theorem c_nameYb0 (b : Nat → Int) (E : Nat) (cv : Nat → Int) (M : Nat) (e : Int × Int) (σ : am_H) (hX : RY b E cv M σ (.inr e))   : am_met M_X4_readName [am_r 27, am_i 0] σ (fun r σ' => r = none ∧ RY b E cv M σ' (.inr e) ∧ frw W_rz σ σ') := by
  refine am_qq (fun Q hQ => ?_)
  refine am_enter (show plainFor yX4_readName = true by decide +kernel) rfl (Nat.le_of_ble_eq_true rfl) (fun _ _ _ => trivial) ?_
  refine am_aload_n (q := 1) rfl (am_tab tk_X4_readName 0 rfl) rfl ?_
  refine am_getI (q := 4) (a := 27) (k := 4) (n := 13) (j := 4) (x := 6) (Ls_27 hX.1) (by decide) rfl hX.2.2.2.1.2.2.2 (by decide) (Or.inl kf_X4_45) (am_tab tk_X4_readName 1 rfl) rfl ?_
  refine am_iconst (q := 5) (n := 3) (by decide) (am_tab tk_X4_readName 2 rfl) rfl ?_
  refine am_icmp_eq (q := 8) (t := 18) (am_tab tk_X4_readName 3 rfl) (by decide) rfl (fun h5 => ?_) (fun h5 => ?_)
  · exact absurd h5 (by decide)
  · refine am_aload_n (q := 9) rfl (am_tab tk_X4_readName 4 rfl) rfl ?_
    refine am_getI (q := 12) (a := 27) (k := 4) (n := 13) (j := 4) (x := 6) (Ls_27 hX.1) (by decide) rfl hX.2.2.2.1.2.2.2 (by decide) (Or.inl kf_X4_45) (am_tab tk_X4_readName 5 rfl) rfl ?_
    refine am_sipush (q := 15) (n := 155) (by decide) rfl (am_tab tk_X4_readName 6 rfl) rfl ?_
    refine am_icmp_lt (q := 18) (t := 27) (am_tab tk_X4_readName 7 rfl) (by decide) rfl (fun h15 => ?_) (fun h15 => ?_)
    · refine am_aload_n (q := 28) rfl (am_tab tk_X4_readName 13 rfl) rfl ?_
      refine am_iconst (q := 29) (n := 1) (by decide) (am_tab tk_X4_readName 14 rfl) rfl ?_
      refine am_aload_n (q := 30) rfl (am_tab tk_X4_readName 15 rfl) rfl ?_
      refine am_getI (q := 33) (a := 27) (k := 4) (n := 13) (j := 4) (x := 6) (Ls_27 hX.1) (by decide) rfl hX.2.2.2.1.2.2.2 (by decide) (Or.inl kf_X4_45) (am_tab tk_X4_readName 16 rfl) rfl ?_
      refine am_iconst (q := 34) (n := 4) (by decide) (am_tab tk_X4_readName 17 rfl) rfl ?_
      refine am_icmp_ne (q := 37) (t := 47) (am_tab tk_X4_readName 18 rfl) (by decide) rfl (fun h34 => ?_) (fun h34 => ?_)
      · refine am_aload_n (q := 48) rfl (am_tab tk_X4_readName 24 rfl) rfl ?_
        refine am_getI (q := 51) (a := 27) (k := 4) (n := 13) (j := 5) (x := (σ.2.1 27 5)) (Ls_27 hX.1) (by decide) rfl rfl (by decide) (Or.inl kf_X4_55) (am_tab tk_X4_readName 25 rfl) rfl ?_
        refine am_callVr (q := 54) (me2 := M_X4_fail) (b := 27) (kb := 4) (nb := 13) (As := [am_i 1, am_i ((σ.2.1 27 5))]) (rest := []) (c_failY hX 1 (σ.2.1 27 5) (by decide)) ⟨rfl, rfl⟩ (Ls_27 hX.1) (by decide) ⟨Or.inl km_X4_58, kc_X4_fail, kn_X4, kd_X4_fail, ⟨(Nat.le_of_ble_eq_true rfl), (Nat.le_of_ble_eq_true rfl)⟩, ⟨(Nat.le_of_ble_eq_true rfl), (Nat.le_of_ble_eq_true rfl)⟩, (Nat.le_of_ble_eq_true rfl)⟩ ki_X4_fail ks_X4_fail rfl (am_tab tk_X4_readName 26 rfl) rfl ?_
        rintro r T1 ⟨rfl, hX1, hG1⟩
        refine am_vret rfl (Nat.le_of_ble_eq_true rfl) (Nat.le_of_ble_eq_true rfl) (am_tab tk_X4_readName 27 rfl) ?_
        refine hQ _ _ ?_
        exact ⟨rfl, hX1, hG1⟩
      · exact absurd h34 (by decide)
    · exact absurd h15 (by decide)
theorem c_nameZ0 {b : Nat → Int} {E : Nat} {cv : Nat → Int} {M : Nat} {σ : am_H} {p : PZ} (hX : RY b E cv M σ p) : am_met M_X4_readName [am_r 27, am_i 0] σ (fun r σ' => r = none ∧ RY b E cv M σ' (naG b E false p) ∧ frw W_rz σ σ') := by
  cases p with
  | inl i => exact c_nameYi0 b E cv M i σ hX
  | inr e => exact c_nameYb0 b E cv M e σ hX
