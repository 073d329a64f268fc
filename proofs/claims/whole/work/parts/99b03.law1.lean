theorem and63 (x : Int) : 0 ≤ ao_and x 63 ∧ ao_and x 63 ≤ 63 := by
  have h : (Int32.ofInt x &&& Int32.ofInt 63).toBitVec.toNat ≤ 63 := by
    rw [Int32.toBitVec_and, BitVec.toNat_and]
    exact Nat.le_trans Nat.and_le_right (by decide)
  have e : ao_and x 63 = ((Int32.ofInt x &&& Int32.ofInt 63).toBitVec.toNat : Int) := by
    show (Int32.ofInt x &&& Int32.ofInt 63).toBitVec.toInt = _
    rw [BitVec.toInt_eq_toNat_of_lt (by omega)]
  rw [e]
  omega
/-- the room taken so far -/
def RMk (k cells slots : Nat) : Prop := k ≤ 512 ∧ cells ≤ 131 + 5 * k ∧ slots ≤ 26526 + 4800 * k
theorem cmp_eq (x : Int) : ao_cmp x x = 0 := by
  unfold ao_cmp
  simp
set_option maxRecDepth 20000 in
theorem law_feed {L : Nat} {xs : Nat → Int32} {Q : Option am_V → am_H → Prop} {cells slots k : Nat} {σ : am_H} (hL : L ≤ 3072) (hkL : 6 * (k : Int) ≤ (L : Int) - 6) (hI : INV k σ) (hR : RMk k cells slots) (kk : ∀ (cells slots : Nat) (σ' : am_H), INV (k + 1) σ' → cells ≤ 131 + 5 * (k + 1) → slots ≤ 26526 + 4800 * (k + 1) → am_wp (M_L L xs) Q cells slots 1027 [(3, am_i (6 * (k : Int))), (2, am_r 55), (1, am_r 0), (0, am_s 2)] [] σ') : am_wp (M_L L xs) Q cells slots 184 [(3, am_i (6 * (k : Int))), (2, am_r 55), (1, am_r 0), (0, am_s 2)] [] σ := by
  have hL0 : lay σ := by
    obtain ⟨t, f, c, h⟩ := hI
    exact h.G.L
  have hop := op_feed ((xs (6 * (k : Int) + 1).toNat).toInt) ((xs (6 * (k : Int) + 2).toNat).toInt) ((xs (6 * (k : Int) + 3).toNat).toInt) ((xs (6 * (k : Int) + 4).toNat).toInt) ((xs (6 * (k : Int) + 5).toNat).toInt)
  refine am_aload_n (q := 185) rfl (am_tab tk_L_law 22 rfl) rfl ?_
  refine am_sload (q := 186) (k := 2) rfl (am_tab tk_L_law 23 rfl) rfl ?_
  refine am_iload_n (q := 187) rfl (am_tab tk_L_law 24 rfl) rfl ?_
  refine am_iconst (q := 188) (n := 1) (by decide) (am_tab tk_L_law 25 rfl) rfl ?_
  refine am_iadd (q := 189) (by omega) (am_tab tk_L_law 26 rfl) rfl ?_
  refine am_sld (q := 190) (by omega) (by omega) (am_tab tk_L_law 27 rfl) rfl ?_
  refine am_sload (q := 191) (k := 2) rfl (am_tab tk_L_law 28 rfl) rfl ?_
  refine am_iload_n (q := 192) rfl (am_tab tk_L_law 29 rfl) rfl ?_
  refine am_iconst (q := 193) (n := 2) (by decide) (am_tab tk_L_law 30 rfl) rfl ?_
  refine am_iadd (q := 194) (by omega) (am_tab tk_L_law 31 rfl) rfl ?_
  refine am_sld (q := 195) (by omega) (by omega) (am_tab tk_L_law 32 rfl) rfl ?_
  refine am_sload (q := 196) (k := 2) rfl (am_tab tk_L_law 33 rfl) rfl ?_
  refine am_iload_n (q := 197) rfl (am_tab tk_L_law 34 rfl) rfl ?_
  refine am_iconst (q := 198) (n := 3) (by decide) (am_tab tk_L_law 35 rfl) rfl ?_
  refine am_iadd (q := 199) (by omega) (am_tab tk_L_law 36 rfl) rfl ?_
  refine am_sld (q := 200) (by omega) (by omega) (am_tab tk_L_law 37 rfl) rfl ?_
  refine am_sload (q := 201) (k := 2) rfl (am_tab tk_L_law 38 rfl) rfl ?_
  refine am_iload_n (q := 202) rfl (am_tab tk_L_law 39 rfl) rfl ?_
  refine am_iconst (q := 203) (n := 4) (by decide) (am_tab tk_L_law 40 rfl) rfl ?_
  refine am_iadd (q := 204) (by omega) (am_tab tk_L_law 41 rfl) rfl ?_
  refine am_sld (q := 205) (by omega) (by omega) (am_tab tk_L_law 42 rfl) rfl ?_
  refine am_sload (q := 206) (k := 2) rfl (am_tab tk_L_law 43 rfl) rfl ?_
  refine am_iload_n (q := 207) rfl (am_tab tk_L_law 44 rfl) rfl ?_
  refine am_iconst (q := 208) (n := 5) (by decide) (am_tab tk_L_law 45 rfl) rfl ?_
  refine am_iadd (q := 209) (by omega) (am_tab tk_L_law 46 rfl) rfl ?_
  refine am_sld (q := 210) (by omega) (by omega) (am_tab tk_L_law 47 rfl) rfl ?_
  refine am_callV (q := 213) (me2 := M_X9_feed) (b := 0) (kb := 9) (nb := 17) (As := [am_i ((xs (6 * (k : Int) + 1).toNat).toInt), am_i ((xs (6 * (k : Int) + 2).toNat).toInt), am_i ((xs (6 * (k : Int) + 3).toNat).toInt), am_i ((xs (6 * (k : Int) + 4).toNat).toInt), am_i ((xs (6 * (k : Int) + 5).toNat).toInt)]) (rest := []) (hop k σ (by unfold RMk at hR; omega) hI) (hL0.1 0 (by decide)) (by decide) ⟨Or.inl km_L_13, kc_X9_feed, kn_X9, kd_X9_feed, ⟨(Nat.le_of_ble_eq_true rfl), (Nat.le_of_ble_eq_true rfl)⟩, ⟨(by show cells + 0 ≤ 600000; have h9 := hR; unfold RMk at h9; omega), (by show slots + 0 ≤ 7302250; have h9 := hR; unfold RMk at h9; omega)⟩, (Nat.le_of_ble_eq_true rfl)⟩ ki_X9_feed ks_X9_feed rfl (am_tab tk_L_law 48 rfl) rfl ?_
  rintro r σ' ⟨v, rfl, hL1, hM⟩
  refine am_aload_n (q := 214) rfl (am_tab tk_L_law 49 rfl) rfl ?_
  refine am_sload (q := 215) (k := 2) rfl (am_tab tk_L_law 50 rfl) rfl ?_
  refine am_iload_n (q := 216) rfl (am_tab tk_L_law 51 rfl) rfl ?_
  refine am_iconst (q := 217) (n := 1) (by decide) (am_tab tk_L_law 52 rfl) rfl ?_
  refine am_iadd (q := 218) (by omega) (am_tab tk_L_law 53 rfl) rfl ?_
  refine am_sld (q := 219) (by omega) (by omega) (am_tab tk_L_law 54 rfl) rfl ?_
  refine am_sload (q := 220) (k := 2) rfl (am_tab tk_L_law 55 rfl) rfl ?_
  refine am_iload_n (q := 221) rfl (am_tab tk_L_law 56 rfl) rfl ?_
  refine am_iconst (q := 222) (n := 2) (by decide) (am_tab tk_L_law 57 rfl) rfl ?_
  refine am_iadd (q := 223) (by omega) (am_tab tk_L_law 58 rfl) rfl ?_
  refine am_sld (q := 224) (by omega) (by omega) (am_tab tk_L_law 59 rfl) rfl ?_
  refine am_sload (q := 225) (k := 2) rfl (am_tab tk_L_law 60 rfl) rfl ?_
  refine am_iload_n (q := 226) rfl (am_tab tk_L_law 61 rfl) rfl ?_
  refine am_iconst (q := 227) (n := 3) (by decide) (am_tab tk_L_law 62 rfl) rfl ?_
  refine am_iadd (q := 228) (by omega) (am_tab tk_L_law 63 rfl) rfl ?_
  refine am_sld (q := 229) (by omega) (by omega) (am_tab tk_L_law 64 rfl) rfl ?_
  refine am_sload (q := 230) (k := 2) rfl (am_tab tk_L_law 65 rfl) rfl ?_
  refine am_iload_n (q := 231) rfl (am_tab tk_L_law 66 rfl) rfl ?_
  refine am_iconst (q := 232) (n := 4) (by decide) (am_tab tk_L_law 67 rfl) rfl ?_
  refine am_iadd (q := 233) (by omega) (am_tab tk_L_law 68 rfl) rfl ?_
  refine am_sld (q := 234) (by omega) (by omega) (am_tab tk_L_law 69 rfl) rfl ?_
  refine am_sload (q := 235) (k := 2) rfl (am_tab tk_L_law 70 rfl) rfl ?_
  refine am_iload_n (q := 236) rfl (am_tab tk_L_law 71 rfl) rfl ?_
  refine am_iconst (q := 237) (n := 5) (by decide) (am_tab tk_L_law 72 rfl) rfl ?_
  refine am_iadd (q := 238) (by omega) (am_tab tk_L_law 73 rfl) rfl ?_
  refine am_sld (q := 239) (by omega) (by omega) (am_tab tk_L_law 74 rfl) rfl ?_
  refine am_callV (q := 242) (me2 := M_X10_feed) (b := 55) (kb := 10) (nb := 108) (As := [am_i ((xs (6 * (k : Int) + 1).toNat).toInt), am_i ((xs (6 * (k : Int) + 2).toNat).toInt), am_i ((xs (6 * (k : Int) + 3).toNat).toInt), am_i ((xs (6 * (k : Int) + 4).toNat).toInt), am_i ((xs (6 * (k : Int) + 5).toNat).toInt)]) (rest := [am_i v]) hM (hL1.1 55 (by decide)) (by decide) ⟨Or.inl km_L_17, kc_X10_feed, kn_X10, kd_X10_feed, ⟨(Nat.le_of_ble_eq_true rfl), (Nat.le_of_ble_eq_true rfl)⟩, ⟨(by show cells + 0 + 0 ≤ 600000; have h9 := hR; unfold RMk at h9; omega), (by show slots + 0 + 0 ≤ 7302250; have h9 := hR; unfold RMk at h9; omega)⟩, (Nat.le_of_ble_eq_true rfl)⟩ ki_X10_feed ks_X10_feed rfl (am_tab tk_L_law 75 rfl) rfl ?_
  rintro r2 σ'' ⟨rfl, hI2⟩
  refine am_icmp_eq (q := 245) (t := 1027) (am_tab tk_L_law 76 rfl) (by decide) rfl (fun _ => ?_) (fun h => absurd rfl h)
  exact kk _ _ σ'' hI2 (by show cells + 0 + 0 ≤ _; have h9 := hR; unfold RMk at h9; omega) (by show slots + 0 + 0 ≤ _; have h9 := hR; unfold RMk at h9; omega)
set_option maxRecDepth 20000 in
theorem law_end {L : Nat} {xs : Nat → Int32} {Q : Option am_V → am_H → Prop} {cells slots k : Nat} {σ : am_H} (hL : L ≤ 3072) (hkL : 6 * (k : Int) ≤ (L : Int) - 6) (hI : INV k σ) (hR : RMk k cells slots) (kk : ∀ (cells slots : Nat) (σ' : am_H), INV (k + 1) σ' → cells ≤ 131 + 5 * (k + 1) → slots ≤ 26526 + 4800 * (k + 1) → am_wp (M_L L xs) Q cells slots 1027 [(3, am_i (6 * (k : Int))), (2, am_r 55), (1, am_r 0), (0, am_s 2)] [] σ') : am_wp (M_L L xs) Q cells slots 247 [(3, am_i (6 * (k : Int))), (2, am_r 55), (1, am_r 0), (0, am_s 2)] [] σ := by
  have hL0 : lay σ := by
    obtain ⟨t, f, c, h⟩ := hI
    exact h.G.L
  have hop := op_end ((xs (6 * (k : Int) + 1).toNat).toInt)
  refine am_aload_n (q := 248) rfl (am_tab tk_L_law 79 rfl) rfl ?_
  refine am_sload (q := 249) (k := 2) rfl (am_tab tk_L_law 80 rfl) rfl ?_
  refine am_iload_n (q := 250) rfl (am_tab tk_L_law 81 rfl) rfl ?_
  refine am_iconst (q := 251) (n := 1) (by decide) (am_tab tk_L_law 82 rfl) rfl ?_
  refine am_iadd (q := 252) (by omega) (am_tab tk_L_law 83 rfl) rfl ?_
  refine am_sld (q := 253) (by omega) (by omega) (am_tab tk_L_law 84 rfl) rfl ?_
  refine am_callV (q := 256) (me2 := M_X9_end) (b := 0) (kb := 9) (nb := 17) (As := [am_i ((xs (6 * (k : Int) + 1).toNat).toInt)]) (rest := []) (hop k σ (by unfold RMk at hR; omega) hI) (hL0.1 0 (by decide)) (by decide) ⟨Or.inl km_L_18, kc_X9_end, kn_X9, kd_X9_end, ⟨(Nat.le_of_ble_eq_true rfl), (Nat.le_of_ble_eq_true rfl)⟩, ⟨(by show cells + 0 ≤ 600000; have h9 := hR; unfold RMk at h9; omega), (by show slots + 0 ≤ 7302250; have h9 := hR; unfold RMk at h9; omega)⟩, (Nat.le_of_ble_eq_true rfl)⟩ ki_X9_end ks_X9_end rfl (am_tab tk_L_law 85 rfl) rfl ?_
  rintro r σ' ⟨v, rfl, hL1, hM⟩
  refine am_aload_n (q := 257) rfl (am_tab tk_L_law 86 rfl) rfl ?_
  refine am_sload (q := 258) (k := 2) rfl (am_tab tk_L_law 87 rfl) rfl ?_
  refine am_iload_n (q := 259) rfl (am_tab tk_L_law 88 rfl) rfl ?_
  refine am_iconst (q := 260) (n := 1) (by decide) (am_tab tk_L_law 89 rfl) rfl ?_
  refine am_iadd (q := 261) (by omega) (am_tab tk_L_law 90 rfl) rfl ?_
  refine am_sld (q := 262) (by omega) (by omega) (am_tab tk_L_law 91 rfl) rfl ?_
  refine am_callV (q := 265) (me2 := M_X10_end) (b := 55) (kb := 10) (nb := 108) (As := [am_i ((xs (6 * (k : Int) + 1).toNat).toInt)]) (rest := [am_i v]) hM (hL1.1 55 (by decide)) (by decide) ⟨Or.inl km_L_22, kc_X10_end, kn_X10, kd_X10_end, ⟨(Nat.le_of_ble_eq_true rfl), (Nat.le_of_ble_eq_true rfl)⟩, ⟨(by show cells + 0 + 0 ≤ 600000; have h9 := hR; unfold RMk at h9; omega), (by show slots + 0 + 0 ≤ 7302250; have h9 := hR; unfold RMk at h9; omega)⟩, (Nat.le_of_ble_eq_true rfl)⟩ ki_X10_end ks_X10_end rfl (am_tab tk_L_law 92 rfl) rfl ?_
  rintro r2 σ'' ⟨rfl, hI2⟩
  refine am_icmp_eq (q := 268) (t := 1027) (am_tab tk_L_law 93 rfl) (by decide) rfl (fun _ => ?_) (fun h => absurd rfl h)
  exact kk _ _ σ'' hI2 (by show cells + 0 + 0 ≤ _; have h9 := hR; unfold RMk at h9; omega) (by show slots + 0 + 0 ≤ _; have h9 := hR; unfold RMk at h9; omega)
set_option maxRecDepth 20000 in
theorem law_town {L : Nat} {xs : Nat → Int32} {Q : Option am_V → am_H → Prop} {cells slots k : Nat} {σ : am_H} (hL : L ≤ 3072) (hkL : 6 * (k : Int) ≤ (L : Int) - 6) (hI : INV k σ) (hR : RMk k cells slots) (kk : ∀ (cells slots : Nat) (σ' : am_H), INV (k + 1) σ' → cells ≤ 131 + 5 * (k + 1) → slots ≤ 26526 + 4800 * (k + 1) → am_wp (M_L L xs) Q cells slots 1027 [(3, am_i (6 * (k : Int))), (2, am_r 55), (1, am_r 0), (0, am_s 2)] [] σ') : am_wp (M_L L xs) Q cells slots 270 [(3, am_i (6 * (k : Int))), (2, am_r 55), (1, am_r 0), (0, am_s 2)] [] σ := by
  have hL0 : lay σ := by
    obtain ⟨t, f, c, h⟩ := hI
    exact h.G.L
  have hop := op_town 
  refine am_aload_n (q := 271) rfl (am_tab tk_L_law 96 rfl) rfl ?_
  refine am_callV (q := 274) (me2 := M_X9_town) (b := 0) (kb := 9) (nb := 17) (As := []) (rest := []) (hop k σ (by unfold RMk at hR; omega) hI) (hL0.1 0 (by decide)) (by decide) ⟨Or.inl km_L_23, kc_X9_town, kn_X9, kd_X9_town, ⟨(Nat.le_of_ble_eq_true rfl), (Nat.le_of_ble_eq_true rfl)⟩, ⟨(by show cells + 3 ≤ 600000; have h9 := hR; unfold RMk at h9; omega), (by show slots + 4800 ≤ 7302250; have h9 := hR; unfold RMk at h9; omega)⟩, (Nat.le_of_ble_eq_true rfl)⟩ ki_X9_town ks_X9_town rfl (am_tab tk_L_law 97 rfl) rfl ?_
  rintro r σ' ⟨v, rfl, hL1, hM⟩
  refine am_aload_n (q := 275) rfl (am_tab tk_L_law 98 rfl) rfl ?_
  refine am_callV (q := 278) (me2 := M_X10_town) (b := 55) (kb := 10) (nb := 108) (As := []) (rest := [am_i v]) hM (hL1.1 55 (by decide)) (by decide) ⟨Or.inl km_L_27, kc_X10_town, kn_X10, kd_X10_town, ⟨(Nat.le_of_ble_eq_true rfl), (Nat.le_of_ble_eq_true rfl)⟩, ⟨(by show cells + 3 + 0 ≤ 600000; have h9 := hR; unfold RMk at h9; omega), (by show slots + 4800 + 0 ≤ 7302250; have h9 := hR; unfold RMk at h9; omega)⟩, (Nat.le_of_ble_eq_true rfl)⟩ ki_X10_town ks_X10_town rfl (am_tab tk_L_law 99 rfl) rfl ?_
  rintro r2 σ'' ⟨rfl, hI2⟩
  refine am_icmp_eq (q := 281) (t := 1027) (am_tab tk_L_law 100 rfl) (by decide) rfl (fun _ => ?_) (fun h => absurd rfl h)
  exact kk _ _ σ'' hI2 (by show cells + 3 + 0 ≤ _; have h9 := hR; unfold RMk at h9; omega) (by show slots + 4800 + 0 ≤ _; have h9 := hR; unfold RMk at h9; omega)
set_option maxRecDepth 20000 in
theorem law_fault {L : Nat} {xs : Nat → Int32} {Q : Option am_V → am_H → Prop} {cells slots k : Nat} {σ : am_H} (hL : L ≤ 3072) (hkL : 6 * (k : Int) ≤ (L : Int) - 6) (hI : INV k σ) (hR : RMk k cells slots) (kk : ∀ (cells slots : Nat) (σ' : am_H), INV (k + 1) σ' → cells ≤ 131 + 5 * (k + 1) → slots ≤ 26526 + 4800 * (k + 1) → am_wp (M_L L xs) Q cells slots 1027 [(3, am_i (6 * (k : Int))), (2, am_r 55), (1, am_r 0), (0, am_s 2)] [] σ') : am_wp (M_L L xs) Q cells slots 283 [(3, am_i (6 * (k : Int))), (2, am_r 55), (1, am_r 0), (0, am_s 2)] [] σ := by
  have hL0 : lay σ := by
    obtain ⟨t, f, c, h⟩ := hI
    exact h.G.L
  have hop := op_fault ((xs (6 * (k : Int) + 1).toNat).toInt)
  refine am_aload_n (q := 284) rfl (am_tab tk_L_law 103 rfl) rfl ?_
  refine am_sload (q := 285) (k := 2) rfl (am_tab tk_L_law 104 rfl) rfl ?_
  refine am_iload_n (q := 286) rfl (am_tab tk_L_law 105 rfl) rfl ?_
  refine am_iconst (q := 287) (n := 1) (by decide) (am_tab tk_L_law 106 rfl) rfl ?_
  refine am_iadd (q := 288) (by omega) (am_tab tk_L_law 107 rfl) rfl ?_
  refine am_sld (q := 289) (by omega) (by omega) (am_tab tk_L_law 108 rfl) rfl ?_
  refine am_callV (q := 292) (me2 := M_X9_fault) (b := 0) (kb := 9) (nb := 17) (As := [am_i ((xs (6 * (k : Int) + 1).toNat).toInt)]) (rest := []) (hop k σ (by unfold RMk at hR; omega) hI) (hL0.1 0 (by decide)) (by decide) ⟨Or.inl km_L_28, kc_X9_fault, kn_X9, kd_X9_fault, ⟨(Nat.le_of_ble_eq_true rfl), (Nat.le_of_ble_eq_true rfl)⟩, ⟨(by show cells + 0 ≤ 600000; have h9 := hR; unfold RMk at h9; omega), (by show slots + 0 ≤ 7302250; have h9 := hR; unfold RMk at h9; omega)⟩, (Nat.le_of_ble_eq_true rfl)⟩ ki_X9_fault ks_X9_fault rfl (am_tab tk_L_law 109 rfl) rfl ?_
  rintro r σ' ⟨v, rfl, hL1, hM⟩
  refine am_aload_n (q := 293) rfl (am_tab tk_L_law 110 rfl) rfl ?_
  refine am_sload (q := 294) (k := 2) rfl (am_tab tk_L_law 111 rfl) rfl ?_
  refine am_iload_n (q := 295) rfl (am_tab tk_L_law 112 rfl) rfl ?_
  refine am_iconst (q := 296) (n := 1) (by decide) (am_tab tk_L_law 113 rfl) rfl ?_
  refine am_iadd (q := 297) (by omega) (am_tab tk_L_law 114 rfl) rfl ?_
  refine am_sld (q := 298) (by omega) (by omega) (am_tab tk_L_law 115 rfl) rfl ?_
  refine am_callV (q := 301) (me2 := M_X10_fault) (b := 55) (kb := 10) (nb := 108) (As := [am_i ((xs (6 * (k : Int) + 1).toNat).toInt)]) (rest := [am_i v]) hM (hL1.1 55 (by decide)) (by decide) ⟨Or.inl km_L_32, kc_X10_fault, kn_X10, kd_X10_fault, ⟨(Nat.le_of_ble_eq_true rfl), (Nat.le_of_ble_eq_true rfl)⟩, ⟨(by show cells + 0 + 0 ≤ 600000; have h9 := hR; unfold RMk at h9; omega), (by show slots + 0 + 0 ≤ 7302250; have h9 := hR; unfold RMk at h9; omega)⟩, (Nat.le_of_ble_eq_true rfl)⟩ ki_X10_fault ks_X10_fault rfl (am_tab tk_L_law 116 rfl) rfl ?_
  rintro r2 σ'' ⟨rfl, hI2⟩
  refine am_icmp_eq (q := 304) (t := 1027) (am_tab tk_L_law 117 rfl) (by decide) rfl (fun _ => ?_) (fun h => absurd rfl h)
  exact kk _ _ σ'' hI2 (by show cells + 0 + 0 ≤ _; have h9 := hR; unfold RMk at h9; omega) (by show slots + 0 + 0 ≤ _; have h9 := hR; unfold RMk at h9; omega)
set_option maxRecDepth 20000 in
theorem law_has {L : Nat} {xs : Nat → Int32} {Q : Option am_V → am_H → Prop} {cells slots k : Nat} {σ : am_H} (hL : L ≤ 3072) (hkL : 6 * (k : Int) ≤ (L : Int) - 6) (hI : INV k σ) (hR : RMk k cells slots) (kk : ∀ (cells slots : Nat) (σ' : am_H), INV (k + 1) σ' → cells ≤ 131 + 5 * (k + 1) → slots ≤ 26526 + 4800 * (k + 1) → am_wp (M_L L xs) Q cells slots 1027 [(3, am_i (6 * (k : Int))), (2, am_r 55), (1, am_r 0), (0, am_s 2)] [] σ') : am_wp (M_L L xs) Q cells slots 306 [(3, am_i (6 * (k : Int))), (2, am_r 55), (1, am_r 0), (0, am_s 2)] [] σ := by
  have hL0 : lay σ := by
    obtain ⟨t, f, c, h⟩ := hI
    exact h.G.L
  have hop := op_has ((xs (6 * (k : Int) + 1).toNat).toInt)
  refine am_aload_n (q := 307) rfl (am_tab tk_L_law 120 rfl) rfl ?_
  refine am_sload (q := 308) (k := 2) rfl (am_tab tk_L_law 121 rfl) rfl ?_
  refine am_iload_n (q := 309) rfl (am_tab tk_L_law 122 rfl) rfl ?_
  refine am_iconst (q := 310) (n := 1) (by decide) (am_tab tk_L_law 123 rfl) rfl ?_
  refine am_iadd (q := 311) (by omega) (am_tab tk_L_law 124 rfl) rfl ?_
  refine am_sld (q := 312) (by omega) (by omega) (am_tab tk_L_law 125 rfl) rfl ?_
  refine am_callV (q := 315) (me2 := M_X9_has) (b := 0) (kb := 9) (nb := 17) (As := [am_i ((xs (6 * (k : Int) + 1).toNat).toInt)]) (rest := []) (hop k σ (by unfold RMk at hR; omega) hI) (hL0.1 0 (by decide)) (by decide) ⟨Or.inl km_L_33, kc_X9_has, kn_X9, kd_X9_has, ⟨(Nat.le_of_ble_eq_true rfl), (Nat.le_of_ble_eq_true rfl)⟩, ⟨(by show cells + 0 ≤ 600000; have h9 := hR; unfold RMk at h9; omega), (by show slots + 0 ≤ 7302250; have h9 := hR; unfold RMk at h9; omega)⟩, (Nat.le_of_ble_eq_true rfl)⟩ ki_X9_has ks_X9_has rfl (am_tab tk_L_law 126 rfl) rfl ?_
  rintro r σ' ⟨v, rfl, hL1, hM⟩
  refine am_aload_n (q := 316) rfl (am_tab tk_L_law 127 rfl) rfl ?_
  refine am_sload (q := 317) (k := 2) rfl (am_tab tk_L_law 128 rfl) rfl ?_
  refine am_iload_n (q := 318) rfl (am_tab tk_L_law 129 rfl) rfl ?_
  refine am_iconst (q := 319) (n := 1) (by decide) (am_tab tk_L_law 130 rfl) rfl ?_
  refine am_iadd (q := 320) (by omega) (am_tab tk_L_law 131 rfl) rfl ?_
  refine am_sld (q := 321) (by omega) (by omega) (am_tab tk_L_law 132 rfl) rfl ?_
  refine am_callV (q := 324) (me2 := M_X10_has) (b := 55) (kb := 10) (nb := 108) (As := [am_i ((xs (6 * (k : Int) + 1).toNat).toInt)]) (rest := [am_i v]) hM (hL1.1 55 (by decide)) (by decide) ⟨Or.inl km_L_36, kc_X10_has, kn_X10, kd_X10_has, ⟨(Nat.le_of_ble_eq_true rfl), (Nat.le_of_ble_eq_true rfl)⟩, ⟨(by show cells + 0 + 0 ≤ 600000; have h9 := hR; unfold RMk at h9; omega), (by show slots + 0 + 0 ≤ 7302250; have h9 := hR; unfold RMk at h9; omega)⟩, (Nat.le_of_ble_eq_true rfl)⟩ ki_X10_has ks_X10_has rfl (am_tab tk_L_law 133 rfl) rfl ?_
  rintro r2 σ'' ⟨rfl, hI2⟩
  refine am_icmp_eq (q := 327) (t := 1027) (am_tab tk_L_law 134 rfl) (by decide) rfl (fun _ => ?_) (fun h => absurd rfl h)
  exact kk _ _ σ'' hI2 (by show cells + 0 + 0 ≤ _; have h9 := hR; unfold RMk at h9; omega) (by show slots + 0 + 0 ≤ _; have h9 := hR; unfold RMk at h9; omega)
set_option maxRecDepth 20000 in
theorem law_letter {L : Nat} {xs : Nat → Int32} {Q : Option am_V → am_H → Prop} {cells slots k : Nat} {σ : am_H} (hL : L ≤ 3072) (hkL : 6 * (k : Int) ≤ (L : Int) - 6) (hI : INV k σ) (hR : RMk k cells slots) (kk : ∀ (cells slots : Nat) (σ' : am_H), INV (k + 1) σ' → cells ≤ 131 + 5 * (k + 1) → slots ≤ 26526 + 4800 * (k + 1) → am_wp (M_L L xs) Q cells slots 1027 [(3, am_i (6 * (k : Int))), (2, am_r 55), (1, am_r 0), (0, am_s 2)] [] σ') : am_wp (M_L L xs) Q cells slots 329 [(3, am_i (6 * (k : Int))), (2, am_r 55), (1, am_r 0), (0, am_s 2)] [] σ := by
  have hL0 : lay σ := by
    obtain ⟨t, f, c, h⟩ := hI
    exact h.G.L
  have hop := op_letter ((xs (6 * (k : Int) + 1).toNat).toInt) ((xs (6 * (k : Int) + 2).toNat).toInt)
  refine am_aload_n (q := 330) rfl (am_tab tk_L_law 137 rfl) rfl ?_
  refine am_sload (q := 331) (k := 2) rfl (am_tab tk_L_law 138 rfl) rfl ?_
  refine am_iload_n (q := 332) rfl (am_tab tk_L_law 139 rfl) rfl ?_
  refine am_iconst (q := 333) (n := 1) (by decide) (am_tab tk_L_law 140 rfl) rfl ?_
  refine am_iadd (q := 334) (by omega) (am_tab tk_L_law 141 rfl) rfl ?_
  refine am_sld (q := 335) (by omega) (by omega) (am_tab tk_L_law 142 rfl) rfl ?_
  refine am_sload (q := 336) (k := 2) rfl (am_tab tk_L_law 143 rfl) rfl ?_
  refine am_iload_n (q := 337) rfl (am_tab tk_L_law 144 rfl) rfl ?_
  refine am_iconst (q := 338) (n := 2) (by decide) (am_tab tk_L_law 145 rfl) rfl ?_
  refine am_iadd (q := 339) (by omega) (am_tab tk_L_law 146 rfl) rfl ?_
  refine am_sld (q := 340) (by omega) (by omega) (am_tab tk_L_law 147 rfl) rfl ?_
  refine am_callV (q := 343) (me2 := M_X9_letter) (b := 0) (kb := 9) (nb := 17) (As := [am_i ((xs (6 * (k : Int) + 1).toNat).toInt), am_i ((xs (6 * (k : Int) + 2).toNat).toInt)]) (rest := []) (hop k σ (by unfold RMk at hR; omega) hI) (hL0.1 0 (by decide)) (by decide) ⟨Or.inl km_L_37, kc_X9_letter, kn_X9, kd_X9_letter, ⟨(Nat.le_of_ble_eq_true rfl), (Nat.le_of_ble_eq_true rfl)⟩, ⟨(by show cells + 0 ≤ 600000; have h9 := hR; unfold RMk at h9; omega), (by show slots + 0 ≤ 7302250; have h9 := hR; unfold RMk at h9; omega)⟩, (Nat.le_of_ble_eq_true rfl)⟩ ki_X9_letter ks_X9_letter rfl (am_tab tk_L_law 148 rfl) rfl ?_
  rintro r σ' ⟨v, rfl, hL1, hM⟩
  refine am_aload_n (q := 344) rfl (am_tab tk_L_law 149 rfl) rfl ?_
  refine am_sload (q := 345) (k := 2) rfl (am_tab tk_L_law 150 rfl) rfl ?_
  refine am_iload_n (q := 346) rfl (am_tab tk_L_law 151 rfl) rfl ?_
  refine am_iconst (q := 347) (n := 1) (by decide) (am_tab tk_L_law 152 rfl) rfl ?_
  refine am_iadd (q := 348) (by omega) (am_tab tk_L_law 153 rfl) rfl ?_
  refine am_sld (q := 349) (by omega) (by omega) (am_tab tk_L_law 154 rfl) rfl ?_
  refine am_sload (q := 350) (k := 2) rfl (am_tab tk_L_law 155 rfl) rfl ?_
  refine am_iload_n (q := 351) rfl (am_tab tk_L_law 156 rfl) rfl ?_
  refine am_iconst (q := 352) (n := 2) (by decide) (am_tab tk_L_law 157 rfl) rfl ?_
  refine am_iadd (q := 353) (by omega) (am_tab tk_L_law 158 rfl) rfl ?_
  refine am_sld (q := 354) (by omega) (by omega) (am_tab tk_L_law 159 rfl) rfl ?_
  refine am_callV (q := 357) (me2 := M_X10_letter) (b := 55) (kb := 10) (nb := 108) (As := [am_i ((xs (6 * (k : Int) + 1).toNat).toInt), am_i ((xs (6 * (k : Int) + 2).toNat).toInt)]) (rest := [am_i v]) hM (hL1.1 55 (by decide)) (by decide) ⟨Or.inl km_L_41, kc_X10_letter, kn_X10, kd_X10_letter, ⟨(Nat.le_of_ble_eq_true rfl), (Nat.le_of_ble_eq_true rfl)⟩, ⟨(by show cells + 0 + 0 ≤ 600000; have h9 := hR; unfold RMk at h9; omega), (by show slots + 0 + 0 ≤ 7302250; have h9 := hR; unfold RMk at h9; omega)⟩, (Nat.le_of_ble_eq_true rfl)⟩ ki_X10_letter ks_X10_letter rfl (am_tab tk_L_law 160 rfl) rfl ?_
  rintro r2 σ'' ⟨rfl, hI2⟩
  refine am_icmp_eq (q := 360) (t := 1027) (am_tab tk_L_law 161 rfl) (by decide) rfl (fun _ => ?_) (fun h => absurd rfl h)
  exact kk _ _ σ'' hI2 (by show cells + 0 + 0 ≤ _; have h9 := hR; unfold RMk at h9; omega) (by show slots + 0 + 0 ≤ _; have h9 := hR; unfold RMk at h9; omega)
set_option maxRecDepth 20000 in
theorem law_person {L : Nat} {xs : Nat → Int32} {Q : Option am_V → am_H → Prop} {cells slots k : Nat} {σ : am_H} (hL : L ≤ 3072) (hkL : 6 * (k : Int) ≤ (L : Int) - 6) (hI : INV k σ) (hR : RMk k cells slots) (kk : ∀ (cells slots : Nat) (σ' : am_H), INV (k + 1) σ' → cells ≤ 131 + 5 * (k + 1) → slots ≤ 26526 + 4800 * (k + 1) → am_wp (M_L L xs) Q cells slots 1027 [(3, am_i (6 * (k : Int))), (2, am_r 55), (1, am_r 0), (0, am_s 2)] [] σ') : am_wp (M_L L xs) Q cells slots 362 [(3, am_i (6 * (k : Int))), (2, am_r 55), (1, am_r 0), (0, am_s 2)] [] σ := by
  have hL0 : lay σ := by
    obtain ⟨t, f, c, h⟩ := hI
    exact h.G.L
  have hop := op_person ((xs (6 * (k : Int) + 1).toNat).toInt) ((xs (6 * (k : Int) + 2).toNat).toInt)
  refine am_aload_n (q := 363) rfl (am_tab tk_L_law 164 rfl) rfl ?_
  refine am_sload (q := 364) (k := 2) rfl (am_tab tk_L_law 165 rfl) rfl ?_
  refine am_iload_n (q := 365) rfl (am_tab tk_L_law 166 rfl) rfl ?_
  refine am_iconst (q := 366) (n := 1) (by decide) (am_tab tk_L_law 167 rfl) rfl ?_
  refine am_iadd (q := 367) (by omega) (am_tab tk_L_law 168 rfl) rfl ?_
  refine am_sld (q := 368) (by omega) (by omega) (am_tab tk_L_law 169 rfl) rfl ?_
  refine am_sload (q := 369) (k := 2) rfl (am_tab tk_L_law 170 rfl) rfl ?_
  refine am_iload_n (q := 370) rfl (am_tab tk_L_law 171 rfl) rfl ?_
  refine am_iconst (q := 371) (n := 2) (by decide) (am_tab tk_L_law 172 rfl) rfl ?_
  refine am_iadd (q := 372) (by omega) (am_tab tk_L_law 173 rfl) rfl ?_
  refine am_sld (q := 373) (by omega) (by omega) (am_tab tk_L_law 174 rfl) rfl ?_
  refine am_callV (q := 376) (me2 := M_X9_person) (b := 0) (kb := 9) (nb := 17) (As := [am_i ((xs (6 * (k : Int) + 1).toNat).toInt), am_i ((xs (6 * (k : Int) + 2).toNat).toInt)]) (rest := []) (hop k σ (by unfold RMk at hR; omega) hI) (hL0.1 0 (by decide)) (by decide) ⟨Or.inl km_L_42, kc_X9_person, kn_X9, kd_X9_person, ⟨(Nat.le_of_ble_eq_true rfl), (Nat.le_of_ble_eq_true rfl)⟩, ⟨(by show cells + 0 ≤ 600000; have h9 := hR; unfold RMk at h9; omega), (by show slots + 0 ≤ 7302250; have h9 := hR; unfold RMk at h9; omega)⟩, (Nat.le_of_ble_eq_true rfl)⟩ ki_X9_person ks_X9_person rfl (am_tab tk_L_law 175 rfl) rfl ?_
  rintro r σ' ⟨v, rfl, hL1, hM⟩
  refine am_aload_n (q := 377) rfl (am_tab tk_L_law 176 rfl) rfl ?_
  refine am_sload (q := 378) (k := 2) rfl (am_tab tk_L_law 177 rfl) rfl ?_
  refine am_iload_n (q := 379) rfl (am_tab tk_L_law 178 rfl) rfl ?_
  refine am_iconst (q := 380) (n := 1) (by decide) (am_tab tk_L_law 179 rfl) rfl ?_
  refine am_iadd (q := 381) (by omega) (am_tab tk_L_law 180 rfl) rfl ?_
  refine am_sld (q := 382) (by omega) (by omega) (am_tab tk_L_law 181 rfl) rfl ?_
  refine am_sload (q := 383) (k := 2) rfl (am_tab tk_L_law 182 rfl) rfl ?_
  refine am_iload_n (q := 384) rfl (am_tab tk_L_law 183 rfl) rfl ?_
  refine am_iconst (q := 385) (n := 2) (by decide) (am_tab tk_L_law 184 rfl) rfl ?_
  refine am_iadd (q := 386) (by omega) (am_tab tk_L_law 185 rfl) rfl ?_
  refine am_sld (q := 387) (by omega) (by omega) (am_tab tk_L_law 186 rfl) rfl ?_
  refine am_callV (q := 390) (me2 := M_X10_person) (b := 55) (kb := 10) (nb := 108) (As := [am_i ((xs (6 * (k : Int) + 1).toNat).toInt), am_i ((xs (6 * (k : Int) + 2).toNat).toInt)]) (rest := [am_i v]) hM (hL1.1 55 (by decide)) (by decide) ⟨Or.inl km_L_45, kc_X10_person, kn_X10, kd_X10_person, ⟨(Nat.le_of_ble_eq_true rfl), (Nat.le_of_ble_eq_true rfl)⟩, ⟨(by show cells + 0 + 0 ≤ 600000; have h9 := hR; unfold RMk at h9; omega), (by show slots + 0 + 0 ≤ 7302250; have h9 := hR; unfold RMk at h9; omega)⟩, (Nat.le_of_ble_eq_true rfl)⟩ ki_X10_person ks_X10_person rfl (am_tab tk_L_law 187 rfl) rfl ?_
  rintro r2 σ'' ⟨rfl, hI2⟩
  refine am_icmp_eq (q := 393) (t := 1027) (am_tab tk_L_law 188 rfl) (by decide) rfl (fun _ => ?_) (fun h => absurd rfl h)
  exact kk _ _ σ'' hI2 (by show cells + 0 + 0 ≤ _; have h9 := hR; unfold RMk at h9; omega) (by show slots + 0 + 0 ≤ _; have h9 := hR; unfold RMk at h9; omega)
set_option maxRecDepth 20000 in
theorem law_day {L : Nat} {xs : Nat → Int32} {Q : Option am_V → am_H → Prop} {cells slots k : Nat} {σ : am_H} (hL : L ≤ 3072) (hkL : 6 * (k : Int) ≤ (L : Int) - 6) (hI : INV k σ) (hR : RMk k cells slots) (kk : ∀ (cells slots : Nat) (σ' : am_H), INV (k + 1) σ' → cells ≤ 131 + 5 * (k + 1) → slots ≤ 26526 + 4800 * (k + 1) → am_wp (M_L L xs) Q cells slots 1027 [(3, am_i (6 * (k : Int))), (2, am_r 55), (1, am_r 0), (0, am_s 2)] [] σ') : am_wp (M_L L xs) Q cells slots 395 [(3, am_i (6 * (k : Int))), (2, am_r 55), (1, am_r 0), (0, am_s 2)] [] σ := by
  have hL0 : lay σ := by
    obtain ⟨t, f, c, h⟩ := hI
    exact h.G.L
  have hop := op_day ((xs (6 * (k : Int) + 1).toNat).toInt) ((xs (6 * (k : Int) + 2).toNat).toInt)
  refine am_aload_n (q := 396) rfl (am_tab tk_L_law 191 rfl) rfl ?_
  refine am_sload (q := 397) (k := 2) rfl (am_tab tk_L_law 192 rfl) rfl ?_
  refine am_iload_n (q := 398) rfl (am_tab tk_L_law 193 rfl) rfl ?_
  refine am_iconst (q := 399) (n := 1) (by decide) (am_tab tk_L_law 194 rfl) rfl ?_
  refine am_iadd (q := 400) (by omega) (am_tab tk_L_law 195 rfl) rfl ?_
  refine am_sld (q := 401) (by omega) (by omega) (am_tab tk_L_law 196 rfl) rfl ?_
  refine am_sload (q := 402) (k := 2) rfl (am_tab tk_L_law 197 rfl) rfl ?_
  refine am_iload_n (q := 403) rfl (am_tab tk_L_law 198 rfl) rfl ?_
  refine am_iconst (q := 404) (n := 2) (by decide) (am_tab tk_L_law 199 rfl) rfl ?_
  refine am_iadd (q := 405) (by omega) (am_tab tk_L_law 200 rfl) rfl ?_
  refine am_sld (q := 406) (by omega) (by omega) (am_tab tk_L_law 201 rfl) rfl ?_
  refine am_callV (q := 409) (me2 := M_X9_day) (b := 0) (kb := 9) (nb := 17) (As := [am_i ((xs (6 * (k : Int) + 1).toNat).toInt), am_i ((xs (6 * (k : Int) + 2).toNat).toInt)]) (rest := []) (hop k σ (by unfold RMk at hR; omega) hI) (hL0.1 0 (by decide)) (by decide) ⟨Or.inl km_L_46, kc_X9_day, kn_X9, kd_X9_day, ⟨(Nat.le_of_ble_eq_true rfl), (Nat.le_of_ble_eq_true rfl)⟩, ⟨(by show cells + 0 ≤ 600000; have h9 := hR; unfold RMk at h9; omega), (by show slots + 0 ≤ 7302250; have h9 := hR; unfold RMk at h9; omega)⟩, (Nat.le_of_ble_eq_true rfl)⟩ ki_X9_day ks_X9_day rfl (am_tab tk_L_law 202 rfl) rfl ?_
  rintro r σ' ⟨v, rfl, hL1, hM⟩
  refine am_aload_n (q := 410) rfl (am_tab tk_L_law 203 rfl) rfl ?_
  refine am_sload (q := 411) (k := 2) rfl (am_tab tk_L_law 204 rfl) rfl ?_
  refine am_iload_n (q := 412) rfl (am_tab tk_L_law 205 rfl) rfl ?_
  refine am_iconst (q := 413) (n := 1) (by decide) (am_tab tk_L_law 206 rfl) rfl ?_
  refine am_iadd (q := 414) (by omega) (am_tab tk_L_law 207 rfl) rfl ?_
  refine am_sld (q := 415) (by omega) (by omega) (am_tab tk_L_law 208 rfl) rfl ?_
  refine am_sload (q := 416) (k := 2) rfl (am_tab tk_L_law 209 rfl) rfl ?_
  refine am_iload_n (q := 417) rfl (am_tab tk_L_law 210 rfl) rfl ?_
  refine am_iconst (q := 418) (n := 2) (by decide) (am_tab tk_L_law 211 rfl) rfl ?_
  refine am_iadd (q := 419) (by omega) (am_tab tk_L_law 212 rfl) rfl ?_
  refine am_sld (q := 420) (by omega) (by omega) (am_tab tk_L_law 213 rfl) rfl ?_
  refine am_callV (q := 423) (me2 := M_X10_day) (b := 55) (kb := 10) (nb := 108) (As := [am_i ((xs (6 * (k : Int) + 1).toNat).toInt), am_i ((xs (6 * (k : Int) + 2).toNat).toInt)]) (rest := [am_i v]) hM (hL1.1 55 (by decide)) (by decide) ⟨Or.inl km_L_49, kc_X10_day, kn_X10, kd_X10_day, ⟨(Nat.le_of_ble_eq_true rfl), (Nat.le_of_ble_eq_true rfl)⟩, ⟨(by show cells + 0 + 0 ≤ 600000; have h9 := hR; unfold RMk at h9; omega), (by show slots + 0 + 0 ≤ 7302250; have h9 := hR; unfold RMk at h9; omega)⟩, (Nat.le_of_ble_eq_true rfl)⟩ ki_X10_day ks_X10_day rfl (am_tab tk_L_law 214 rfl) rfl ?_
  rintro r2 σ'' ⟨rfl, hI2⟩
  refine am_icmp_eq (q := 426) (t := 1027) (am_tab tk_L_law 215 rfl) (by decide) rfl (fun _ => ?_) (fun h => absurd rfl h)
  exact kk _ _ σ'' hI2 (by show cells + 0 + 0 ≤ _; have h9 := hR; unfold RMk at h9; omega) (by show slots + 0 + 0 ≤ _; have h9 := hR; unfold RMk at h9; omega)
set_option maxRecDepth 20000 in
theorem law_kept {L : Nat} {xs : Nat → Int32} {Q : Option am_V → am_H → Prop} {cells slots k : Nat} {σ : am_H} (hL : L ≤ 3072) (hkL : 6 * (k : Int) ≤ (L : Int) - 6) (hI : INV k σ) (hR : RMk k cells slots) (kk : ∀ (cells slots : Nat) (σ' : am_H), INV (k + 1) σ' → cells ≤ 131 + 5 * (k + 1) → slots ≤ 26526 + 4800 * (k + 1) → am_wp (M_L L xs) Q cells slots 1027 [(3, am_i (6 * (k : Int))), (2, am_r 55), (1, am_r 0), (0, am_s 2)] [] σ') : am_wp (M_L L xs) Q cells slots 428 [(3, am_i (6 * (k : Int))), (2, am_r 55), (1, am_r 0), (0, am_s 2)] [] σ := by
  have hL0 : lay σ := by
    obtain ⟨t, f, c, h⟩ := hI
    exact h.G.L
  have hop := op_kept ((xs (6 * (k : Int) + 1).toNat).toInt) ((xs (6 * (k : Int) + 2).toNat).toInt)
  refine am_aload_n (q := 429) rfl (am_tab tk_L_law 218 rfl) rfl ?_
  refine am_sload (q := 430) (k := 2) rfl (am_tab tk_L_law 219 rfl) rfl ?_
  refine am_iload_n (q := 431) rfl (am_tab tk_L_law 220 rfl) rfl ?_
  refine am_iconst (q := 432) (n := 1) (by decide) (am_tab tk_L_law 221 rfl) rfl ?_
  refine am_iadd (q := 433) (by omega) (am_tab tk_L_law 222 rfl) rfl ?_
  refine am_sld (q := 434) (by omega) (by omega) (am_tab tk_L_law 223 rfl) rfl ?_
  refine am_sload (q := 435) (k := 2) rfl (am_tab tk_L_law 224 rfl) rfl ?_
  refine am_iload_n (q := 436) rfl (am_tab tk_L_law 225 rfl) rfl ?_
  refine am_iconst (q := 437) (n := 2) (by decide) (am_tab tk_L_law 226 rfl) rfl ?_
  refine am_iadd (q := 438) (by omega) (am_tab tk_L_law 227 rfl) rfl ?_
  refine am_sld (q := 439) (by omega) (by omega) (am_tab tk_L_law 228 rfl) rfl ?_
  refine am_callV (q := 442) (me2 := M_X9_kept) (b := 0) (kb := 9) (nb := 17) (As := [am_i ((xs (6 * (k : Int) + 1).toNat).toInt), am_i ((xs (6 * (k : Int) + 2).toNat).toInt)]) (rest := []) (hop k σ (by unfold RMk at hR; omega) hI) (hL0.1 0 (by decide)) (by decide) ⟨Or.inl km_L_50, kc_X9_kept, kn_X9, kd_X9_kept, ⟨(Nat.le_of_ble_eq_true rfl), (Nat.le_of_ble_eq_true rfl)⟩, ⟨(by show cells + 0 ≤ 600000; have h9 := hR; unfold RMk at h9; omega), (by show slots + 0 ≤ 7302250; have h9 := hR; unfold RMk at h9; omega)⟩, (Nat.le_of_ble_eq_true rfl)⟩ ki_X9_kept ks_X9_kept rfl (am_tab tk_L_law 229 rfl) rfl ?_
  rintro r σ' ⟨v, rfl, hL1, hM⟩
  refine am_aload_n (q := 443) rfl (am_tab tk_L_law 230 rfl) rfl ?_
  refine am_sload (q := 444) (k := 2) rfl (am_tab tk_L_law 231 rfl) rfl ?_
  refine am_iload_n (q := 445) rfl (am_tab tk_L_law 232 rfl) rfl ?_
  refine am_iconst (q := 446) (n := 1) (by decide) (am_tab tk_L_law 233 rfl) rfl ?_
  refine am_iadd (q := 447) (by omega) (am_tab tk_L_law 234 rfl) rfl ?_
  refine am_sld (q := 448) (by omega) (by omega) (am_tab tk_L_law 235 rfl) rfl ?_
  refine am_sload (q := 449) (k := 2) rfl (am_tab tk_L_law 236 rfl) rfl ?_
  refine am_iload_n (q := 450) rfl (am_tab tk_L_law 237 rfl) rfl ?_
  refine am_iconst (q := 451) (n := 2) (by decide) (am_tab tk_L_law 238 rfl) rfl ?_
  refine am_iadd (q := 452) (by omega) (am_tab tk_L_law 239 rfl) rfl ?_
  refine am_sld (q := 453) (by omega) (by omega) (am_tab tk_L_law 240 rfl) rfl ?_
  refine am_callV (q := 456) (me2 := M_X10_kept) (b := 55) (kb := 10) (nb := 108) (As := [am_i ((xs (6 * (k : Int) + 1).toNat).toInt), am_i ((xs (6 * (k : Int) + 2).toNat).toInt)]) (rest := [am_i v]) hM (hL1.1 55 (by decide)) (by decide) ⟨Or.inl km_L_53, kc_X10_kept, kn_X10, kd_X10_kept, ⟨(Nat.le_of_ble_eq_true rfl), (Nat.le_of_ble_eq_true rfl)⟩, ⟨(by show cells + 0 + 0 ≤ 600000; have h9 := hR; unfold RMk at h9; omega), (by show slots + 0 + 0 ≤ 7302250; have h9 := hR; unfold RMk at h9; omega)⟩, (Nat.le_of_ble_eq_true rfl)⟩ ki_X10_kept ks_X10_kept rfl (am_tab tk_L_law 241 rfl) rfl ?_
  rintro r2 σ'' ⟨rfl, hI2⟩
  refine am_icmp_eq (q := 459) (t := 1027) (am_tab tk_L_law 242 rfl) (by decide) rfl (fun _ => ?_) (fun h => absurd rfl h)
  exact kk _ _ σ'' hI2 (by show cells + 0 + 0 ≤ _; have h9 := hR; unfold RMk at h9; omega) (by show slots + 0 + 0 ≤ _; have h9 := hR; unfold RMk at h9; omega)
set_option maxRecDepth 20000 in
theorem law_later {L : Nat} {xs : Nat → Int32} {Q : Option am_V → am_H → Prop} {cells slots k : Nat} {σ : am_H} (hL : L ≤ 3072) (hkL : 6 * (k : Int) ≤ (L : Int) - 6) (hI : INV k σ) (hR : RMk k cells slots) (kk : ∀ (cells slots : Nat) (σ' : am_H), INV (k + 1) σ' → cells ≤ 131 + 5 * (k + 1) → slots ≤ 26526 + 4800 * (k + 1) → am_wp (M_L L xs) Q cells slots 1027 [(3, am_i (6 * (k : Int))), (2, am_r 55), (1, am_r 0), (0, am_s 2)] [] σ') : am_wp (M_L L xs) Q cells slots 461 [(3, am_i (6 * (k : Int))), (2, am_r 55), (1, am_r 0), (0, am_s 2)] [] σ := by
  have hL0 : lay σ := by
    obtain ⟨t, f, c, h⟩ := hI
    exact h.G.L
  have hop := op_later ((xs (6 * (k : Int) + 1).toNat).toInt) ((xs (6 * (k : Int) + 2).toNat).toInt)
  refine am_aload_n (q := 462) rfl (am_tab tk_L_law 245 rfl) rfl ?_
  refine am_sload (q := 463) (k := 2) rfl (am_tab tk_L_law 246 rfl) rfl ?_
  refine am_iload_n (q := 464) rfl (am_tab tk_L_law 247 rfl) rfl ?_
  refine am_iconst (q := 465) (n := 1) (by decide) (am_tab tk_L_law 248 rfl) rfl ?_
  refine am_iadd (q := 466) (by omega) (am_tab tk_L_law 249 rfl) rfl ?_
  refine am_sld (q := 467) (by omega) (by omega) (am_tab tk_L_law 250 rfl) rfl ?_
  refine am_sload (q := 468) (k := 2) rfl (am_tab tk_L_law 251 rfl) rfl ?_
  refine am_iload_n (q := 469) rfl (am_tab tk_L_law 252 rfl) rfl ?_
  refine am_iconst (q := 470) (n := 2) (by decide) (am_tab tk_L_law 253 rfl) rfl ?_
  refine am_iadd (q := 471) (by omega) (am_tab tk_L_law 254 rfl) rfl ?_
  refine am_sld (q := 472) (by omega) (by omega) (am_tab tk_L_law 255 rfl) rfl ?_
  refine am_callV (q := 475) (me2 := M_X9_later) (b := 0) (kb := 9) (nb := 17) (As := [am_i ((xs (6 * (k : Int) + 1).toNat).toInt), am_i ((xs (6 * (k : Int) + 2).toNat).toInt)]) (rest := []) (hop k σ (by unfold RMk at hR; omega) hI) (hL0.1 0 (by decide)) (by decide) ⟨Or.inl km_L_54, kc_X9_later, kn_X9, kd_X9_later, ⟨(Nat.le_of_ble_eq_true rfl), (Nat.le_of_ble_eq_true rfl)⟩, ⟨(by show cells + 0 ≤ 600000; have h9 := hR; unfold RMk at h9; omega), (by show slots + 0 ≤ 7302250; have h9 := hR; unfold RMk at h9; omega)⟩, (Nat.le_of_ble_eq_true rfl)⟩ ki_X9_later ks_X9_later rfl (am_tab tk_L_law 256 rfl) rfl ?_
  rintro r σ' ⟨v, rfl, hL1, hM⟩
  refine am_aload_n (q := 476) rfl (am_tab tk_L_law 257 rfl) rfl ?_
  refine am_sload (q := 477) (k := 2) rfl (am_tab tk_L_law 258 rfl) rfl ?_
  refine am_iload_n (q := 478) rfl (am_tab tk_L_law 259 rfl) rfl ?_
  refine am_iconst (q := 479) (n := 1) (by decide) (am_tab tk_L_law 260 rfl) rfl ?_
  refine am_iadd (q := 480) (by omega) (am_tab tk_L_law 261 rfl) rfl ?_
  refine am_sld (q := 481) (by omega) (by omega) (am_tab tk_L_law 262 rfl) rfl ?_
  refine am_sload (q := 482) (k := 2) rfl (am_tab tk_L_law 263 rfl) rfl ?_
  refine am_iload_n (q := 483) rfl (am_tab tk_L_law 264 rfl) rfl ?_
  refine am_iconst (q := 484) (n := 2) (by decide) (am_tab tk_L_law 265 rfl) rfl ?_
  refine am_iadd (q := 485) (by omega) (am_tab tk_L_law 266 rfl) rfl ?_
  refine am_sld (q := 486) (by omega) (by omega) (am_tab tk_L_law 267 rfl) rfl ?_
  refine am_callV (q := 489) (me2 := M_X10_later) (b := 55) (kb := 10) (nb := 108) (As := [am_i ((xs (6 * (k : Int) + 1).toNat).toInt), am_i ((xs (6 * (k : Int) + 2).toNat).toInt)]) (rest := [am_i v]) hM (hL1.1 55 (by decide)) (by decide) ⟨Or.inl km_L_57, kc_X10_later, kn_X10, kd_X10_later, ⟨(Nat.le_of_ble_eq_true rfl), (Nat.le_of_ble_eq_true rfl)⟩, ⟨(by show cells + 0 + 0 ≤ 600000; have h9 := hR; unfold RMk at h9; omega), (by show slots + 0 + 0 ≤ 7302250; have h9 := hR; unfold RMk at h9; omega)⟩, (Nat.le_of_ble_eq_true rfl)⟩ ki_X10_later ks_X10_later rfl (am_tab tk_L_law 268 rfl) rfl ?_
  rintro r2 σ'' ⟨rfl, hI2⟩
  refine am_icmp_eq (q := 492) (t := 1027) (am_tab tk_L_law 269 rfl) (by decide) rfl (fun _ => ?_) (fun h => absurd rfl h)
  exact kk _ _ σ'' hI2 (by show cells + 0 + 0 ≤ _; have h9 := hR; unfold RMk at h9; omega) (by show slots + 0 + 0 ≤ _; have h9 := hR; unfold RMk at h9; omega)
set_option maxRecDepth 20000 in
theorem law_first {L : Nat} {xs : Nat → Int32} {Q : Option am_V → am_H → Prop} {cells slots k : Nat} {σ : am_H} (hL : L ≤ 3072) (hkL : 6 * (k : Int) ≤ (L : Int) - 6) (hI : INV k σ) (hR : RMk k cells slots) (kk : ∀ (cells slots : Nat) (σ' : am_H), INV (k + 1) σ' → cells ≤ 131 + 5 * (k + 1) → slots ≤ 26526 + 4800 * (k + 1) → am_wp (M_L L xs) Q cells slots 1027 [(3, am_i (6 * (k : Int))), (2, am_r 55), (1, am_r 0), (0, am_s 2)] [] σ') : am_wp (M_L L xs) Q cells slots 494 [(3, am_i (6 * (k : Int))), (2, am_r 55), (1, am_r 0), (0, am_s 2)] [] σ := by
  have hL0 : lay σ := by
    obtain ⟨t, f, c, h⟩ := hI
    exact h.G.L
  have hop := op_first ((xs (6 * (k : Int) + 1).toNat).toInt)
  refine am_aload_n (q := 495) rfl (am_tab tk_L_law 272 rfl) rfl ?_
  refine am_sload (q := 496) (k := 2) rfl (am_tab tk_L_law 273 rfl) rfl ?_
  refine am_iload_n (q := 497) rfl (am_tab tk_L_law 274 rfl) rfl ?_
  refine am_iconst (q := 498) (n := 1) (by decide) (am_tab tk_L_law 275 rfl) rfl ?_
  refine am_iadd (q := 499) (by omega) (am_tab tk_L_law 276 rfl) rfl ?_
  refine am_sld (q := 500) (by omega) (by omega) (am_tab tk_L_law 277 rfl) rfl ?_
  refine am_callV (q := 503) (me2 := M_X9_first) (b := 0) (kb := 9) (nb := 17) (As := [am_i ((xs (6 * (k : Int) + 1).toNat).toInt)]) (rest := []) (hop k σ (by unfold RMk at hR; omega) hI) (hL0.1 0 (by decide)) (by decide) ⟨Or.inl km_L_58, kc_X9_first, kn_X9, kd_X9_first, ⟨(Nat.le_of_ble_eq_true rfl), (Nat.le_of_ble_eq_true rfl)⟩, ⟨(by show cells + 0 ≤ 600000; have h9 := hR; unfold RMk at h9; omega), (by show slots + 0 ≤ 7302250; have h9 := hR; unfold RMk at h9; omega)⟩, (Nat.le_of_ble_eq_true rfl)⟩ ki_X9_first ks_X9_first rfl (am_tab tk_L_law 278 rfl) rfl ?_
  rintro r σ' ⟨v, rfl, hL1, hM⟩
  refine am_aload_n (q := 504) rfl (am_tab tk_L_law 279 rfl) rfl ?_
  refine am_sload (q := 505) (k := 2) rfl (am_tab tk_L_law 280 rfl) rfl ?_
  refine am_iload_n (q := 506) rfl (am_tab tk_L_law 281 rfl) rfl ?_
  refine am_iconst (q := 507) (n := 1) (by decide) (am_tab tk_L_law 282 rfl) rfl ?_
  refine am_iadd (q := 508) (by omega) (am_tab tk_L_law 283 rfl) rfl ?_
  refine am_sld (q := 509) (by omega) (by omega) (am_tab tk_L_law 284 rfl) rfl ?_
  refine am_callV (q := 512) (me2 := M_X10_first) (b := 55) (kb := 10) (nb := 108) (As := [am_i ((xs (6 * (k : Int) + 1).toNat).toInt)]) (rest := [am_i v]) hM (hL1.1 55 (by decide)) (by decide) ⟨Or.inl km_L_61, kc_X10_first, kn_X10, kd_X10_first, ⟨(Nat.le_of_ble_eq_true rfl), (Nat.le_of_ble_eq_true rfl)⟩, ⟨(by show cells + 0 + 0 ≤ 600000; have h9 := hR; unfold RMk at h9; omega), (by show slots + 0 + 0 ≤ 7302250; have h9 := hR; unfold RMk at h9; omega)⟩, (Nat.le_of_ble_eq_true rfl)⟩ ki_X10_first ks_X10_first rfl (am_tab tk_L_law 285 rfl) rfl ?_
  rintro r2 σ'' ⟨rfl, hI2⟩
  refine am_icmp_eq (q := 515) (t := 1027) (am_tab tk_L_law 286 rfl) (by decide) rfl (fun _ => ?_) (fun h => absurd rfl h)
  exact kk _ _ σ'' hI2 (by show cells + 0 + 0 ≤ _; have h9 := hR; unfold RMk at h9; omega) (by show slots + 0 + 0 ≤ _; have h9 := hR; unfold RMk at h9; omega)
set_option maxRecDepth 20000 in
theorem law_hangs {L : Nat} {xs : Nat → Int32} {Q : Option am_V → am_H → Prop} {cells slots k : Nat} {σ : am_H} (hL : L ≤ 3072) (hkL : 6 * (k : Int) ≤ (L : Int) - 6) (hI : INV k σ) (hR : RMk k cells slots) (kk : ∀ (cells slots : Nat) (σ' : am_H), INV (k + 1) σ' → cells ≤ 131 + 5 * (k + 1) → slots ≤ 26526 + 4800 * (k + 1) → am_wp (M_L L xs) Q cells slots 1027 [(3, am_i (6 * (k : Int))), (2, am_r 55), (1, am_r 0), (0, am_s 2)] [] σ') : am_wp (M_L L xs) Q cells slots 517 [(3, am_i (6 * (k : Int))), (2, am_r 55), (1, am_r 0), (0, am_s 2)] [] σ := by
  have hL0 : lay σ := by
    obtain ⟨t, f, c, h⟩ := hI
    exact h.G.L
  have hop := op_hangs ((xs (6 * (k : Int) + 1).toNat).toInt)
  refine am_aload_n (q := 518) rfl (am_tab tk_L_law 289 rfl) rfl ?_
  refine am_sload (q := 519) (k := 2) rfl (am_tab tk_L_law 290 rfl) rfl ?_
  refine am_iload_n (q := 520) rfl (am_tab tk_L_law 291 rfl) rfl ?_
  refine am_iconst (q := 521) (n := 1) (by decide) (am_tab tk_L_law 292 rfl) rfl ?_
  refine am_iadd (q := 522) (by omega) (am_tab tk_L_law 293 rfl) rfl ?_
  refine am_sld (q := 523) (by omega) (by omega) (am_tab tk_L_law 294 rfl) rfl ?_
  refine am_callV (q := 526) (me2 := M_X9_hangs) (b := 0) (kb := 9) (nb := 17) (As := [am_i ((xs (6 * (k : Int) + 1).toNat).toInt)]) (rest := []) (hop k σ (by unfold RMk at hR; omega) hI) (hL0.1 0 (by decide)) (by decide) ⟨Or.inl km_L_62, kc_X9_hangs, kn_X9, kd_X9_hangs, ⟨(Nat.le_of_ble_eq_true rfl), (Nat.le_of_ble_eq_true rfl)⟩, ⟨(by show cells + 0 ≤ 600000; have h9 := hR; unfold RMk at h9; omega), (by show slots + 0 ≤ 7302250; have h9 := hR; unfold RMk at h9; omega)⟩, (Nat.le_of_ble_eq_true rfl)⟩ ki_X9_hangs ks_X9_hangs rfl (am_tab tk_L_law 295 rfl) rfl ?_
  rintro r σ' ⟨v, rfl, hL1, hM⟩
  refine am_aload_n (q := 527) rfl (am_tab tk_L_law 296 rfl) rfl ?_
  refine am_sload (q := 528) (k := 2) rfl (am_tab tk_L_law 297 rfl) rfl ?_
  refine am_iload_n (q := 529) rfl (am_tab tk_L_law 298 rfl) rfl ?_
  refine am_iconst (q := 530) (n := 1) (by decide) (am_tab tk_L_law 299 rfl) rfl ?_
  refine am_iadd (q := 531) (by omega) (am_tab tk_L_law 300 rfl) rfl ?_
  refine am_sld (q := 532) (by omega) (by omega) (am_tab tk_L_law 301 rfl) rfl ?_
  refine am_callV (q := 535) (me2 := M_X10_hangs) (b := 55) (kb := 10) (nb := 108) (As := [am_i ((xs (6 * (k : Int) + 1).toNat).toInt)]) (rest := [am_i v]) hM (hL1.1 55 (by decide)) (by decide) ⟨Or.inl km_L_65, kc_X10_hangs, kn_X10, kd_X10_hangs, ⟨(Nat.le_of_ble_eq_true rfl), (Nat.le_of_ble_eq_true rfl)⟩, ⟨(by show cells + 0 + 0 ≤ 600000; have h9 := hR; unfold RMk at h9; omega), (by show slots + 0 + 0 ≤ 7302250; have h9 := hR; unfold RMk at h9; omega)⟩, (Nat.le_of_ble_eq_true rfl)⟩ ki_X10_hangs ks_X10_hangs rfl (am_tab tk_L_law 302 rfl) rfl ?_
  rintro r2 σ'' ⟨rfl, hI2⟩
  refine am_icmp_eq (q := 538) (t := 1027) (am_tab tk_L_law 303 rfl) (by decide) rfl (fun _ => ?_) (fun h => absurd rfl h)
  exact kk _ _ σ'' hI2 (by show cells + 0 + 0 ≤ _; have h9 := hR; unfold RMk at h9; omega) (by show slots + 0 + 0 ≤ _; have h9 := hR; unfold RMk at h9; omega)
set_option maxRecDepth 20000 in
theorem law_sure {L : Nat} {xs : Nat → Int32} {Q : Option am_V → am_H → Prop} {cells slots k : Nat} {σ : am_H} (hL : L ≤ 3072) (hkL : 6 * (k : Int) ≤ (L : Int) - 6) (hI : INV k σ) (hR : RMk k cells slots) (kk : ∀ (cells slots : Nat) (σ' : am_H), INV (k + 1) σ' → cells ≤ 131 + 5 * (k + 1) → slots ≤ 26526 + 4800 * (k + 1) → am_wp (M_L L xs) Q cells slots 1027 [(3, am_i (6 * (k : Int))), (2, am_r 55), (1, am_r 0), (0, am_s 2)] [] σ') : am_wp (M_L L xs) Q cells slots 540 [(3, am_i (6 * (k : Int))), (2, am_r 55), (1, am_r 0), (0, am_s 2)] [] σ := by
  have hL0 : lay σ := by
    obtain ⟨t, f, c, h⟩ := hI
    exact h.G.L
  have hop := op_sure ((xs (6 * (k : Int) + 1).toNat).toInt)
  refine am_aload_n (q := 541) rfl (am_tab tk_L_law 306 rfl) rfl ?_
  refine am_sload (q := 542) (k := 2) rfl (am_tab tk_L_law 307 rfl) rfl ?_
  refine am_iload_n (q := 543) rfl (am_tab tk_L_law 308 rfl) rfl ?_
  refine am_iconst (q := 544) (n := 1) (by decide) (am_tab tk_L_law 309 rfl) rfl ?_
  refine am_iadd (q := 545) (by omega) (am_tab tk_L_law 310 rfl) rfl ?_
  refine am_sld (q := 546) (by omega) (by omega) (am_tab tk_L_law 311 rfl) rfl ?_
  refine am_callV (q := 549) (me2 := M_X9_sure) (b := 0) (kb := 9) (nb := 17) (As := [am_i ((xs (6 * (k : Int) + 1).toNat).toInt)]) (rest := []) (hop k σ (by unfold RMk at hR; omega) hI) (hL0.1 0 (by decide)) (by decide) ⟨Or.inl km_L_66, kc_X9_sure, kn_X9, kd_X9_sure, ⟨(Nat.le_of_ble_eq_true rfl), (Nat.le_of_ble_eq_true rfl)⟩, ⟨(by show cells + 0 ≤ 600000; have h9 := hR; unfold RMk at h9; omega), (by show slots + 0 ≤ 7302250; have h9 := hR; unfold RMk at h9; omega)⟩, (Nat.le_of_ble_eq_true rfl)⟩ ki_X9_sure ks_X9_sure rfl (am_tab tk_L_law 312 rfl) rfl ?_
  rintro r σ' ⟨v, rfl, hL1, hM⟩
  refine am_aload_n (q := 550) rfl (am_tab tk_L_law 313 rfl) rfl ?_
  refine am_sload (q := 551) (k := 2) rfl (am_tab tk_L_law 314 rfl) rfl ?_
  refine am_iload_n (q := 552) rfl (am_tab tk_L_law 315 rfl) rfl ?_
  refine am_iconst (q := 553) (n := 1) (by decide) (am_tab tk_L_law 316 rfl) rfl ?_
  refine am_iadd (q := 554) (by omega) (am_tab tk_L_law 317 rfl) rfl ?_
  refine am_sld (q := 555) (by omega) (by omega) (am_tab tk_L_law 318 rfl) rfl ?_
  refine am_callV (q := 558) (me2 := M_X10_sure) (b := 55) (kb := 10) (nb := 108) (As := [am_i ((xs (6 * (k : Int) + 1).toNat).toInt)]) (rest := [am_i v]) hM (hL1.1 55 (by decide)) (by decide) ⟨Or.inl km_L_69, kc_X10_sure, kn_X10, kd_X10_sure, ⟨(Nat.le_of_ble_eq_true rfl), (Nat.le_of_ble_eq_true rfl)⟩, ⟨(by show cells + 0 + 0 ≤ 600000; have h9 := hR; unfold RMk at h9; omega), (by show slots + 0 + 0 ≤ 7302250; have h9 := hR; unfold RMk at h9; omega)⟩, (Nat.le_of_ble_eq_true rfl)⟩ ki_X10_sure ks_X10_sure rfl (am_tab tk_L_law 319 rfl) rfl ?_
  rintro r2 σ'' ⟨rfl, hI2⟩
  refine am_icmp_eq (q := 561) (t := 1027) (am_tab tk_L_law 320 rfl) (by decide) rfl (fun _ => ?_) (fun h => absurd rfl h)
  exact kk _ _ σ'' hI2 (by show cells + 0 + 0 ≤ _; have h9 := hR; unfold RMk at h9; omega) (by show slots + 0 + 0 ≤ _; have h9 := hR; unfold RMk at h9; omega)
set_option maxRecDepth 20000 in
theorem law_slips {L : Nat} {xs : Nat → Int32} {Q : Option am_V → am_H → Prop} {cells slots k : Nat} {σ : am_H} (hL : L ≤ 3072) (hkL : 6 * (k : Int) ≤ (L : Int) - 6) (hI : INV k σ) (hR : RMk k cells slots) (kk : ∀ (cells slots : Nat) (σ' : am_H), INV (k + 1) σ' → cells ≤ 131 + 5 * (k + 1) → slots ≤ 26526 + 4800 * (k + 1) → am_wp (M_L L xs) Q cells slots 1027 [(3, am_i (6 * (k : Int))), (2, am_r 55), (1, am_r 0), (0, am_s 2)] [] σ') : am_wp (M_L L xs) Q cells slots 563 [(3, am_i (6 * (k : Int))), (2, am_r 55), (1, am_r 0), (0, am_s 2)] [] σ := by
  have hL0 : lay σ := by
    obtain ⟨t, f, c, h⟩ := hI
    exact h.G.L
  have hop := op_slips ((xs (6 * (k : Int) + 1).toNat).toInt)
  refine am_aload_n (q := 564) rfl (am_tab tk_L_law 323 rfl) rfl ?_
  refine am_sload (q := 565) (k := 2) rfl (am_tab tk_L_law 324 rfl) rfl ?_
  refine am_iload_n (q := 566) rfl (am_tab tk_L_law 325 rfl) rfl ?_
  refine am_iconst (q := 567) (n := 1) (by decide) (am_tab tk_L_law 326 rfl) rfl ?_
  refine am_iadd (q := 568) (by omega) (am_tab tk_L_law 327 rfl) rfl ?_
  refine am_sld (q := 569) (by omega) (by omega) (am_tab tk_L_law 328 rfl) rfl ?_
  refine am_callV (q := 572) (me2 := M_X9_slips) (b := 0) (kb := 9) (nb := 17) (As := [am_i ((xs (6 * (k : Int) + 1).toNat).toInt)]) (rest := []) (hop k σ (by unfold RMk at hR; omega) hI) (hL0.1 0 (by decide)) (by decide) ⟨Or.inl km_L_70, kc_X9_slips, kn_X9, kd_X9_slips, ⟨(Nat.le_of_ble_eq_true rfl), (Nat.le_of_ble_eq_true rfl)⟩, ⟨(by show cells + 0 ≤ 600000; have h9 := hR; unfold RMk at h9; omega), (by show slots + 0 ≤ 7302250; have h9 := hR; unfold RMk at h9; omega)⟩, (Nat.le_of_ble_eq_true rfl)⟩ ki_X9_slips ks_X9_slips rfl (am_tab tk_L_law 329 rfl) rfl ?_
  rintro r σ' ⟨v, rfl, hL1, hM⟩
  refine am_aload_n (q := 573) rfl (am_tab tk_L_law 330 rfl) rfl ?_
  refine am_sload (q := 574) (k := 2) rfl (am_tab tk_L_law 331 rfl) rfl ?_
  refine am_iload_n (q := 575) rfl (am_tab tk_L_law 332 rfl) rfl ?_
  refine am_iconst (q := 576) (n := 1) (by decide) (am_tab tk_L_law 333 rfl) rfl ?_
  refine am_iadd (q := 577) (by omega) (am_tab tk_L_law 334 rfl) rfl ?_
  refine am_sld (q := 578) (by omega) (by omega) (am_tab tk_L_law 335 rfl) rfl ?_
  refine am_callV (q := 581) (me2 := M_X10_slips) (b := 55) (kb := 10) (nb := 108) (As := [am_i ((xs (6 * (k : Int) + 1).toNat).toInt)]) (rest := [am_i v]) hM (hL1.1 55 (by decide)) (by decide) ⟨Or.inl km_L_73, kc_X10_slips, kn_X10, kd_X10_slips, ⟨(Nat.le_of_ble_eq_true rfl), (Nat.le_of_ble_eq_true rfl)⟩, ⟨(by show cells + 0 + 0 ≤ 600000; have h9 := hR; unfold RMk at h9; omega), (by show slots + 0 + 0 ≤ 7302250; have h9 := hR; unfold RMk at h9; omega)⟩, (Nat.le_of_ble_eq_true rfl)⟩ ki_X10_slips ks_X10_slips rfl (am_tab tk_L_law 336 rfl) rfl ?_
  rintro r2 σ'' ⟨rfl, hI2⟩
  refine am_icmp_eq (q := 584) (t := 1027) (am_tab tk_L_law 337 rfl) (by decide) rfl (fun _ => ?_) (fun h => absurd rfl h)
  exact kk _ _ σ'' hI2 (by show cells + 0 + 0 ≤ _; have h9 := hR; unfold RMk at h9; omega) (by show slots + 0 + 0 ≤ _; have h9 := hR; unfold RMk at h9; omega)
set_option maxRecDepth 20000 in
theorem law_costs {L : Nat} {xs : Nat → Int32} {Q : Option am_V → am_H → Prop} {cells slots k : Nat} {σ : am_H} (hL : L ≤ 3072) (hkL : 6 * (k : Int) ≤ (L : Int) - 6) (hI : INV k σ) (hR : RMk k cells slots) (kk : ∀ (cells slots : Nat) (σ' : am_H), INV (k + 1) σ' → cells ≤ 131 + 5 * (k + 1) → slots ≤ 26526 + 4800 * (k + 1) → am_wp (M_L L xs) Q cells slots 1027 [(3, am_i (6 * (k : Int))), (2, am_r 55), (1, am_r 0), (0, am_s 2)] [] σ') : am_wp (M_L L xs) Q cells slots 586 [(3, am_i (6 * (k : Int))), (2, am_r 55), (1, am_r 0), (0, am_s 2)] [] σ := by
  have hL0 : lay σ := by
    obtain ⟨t, f, c, h⟩ := hI
    exact h.G.L
  have hop := op_costs ((xs (6 * (k : Int) + 1).toNat).toInt)
  refine am_aload_n (q := 587) rfl (am_tab tk_L_law 340 rfl) rfl ?_
  refine am_sload (q := 588) (k := 2) rfl (am_tab tk_L_law 341 rfl) rfl ?_
  refine am_iload_n (q := 589) rfl (am_tab tk_L_law 342 rfl) rfl ?_
  refine am_iconst (q := 590) (n := 1) (by decide) (am_tab tk_L_law 343 rfl) rfl ?_
  refine am_iadd (q := 591) (by omega) (am_tab tk_L_law 344 rfl) rfl ?_
  refine am_sld (q := 592) (by omega) (by omega) (am_tab tk_L_law 345 rfl) rfl ?_
  refine am_callV (q := 595) (me2 := M_X9_costs) (b := 0) (kb := 9) (nb := 17) (As := [am_i ((xs (6 * (k : Int) + 1).toNat).toInt)]) (rest := []) (hop k σ (by unfold RMk at hR; omega) hI) (hL0.1 0 (by decide)) (by decide) ⟨Or.inl km_L_74, kc_X9_costs, kn_X9, kd_X9_costs, ⟨(Nat.le_of_ble_eq_true rfl), (Nat.le_of_ble_eq_true rfl)⟩, ⟨(by show cells + 0 ≤ 600000; have h9 := hR; unfold RMk at h9; omega), (by show slots + 0 ≤ 7302250; have h9 := hR; unfold RMk at h9; omega)⟩, (Nat.le_of_ble_eq_true rfl)⟩ ki_X9_costs ks_X9_costs rfl (am_tab tk_L_law 346 rfl) rfl ?_
  rintro r σ' ⟨v, rfl, hL1, hM⟩
  refine am_aload_n (q := 596) rfl (am_tab tk_L_law 347 rfl) rfl ?_
  refine am_sload (q := 597) (k := 2) rfl (am_tab tk_L_law 348 rfl) rfl ?_
  refine am_iload_n (q := 598) rfl (am_tab tk_L_law 349 rfl) rfl ?_
  refine am_iconst (q := 599) (n := 1) (by decide) (am_tab tk_L_law 350 rfl) rfl ?_
  refine am_iadd (q := 600) (by omega) (am_tab tk_L_law 351 rfl) rfl ?_
  refine am_sld (q := 601) (by omega) (by omega) (am_tab tk_L_law 352 rfl) rfl ?_
  refine am_callV (q := 604) (me2 := M_X10_costs) (b := 55) (kb := 10) (nb := 108) (As := [am_i ((xs (6 * (k : Int) + 1).toNat).toInt)]) (rest := [am_i v]) hM (hL1.1 55 (by decide)) (by decide) ⟨Or.inl km_L_77, kc_X10_costs, kn_X10, kd_X10_costs, ⟨(Nat.le_of_ble_eq_true rfl), (Nat.le_of_ble_eq_true rfl)⟩, ⟨(by show cells + 0 + 0 ≤ 600000; have h9 := hR; unfold RMk at h9; omega), (by show slots + 0 + 0 ≤ 7302250; have h9 := hR; unfold RMk at h9; omega)⟩, (Nat.le_of_ble_eq_true rfl)⟩ ki_X10_costs ks_X10_costs rfl (am_tab tk_L_law 353 rfl) rfl ?_
  rintro r2 σ'' ⟨rfl, hI2⟩
  refine am_icmp_eq (q := 607) (t := 1027) (am_tab tk_L_law 354 rfl) (by decide) rfl (fun _ => ?_) (fun h => absurd rfl h)
  exact kk _ _ σ'' hI2 (by show cells + 0 + 0 ≤ _; have h9 := hR; unfold RMk at h9; omega) (by show slots + 0 + 0 ≤ _; have h9 := hR; unfold RMk at h9; omega)
set_option maxRecDepth 20000 in
theorem law_cheapest {L : Nat} {xs : Nat → Int32} {Q : Option am_V → am_H → Prop} {cells slots k : Nat} {σ : am_H} (hL : L ≤ 3072) (hkL : 6 * (k : Int) ≤ (L : Int) - 6) (hI : INV k σ) (hR : RMk k cells slots) (kk : ∀ (cells slots : Nat) (σ' : am_H), INV (k + 1) σ' → cells ≤ 131 + 5 * (k + 1) → slots ≤ 26526 + 4800 * (k + 1) → am_wp (M_L L xs) Q cells slots 1027 [(3, am_i (6 * (k : Int))), (2, am_r 55), (1, am_r 0), (0, am_s 2)] [] σ') : am_wp (M_L L xs) Q cells slots 609 [(3, am_i (6 * (k : Int))), (2, am_r 55), (1, am_r 0), (0, am_s 2)] [] σ := by
  have hL0 : lay σ := by
    obtain ⟨t, f, c, h⟩ := hI
    exact h.G.L
  have hop := op_cheapest ((xs (6 * (k : Int) + 1).toNat).toInt)
  refine am_aload_n (q := 610) rfl (am_tab tk_L_law 357 rfl) rfl ?_
  refine am_sload (q := 611) (k := 2) rfl (am_tab tk_L_law 358 rfl) rfl ?_
  refine am_iload_n (q := 612) rfl (am_tab tk_L_law 359 rfl) rfl ?_
  refine am_iconst (q := 613) (n := 1) (by decide) (am_tab tk_L_law 360 rfl) rfl ?_
  refine am_iadd (q := 614) (by omega) (am_tab tk_L_law 361 rfl) rfl ?_
  refine am_sld (q := 615) (by omega) (by omega) (am_tab tk_L_law 362 rfl) rfl ?_
  refine am_callV (q := 618) (me2 := M_X9_cheapest) (b := 0) (kb := 9) (nb := 17) (As := [am_i ((xs (6 * (k : Int) + 1).toNat).toInt)]) (rest := []) (hop k σ (by unfold RMk at hR; omega) hI) (hL0.1 0 (by decide)) (by decide) ⟨Or.inl km_L_78, kc_X9_cheapest, kn_X9, kd_X9_cheapest, ⟨(Nat.le_of_ble_eq_true rfl), (Nat.le_of_ble_eq_true rfl)⟩, ⟨(by show cells + 0 ≤ 600000; have h9 := hR; unfold RMk at h9; omega), (by show slots + 0 ≤ 7302250; have h9 := hR; unfold RMk at h9; omega)⟩, (Nat.le_of_ble_eq_true rfl)⟩ ki_X9_cheapest ks_X9_cheapest rfl (am_tab tk_L_law 363 rfl) rfl ?_
  rintro r σ' ⟨v, rfl, hL1, hM⟩
  refine am_aload_n (q := 619) rfl (am_tab tk_L_law 364 rfl) rfl ?_
  refine am_sload (q := 620) (k := 2) rfl (am_tab tk_L_law 365 rfl) rfl ?_
  refine am_iload_n (q := 621) rfl (am_tab tk_L_law 366 rfl) rfl ?_
  refine am_iconst (q := 622) (n := 1) (by decide) (am_tab tk_L_law 367 rfl) rfl ?_
  refine am_iadd (q := 623) (by omega) (am_tab tk_L_law 368 rfl) rfl ?_
  refine am_sld (q := 624) (by omega) (by omega) (am_tab tk_L_law 369 rfl) rfl ?_
  refine am_callV (q := 627) (me2 := M_X10_cheapest) (b := 55) (kb := 10) (nb := 108) (As := [am_i ((xs (6 * (k : Int) + 1).toNat).toInt)]) (rest := [am_i v]) hM (hL1.1 55 (by decide)) (by decide) ⟨Or.inl km_L_81, kc_X10_cheapest, kn_X10, kd_X10_cheapest, ⟨(Nat.le_of_ble_eq_true rfl), (Nat.le_of_ble_eq_true rfl)⟩, ⟨(by show cells + 0 + 0 ≤ 600000; have h9 := hR; unfold RMk at h9; omega), (by show slots + 0 + 0 ≤ 7302250; have h9 := hR; unfold RMk at h9; omega)⟩, (Nat.le_of_ble_eq_true rfl)⟩ ki_X10_cheapest ks_X10_cheapest rfl (am_tab tk_L_law 370 rfl) rfl ?_
  rintro r2 σ'' ⟨rfl, hI2⟩
  refine am_icmp_eq (q := 630) (t := 1027) (am_tab tk_L_law 371 rfl) (by decide) rfl (fun _ => ?_) (fun h => absurd rfl h)
  exact kk _ _ σ'' hI2 (by show cells + 0 + 0 ≤ _; have h9 := hR; unfold RMk at h9; omega) (by show slots + 0 + 0 ≤ _; have h9 := hR; unfold RMk at h9; omega)
set_option maxRecDepth 20000 in
theorem law_enough {L : Nat} {xs : Nat → Int32} {Q : Option am_V → am_H → Prop} {cells slots k : Nat} {σ : am_H} (hL : L ≤ 3072) (hkL : 6 * (k : Int) ≤ (L : Int) - 6) (hI : INV k σ) (hR : RMk k cells slots) (kk : ∀ (cells slots : Nat) (σ' : am_H), INV (k + 1) σ' → cells ≤ 131 + 5 * (k + 1) → slots ≤ 26526 + 4800 * (k + 1) → am_wp (M_L L xs) Q cells slots 1027 [(3, am_i (6 * (k : Int))), (2, am_r 55), (1, am_r 0), (0, am_s 2)] [] σ') : am_wp (M_L L xs) Q cells slots 632 [(3, am_i (6 * (k : Int))), (2, am_r 55), (1, am_r 0), (0, am_s 2)] [] σ := by
  have hL0 : lay σ := by
    obtain ⟨t, f, c, h⟩ := hI
    exact h.G.L
  have hop := op_enough ((xs (6 * (k : Int) + 1).toNat).toInt)
  refine am_aload_n (q := 633) rfl (am_tab tk_L_law 374 rfl) rfl ?_
  refine am_sload (q := 634) (k := 2) rfl (am_tab tk_L_law 375 rfl) rfl ?_
  refine am_iload_n (q := 635) rfl (am_tab tk_L_law 376 rfl) rfl ?_
  refine am_iconst (q := 636) (n := 1) (by decide) (am_tab tk_L_law 377 rfl) rfl ?_
  refine am_iadd (q := 637) (by omega) (am_tab tk_L_law 378 rfl) rfl ?_
  refine am_sld (q := 638) (by omega) (by omega) (am_tab tk_L_law 379 rfl) rfl ?_
  refine am_callV (q := 641) (me2 := M_X9_enough) (b := 0) (kb := 9) (nb := 17) (As := [am_i ((xs (6 * (k : Int) + 1).toNat).toInt)]) (rest := []) (hop k σ (by unfold RMk at hR; omega) hI) (hL0.1 0 (by decide)) (by decide) ⟨Or.inl km_L_82, kc_X9_enough, kn_X9, kd_X9_enough, ⟨(Nat.le_of_ble_eq_true rfl), (Nat.le_of_ble_eq_true rfl)⟩, ⟨(by show cells + 0 ≤ 600000; have h9 := hR; unfold RMk at h9; omega), (by show slots + 0 ≤ 7302250; have h9 := hR; unfold RMk at h9; omega)⟩, (Nat.le_of_ble_eq_true rfl)⟩ ki_X9_enough ks_X9_enough rfl (am_tab tk_L_law 380 rfl) rfl ?_
  rintro r σ' ⟨v, rfl, hL1, hM⟩
  refine am_aload_n (q := 642) rfl (am_tab tk_L_law 381 rfl) rfl ?_
  refine am_sload (q := 643) (k := 2) rfl (am_tab tk_L_law 382 rfl) rfl ?_
  refine am_iload_n (q := 644) rfl (am_tab tk_L_law 383 rfl) rfl ?_
  refine am_iconst (q := 645) (n := 1) (by decide) (am_tab tk_L_law 384 rfl) rfl ?_
  refine am_iadd (q := 646) (by omega) (am_tab tk_L_law 385 rfl) rfl ?_
  refine am_sld (q := 647) (by omega) (by omega) (am_tab tk_L_law 386 rfl) rfl ?_
  refine am_callV (q := 650) (me2 := M_X10_enough) (b := 55) (kb := 10) (nb := 108) (As := [am_i ((xs (6 * (k : Int) + 1).toNat).toInt)]) (rest := [am_i v]) hM (hL1.1 55 (by decide)) (by decide) ⟨Or.inl km_L_85, kc_X10_enough, kn_X10, kd_X10_enough, ⟨(Nat.le_of_ble_eq_true rfl), (Nat.le_of_ble_eq_true rfl)⟩, ⟨(by show cells + 0 + 0 ≤ 600000; have h9 := hR; unfold RMk at h9; omega), (by show slots + 0 + 0 ≤ 7302250; have h9 := hR; unfold RMk at h9; omega)⟩, (Nat.le_of_ble_eq_true rfl)⟩ ki_X10_enough ks_X10_enough rfl (am_tab tk_L_law 387 rfl) rfl ?_
  rintro r2 σ'' ⟨rfl, hI2⟩
  refine am_icmp_eq (q := 653) (t := 1027) (am_tab tk_L_law 388 rfl) (by decide) rfl (fun _ => ?_) (fun h => absurd rfl h)
  exact kk _ _ σ'' hI2 (by show cells + 0 + 0 ≤ _; have h9 := hR; unfold RMk at h9; omega) (by show slots + 0 + 0 ≤ _; have h9 := hR; unfold RMk at h9; omega)
set_option maxRecDepth 20000 in
theorem law_turnsOf {L : Nat} {xs : Nat → Int32} {Q : Option am_V → am_H → Prop} {cells slots k : Nat} {σ : am_H} (hL : L ≤ 3072) (hkL : 6 * (k : Int) ≤ (L : Int) - 6) (hI : INV k σ) (hR : RMk k cells slots) (kk : ∀ (cells slots : Nat) (σ' : am_H), INV (k + 1) σ' → cells ≤ 131 + 5 * (k + 1) → slots ≤ 26526 + 4800 * (k + 1) → am_wp (M_L L xs) Q cells slots 1027 [(3, am_i (6 * (k : Int))), (2, am_r 55), (1, am_r 0), (0, am_s 2)] [] σ') : am_wp (M_L L xs) Q cells slots 655 [(3, am_i (6 * (k : Int))), (2, am_r 55), (1, am_r 0), (0, am_s 2)] [] σ := by
  have hL0 : lay σ := by
    obtain ⟨t, f, c, h⟩ := hI
    exact h.G.L
  have hop := op_turnsOf ((xs (6 * (k : Int) + 1).toNat).toInt)
  refine am_aload_n (q := 656) rfl (am_tab tk_L_law 391 rfl) rfl ?_
  refine am_sload (q := 657) (k := 2) rfl (am_tab tk_L_law 392 rfl) rfl ?_
  refine am_iload_n (q := 658) rfl (am_tab tk_L_law 393 rfl) rfl ?_
  refine am_iconst (q := 659) (n := 1) (by decide) (am_tab tk_L_law 394 rfl) rfl ?_
  refine am_iadd (q := 660) (by omega) (am_tab tk_L_law 395 rfl) rfl ?_
  refine am_sld (q := 661) (by omega) (by omega) (am_tab tk_L_law 396 rfl) rfl ?_
  refine am_callV (q := 664) (me2 := M_X9_turnsOf) (b := 0) (kb := 9) (nb := 17) (As := [am_i ((xs (6 * (k : Int) + 1).toNat).toInt)]) (rest := []) (hop k σ (by unfold RMk at hR; omega) hI) (hL0.1 0 (by decide)) (by decide) ⟨Or.inl km_L_86, kc_X9_turnsOf, kn_X9, kd_X9_turnsOf, ⟨(Nat.le_of_ble_eq_true rfl), (Nat.le_of_ble_eq_true rfl)⟩, ⟨(by show cells + 0 ≤ 600000; have h9 := hR; unfold RMk at h9; omega), (by show slots + 0 ≤ 7302250; have h9 := hR; unfold RMk at h9; omega)⟩, (Nat.le_of_ble_eq_true rfl)⟩ ki_X9_turnsOf ks_X9_turnsOf rfl (am_tab tk_L_law 397 rfl) rfl ?_
  rintro r σ' ⟨v, rfl, hL1, hM⟩
  refine am_aload_n (q := 665) rfl (am_tab tk_L_law 398 rfl) rfl ?_
  refine am_sload (q := 666) (k := 2) rfl (am_tab tk_L_law 399 rfl) rfl ?_
  refine am_iload_n (q := 667) rfl (am_tab tk_L_law 400 rfl) rfl ?_
  refine am_iconst (q := 668) (n := 1) (by decide) (am_tab tk_L_law 401 rfl) rfl ?_
  refine am_iadd (q := 669) (by omega) (am_tab tk_L_law 402 rfl) rfl ?_
  refine am_sld (q := 670) (by omega) (by omega) (am_tab tk_L_law 403 rfl) rfl ?_
  refine am_callV (q := 673) (me2 := M_X10_turnsOf) (b := 55) (kb := 10) (nb := 108) (As := [am_i ((xs (6 * (k : Int) + 1).toNat).toInt)]) (rest := [am_i v]) hM (hL1.1 55 (by decide)) (by decide) ⟨Or.inl km_L_89, kc_X10_turnsOf, kn_X10, kd_X10_turnsOf, ⟨(Nat.le_of_ble_eq_true rfl), (Nat.le_of_ble_eq_true rfl)⟩, ⟨(by show cells + 0 + 0 ≤ 600000; have h9 := hR; unfold RMk at h9; omega), (by show slots + 0 + 0 ≤ 7302250; have h9 := hR; unfold RMk at h9; omega)⟩, (Nat.le_of_ble_eq_true rfl)⟩ ki_X10_turnsOf ks_X10_turnsOf rfl (am_tab tk_L_law 404 rfl) rfl ?_
  rintro r2 σ'' ⟨rfl, hI2⟩
  refine am_icmp_eq (q := 676) (t := 1027) (am_tab tk_L_law 405 rfl) (by decide) rfl (fun _ => ?_) (fun h => absurd rfl h)
  exact kk _ _ σ'' hI2 (by show cells + 0 + 0 ≤ _; have h9 := hR; unfold RMk at h9; omega) (by show slots + 0 + 0 ≤ _; have h9 := hR; unfold RMk at h9; omega)
set_option maxRecDepth 20000 in
theorem law_see {L : Nat} {xs : Nat → Int32} {Q : Option am_V → am_H → Prop} {cells slots k : Nat} {σ : am_H} (hL : L ≤ 3072) (hkL : 6 * (k : Int) ≤ (L : Int) - 6) (hI : INV k σ) (hR : RMk k cells slots) (kk : ∀ (cells slots : Nat) (σ' : am_H), INV (k + 1) σ' → cells ≤ 131 + 5 * (k + 1) → slots ≤ 26526 + 4800 * (k + 1) → am_wp (M_L L xs) Q cells slots 1027 [(3, am_i (6 * (k : Int))), (2, am_r 55), (1, am_r 0), (0, am_s 2)] [] σ') : am_wp (M_L L xs) Q cells slots 678 [(3, am_i (6 * (k : Int))), (2, am_r 55), (1, am_r 0), (0, am_s 2)] [] σ := by
  have hL0 : lay σ := by
    obtain ⟨t, f, c, h⟩ := hI
    exact h.G.L
  have hop := op_see 
  refine am_aload_n (q := 679) rfl (am_tab tk_L_law 408 rfl) rfl ?_
  refine am_callV (q := 682) (me2 := M_X9_see) (b := 0) (kb := 9) (nb := 17) (As := []) (rest := []) (hop k σ (by unfold RMk at hR; omega) hI) (hL0.1 0 (by decide)) (by decide) ⟨Or.inl km_L_90, kc_X9_see, kn_X9, kd_X9_see, ⟨(Nat.le_of_ble_eq_true rfl), (Nat.le_of_ble_eq_true rfl)⟩, ⟨(by show cells + 0 ≤ 600000; have h9 := hR; unfold RMk at h9; omega), (by show slots + 0 ≤ 7302250; have h9 := hR; unfold RMk at h9; omega)⟩, (Nat.le_of_ble_eq_true rfl)⟩ ki_X9_see ks_X9_see rfl (am_tab tk_L_law 409 rfl) rfl ?_
  rintro r σ' ⟨v, rfl, hL1, hM⟩
  refine am_aload_n (q := 683) rfl (am_tab tk_L_law 410 rfl) rfl ?_
  refine am_callV (q := 686) (me2 := M_X10_see) (b := 55) (kb := 10) (nb := 108) (As := []) (rest := [am_i v]) hM (hL1.1 55 (by decide)) (by decide) ⟨Or.inl km_L_93, kc_X10_see, kn_X10, kd_X10_see, ⟨(Nat.le_of_ble_eq_true rfl), (Nat.le_of_ble_eq_true rfl)⟩, ⟨(by show cells + 0 + 0 ≤ 600000; have h9 := hR; unfold RMk at h9; omega), (by show slots + 0 + 0 ≤ 7302250; have h9 := hR; unfold RMk at h9; omega)⟩, (Nat.le_of_ble_eq_true rfl)⟩ ki_X10_see ks_X10_see rfl (am_tab tk_L_law 411 rfl) rfl ?_
  rintro r2 σ'' ⟨rfl, hI2⟩
  refine am_icmp_eq (q := 689) (t := 1027) (am_tab tk_L_law 412 rfl) (by decide) rfl (fun _ => ?_) (fun h => absurd rfl h)
  exact kk _ _ σ'' hI2 (by show cells + 0 + 0 ≤ _; have h9 := hR; unfold RMk at h9; omega) (by show slots + 0 + 0 ≤ _; have h9 := hR; unfold RMk at h9; omega)
set_option maxRecDepth 20000 in
theorem law_thought {L : Nat} {xs : Nat → Int32} {Q : Option am_V → am_H → Prop} {cells slots k : Nat} {σ : am_H} (hL : L ≤ 3072) (hkL : 6 * (k : Int) ≤ (L : Int) - 6) (hI : INV k σ) (hR : RMk k cells slots) (kk : ∀ (cells slots : Nat) (σ' : am_H), INV (k + 1) σ' → cells ≤ 131 + 5 * (k + 1) → slots ≤ 26526 + 4800 * (k + 1) → am_wp (M_L L xs) Q cells slots 1027 [(3, am_i (6 * (k : Int))), (2, am_r 55), (1, am_r 0), (0, am_s 2)] [] σ') : am_wp (M_L L xs) Q cells slots 691 [(3, am_i (6 * (k : Int))), (2, am_r 55), (1, am_r 0), (0, am_s 2)] [] σ := by
  have hL0 : lay σ := by
    obtain ⟨t, f, c, h⟩ := hI
    exact h.G.L
  have hop := op_thought ((xs (6 * (k : Int) + 1).toNat).toInt)
  refine am_aload_n (q := 692) rfl (am_tab tk_L_law 415 rfl) rfl ?_
  refine am_sload (q := 693) (k := 2) rfl (am_tab tk_L_law 416 rfl) rfl ?_
  refine am_iload_n (q := 694) rfl (am_tab tk_L_law 417 rfl) rfl ?_
  refine am_iconst (q := 695) (n := 1) (by decide) (am_tab tk_L_law 418 rfl) rfl ?_
  refine am_iadd (q := 696) (by omega) (am_tab tk_L_law 419 rfl) rfl ?_
  refine am_sld (q := 697) (by omega) (by omega) (am_tab tk_L_law 420 rfl) rfl ?_
  refine am_callV (q := 700) (me2 := M_X9_thought) (b := 0) (kb := 9) (nb := 17) (As := [am_i ((xs (6 * (k : Int) + 1).toNat).toInt)]) (rest := []) (hop k σ (by unfold RMk at hR; omega) hI) (hL0.1 0 (by decide)) (by decide) ⟨Or.inl km_L_94, kc_X9_thought, kn_X9, kd_X9_thought, ⟨(Nat.le_of_ble_eq_true rfl), (Nat.le_of_ble_eq_true rfl)⟩, ⟨(by show cells + 0 ≤ 600000; have h9 := hR; unfold RMk at h9; omega), (by show slots + 0 ≤ 7302250; have h9 := hR; unfold RMk at h9; omega)⟩, (Nat.le_of_ble_eq_true rfl)⟩ ki_X9_thought ks_X9_thought rfl (am_tab tk_L_law 421 rfl) rfl ?_
  rintro r σ' ⟨v, rfl, hL1, hM⟩
  refine am_aload_n (q := 701) rfl (am_tab tk_L_law 422 rfl) rfl ?_
  refine am_sload (q := 702) (k := 2) rfl (am_tab tk_L_law 423 rfl) rfl ?_
  refine am_iload_n (q := 703) rfl (am_tab tk_L_law 424 rfl) rfl ?_
  refine am_iconst (q := 704) (n := 1) (by decide) (am_tab tk_L_law 425 rfl) rfl ?_
  refine am_iadd (q := 705) (by omega) (am_tab tk_L_law 426 rfl) rfl ?_
  refine am_sld (q := 706) (by omega) (by omega) (am_tab tk_L_law 427 rfl) rfl ?_
  refine am_callV (q := 709) (me2 := M_X10_thought) (b := 55) (kb := 10) (nb := 108) (As := [am_i ((xs (6 * (k : Int) + 1).toNat).toInt)]) (rest := [am_i v]) hM (hL1.1 55 (by decide)) (by decide) ⟨Or.inl km_L_97, kc_X10_thought, kn_X10, kd_X10_thought, ⟨(Nat.le_of_ble_eq_true rfl), (Nat.le_of_ble_eq_true rfl)⟩, ⟨(by show cells + 0 + 0 ≤ 600000; have h9 := hR; unfold RMk at h9; omega), (by show slots + 0 + 0 ≤ 7302250; have h9 := hR; unfold RMk at h9; omega)⟩, (Nat.le_of_ble_eq_true rfl)⟩ ki_X10_thought ks_X10_thought rfl (am_tab tk_L_law 428 rfl) rfl ?_
  rintro r2 σ'' ⟨rfl, hI2⟩
  refine am_icmp_eq (q := 712) (t := 1027) (am_tab tk_L_law 429 rfl) (by decide) rfl (fun _ => ?_) (fun h => absurd rfl h)
  exact kk _ _ σ'' hI2 (by show cells + 0 + 0 ≤ _; have h9 := hR; unfold RMk at h9; omega) (by show slots + 0 + 0 ≤ _; have h9 := hR; unfold RMk at h9; omega)
set_option maxRecDepth 20000 in
theorem law_hours {L : Nat} {xs : Nat → Int32} {Q : Option am_V → am_H → Prop} {cells slots k : Nat} {σ : am_H} (hL : L ≤ 3072) (hkL : 6 * (k : Int) ≤ (L : Int) - 6) (hI : INV k σ) (hR : RMk k cells slots) (kk : ∀ (cells slots : Nat) (σ' : am_H), INV (k + 1) σ' → cells ≤ 131 + 5 * (k + 1) → slots ≤ 26526 + 4800 * (k + 1) → am_wp (M_L L xs) Q cells slots 1027 [(3, am_i (6 * (k : Int))), (2, am_r 55), (1, am_r 0), (0, am_s 2)] [] σ') : am_wp (M_L L xs) Q cells slots 714 [(3, am_i (6 * (k : Int))), (2, am_r 55), (1, am_r 0), (0, am_s 2)] [] σ := by
  have hL0 : lay σ := by
    obtain ⟨t, f, c, h⟩ := hI
    exact h.G.L
  have hop := op_hours ((xs (6 * (k : Int) + 1).toNat).toInt)
  refine am_aload_n (q := 715) rfl (am_tab tk_L_law 432 rfl) rfl ?_
  refine am_sload (q := 716) (k := 2) rfl (am_tab tk_L_law 433 rfl) rfl ?_
  refine am_iload_n (q := 717) rfl (am_tab tk_L_law 434 rfl) rfl ?_
  refine am_iconst (q := 718) (n := 1) (by decide) (am_tab tk_L_law 435 rfl) rfl ?_
  refine am_iadd (q := 719) (by omega) (am_tab tk_L_law 436 rfl) rfl ?_
  refine am_sld (q := 720) (by omega) (by omega) (am_tab tk_L_law 437 rfl) rfl ?_
  refine am_callV (q := 723) (me2 := M_X9_hours) (b := 0) (kb := 9) (nb := 17) (As := [am_i ((xs (6 * (k : Int) + 1).toNat).toInt)]) (rest := []) (hop k σ (by unfold RMk at hR; omega) hI) (hL0.1 0 (by decide)) (by decide) ⟨Or.inl km_L_98, kc_X9_hours, kn_X9, kd_X9_hours, ⟨(Nat.le_of_ble_eq_true rfl), (Nat.le_of_ble_eq_true rfl)⟩, ⟨(by show cells + 0 ≤ 600000; have h9 := hR; unfold RMk at h9; omega), (by show slots + 0 ≤ 7302250; have h9 := hR; unfold RMk at h9; omega)⟩, (Nat.le_of_ble_eq_true rfl)⟩ ki_X9_hours ks_X9_hours rfl (am_tab tk_L_law 438 rfl) rfl ?_
  rintro r σ' ⟨v, rfl, hL1, hM⟩
  refine am_aload_n (q := 724) rfl (am_tab tk_L_law 439 rfl) rfl ?_
  refine am_sload (q := 725) (k := 2) rfl (am_tab tk_L_law 440 rfl) rfl ?_
  refine am_iload_n (q := 726) rfl (am_tab tk_L_law 441 rfl) rfl ?_
  refine am_iconst (q := 727) (n := 1) (by decide) (am_tab tk_L_law 442 rfl) rfl ?_
  refine am_iadd (q := 728) (by omega) (am_tab tk_L_law 443 rfl) rfl ?_
  refine am_sld (q := 729) (by omega) (by omega) (am_tab tk_L_law 444 rfl) rfl ?_
  refine am_callV (q := 732) (me2 := M_X10_hours) (b := 55) (kb := 10) (nb := 108) (As := [am_i ((xs (6 * (k : Int) + 1).toNat).toInt)]) (rest := [am_i v]) hM (hL1.1 55 (by decide)) (by decide) ⟨Or.inl km_L_101, kc_X10_hours, kn_X10, kd_X10_hours, ⟨(Nat.le_of_ble_eq_true rfl), (Nat.le_of_ble_eq_true rfl)⟩, ⟨(by show cells + 0 + 0 ≤ 600000; have h9 := hR; unfold RMk at h9; omega), (by show slots + 0 + 0 ≤ 7302250; have h9 := hR; unfold RMk at h9; omega)⟩, (Nat.le_of_ble_eq_true rfl)⟩ ki_X10_hours ks_X10_hours rfl (am_tab tk_L_law 445 rfl) rfl ?_
  rintro r2 σ'' ⟨rfl, hI2⟩
  refine am_icmp_eq (q := 735) (t := 1027) (am_tab tk_L_law 446 rfl) (by decide) rfl (fun _ => ?_) (fun h => absurd rfl h)
  exact kk _ _ σ'' hI2 (by show cells + 0 + 0 ≤ _; have h9 := hR; unfold RMk at h9; omega) (by show slots + 0 + 0 ≤ _; have h9 := hR; unfold RMk at h9; omega)
set_option maxRecDepth 20000 in
theorem law_law {L : Nat} {xs : Nat → Int32} {Q : Option am_V → am_H → Prop} {cells slots k : Nat} {σ : am_H} (hL : L ≤ 3072) (hkL : 6 * (k : Int) ≤ (L : Int) - 6) (hI : INV k σ) (hR : RMk k cells slots) (kk : ∀ (cells slots : Nat) (σ' : am_H), INV (k + 1) σ' → cells ≤ 131 + 5 * (k + 1) → slots ≤ 26526 + 4800 * (k + 1) → am_wp (M_L L xs) Q cells slots 1027 [(3, am_i (6 * (k : Int))), (2, am_r 55), (1, am_r 0), (0, am_s 2)] [] σ') : am_wp (M_L L xs) Q cells slots 737 [(3, am_i (6 * (k : Int))), (2, am_r 55), (1, am_r 0), (0, am_s 2)] [] σ := by
  have hL0 : lay σ := by
    obtain ⟨t, f, c, h⟩ := hI
    exact h.G.L
  have hop := op_law ((xs (6 * (k : Int) + 1).toNat).toInt)
  refine am_aload_n (q := 738) rfl (am_tab tk_L_law 449 rfl) rfl ?_
  refine am_sload (q := 739) (k := 2) rfl (am_tab tk_L_law 450 rfl) rfl ?_
  refine am_iload_n (q := 740) rfl (am_tab tk_L_law 451 rfl) rfl ?_
  refine am_iconst (q := 741) (n := 1) (by decide) (am_tab tk_L_law 452 rfl) rfl ?_
  refine am_iadd (q := 742) (by omega) (am_tab tk_L_law 453 rfl) rfl ?_
  refine am_sld (q := 743) (by omega) (by omega) (am_tab tk_L_law 454 rfl) rfl ?_
  refine am_callV (q := 746) (me2 := M_X9_law) (b := 0) (kb := 9) (nb := 17) (As := [am_i ((xs (6 * (k : Int) + 1).toNat).toInt)]) (rest := []) (hop k σ (by unfold RMk at hR; omega) hI) (hL0.1 0 (by decide)) (by decide) ⟨Or.inl km_L_102, kc_X9_law, kn_X9, kd_X9_law, ⟨(Nat.le_of_ble_eq_true rfl), (Nat.le_of_ble_eq_true rfl)⟩, ⟨(by show cells + 0 ≤ 600000; have h9 := hR; unfold RMk at h9; omega), (by show slots + 0 ≤ 7302250; have h9 := hR; unfold RMk at h9; omega)⟩, (Nat.le_of_ble_eq_true rfl)⟩ ki_X9_law ks_X9_law rfl (am_tab tk_L_law 455 rfl) rfl ?_
  rintro r σ' ⟨v, rfl, hL1, hM⟩
  refine am_aload_n (q := 747) rfl (am_tab tk_L_law 456 rfl) rfl ?_
  refine am_sload (q := 748) (k := 2) rfl (am_tab tk_L_law 457 rfl) rfl ?_
  refine am_iload_n (q := 749) rfl (am_tab tk_L_law 458 rfl) rfl ?_
  refine am_iconst (q := 750) (n := 1) (by decide) (am_tab tk_L_law 459 rfl) rfl ?_
  refine am_iadd (q := 751) (by omega) (am_tab tk_L_law 460 rfl) rfl ?_
  refine am_sld (q := 752) (by omega) (by omega) (am_tab tk_L_law 461 rfl) rfl ?_
  refine am_callV (q := 755) (me2 := M_X10_law) (b := 55) (kb := 10) (nb := 108) (As := [am_i ((xs (6 * (k : Int) + 1).toNat).toInt)]) (rest := [am_i v]) hM (hL1.1 55 (by decide)) (by decide) ⟨Or.inl km_L_105, kc_X10_law, kn_X10, kd_X10_law, ⟨(Nat.le_of_ble_eq_true rfl), (Nat.le_of_ble_eq_true rfl)⟩, ⟨(by show cells + 0 + 0 ≤ 600000; have h9 := hR; unfold RMk at h9; omega), (by show slots + 0 + 0 ≤ 7302250; have h9 := hR; unfold RMk at h9; omega)⟩, (Nat.le_of_ble_eq_true rfl)⟩ ki_X10_law ks_X10_law rfl (am_tab tk_L_law 462 rfl) rfl ?_
  rintro r2 σ'' ⟨rfl, hI2⟩
  refine am_icmp_eq (q := 758) (t := 1027) (am_tab tk_L_law 463 rfl) (by decide) rfl (fun _ => ?_) (fun h => absurd rfl h)
  exact kk _ _ σ'' hI2 (by show cells + 0 + 0 ≤ _; have h9 := hR; unfold RMk at h9; omega) (by show slots + 0 + 0 ≤ _; have h9 := hR; unfold RMk at h9; omega)
set_option maxRecDepth 20000 in
theorem law_go {L : Nat} {xs : Nat → Int32} {Q : Option am_V → am_H → Prop} {cells slots k : Nat} {σ : am_H} (hL : L ≤ 3072) (hkL : 6 * (k : Int) ≤ (L : Int) - 6) (hI : INV k σ) (hR : RMk k cells slots) (kk : ∀ (cells slots : Nat) (σ' : am_H), INV (k + 1) σ' → cells ≤ 131 + 5 * (k + 1) → slots ≤ 26526 + 4800 * (k + 1) → am_wp (M_L L xs) Q cells slots 1027 [(3, am_i (6 * (k : Int))), (2, am_r 55), (1, am_r 0), (0, am_s 2)] [] σ') : am_wp (M_L L xs) Q cells slots 760 [(3, am_i (6 * (k : Int))), (2, am_r 55), (1, am_r 0), (0, am_s 2)] [] σ := by
  have hL0 : lay σ := by
    obtain ⟨t, f, c, h⟩ := hI
    exact h.G.L
  have hop := op_go ((xs (6 * (k : Int) + 1).toNat).toInt)
  refine am_aload_n (q := 761) rfl (am_tab tk_L_law 466 rfl) rfl ?_
  refine am_sload (q := 762) (k := 2) rfl (am_tab tk_L_law 467 rfl) rfl ?_
  refine am_iload_n (q := 763) rfl (am_tab tk_L_law 468 rfl) rfl ?_
  refine am_iconst (q := 764) (n := 1) (by decide) (am_tab tk_L_law 469 rfl) rfl ?_
  refine am_iadd (q := 765) (by omega) (am_tab tk_L_law 470 rfl) rfl ?_
  refine am_sld (q := 766) (by omega) (by omega) (am_tab tk_L_law 471 rfl) rfl ?_
  refine am_callV (q := 769) (me2 := M_X9_go) (b := 0) (kb := 9) (nb := 17) (As := [am_i ((xs (6 * (k : Int) + 1).toNat).toInt)]) (rest := []) (hop k σ (by unfold RMk at hR; omega) hI) (hL0.1 0 (by decide)) (by decide) ⟨Or.inl km_L_106, kc_X9_go, kn_X9, kd_X9_go, ⟨(Nat.le_of_ble_eq_true rfl), (Nat.le_of_ble_eq_true rfl)⟩, ⟨(by show cells + 5 ≤ 600000; have h9 := hR; unfold RMk at h9; omega), (by show slots + 261 ≤ 7302250; have h9 := hR; unfold RMk at h9; omega)⟩, (Nat.le_of_ble_eq_true rfl)⟩ ki_X9_go ks_X9_go rfl (am_tab tk_L_law 472 rfl) rfl ?_
  rintro r σ' ⟨v, rfl, hL1, hM⟩
  refine am_aload_n (q := 770) rfl (am_tab tk_L_law 473 rfl) rfl ?_
  refine am_sload (q := 771) (k := 2) rfl (am_tab tk_L_law 474 rfl) rfl ?_
  refine am_iload_n (q := 772) rfl (am_tab tk_L_law 475 rfl) rfl ?_
  refine am_iconst (q := 773) (n := 1) (by decide) (am_tab tk_L_law 476 rfl) rfl ?_
  refine am_iadd (q := 774) (by omega) (am_tab tk_L_law 477 rfl) rfl ?_
  refine am_sld (q := 775) (by omega) (by omega) (am_tab tk_L_law 478 rfl) rfl ?_
  refine am_callV (q := 778) (me2 := M_X10_go) (b := 55) (kb := 10) (nb := 108) (As := [am_i ((xs (6 * (k : Int) + 1).toNat).toInt)]) (rest := [am_i v]) hM (hL1.1 55 (by decide)) (by decide) ⟨Or.inl km_L_109, kc_X10_go, kn_X10, kd_X10_go, ⟨(Nat.le_of_ble_eq_true rfl), (Nat.le_of_ble_eq_true rfl)⟩, ⟨(by show cells + 5 + 0 ≤ 600000; have h9 := hR; unfold RMk at h9; omega), (by show slots + 261 + 0 ≤ 7302250; have h9 := hR; unfold RMk at h9; omega)⟩, (Nat.le_of_ble_eq_true rfl)⟩ ki_X10_go ks_X10_go rfl (am_tab tk_L_law 479 rfl) rfl ?_
  rintro r2 σ'' ⟨rfl, hI2⟩
  refine am_icmp_eq (q := 781) (t := 1027) (am_tab tk_L_law 480 rfl) (by decide) rfl (fun _ => ?_) (fun h => absurd rfl h)
  exact kk _ _ σ'' hI2 (by show cells + 5 + 0 ≤ _; have h9 := hR; unfold RMk at h9; omega) (by show slots + 261 + 0 ≤ _; have h9 := hR; unfold RMk at h9; omega)
set_option maxRecDepth 20000 in
theorem law_tell {L : Nat} {xs : Nat → Int32} {Q : Option am_V → am_H → Prop} {cells slots k : Nat} {σ : am_H} (hL : L ≤ 3072) (hkL : 6 * (k : Int) ≤ (L : Int) - 6) (hI : INV k σ) (hR : RMk k cells slots) (kk : ∀ (cells slots : Nat) (σ' : am_H), INV (k + 1) σ' → cells ≤ 131 + 5 * (k + 1) → slots ≤ 26526 + 4800 * (k + 1) → am_wp (M_L L xs) Q cells slots 1027 [(3, am_i (6 * (k : Int))), (2, am_r 55), (1, am_r 0), (0, am_s 2)] [] σ') : am_wp (M_L L xs) Q cells slots 783 [(3, am_i (6 * (k : Int))), (2, am_r 55), (1, am_r 0), (0, am_s 2)] [] σ := by
  have hL0 : lay σ := by
    obtain ⟨t, f, c, h⟩ := hI
    exact h.G.L
  have hop := op_tell ((xs (6 * (k : Int) + 1).toNat).toInt) ((xs (6 * (k : Int) + 2).toNat).toInt)
  refine am_aload_n (q := 784) rfl (am_tab tk_L_law 483 rfl) rfl ?_
  refine am_sload (q := 785) (k := 2) rfl (am_tab tk_L_law 484 rfl) rfl ?_
  refine am_iload_n (q := 786) rfl (am_tab tk_L_law 485 rfl) rfl ?_
  refine am_iconst (q := 787) (n := 1) (by decide) (am_tab tk_L_law 486 rfl) rfl ?_
  refine am_iadd (q := 788) (by omega) (am_tab tk_L_law 487 rfl) rfl ?_
  refine am_sld (q := 789) (by omega) (by omega) (am_tab tk_L_law 488 rfl) rfl ?_
  refine am_sload (q := 790) (k := 2) rfl (am_tab tk_L_law 489 rfl) rfl ?_
  refine am_iload_n (q := 791) rfl (am_tab tk_L_law 490 rfl) rfl ?_
  refine am_iconst (q := 792) (n := 2) (by decide) (am_tab tk_L_law 491 rfl) rfl ?_
  refine am_iadd (q := 793) (by omega) (am_tab tk_L_law 492 rfl) rfl ?_
  refine am_sld (q := 794) (by omega) (by omega) (am_tab tk_L_law 493 rfl) rfl ?_
  refine am_callV (q := 797) (me2 := M_X9_tell) (b := 0) (kb := 9) (nb := 17) (As := [am_i ((xs (6 * (k : Int) + 1).toNat).toInt), am_i ((xs (6 * (k : Int) + 2).toNat).toInt)]) (rest := []) (hop k σ (by unfold RMk at hR; omega) hI) (hL0.1 0 (by decide)) (by decide) ⟨Or.inl km_L_110, kc_X9_tell, kn_X9, kd_X9_tell, ⟨(Nat.le_of_ble_eq_true rfl), (Nat.le_of_ble_eq_true rfl)⟩, ⟨(by show cells + 5 ≤ 600000; have h9 := hR; unfold RMk at h9; omega), (by show slots + 261 ≤ 7302250; have h9 := hR; unfold RMk at h9; omega)⟩, (Nat.le_of_ble_eq_true rfl)⟩ ki_X9_tell ks_X9_tell rfl (am_tab tk_L_law 494 rfl) rfl ?_
  rintro r σ' ⟨v, rfl, hL1, hM⟩
  refine am_aload_n (q := 798) rfl (am_tab tk_L_law 495 rfl) rfl ?_
  refine am_sload (q := 799) (k := 2) rfl (am_tab tk_L_law 496 rfl) rfl ?_
  refine am_iload_n (q := 800) rfl (am_tab tk_L_law 497 rfl) rfl ?_
  refine am_iconst (q := 801) (n := 1) (by decide) (am_tab tk_L_law 498 rfl) rfl ?_
  refine am_iadd (q := 802) (by omega) (am_tab tk_L_law 499 rfl) rfl ?_
  refine am_sld (q := 803) (by omega) (by omega) (am_tab tk_L_law 500 rfl) rfl ?_
  refine am_sload (q := 804) (k := 2) rfl (am_tab tk_L_law 501 rfl) rfl ?_
  refine am_iload_n (q := 805) rfl (am_tab tk_L_law 502 rfl) rfl ?_
  refine am_iconst (q := 806) (n := 2) (by decide) (am_tab tk_L_law 503 rfl) rfl ?_
  refine am_iadd (q := 807) (by omega) (am_tab tk_L_law 504 rfl) rfl ?_
  refine am_sld (q := 808) (by omega) (by omega) (am_tab tk_L_law 505 rfl) rfl ?_
  refine am_callV (q := 811) (me2 := M_X10_tell) (b := 55) (kb := 10) (nb := 108) (As := [am_i ((xs (6 * (k : Int) + 1).toNat).toInt), am_i ((xs (6 * (k : Int) + 2).toNat).toInt)]) (rest := [am_i v]) hM (hL1.1 55 (by decide)) (by decide) ⟨Or.inl km_L_113, kc_X10_tell, kn_X10, kd_X10_tell, ⟨(Nat.le_of_ble_eq_true rfl), (Nat.le_of_ble_eq_true rfl)⟩, ⟨(by show cells + 5 + 0 ≤ 600000; have h9 := hR; unfold RMk at h9; omega), (by show slots + 261 + 0 ≤ 7302250; have h9 := hR; unfold RMk at h9; omega)⟩, (Nat.le_of_ble_eq_true rfl)⟩ ki_X10_tell ks_X10_tell rfl (am_tab tk_L_law 506 rfl) rfl ?_
  rintro r2 σ'' ⟨rfl, hI2⟩
  refine am_icmp_eq (q := 814) (t := 1027) (am_tab tk_L_law 507 rfl) (by decide) rfl (fun _ => ?_) (fun h => absurd rfl h)
  exact kk _ _ σ'' hI2 (by show cells + 5 + 0 ≤ _; have h9 := hR; unfold RMk at h9; omega) (by show slots + 261 + 0 ≤ _; have h9 := hR; unfold RMk at h9; omega)
set_option maxRecDepth 20000 in
theorem law_bribe {L : Nat} {xs : Nat → Int32} {Q : Option am_V → am_H → Prop} {cells slots k : Nat} {σ : am_H} (hL : L ≤ 3072) (hkL : 6 * (k : Int) ≤ (L : Int) - 6) (hI : INV k σ) (hR : RMk k cells slots) (kk : ∀ (cells slots : Nat) (σ' : am_H), INV (k + 1) σ' → cells ≤ 131 + 5 * (k + 1) → slots ≤ 26526 + 4800 * (k + 1) → am_wp (M_L L xs) Q cells slots 1027 [(3, am_i (6 * (k : Int))), (2, am_r 55), (1, am_r 0), (0, am_s 2)] [] σ') : am_wp (M_L L xs) Q cells slots 816 [(3, am_i (6 * (k : Int))), (2, am_r 55), (1, am_r 0), (0, am_s 2)] [] σ := by
  have hL0 : lay σ := by
    obtain ⟨t, f, c, h⟩ := hI
    exact h.G.L
  have hop := op_bribe ((xs (6 * (k : Int) + 1).toNat).toInt) ((xs (6 * (k : Int) + 2).toNat).toInt)
  refine am_aload_n (q := 817) rfl (am_tab tk_L_law 510 rfl) rfl ?_
  refine am_sload (q := 818) (k := 2) rfl (am_tab tk_L_law 511 rfl) rfl ?_
  refine am_iload_n (q := 819) rfl (am_tab tk_L_law 512 rfl) rfl ?_
  refine am_iconst (q := 820) (n := 1) (by decide) (am_tab tk_L_law 513 rfl) rfl ?_
  refine am_iadd (q := 821) (by omega) (am_tab tk_L_law 514 rfl) rfl ?_
  refine am_sld (q := 822) (by omega) (by omega) (am_tab tk_L_law 515 rfl) rfl ?_
  refine am_sload (q := 823) (k := 2) rfl (am_tab tk_L_law 516 rfl) rfl ?_
  refine am_iload_n (q := 824) rfl (am_tab tk_L_law 517 rfl) rfl ?_
  refine am_iconst (q := 825) (n := 2) (by decide) (am_tab tk_L_law 518 rfl) rfl ?_
  refine am_iadd (q := 826) (by omega) (am_tab tk_L_law 519 rfl) rfl ?_
  refine am_sld (q := 827) (by omega) (by omega) (am_tab tk_L_law 520 rfl) rfl ?_
  refine am_callV (q := 830) (me2 := M_X9_bribe) (b := 0) (kb := 9) (nb := 17) (As := [am_i ((xs (6 * (k : Int) + 1).toNat).toInt), am_i ((xs (6 * (k : Int) + 2).toNat).toInt)]) (rest := []) (hop k σ (by unfold RMk at hR; omega) hI) (hL0.1 0 (by decide)) (by decide) ⟨Or.inl km_L_114, kc_X9_bribe, kn_X9, kd_X9_bribe, ⟨(Nat.le_of_ble_eq_true rfl), (Nat.le_of_ble_eq_true rfl)⟩, ⟨(by show cells + 5 ≤ 600000; have h9 := hR; unfold RMk at h9; omega), (by show slots + 261 ≤ 7302250; have h9 := hR; unfold RMk at h9; omega)⟩, (Nat.le_of_ble_eq_true rfl)⟩ ki_X9_bribe ks_X9_bribe rfl (am_tab tk_L_law 521 rfl) rfl ?_
  rintro r σ' ⟨v, rfl, hL1, hM⟩
  refine am_aload_n (q := 831) rfl (am_tab tk_L_law 522 rfl) rfl ?_
  refine am_sload (q := 832) (k := 2) rfl (am_tab tk_L_law 523 rfl) rfl ?_
  refine am_iload_n (q := 833) rfl (am_tab tk_L_law 524 rfl) rfl ?_
  refine am_iconst (q := 834) (n := 1) (by decide) (am_tab tk_L_law 525 rfl) rfl ?_
  refine am_iadd (q := 835) (by omega) (am_tab tk_L_law 526 rfl) rfl ?_
  refine am_sld (q := 836) (by omega) (by omega) (am_tab tk_L_law 527 rfl) rfl ?_
  refine am_sload (q := 837) (k := 2) rfl (am_tab tk_L_law 528 rfl) rfl ?_
  refine am_iload_n (q := 838) rfl (am_tab tk_L_law 529 rfl) rfl ?_
  refine am_iconst (q := 839) (n := 2) (by decide) (am_tab tk_L_law 530 rfl) rfl ?_
  refine am_iadd (q := 840) (by omega) (am_tab tk_L_law 531 rfl) rfl ?_
  refine am_sld (q := 841) (by omega) (by omega) (am_tab tk_L_law 532 rfl) rfl ?_
  refine am_callV (q := 844) (me2 := M_X10_bribe) (b := 55) (kb := 10) (nb := 108) (As := [am_i ((xs (6 * (k : Int) + 1).toNat).toInt), am_i ((xs (6 * (k : Int) + 2).toNat).toInt)]) (rest := [am_i v]) hM (hL1.1 55 (by decide)) (by decide) ⟨Or.inl km_L_117, kc_X10_bribe, kn_X10, kd_X10_bribe, ⟨(Nat.le_of_ble_eq_true rfl), (Nat.le_of_ble_eq_true rfl)⟩, ⟨(by show cells + 5 + 0 ≤ 600000; have h9 := hR; unfold RMk at h9; omega), (by show slots + 261 + 0 ≤ 7302250; have h9 := hR; unfold RMk at h9; omega)⟩, (Nat.le_of_ble_eq_true rfl)⟩ ki_X10_bribe ks_X10_bribe rfl (am_tab tk_L_law 533 rfl) rfl ?_
  rintro r2 σ'' ⟨rfl, hI2⟩
  refine am_icmp_eq (q := 847) (t := 1027) (am_tab tk_L_law 534 rfl) (by decide) rfl (fun _ => ?_) (fun h => absurd rfl h)
  exact kk _ _ σ'' hI2 (by show cells + 5 + 0 ≤ _; have h9 := hR; unfold RMk at h9; omega) (by show slots + 261 + 0 ≤ _; have h9 := hR; unfold RMk at h9; omega)
set_option maxRecDepth 20000 in
theorem law_dies {L : Nat} {xs : Nat → Int32} {Q : Option am_V → am_H → Prop} {cells slots k : Nat} {σ : am_H} (hL : L ≤ 3072) (hkL : 6 * (k : Int) ≤ (L : Int) - 6) (hI : INV k σ) (hR : RMk k cells slots) (kk : ∀ (cells slots : Nat) (σ' : am_H), INV (k + 1) σ' → cells ≤ 131 + 5 * (k + 1) → slots ≤ 26526 + 4800 * (k + 1) → am_wp (M_L L xs) Q cells slots 1027 [(3, am_i (6 * (k : Int))), (2, am_r 55), (1, am_r 0), (0, am_s 2)] [] σ') : am_wp (M_L L xs) Q cells slots 849 [(3, am_i (6 * (k : Int))), (2, am_r 55), (1, am_r 0), (0, am_s 2)] [] σ := by
  have hL0 : lay σ := by
    obtain ⟨t, f, c, h⟩ := hI
    exact h.G.L
  have hop := op_dies ((xs (6 * (k : Int) + 1).toNat).toInt)
  refine am_aload_n (q := 850) rfl (am_tab tk_L_law 537 rfl) rfl ?_
  refine am_sload (q := 851) (k := 2) rfl (am_tab tk_L_law 538 rfl) rfl ?_
  refine am_iload_n (q := 852) rfl (am_tab tk_L_law 539 rfl) rfl ?_
  refine am_iconst (q := 853) (n := 1) (by decide) (am_tab tk_L_law 540 rfl) rfl ?_
  refine am_iadd (q := 854) (by omega) (am_tab tk_L_law 541 rfl) rfl ?_
  refine am_sld (q := 855) (by omega) (by omega) (am_tab tk_L_law 542 rfl) rfl ?_
  refine am_callV (q := 858) (me2 := M_X9_dies) (b := 0) (kb := 9) (nb := 17) (As := [am_i ((xs (6 * (k : Int) + 1).toNat).toInt)]) (rest := []) (hop k σ (by unfold RMk at hR; omega) hI) (hL0.1 0 (by decide)) (by decide) ⟨Or.inl km_L_118, kc_X9_dies, kn_X9, kd_X9_dies, ⟨(Nat.le_of_ble_eq_true rfl), (Nat.le_of_ble_eq_true rfl)⟩, ⟨(by show cells + 5 ≤ 600000; have h9 := hR; unfold RMk at h9; omega), (by show slots + 261 ≤ 7302250; have h9 := hR; unfold RMk at h9; omega)⟩, (Nat.le_of_ble_eq_true rfl)⟩ ki_X9_dies ks_X9_dies rfl (am_tab tk_L_law 543 rfl) rfl ?_
  rintro r σ' ⟨v, rfl, hL1, hM⟩
  refine am_aload_n (q := 859) rfl (am_tab tk_L_law 544 rfl) rfl ?_
  refine am_sload (q := 860) (k := 2) rfl (am_tab tk_L_law 545 rfl) rfl ?_
  refine am_iload_n (q := 861) rfl (am_tab tk_L_law 546 rfl) rfl ?_
  refine am_iconst (q := 862) (n := 1) (by decide) (am_tab tk_L_law 547 rfl) rfl ?_
  refine am_iadd (q := 863) (by omega) (am_tab tk_L_law 548 rfl) rfl ?_
  refine am_sld (q := 864) (by omega) (by omega) (am_tab tk_L_law 549 rfl) rfl ?_
  refine am_callV (q := 867) (me2 := M_X10_dies) (b := 55) (kb := 10) (nb := 108) (As := [am_i ((xs (6 * (k : Int) + 1).toNat).toInt)]) (rest := [am_i v]) hM (hL1.1 55 (by decide)) (by decide) ⟨Or.inl km_L_121, kc_X10_dies, kn_X10, kd_X10_dies, ⟨(Nat.le_of_ble_eq_true rfl), (Nat.le_of_ble_eq_true rfl)⟩, ⟨(by show cells + 5 + 0 ≤ 600000; have h9 := hR; unfold RMk at h9; omega), (by show slots + 261 + 0 ≤ 7302250; have h9 := hR; unfold RMk at h9; omega)⟩, (Nat.le_of_ble_eq_true rfl)⟩ ki_X10_dies ks_X10_dies rfl (am_tab tk_L_law 550 rfl) rfl ?_
  rintro r2 σ'' ⟨rfl, hI2⟩
  refine am_icmp_eq (q := 870) (t := 1027) (am_tab tk_L_law 551 rfl) (by decide) rfl (fun _ => ?_) (fun h => absurd rfl h)
  exact kk _ _ σ'' hI2 (by show cells + 5 + 0 ≤ _; have h9 := hR; unfold RMk at h9; omega) (by show slots + 261 + 0 ≤ _; have h9 := hR; unfold RMk at h9; omega)
set_option maxRecDepth 20000 in
theorem law_chance {L : Nat} {xs : Nat → Int32} {Q : Option am_V → am_H → Prop} {cells slots k : Nat} {σ : am_H} (hL : L ≤ 3072) (hkL : 6 * (k : Int) ≤ (L : Int) - 6) (hI : INV k σ) (hR : RMk k cells slots) (kk : ∀ (cells slots : Nat) (σ' : am_H), INV (k + 1) σ' → cells ≤ 131 + 5 * (k + 1) → slots ≤ 26526 + 4800 * (k + 1) → am_wp (M_L L xs) Q cells slots 1027 [(3, am_i (6 * (k : Int))), (2, am_r 55), (1, am_r 0), (0, am_s 2)] [] σ') : am_wp (M_L L xs) Q cells slots 872 [(3, am_i (6 * (k : Int))), (2, am_r 55), (1, am_r 0), (0, am_s 2)] [] σ := by
  have hL0 : lay σ := by
    obtain ⟨t, f, c, h⟩ := hI
    exact h.G.L
  have hop := op_chance ((xs (6 * (k : Int) + 1).toNat).toInt)
  refine am_aload_n (q := 873) rfl (am_tab tk_L_law 554 rfl) rfl ?_
  refine am_sload (q := 874) (k := 2) rfl (am_tab tk_L_law 555 rfl) rfl ?_
  refine am_iload_n (q := 875) rfl (am_tab tk_L_law 556 rfl) rfl ?_
  refine am_iconst (q := 876) (n := 1) (by decide) (am_tab tk_L_law 557 rfl) rfl ?_
  refine am_iadd (q := 877) (by omega) (am_tab tk_L_law 558 rfl) rfl ?_
  refine am_sld (q := 878) (by omega) (by omega) (am_tab tk_L_law 559 rfl) rfl ?_
  refine am_callV (q := 881) (me2 := M_X9_chance) (b := 0) (kb := 9) (nb := 17) (As := [am_i ((xs (6 * (k : Int) + 1).toNat).toInt)]) (rest := []) (hop k σ (by unfold RMk at hR; omega) hI) (hL0.1 0 (by decide)) (by decide) ⟨Or.inl km_L_122, kc_X9_chance, kn_X9, kd_X9_chance, ⟨(Nat.le_of_ble_eq_true rfl), (Nat.le_of_ble_eq_true rfl)⟩, ⟨(by show cells + 5 ≤ 600000; have h9 := hR; unfold RMk at h9; omega), (by show slots + 261 ≤ 7302250; have h9 := hR; unfold RMk at h9; omega)⟩, (Nat.le_of_ble_eq_true rfl)⟩ ki_X9_chance ks_X9_chance rfl (am_tab tk_L_law 560 rfl) rfl ?_
  rintro r σ' ⟨v, rfl, hL1, hM⟩
  refine am_aload_n (q := 882) rfl (am_tab tk_L_law 561 rfl) rfl ?_
  refine am_sload (q := 883) (k := 2) rfl (am_tab tk_L_law 562 rfl) rfl ?_
  refine am_iload_n (q := 884) rfl (am_tab tk_L_law 563 rfl) rfl ?_
  refine am_iconst (q := 885) (n := 1) (by decide) (am_tab tk_L_law 564 rfl) rfl ?_
  refine am_iadd (q := 886) (by omega) (am_tab tk_L_law 565 rfl) rfl ?_
  refine am_sld (q := 887) (by omega) (by omega) (am_tab tk_L_law 566 rfl) rfl ?_
  refine am_callV (q := 890) (me2 := M_X10_chance) (b := 55) (kb := 10) (nb := 108) (As := [am_i ((xs (6 * (k : Int) + 1).toNat).toInt)]) (rest := [am_i v]) hM (hL1.1 55 (by decide)) (by decide) ⟨Or.inl km_L_125, kc_X10_chance, kn_X10, kd_X10_chance, ⟨(Nat.le_of_ble_eq_true rfl), (Nat.le_of_ble_eq_true rfl)⟩, ⟨(by show cells + 5 + 0 ≤ 600000; have h9 := hR; unfold RMk at h9; omega), (by show slots + 261 + 0 ≤ 7302250; have h9 := hR; unfold RMk at h9; omega)⟩, (Nat.le_of_ble_eq_true rfl)⟩ ki_X10_chance ks_X10_chance rfl (am_tab tk_L_law 567 rfl) rfl ?_
  rintro r2 σ'' ⟨rfl, hI2⟩
  refine am_icmp_eq (q := 893) (t := 1027) (am_tab tk_L_law 568 rfl) (by decide) rfl (fun _ => ?_) (fun h => absurd rfl h)
  exact kk _ _ σ'' hI2 (by show cells + 5 + 0 ≤ _; have h9 := hR; unfold RMk at h9; omega) (by show slots + 261 + 0 ≤ _; have h9 := hR; unfold RMk at h9; omega)
set_option maxRecDepth 20000 in
theorem law_undo {L : Nat} {xs : Nat → Int32} {Q : Option am_V → am_H → Prop} {cells slots k : Nat} {σ : am_H} (hL : L ≤ 3072) (hkL : 6 * (k : Int) ≤ (L : Int) - 6) (hI : INV k σ) (hR : RMk k cells slots) (kk : ∀ (cells slots : Nat) (σ' : am_H), INV (k + 1) σ' → cells ≤ 131 + 5 * (k + 1) → slots ≤ 26526 + 4800 * (k + 1) → am_wp (M_L L xs) Q cells slots 1027 [(3, am_i (6 * (k : Int))), (2, am_r 55), (1, am_r 0), (0, am_s 2)] [] σ') : am_wp (M_L L xs) Q cells slots 895 [(3, am_i (6 * (k : Int))), (2, am_r 55), (1, am_r 0), (0, am_s 2)] [] σ := by
  have hL0 : lay σ := by
    obtain ⟨t, f, c, h⟩ := hI
    exact h.G.L
  have hop := op_undo 
  refine am_aload_n (q := 896) rfl (am_tab tk_L_law 571 rfl) rfl ?_
  refine am_callV (q := 899) (me2 := M_X9_undo) (b := 0) (kb := 9) (nb := 17) (As := []) (rest := []) (hop k σ (by unfold RMk at hR; omega) hI) (hL0.1 0 (by decide)) (by decide) ⟨Or.inl km_L_126, kc_X9_undo, kn_X9, kd_X9_undo, ⟨(Nat.le_of_ble_eq_true rfl), (Nat.le_of_ble_eq_true rfl)⟩, ⟨(by show cells + 0 ≤ 600000; have h9 := hR; unfold RMk at h9; omega), (by show slots + 0 ≤ 7302250; have h9 := hR; unfold RMk at h9; omega)⟩, (Nat.le_of_ble_eq_true rfl)⟩ ki_X9_undo ks_X9_undo rfl (am_tab tk_L_law 572 rfl) rfl ?_
  rintro r σ' ⟨v, rfl, hL1, hM⟩
  refine am_aload_n (q := 900) rfl (am_tab tk_L_law 573 rfl) rfl ?_
  refine am_callV (q := 903) (me2 := M_X10_undo) (b := 55) (kb := 10) (nb := 108) (As := []) (rest := [am_i v]) hM (hL1.1 55 (by decide)) (by decide) ⟨Or.inl km_L_130, kc_X10_undo, kn_X10, kd_X10_undo, ⟨(Nat.le_of_ble_eq_true rfl), (Nat.le_of_ble_eq_true rfl)⟩, ⟨(by show cells + 0 + 0 ≤ 600000; have h9 := hR; unfold RMk at h9; omega), (by show slots + 0 + 0 ≤ 7302250; have h9 := hR; unfold RMk at h9; omega)⟩, (Nat.le_of_ble_eq_true rfl)⟩ ki_X10_undo ks_X10_undo rfl (am_tab tk_L_law 574 rfl) rfl ?_
  rintro r2 σ'' ⟨rfl, hI2⟩
  refine am_icmp_eq (q := 906) (t := 1027) (am_tab tk_L_law 575 rfl) (by decide) rfl (fun _ => ?_) (fun h => absurd rfl h)
  exact kk _ _ σ'' hI2 (by show cells + 0 + 0 ≤ _; have h9 := hR; unfold RMk at h9; omega) (by show slots + 0 + 0 ≤ _; have h9 := hR; unfold RMk at h9; omega)
set_option maxRecDepth 20000 in
theorem law_seed {L : Nat} {xs : Nat → Int32} {Q : Option am_V → am_H → Prop} {cells slots k : Nat} {σ : am_H} (hL : L ≤ 3072) (hkL : 6 * (k : Int) ≤ (L : Int) - 6) (hI : INV k σ) (hR : RMk k cells slots) (kk : ∀ (cells slots : Nat) (σ' : am_H), INV (k + 1) σ' → cells ≤ 131 + 5 * (k + 1) → slots ≤ 26526 + 4800 * (k + 1) → am_wp (M_L L xs) Q cells slots 1027 [(3, am_i (6 * (k : Int))), (2, am_r 55), (1, am_r 0), (0, am_s 2)] [] σ') : am_wp (M_L L xs) Q cells slots 908 [(3, am_i (6 * (k : Int))), (2, am_r 55), (1, am_r 0), (0, am_s 2)] [] σ := by
  have hL0 : lay σ := by
    obtain ⟨t, f, c, h⟩ := hI
    exact h.G.L
  have hop := op_seed ((xs (6 * (k : Int) + 1).toNat).toInt) (am_r32 _).2
  refine am_aload_n (q := 909) rfl (am_tab tk_L_law 578 rfl) rfl ?_
  refine am_sload (q := 910) (k := 2) rfl (am_tab tk_L_law 579 rfl) rfl ?_
  refine am_iload_n (q := 911) rfl (am_tab tk_L_law 580 rfl) rfl ?_
  refine am_iconst (q := 912) (n := 1) (by decide) (am_tab tk_L_law 581 rfl) rfl ?_
  refine am_iadd (q := 913) (by omega) (am_tab tk_L_law 582 rfl) rfl ?_
  refine am_sld (q := 914) (by omega) (by omega) (am_tab tk_L_law 583 rfl) rfl ?_
  refine am_callV (q := 917) (me2 := M_X9_seed) (b := 0) (kb := 9) (nb := 17) (As := [am_i ((xs (6 * (k : Int) + 1).toNat).toInt)]) (rest := []) (hop k σ (by unfold RMk at hR; omega) hI) (hL0.1 0 (by decide)) (by decide) ⟨Or.inl km_L_131, kc_X9_seed, kn_X9, kd_X9_seed, ⟨(Nat.le_of_ble_eq_true rfl), (Nat.le_of_ble_eq_true rfl)⟩, ⟨(by show cells + 0 ≤ 600000; have h9 := hR; unfold RMk at h9; omega), (by show slots + 0 ≤ 7302250; have h9 := hR; unfold RMk at h9; omega)⟩, (Nat.le_of_ble_eq_true rfl)⟩ ki_X9_seed ks_X9_seed rfl (am_tab tk_L_law 584 rfl) rfl ?_
  rintro r σ' ⟨v, rfl, hL1, hM⟩
  refine am_aload_n (q := 918) rfl (am_tab tk_L_law 585 rfl) rfl ?_
  refine am_sload (q := 919) (k := 2) rfl (am_tab tk_L_law 586 rfl) rfl ?_
  refine am_iload_n (q := 920) rfl (am_tab tk_L_law 587 rfl) rfl ?_
  refine am_iconst (q := 921) (n := 1) (by decide) (am_tab tk_L_law 588 rfl) rfl ?_
  refine am_iadd (q := 922) (by omega) (am_tab tk_L_law 589 rfl) rfl ?_
  refine am_sld (q := 923) (by omega) (by omega) (am_tab tk_L_law 590 rfl) rfl ?_
  refine am_callV (q := 926) (me2 := M_X10_seed) (b := 55) (kb := 10) (nb := 108) (As := [am_i ((xs (6 * (k : Int) + 1).toNat).toInt)]) (rest := [am_i v]) hM (hL1.1 55 (by decide)) (by decide) ⟨Or.inl km_L_134, kc_X10_seed, kn_X10, kd_X10_seed, ⟨(Nat.le_of_ble_eq_true rfl), (Nat.le_of_ble_eq_true rfl)⟩, ⟨(by show cells + 0 + 0 ≤ 600000; have h9 := hR; unfold RMk at h9; omega), (by show slots + 0 + 0 ≤ 7302250; have h9 := hR; unfold RMk at h9; omega)⟩, (Nat.le_of_ble_eq_true rfl)⟩ ki_X10_seed ks_X10_seed rfl (am_tab tk_L_law 591 rfl) rfl ?_
  rintro r2 σ'' ⟨rfl, hI2⟩
  refine am_icmp_eq (q := 929) (t := 1027) (am_tab tk_L_law 592 rfl) (by decide) rfl (fun _ => ?_) (fun h => absurd rfl h)
  exact kk _ _ σ'' hI2 (by show cells + 0 + 0 ≤ _; have h9 := hR; unfold RMk at h9; omega) (by show slots + 0 + 0 ≤ _; have h9 := hR; unfold RMk at h9; omega)
set_option maxRecDepth 20000 in
theorem law_ask {L : Nat} {xs : Nat → Int32} {Q : Option am_V → am_H → Prop} {cells slots k : Nat} {σ : am_H} (hL : L ≤ 3072) (hkL : 6 * (k : Int) ≤ (L : Int) - 6) (hI : INV k σ) (hR : RMk k cells slots) (kk : ∀ (cells slots : Nat) (σ' : am_H), INV (k + 1) σ' → cells ≤ 131 + 5 * (k + 1) → slots ≤ 26526 + 4800 * (k + 1) → am_wp (M_L L xs) Q cells slots 1027 [(3, am_i (6 * (k : Int))), (2, am_r 55), (1, am_r 0), (0, am_s 2)] [] σ') : am_wp (M_L L xs) Q cells slots 931 [(3, am_i (6 * (k : Int))), (2, am_r 55), (1, am_r 0), (0, am_s 2)] [] σ := by
  have hL0 : lay σ := by
    obtain ⟨t, f, c, h⟩ := hI
    exact h.G.L
  have hop := op_ask ((xs (6 * (k : Int) + 1).toNat).toInt)
  refine am_aload_n (q := 932) rfl (am_tab tk_L_law 595 rfl) rfl ?_
  refine am_sload (q := 933) (k := 2) rfl (am_tab tk_L_law 596 rfl) rfl ?_
  refine am_iload_n (q := 934) rfl (am_tab tk_L_law 597 rfl) rfl ?_
  refine am_iconst (q := 935) (n := 1) (by decide) (am_tab tk_L_law 598 rfl) rfl ?_
  refine am_iadd (q := 936) (by omega) (am_tab tk_L_law 599 rfl) rfl ?_
  refine am_sld (q := 937) (by omega) (by omega) (am_tab tk_L_law 600 rfl) rfl ?_
  refine am_callV (q := 940) (me2 := M_X9_ask) (b := 0) (kb := 9) (nb := 17) (As := [am_i ((xs (6 * (k : Int) + 1).toNat).toInt)]) (rest := []) (hop k σ (by unfold RMk at hR; omega) hI) (hL0.1 0 (by decide)) (by decide) ⟨Or.inl km_L_135, kc_X9_ask, kn_X9, kd_X9_ask, ⟨(Nat.le_of_ble_eq_true rfl), (Nat.le_of_ble_eq_true rfl)⟩, ⟨(by show cells + 0 ≤ 600000; have h9 := hR; unfold RMk at h9; omega), (by show slots + 0 ≤ 7302250; have h9 := hR; unfold RMk at h9; omega)⟩, (Nat.le_of_ble_eq_true rfl)⟩ ki_X9_ask ks_X9_ask rfl (am_tab tk_L_law 601 rfl) rfl ?_
  rintro r σ' ⟨v, rfl, hL1, hM⟩
  refine am_aload_n (q := 941) rfl (am_tab tk_L_law 602 rfl) rfl ?_
  refine am_sload (q := 942) (k := 2) rfl (am_tab tk_L_law 603 rfl) rfl ?_
  refine am_iload_n (q := 943) rfl (am_tab tk_L_law 604 rfl) rfl ?_
  refine am_iconst (q := 944) (n := 1) (by decide) (am_tab tk_L_law 605 rfl) rfl ?_
  refine am_iadd (q := 945) (by omega) (am_tab tk_L_law 606 rfl) rfl ?_
  refine am_sld (q := 946) (by omega) (by omega) (am_tab tk_L_law 607 rfl) rfl ?_
  refine am_callV (q := 949) (me2 := M_X10_ask) (b := 55) (kb := 10) (nb := 108) (As := [am_i ((xs (6 * (k : Int) + 1).toNat).toInt)]) (rest := [am_l v]) hM (hL1.1 55 (by decide)) (by decide) ⟨Or.inl km_L_139, kc_X10_ask, kn_X10, kd_X10_ask, ⟨(Nat.le_of_ble_eq_true rfl), (Nat.le_of_ble_eq_true rfl)⟩, ⟨(by show cells + 0 + 0 ≤ 600000; have h9 := hR; unfold RMk at h9; omega), (by show slots + 0 + 0 ≤ 7302250; have h9 := hR; unfold RMk at h9; omega)⟩, (Nat.le_of_ble_eq_true rfl)⟩ ki_X10_ask ks_X10_ask rfl (am_tab tk_L_law 608 rfl) rfl ?_
  rintro r2 σ'' ⟨rfl, hI2⟩
  refine am_lcmp (q := 950) (am_tab tk_L_law 609 rfl) rfl ?_
  refine am_if_eq (q := 953) (t := 1027) (am_tab tk_L_law 610 rfl) (by decide) rfl (fun _ => ?_) (fun h => absurd (cmp_eq v) h)
  exact kk _ _ σ'' hI2 (by show cells + 0 + 0 ≤ _; have h9 := hR; unfold RMk at h9; omega) (by show slots + 0 + 0 ≤ _; have h9 := hR; unfold RMk at h9; omega)
set_option maxRecDepth 20000 in
theorem law_image {L : Nat} {xs : Nat → Int32} {Q : Option am_V → am_H → Prop} {cells slots k : Nat} {σ : am_H} (hL : L ≤ 3072) (hkL : 6 * (k : Int) ≤ (L : Int) - 6) (hI : INV k σ) (hR : RMk k cells slots) (kk : ∀ (cells slots : Nat) (σ' : am_H), INV (k + 1) σ' → cells ≤ 131 + 5 * (k + 1) → slots ≤ 26526 + 4800 * (k + 1) → am_wp (M_L L xs) Q cells slots 1027 [(3, am_i (6 * (k : Int))), (2, am_r 55), (1, am_r 0), (0, am_s 2)] [] σ') : am_wp (M_L L xs) Q cells slots 955 [(3, am_i (6 * (k : Int))), (2, am_r 55), (1, am_r 0), (0, am_s 2)] [] σ := by
  have hL0 : lay σ := by
    obtain ⟨t, f, c, h⟩ := hI
    exact h.G.L
  have hop := op_image 
  refine am_aload_n (q := 956) rfl (am_tab tk_L_law 613 rfl) rfl ?_
  refine am_callV (q := 959) (me2 := M_X9_image) (b := 0) (kb := 9) (nb := 17) (As := []) (rest := []) (hop k σ (by unfold RMk at hR; omega) hI) (hL0.1 0 (by decide)) (by decide) ⟨Or.inl km_L_140, kc_X9_image, kn_X9, kd_X9_image, ⟨(Nat.le_of_ble_eq_true rfl), (Nat.le_of_ble_eq_true rfl)⟩, ⟨(by show cells + 0 ≤ 600000; have h9 := hR; unfold RMk at h9; omega), (by show slots + 0 ≤ 7302250; have h9 := hR; unfold RMk at h9; omega)⟩, (Nat.le_of_ble_eq_true rfl)⟩ ki_X9_image ks_X9_image rfl (am_tab tk_L_law 614 rfl) rfl ?_
  rintro r σ' ⟨v, rfl, hL1, hM⟩
  refine am_aload_n (q := 960) rfl (am_tab tk_L_law 615 rfl) rfl ?_
  refine am_callV (q := 963) (me2 := M_X10_image) (b := 55) (kb := 10) (nb := 108) (As := []) (rest := [am_i v]) hM (hL1.1 55 (by decide)) (by decide) ⟨Or.inl km_L_143, kc_X10_image, kn_X10, kd_X10_image, ⟨(Nat.le_of_ble_eq_true rfl), (Nat.le_of_ble_eq_true rfl)⟩, ⟨(by show cells + 0 + 0 ≤ 600000; have h9 := hR; unfold RMk at h9; omega), (by show slots + 0 + 0 ≤ 7302250; have h9 := hR; unfold RMk at h9; omega)⟩, (Nat.le_of_ble_eq_true rfl)⟩ ki_X10_image ks_X10_image rfl (am_tab tk_L_law 616 rfl) rfl ?_
  rintro r2 σ'' ⟨rfl, hI2⟩
  refine am_icmp_eq (q := 966) (t := 1027) (am_tab tk_L_law 617 rfl) (by decide) rfl (fun _ => ?_) (fun h => absurd rfl h)
  exact kk _ _ σ'' hI2 (by show cells + 0 + 0 ≤ _; have h9 := hR; unfold RMk at h9; omega) (by show slots + 0 + 0 ≤ _; have h9 := hR; unfold RMk at h9; omega)
set_option maxRecDepth 20000 in
theorem law_octet {L : Nat} {xs : Nat → Int32} {Q : Option am_V → am_H → Prop} {cells slots k : Nat} {σ : am_H} (hL : L ≤ 3072) (hkL : 6 * (k : Int) ≤ (L : Int) - 6) (hI : INV k σ) (hR : RMk k cells slots) (kk : ∀ (cells slots : Nat) (σ' : am_H), INV (k + 1) σ' → cells ≤ 131 + 5 * (k + 1) → slots ≤ 26526 + 4800 * (k + 1) → am_wp (M_L L xs) Q cells slots 1027 [(3, am_i (6 * (k : Int))), (2, am_r 55), (1, am_r 0), (0, am_s 2)] [] σ') : am_wp (M_L L xs) Q cells slots 968 [(3, am_i (6 * (k : Int))), (2, am_r 55), (1, am_r 0), (0, am_s 2)] [] σ := by
  have hL0 : lay σ := by
    obtain ⟨t, f, c, h⟩ := hI
    exact h.G.L
  have hop := op_octet ((xs (6 * (k : Int) + 1).toNat).toInt)
  refine am_aload_n (q := 969) rfl (am_tab tk_L_law 620 rfl) rfl ?_
  refine am_sload (q := 970) (k := 2) rfl (am_tab tk_L_law 621 rfl) rfl ?_
  refine am_iload_n (q := 971) rfl (am_tab tk_L_law 622 rfl) rfl ?_
  refine am_iconst (q := 972) (n := 1) (by decide) (am_tab tk_L_law 623 rfl) rfl ?_
  refine am_iadd (q := 973) (by omega) (am_tab tk_L_law 624 rfl) rfl ?_
  refine am_sld (q := 974) (by omega) (by omega) (am_tab tk_L_law 625 rfl) rfl ?_
  refine am_callV (q := 977) (me2 := M_X9_octet) (b := 0) (kb := 9) (nb := 17) (As := [am_i ((xs (6 * (k : Int) + 1).toNat).toInt)]) (rest := []) (hop k σ (by unfold RMk at hR; omega) hI) (hL0.1 0 (by decide)) (by decide) ⟨Or.inl km_L_144, kc_X9_octet, kn_X9, kd_X9_octet, ⟨(Nat.le_of_ble_eq_true rfl), (Nat.le_of_ble_eq_true rfl)⟩, ⟨(by show cells + 0 ≤ 600000; have h9 := hR; unfold RMk at h9; omega), (by show slots + 0 ≤ 7302250; have h9 := hR; unfold RMk at h9; omega)⟩, (Nat.le_of_ble_eq_true rfl)⟩ ki_X9_octet ks_X9_octet rfl (am_tab tk_L_law 626 rfl) rfl ?_
  rintro r σ' ⟨v, rfl, hL1, hM⟩
  refine am_aload_n (q := 978) rfl (am_tab tk_L_law 627 rfl) rfl ?_
  refine am_sload (q := 979) (k := 2) rfl (am_tab tk_L_law 628 rfl) rfl ?_
  refine am_iload_n (q := 980) rfl (am_tab tk_L_law 629 rfl) rfl ?_
  refine am_iconst (q := 981) (n := 1) (by decide) (am_tab tk_L_law 630 rfl) rfl ?_
  refine am_iadd (q := 982) (by omega) (am_tab tk_L_law 631 rfl) rfl ?_
  refine am_sld (q := 983) (by omega) (by omega) (am_tab tk_L_law 632 rfl) rfl ?_
  refine am_callV (q := 986) (me2 := M_X10_octet) (b := 55) (kb := 10) (nb := 108) (As := [am_i ((xs (6 * (k : Int) + 1).toNat).toInt)]) (rest := [am_i v]) hM (hL1.1 55 (by decide)) (by decide) ⟨Or.inl km_L_147, kc_X10_octet, kn_X10, kd_X10_octet, ⟨(Nat.le_of_ble_eq_true rfl), (Nat.le_of_ble_eq_true rfl)⟩, ⟨(by show cells + 0 + 0 ≤ 600000; have h9 := hR; unfold RMk at h9; omega), (by show slots + 0 + 0 ≤ 7302250; have h9 := hR; unfold RMk at h9; omega)⟩, (Nat.le_of_ble_eq_true rfl)⟩ ki_X10_octet ks_X10_octet rfl (am_tab tk_L_law 633 rfl) rfl ?_
  rintro r2 σ'' ⟨rfl, hI2⟩
  refine am_icmp_eq (q := 989) (t := 1027) (am_tab tk_L_law 634 rfl) (by decide) rfl (fun _ => ?_) (fun h => absurd rfl h)
  exact kk _ _ σ'' hI2 (by show cells + 0 + 0 ≤ _; have h9 := hR; unfold RMk at h9; omega) (by show slots + 0 + 0 ≤ _; have h9 := hR; unfold RMk at h9; omega)
set_option maxRecDepth 20000 in
theorem law_on {L : Nat} {xs : Nat → Int32} {Q : Option am_V → am_H → Prop} {cells slots k : Nat} {σ : am_H} (hL : L ≤ 3072) (hkL : 6 * (k : Int) ≤ (L : Int) - 6) (hI : INV k σ) (hR : RMk k cells slots) (kk : ∀ (cells slots : Nat) (σ' : am_H), INV (k + 1) σ' → cells ≤ 131 + 5 * (k + 1) → slots ≤ 26526 + 4800 * (k + 1) → am_wp (M_L L xs) Q cells slots 1027 [(3, am_i (6 * (k : Int))), (2, am_r 55), (1, am_r 0), (0, am_s 2)] [] σ') : am_wp (M_L L xs) Q cells slots 991 [(3, am_i (6 * (k : Int))), (2, am_r 55), (1, am_r 0), (0, am_s 2)] [] σ := by
  have hL0 : lay σ := by
    obtain ⟨t, f, c, h⟩ := hI
    exact h.G.L
  have hop := op_on 
  refine am_aload_n (q := 992) rfl (am_tab tk_L_law 637 rfl) rfl ?_
  refine am_callV (q := 995) (me2 := M_X9_on) (b := 0) (kb := 9) (nb := 17) (As := []) (rest := []) (hop k σ (by unfold RMk at hR; omega) hI) (hL0.1 0 (by decide)) (by decide) ⟨Or.inl km_L_148, kc_X9_on, kn_X9, kd_X9_on, ⟨(Nat.le_of_ble_eq_true rfl), (Nat.le_of_ble_eq_true rfl)⟩, ⟨(by show cells + 0 ≤ 600000; have h9 := hR; unfold RMk at h9; omega), (by show slots + 0 ≤ 7302250; have h9 := hR; unfold RMk at h9; omega)⟩, (Nat.le_of_ble_eq_true rfl)⟩ ki_X9_on ks_X9_on rfl (am_tab tk_L_law 638 rfl) rfl ?_
  rintro r σ' ⟨v, rfl, hL1, hM⟩
  refine am_aload_n (q := 996) rfl (am_tab tk_L_law 639 rfl) rfl ?_
  refine am_callV (q := 999) (me2 := M_X10_on) (b := 55) (kb := 10) (nb := 108) (As := []) (rest := [am_i v]) hM (hL1.1 55 (by decide)) (by decide) ⟨Or.inl km_L_151, kc_X10_on, kn_X10, kd_X10_on, ⟨(Nat.le_of_ble_eq_true rfl), (Nat.le_of_ble_eq_true rfl)⟩, ⟨(by show cells + 0 + 0 ≤ 600000; have h9 := hR; unfold RMk at h9; omega), (by show slots + 0 + 0 ≤ 7302250; have h9 := hR; unfold RMk at h9; omega)⟩, (Nat.le_of_ble_eq_true rfl)⟩ ki_X10_on ks_X10_on rfl (am_tab tk_L_law 640 rfl) rfl ?_
  rintro r2 σ'' ⟨rfl, hI2⟩
  refine am_icmp_eq (q := 1002) (t := 1027) (am_tab tk_L_law 641 rfl) (by decide) rfl (fun _ => ?_) (fun h => absurd rfl h)
  exact kk _ _ σ'' hI2 (by show cells + 0 + 0 ≤ _; have h9 := hR; unfold RMk at h9; omega) (by show slots + 0 + 0 ≤ _; have h9 := hR; unfold RMk at h9; omega)
set_option maxRecDepth 20000 in
theorem law_status {L : Nat} {xs : Nat → Int32} {Q : Option am_V → am_H → Prop} {cells slots k : Nat} {σ : am_H} (hL : L ≤ 3072) (hkL : 6 * (k : Int) ≤ (L : Int) - 6) (hI : INV k σ) (hR : RMk k cells slots) (kk : ∀ (cells slots : Nat) (σ' : am_H), INV (k + 1) σ' → cells ≤ 131 + 5 * (k + 1) → slots ≤ 26526 + 4800 * (k + 1) → am_wp (M_L L xs) Q cells slots 1027 [(3, am_i (6 * (k : Int))), (2, am_r 55), (1, am_r 0), (0, am_s 2)] [] σ') : am_wp (M_L L xs) Q cells slots 1004 [(3, am_i (6 * (k : Int))), (2, am_r 55), (1, am_r 0), (0, am_s 2)] [] σ := by
  have hL0 : lay σ := by
    obtain ⟨t, f, c, h⟩ := hI
    exact h.G.L
  have hop := op_status ((xs (6 * (k : Int) + 1).toNat).toInt)
  refine am_aload_n (q := 1005) rfl (am_tab tk_L_law 644 rfl) rfl ?_
  refine am_sload (q := 1006) (k := 2) rfl (am_tab tk_L_law 645 rfl) rfl ?_
  refine am_iload_n (q := 1007) rfl (am_tab tk_L_law 646 rfl) rfl ?_
  refine am_iconst (q := 1008) (n := 1) (by decide) (am_tab tk_L_law 647 rfl) rfl ?_
  refine am_iadd (q := 1009) (by omega) (am_tab tk_L_law 648 rfl) rfl ?_
  refine am_sld (q := 1010) (by omega) (by omega) (am_tab tk_L_law 649 rfl) rfl ?_
  refine am_callV (q := 1013) (me2 := M_X9_status) (b := 0) (kb := 9) (nb := 17) (As := [am_i ((xs (6 * (k : Int) + 1).toNat).toInt)]) (rest := []) (hop k σ (by unfold RMk at hR; omega) hI) (hL0.1 0 (by decide)) (by decide) ⟨Or.inl km_L_152, kc_X9_status, kn_X9, kd_X9_status, ⟨(Nat.le_of_ble_eq_true rfl), (Nat.le_of_ble_eq_true rfl)⟩, ⟨(by show cells + 0 ≤ 600000; have h9 := hR; unfold RMk at h9; omega), (by show slots + 0 ≤ 7302250; have h9 := hR; unfold RMk at h9; omega)⟩, (Nat.le_of_ble_eq_true rfl)⟩ ki_X9_status ks_X9_status rfl (am_tab tk_L_law 650 rfl) rfl ?_
  rintro r σ' ⟨v, rfl, hL1, hM⟩
  refine am_aload_n (q := 1014) rfl (am_tab tk_L_law 651 rfl) rfl ?_
  refine am_sload (q := 1015) (k := 2) rfl (am_tab tk_L_law 652 rfl) rfl ?_
  refine am_iload_n (q := 1016) rfl (am_tab tk_L_law 653 rfl) rfl ?_
  refine am_iconst (q := 1017) (n := 1) (by decide) (am_tab tk_L_law 654 rfl) rfl ?_
  refine am_iadd (q := 1018) (by omega) (am_tab tk_L_law 655 rfl) rfl ?_
  refine am_sld (q := 1019) (by omega) (by omega) (am_tab tk_L_law 656 rfl) rfl ?_
  refine am_callV (q := 1022) (me2 := M_X10_status) (b := 55) (kb := 10) (nb := 108) (As := [am_i ((xs (6 * (k : Int) + 1).toNat).toInt)]) (rest := [am_i v]) hM (hL1.1 55 (by decide)) (by decide) ⟨Or.inl km_L_155, kc_X10_status, kn_X10, kd_X10_status, ⟨(Nat.le_of_ble_eq_true rfl), (Nat.le_of_ble_eq_true rfl)⟩, ⟨(by show cells + 0 + 0 ≤ 600000; have h9 := hR; unfold RMk at h9; omega), (by show slots + 0 + 0 ≤ 7302250; have h9 := hR; unfold RMk at h9; omega)⟩, (Nat.le_of_ble_eq_true rfl)⟩ ki_X10_status ks_X10_status rfl (am_tab tk_L_law 657 rfl) rfl ?_
  rintro r2 σ'' ⟨rfl, hI2⟩
  refine am_icmp_eq (q := 1025) (t := 1027) (am_tab tk_L_law 658 rfl) (by decide) rfl (fun _ => ?_) (fun h => absurd rfl h)
  exact kk _ _ σ'' hI2 (by show cells + 0 + 0 ≤ _; have h9 := hR; unfold RMk at h9; omega) (by show slots + 0 + 0 ≤ _; have h9 := hR; unfold RMk at h9; omega)
