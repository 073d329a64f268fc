def rmM (σ : am_H) (own bs : Int) : Int := rmd σ bs 256 own
theorem rmd_rng {S : am_H} (hR : MR S) {bs : Int} : ∀ (k : Nat) {s : Int}, 0 ≤ s ∧ s < 256 → s ≤ rmd S bs k s ∧ rmd S bs k s < 256
  | 0, s, h => ⟨Int.le_refl _, h.2⟩
  | k + 1, s, h => by
    have h1 := rps_rng (S := S) (bs := bs) h (pN S) (pN_8 hR)
    unfold rmd
    split
    · exact ⟨Int.le_refl _, h.2⟩
    · have h2 := rmd_rng hR (bs := bs) k (s := rps S bs s (pN S)) (by omega)
      omega
theorem c_X10_reminded (σ : am_H) (hL : lay σ) (own : Int) (bs : Int) (hR : MR σ) (hK : RK σ) (hown : 0 ≤ own ∧ own < 256) (hbs : 0 ≤ bs ∧ bs < 256) (ha : 0 ≤ σ.2.1 55 56 ∧ σ.2.1 55 56 < 256) (ht : 0 ≤ σ.2.1 55 61 ∧ σ.2.1 55 61 < 256) (ho : 0 ≤ σ.2.1 55 59 ∧ σ.2.1 55 59 ≤ 99) (hf : 0 ≤ σ.2.1 55 57 ∧ σ.2.1 55 57 ≤ 1) (hz : 0 ≤ σ.2.1 55 58 ∧ σ.2.1 55 58 ≤ 1) : am_met M_X10_reminded [am_r 55, am_i own, am_i bs] σ (fun r σ' => r = some (am_i (rmM σ own bs)) ∧ ∃ o : Int, ∃ g : Nat → Int, ∃ z : Int, (0 ≤ o ∧ o ≤ 99) ∧ σ' = SC σ o g z) := by
  refine am_enter (show plainFor yX10_reminded = true by decide +kernel) rfl (Nat.le_of_ble_eq_true rfl) (fun _ _ _ => trivial) ?_
  refine am_iload_n (q := 1) rfl (am_tab tk_X10_reminded 0 rfl) rfl ?_
  refine am_istore_n (q := 2) (by decide) (ls2 := [(3, am_i own), (0, am_r 55), (1, am_i own), (2, am_i bs)]) rfl (am_tab tk_X10_reminded 1 rfl) rfl ?_
  refine am_iconst (q := 3) (n := 1) (by decide) (am_tab tk_X10_reminded 2 rfl) rfl ?_
  refine am_istore (q := 5) (by decide) (ls2 := [(4, am_i 1), (3, am_i own), (0, am_r 55), (1, am_i own), (2, am_i bs)]) rfl (am_tab tk_X10_reminded 3 rfl) rfl ?_
  refine am_hp2 (SC_self σ) ?_
  exact rem_out σ hL hR hK bs hbs ha ht hf hz own _ 256 own _ _ _ ho hown (by omega) rfl
/-- the row that is kept behind a day: shift when full -/
def kpA (f : Nat → Int) (y d n b : Int) : Nat → Int := fun k =>
  if f 202 = 60 then (if k = 439 then y else if k = 440 then d else if k = 441 then n else if k = 442 then b else if 203 ≤ k ∧ k < 439 then f (k + 4) else f k)
  else (if k = 202 then f 202 + 1 else if k = 203 + 4 * (f 202).toNat then y else if k = 204 + 4 * (f 202).toNat then d else if k = 205 + 4 * (f 202).toNat then n else if k = 206 + 4 * (f 202).toNat then b else f k)
