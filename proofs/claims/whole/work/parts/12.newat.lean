def am_newAt (σ : am_H) (a k n : Nat) : am_H := (σ.1 ++ [(k, n)], fun b j => if b = a then 0 else σ.2.1 b j, fun b j => if b = a then none else σ.2.2 b j)
theorem am_newAt_eq {σ : am_H} {a k n : Nat} (h : σ.1.length = a) : am_new σ k n = am_newAt σ a k n := by subst h; rfl
theorem am_newAt_len {σ : am_H} {a k n : Nat} (h : σ.1.length = a) : (am_newAt σ a k n).1.length = a + 1 := by simp [am_newAt, h]
theorem am_newAt_at {σ : am_H} {a k n : Nat} (h : σ.1.length = a) : (am_newAt σ a k n).1[a]? = some (k, n) := by subst h; simp [am_newAt]
theorem am_newAt_old {σ : am_H} {a k n b : Nat} {q : Nat × Nat} (h : σ.1[b]? = some q) : (am_newAt σ a k n).1[b]? = some q := by
  have hl := (List.getElem?_eq_some_iff.mp h).1
  show (σ.1 ++ [(k, n)])[b]? = some q
  rw [List.getElem?_append_left hl]; exact h
section AMNA
variable {me me2 : am_M} {Q : Option am_V → am_H → Prop} {cells slots pc q : Nat} {ls : am_Ls} {st rest As out : List am_V} {σ σ2 : am_H} {R : Option am_V}
theorem am_newOa {k idx a : Nat} (hl : σ.1.length = a) (hk : k < 11) (hw : Cond.classLink me.1 idx (am_cl k).1 ∈ am_tb) (hi : Cond.instantiable (am_cl k).1 (am_cl k).2.2 ∈ am_tb) (hin : Cond.initialized (am_cl k).1 ∈ am_tb) (hc : cells + 1 ≤ me.2.2.2.2.2.1.cells) (hs : slots + (am_cl k).2.2 ≤ me.2.2.2.2.2.1.slots) (hd : decode me.2.2.1 pc = .ok (.new idx, 3)) (hq : pc + 3 = q)
    (kk : am_wp me Q (cells + 1) (slots + (am_cl k).2.2) q ls (am_r a :: st) (am_newAt σ a k (am_cl k).2.2)) : am_wp me Q cells slots pc ls st σ := by
  refine am_newO hk hw hi hin hc hs hd hq ?_
  rw [am_newAt_eq hl, hl]; exact kk
theorem am_newAa {k a : Nat} {n : Int} {N : Nat} {at_ : ArrayType} (hl : σ.1.length = a) (hka : (k = 11 ∧ at_ = .int) ∨ (k = 12 ∧ at_ = .long) ∨ (k = 13 ∧ at_ = .char)) (hw : Cond.arrayClass (newarray.typeOf at_) ∈ am_tb) (hN : n = (N : Int)) (hn1 : n ≤ 60000000) (hc : cells + 1 ≤ me.2.2.2.2.2.1.cells) (hs : slots + N ≤ me.2.2.2.2.2.1.slots) (hd : decode me.2.2.1 pc = .ok (.newarray at_, 2)) (hq : pc + 2 = q)
    (kk : am_wp me Q (cells + 1) (slots + N) q ls (am_r a :: st) (am_newAt σ a k N)) : am_wp me Q cells slots pc ls (am_i n :: st) σ := by
  have e : n.toNat = N := by omega
  refine am_newA (k := k) hka hw (by omega) hn1 hc (by rw [e]; exact hs) hd hq ?_
  rw [e, am_newAt_eq hl, hl]; exact kk
theorem am_newQa {idx a : Nat} {n : Int} {N : Nat} (hl : σ.1.length = a) (hw : Cond.classLink me.1 idx RX1 ∈ am_tb) (hN : n = (N : Int)) (hn1 : n ≤ 60000000) (hc : cells + 1 ≤ me.2.2.2.2.2.1.cells) (hs : slots + N ≤ me.2.2.2.2.2.1.slots) (hd : decode me.2.2.1 pc = .ok (.anewarray idx, 3)) (hq : pc + 3 = q)
    (kk : am_wp me Q (cells + 1) (slots + N) q ls (am_r a :: st) (am_newAt σ a 14 N)) : am_wp me Q cells slots pc ls (am_i n :: st) σ := by
  have e : n.toNat = N := by omega
  refine am_newQ hw (by omega) hn1 hc (by rw [e]; exact hs) hd hq ?_
  rw [e, am_newAt_eq hl, hl]; exact kk
theorem am_callI0 {b idx : Nat} (hM : am_met me2 (am_r b :: As) σ (fun r σ' => r = none ∧ σ' = σ2)) (hrt : me2.2.2.2.2.1 = none) (hnm : me2.2.1.name = "<init>") (hw : am_cw me me2 idx As.length cells slots rest) (hi : Cond.instanceMethod me2.2.1 ∈ am_tb) (hst : st = As.reverse ++ am_r b :: rest) (hd : decode me.2.2.1 pc = .ok (.invokespecial idx, 3)) (hq : pc + 3 = q)
    (kk : am_wp me Q (cells + me2.2.2.2.2.2.1.cells) (slots + me2.2.2.2.2.2.1.slots) q ls rest σ2) : am_wp me Q cells slots pc ls st σ := by
  refine am_callI hM hrt hnm hw hi hst hd hq (fun r σ' h => ?_)
  obtain ⟨rfl, rfl⟩ := h
  exact kk
end AMNA
