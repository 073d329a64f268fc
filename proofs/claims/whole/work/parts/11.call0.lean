section AM0
variable {me me2 : am_M} {Q Q2 : Option am_V → am_H → Prop} {cells slots pc q : Nat} {ls : am_Ls} {st rest As out : List am_V} {σ σ2 : am_H} {R : Option am_V}
theorem am_st {st2 : List am_V} (h : st = st2) (k : am_wp me Q cells slots pc ls st2 σ) : am_wp me Q cells slots pc ls st σ := by rw [h]; exact k
theorem am_hp2 {σ1 : am_H} (h : σ = σ1) (k : am_wp me Q cells slots pc ls st σ1) : am_wp me Q cells slots pc ls st σ := by rw [h]; exact k
theorem am_callV0 {b kb nb idx : Nat} (hM : am_met me2 (am_r b :: As) σ (fun r σ' => r = R ∧ σ' = σ2)) (hz : me2.2.2.2.2.2.1.cells = 0 ∧ me2.2.2.2.2.2.1.slots = 0) (hb : σ.1[b]? = some (kb, nb)) (hk : kb < 11) (hw : am_cw me me2 idx As.length cells slots rest) (hi : Cond.instanceMethod me2.2.1 ∈ am_tb) (hse : Cond.selects (am_cl kb).1 me2.2.1 me2.2.1 ∈ am_tb) (hst : st = As.reverse ++ am_r b :: rest) (ho : R.toList ++ rest = out) (hd : decode me.2.2.1 pc = .ok (.invokevirtual idx, 3)) (hq : pc + 3 = q)
    (kk : am_wp me Q cells slots q ls out σ2) : am_wp me Q cells slots pc ls st σ := by
  refine am_callV hM hb hk hw hi hse hst hd hq (fun r σ' h => ?_)
  obtain ⟨rfl, rfl⟩ := h
  rw [hz.1, hz.2, ho]
  exact kk
theorem am_callS0 {idx : Nat} (hM : am_met me2 As σ (fun r σ' => r = R ∧ σ' = σ2)) (hz : me2.2.2.2.2.2.1.cells = 0 ∧ me2.2.2.2.2.2.1.slots = 0) (hw : am_cw me me2 idx As.length cells slots rest) (hi : Cond.static me2.2.1 ∈ am_tb) (hst : st = As.reverse ++ rest) (ho : R.toList ++ rest = out) (hd : decode me.2.2.1 pc = .ok (.invokestatic idx, 3)) (hq : pc + 3 = q)
    (kk : am_wp me Q cells slots q ls out σ2) : am_wp me Q cells slots pc ls st σ := by
  refine am_callS hM hw hi hst hd hq (fun r σ' h => ?_)
  obtain ⟨rfl, rfl⟩ := h
  rw [hz.1, hz.2, ho]
  exact kk
theorem am_callVr {b kb nb idx : Nat} (hM : am_met me2 (am_r b :: As) σ Q2) (hz : me2.2.2.2.2.2.1.cells = 0 ∧ me2.2.2.2.2.2.1.slots = 0) (hb : σ.1[b]? = some (kb, nb)) (hk : kb < 11) (hw : am_cw me me2 idx As.length cells slots rest) (hi : Cond.instanceMethod me2.2.1 ∈ am_tb) (hse : Cond.selects (am_cl kb).1 me2.2.1 me2.2.1 ∈ am_tb) (hst : st = As.reverse ++ am_r b :: rest) (hd : decode me.2.2.1 pc = .ok (.invokevirtual idx, 3)) (hq : pc + 3 = q)
    (kk : ∀ r σ', Q2 r σ' → am_wp me Q cells slots q ls (r.toList ++ rest) σ') : am_wp me Q cells slots pc ls st σ := by
  refine am_callV hM hb hk hw hi hse hst hd hq (fun r σ' h => ?_)
  rw [hz.1, hz.2]
  exact kk r σ' h
theorem am_callSr {idx : Nat} (hM : am_met me2 As σ Q2) (hz : me2.2.2.2.2.2.1.cells = 0 ∧ me2.2.2.2.2.2.1.slots = 0) (hw : am_cw me me2 idx As.length cells slots rest) (hi : Cond.static me2.2.1 ∈ am_tb) (hst : st = As.reverse ++ rest) (hd : decode me.2.2.1 pc = .ok (.invokestatic idx, 3)) (hq : pc + 3 = q)
    (kk : ∀ r σ', Q2 r σ' → am_wp me Q cells slots q ls (r.toList ++ rest) σ') : am_wp me Q cells slots pc ls st σ := by
  refine am_callS hM hw hi hst hd hq (fun r σ' h => ?_)
  rw [hz.1, hz.2]
  exact kk r σ' h
end AM0
