theorem am_tk4 : ∀ k, k < 11 → ∀ j, j < am_nf k → am_tk k j ≠ 4 := by decide +kernel
theorem am_fv0 {ρ : Nat → Nat} {σ : am_H} {k a j : Nat} (h : am_tk k j ≠ 4) (h1 : σ.2.1 a j = 0) (h2 : σ.2.2 a j = none) : am_fv ρ σ k a j = defaultValue (am_ty k j) := by
  unfold am_tk at h
  revert h
  cases hc : am_ty k j <;> simp [am_fv, hc, h1, h2, defaultValue, va_rf] <;> rfl
/-- the world with one cell more -/
theorem am_ws_new {D : am_D} {ρ : Nat → Nat} {σ : am_H} {k n : Nat} (h : am_hok σ) (qa : Nat) : am_ws D (fun b => if b = σ.1.length then qa else ρ b) (am_new σ k n) = am_ws D ρ σ ++ [(qa, am_cell D (fun b => if b = σ.1.length then qa else ρ b) (am_new σ k n) σ.1.length (k, n))] := by
  apply List.ext_getElem?
  intro b
  rw [am_ws_at]
  by_cases hb : b < σ.1.length
  · rw [List.getElem?_append_left (by rw [am_ws_len]; exact hb), am_ws_at]
    have e1 : (am_new σ k n).1[b]? = σ.1[b]? := List.getElem?_append_left hb
    rw [e1]
    cases hs : σ.1[b]? with
    | none => rfl
    | some z =>
      simp only [Option.map_some]
      have hne : ¬ b = σ.1.length := by omega
      rw [if_neg hne, am_cell_congr (ρ := ρ) (σ := σ) (fun i => by simp [am_new, hne]) (fun i => ?_)]
      simp only [am_new, hne, if_false]
      cases hr : σ.2.2 b i with
      | none => rfl
      | some c =>
        have hc := h.2.1 b i c hr
        simp [show ¬ c = σ.1.length by omega]
  · rw [List.getElem?_append_right (by rw [am_ws_len]; omega), am_ws_len]
    by_cases he : b = σ.1.length
    · subst he
      simp [am_new]
    · have e1 : (am_new σ k n).1[b]? = none := by
        apply List.getElem?_eq_none
        simp [am_new]; omega
      rw [e1]
      have e2 : ([(qa, am_cell D (fun b => if b = σ.1.length then qa else ρ b) (am_new σ k n) σ.1.length (k, n))] : va_W)[b - σ.1.length]? = none := by
        apply List.getElem?_eq_none
        simp; omega
      rw [e2]; rfl
theorem am_hnew {σ : am_H} {k n : Nat} (h : am_hok σ) (hk : k < 15) (hn : k < 11 → n = am_nf k) : am_hok (am_new σ k n) := by
  have key : ∀ (a : Nat) (q : Nat × Nat), (am_new σ k n).1[a]? = some q → (a < σ.1.length ∧ σ.1[a]? = some q) ∨ (a = σ.1.length ∧ q = (k, n)) := by
    intro a q hq
    by_cases ha : a < σ.1.length
    · have e1 : (am_new σ k n).1[a]? = σ.1[a]? := List.getElem?_append_left ha
      exact Or.inl ⟨ha, by rw [← e1]; exact hq⟩
    · have e1 : (am_new σ k n).1[a]? = [(k, n)][a - σ.1.length]? := List.getElem?_append_right (by omega)
      rw [e1] at hq
      have hz : a - σ.1.length < 1 := (List.getElem?_eq_some_iff.mp hq).1
      have h0 : a - σ.1.length = 0 := by omega
      rw [h0] at hq
      exact Or.inr ⟨by omega, by cases hq; rfl⟩
  have hlen : (am_new σ k n).1.length = σ.1.length + 1 := by simp [am_new]
  refine ⟨fun a j q hq => ?_, fun a j b hb => ?_, fun a q hq => ?_⟩
  · rcases key a q hq with ⟨h1, h2⟩ | ⟨rfl, rfl⟩
    · have : (am_new σ k n).2.1 a j = σ.2.1 a j := by simp [am_new, show ¬ a = σ.1.length by omega]
      rw [this]; exact h.1 a j q h2
    · have : (am_new σ k n).2.1 σ.1.length j = 0 := by simp [am_new]
      rw [this]
      cases am_ty k j <;> simp [am_rg]
  · rw [hlen]
    by_cases ha : a = σ.1.length
    · simp [am_new, ha] at hb
    · have : (am_new σ k n).2.2 a j = σ.2.2 a j := by simp [am_new, ha]
      rw [this] at hb
      have := h.2.1 a j b hb
      omega
  · rcases key a q hq with ⟨h1, h2⟩ | ⟨rfl, rfl⟩
    · exact h.2.2 a q h2
    · exact ⟨hk, hn⟩
section AMN
variable {me : am_M} {Q : Option am_V → am_H → Prop} {cells slots pc q : Nat} {ls : am_Ls} {st : List am_V} {σ : am_H}
theorem am_grow {p : Program} {l : Launch} {e : Env} {s : State} {m : MethodId} {args : Array Value} {below : List Frame} {meth : Method} {c : Code} {base : Nat} {D : am_D} {ss : Nat → Nat} {n0 : Nat} {ρ0 : Nat → Nat} (C : am_cx me p s m args meth c base D ss) {ρ : Nat → Nat} {H1 : Heap} {locs : List Loc} {lsA : Array Slot} {k n qa : Nat} (h1 : ∀ k, k < n0 → ρ k = ρ0 k) (h2 : n0 ≤ σ.1.length) (hok : am_hok σ) (h5 : lv_has lsA me.2.2.2.1 (am_lv ρ ss ls)) (h6 : ∀ q ∈ ls, am_ok σ.1.length q.2) (h7 : ∀ v ∈ st, am_ok σ.1.length v) (hk : k < 15) (hn : k < 11 → n = am_nf k)
    (hP : va_P D.1 vwCl (am_ws D ρ σ ++ [(qa, am_cell D (fun b => if b = σ.1.length then qa else ρ b) (am_new σ k n) σ.1.length (k, n))]) H1) (hD : va_D (fun q => base ≤ q) (am_ws D ρ σ ++ [(qa, am_cell D (fun b => if b = σ.1.length then qa else ρ b) (am_new σ k n) σ.1.length (k, n))])) (hS : va_S (fun q => base ≤ q) s.heap H1 locs)
    (kk : am_wp me Q cells slots pc ls (am_r σ.1.length :: st) (am_new σ k n)) : W p l e me.2.2.2.2.2.1 s m args below meth c H1 locs cells slots (MQ below (am_Qc base D ρ0 ss n0 Q) args s me.2.2.2.2.2.1.cells me.2.2.2.2.2.1.slots (fun q => base ≤ q)) (F0 m pc lsA (.ref qa :: st.map (am_cv ρ ss))) := by
  rw [← am_ws_new hok qa] at hP hD
  have hlen : (am_new σ k n).1.length = σ.1.length + 1 := by simp [am_new]
  have hx : ∀ j, j < σ.1.length → (fun b => if b = σ.1.length then qa else ρ b) j = ρ j := fun j hj => by simp [show ¬ j = σ.1.length by omega]
  have hw := kk p l e s m args below meth c base D ss n0 ρ0 C (fun b => if b = σ.1.length then qa else ρ b) H1 locs lsA (fun j hj => (hx j (by omega)).trans (h1 j hj)) (by rw [hlen]; omega) ⟨hP, hD, am_hnew hok hk hn⟩ hS (by rw [am_lvx hx h6]; exact h5) (fun q hq => am_okx (by rw [hlen]; omega) (h6 q hq)) (am_all2 (P := am_ok (am_new σ k n).1.length) (a := am_r σ.1.length) (fun a ha => by cases ha; rw [hlen]; omega) (fun v hv => am_okx (by rw [hlen]; omega) (h7 v hv)))
  rw [List.map_cons, am_stx (ss := ss) hx h7] at hw
  simpa [am_cv, va_rf] using hw
theorem am_newO {k idx : Nat} (hk : k < 11) (hw : Cond.classLink me.1 idx (am_cl k).1 ∈ am_tb) (hi : Cond.instantiable (am_cl k).1 (am_cl k).2.2 ∈ am_tb) (hin : Cond.initialized (am_cl k).1 ∈ am_tb) (hc : cells + 1 ≤ me.2.2.2.2.2.1.cells) (hs : slots + (am_cl k).2.2 ≤ me.2.2.2.2.2.1.slots) (hd : decode me.2.2.1 pc = .ok (.new idx, 3)) (hq : pc + 3 = q)
    (kk : am_wp me Q (cells + 1) (slots + (am_cl k).2.2) q ls (am_r σ.1.length :: st) (am_new σ k (am_cl k).2.2)) : am_wp me Q cells slots pc ls st σ := by
  intro p l e s m args below meth c base D ss n0 ρ0 C ρ H locs lsA h1 h2 h3 h4 h5 h6 h7
  subst hq
  have hnf := am_cl_n hk
  refine va_new (ci := k) (C := (am_cl k).1) (T := (am_cl k).2.1) (N := (am_cl k).2.2) (fs := (List.range (am_cl k).2.2).map (fun j => defaultValue (am_ty k j))) C.1 C.2.1 C.2.2.2.2.2.1 (am_inK hk) (am_ty k) (am_tyK hk) C.2.2.2.2.1 (C.2.2.2.2.2.1 _ hw) (C.2.2.2.2.2.1 _ hi) (C.2.2.2.2.2.1 _ hin) C.2.2.2.2.2.2.2.2.1 h3.1 h3.2.1 h4 (fun q h => Nat.le_trans C.2.2.2.2.2.2.2.2.2.2.1 h) (am_cl_at hk) (fun j hj => by simp [vp_V, hj]) hc hs hd (fun qa H1 hP hD hS => ?_)
  have hcell : am_cell D (fun b => if b = σ.1.length then qa else ρ b) (am_new σ k (am_cl k).2.2) σ.1.length (k, (am_cl k).2.2) = .inr (k, (List.range (am_cl k).2.2).map (fun j => defaultValue (am_ty k j))) := by
    rw [am_objcell hk]
    congr 2
    refine List.map_congr_left (fun j hj => am_fv0 (am_tk4 k hk j ?_) ?_ ?_)
    · have := List.mem_range.mp hj; omega
    · simp [am_new]
    · simp [am_new]
  rw [← hcell] at hP hD
  exact am_grow C h1 h2 h3.2.2 h5 h6 h7 (by omega) (fun _ => hnf) hP hD hS kk
theorem am_newA {k : Nat} {n : Int} {at_ : ArrayType} (hka : (k = 11 ∧ at_ = .int) ∨ (k = 12 ∧ at_ = .long) ∨ (k = 13 ∧ at_ = .char)) (hw : Cond.arrayClass (newarray.typeOf at_) ∈ am_tb) (hn0 : 0 ≤ n) (hn1 : n ≤ 60000000) (hc : cells + 1 ≤ me.2.2.2.2.2.1.cells) (hs : slots + n.toNat ≤ me.2.2.2.2.2.1.slots) (hd : decode me.2.2.1 pc = .ok (.newarray at_, 2)) (hq : pc + 2 = q)
    (kk : am_wp me Q (cells + 1) (slots + n.toNat) q ls (am_r σ.1.length :: st) (am_new σ k n.toNat)) : am_wp me Q cells slots pc ls (am_i n :: st) σ := by
  intro p l e s m args below meth c base D ss n0 ρ0 C ρ H locs lsA h1 h2 h3 h4 h5 h6 h7
  subst hq
  obtain ⟨hv, h8⟩ := List.forall_mem_cons.mp h7
  have hr : -2147483648 ≤ n ∧ n < 2147483648 := hv
  have hneg : ¬ Int32.ofInt n < 0 := fun h => by
    have := (am_ilt hr (y := 0) ⟨by omega, by omega⟩).mp h
    omega
  have hcl : (Int32.ofInt n).toNatClampNeg = n.toNat := by rw [Int32.toNatClampNeg, am_ti hr]
  have hA : ∀ q, s.heap.size ≤ q → base ≤ q := fun q h => Nat.le_trans C.2.2.2.2.2.2.2.2.2.2.1 h
  have hKs := C.2.2.2.2.2.2.2.2.1
  rcases hka with ⟨rfl, rfl⟩ | ⟨rfl, rfl⟩ | ⟨rfl, rfl⟩
  · refine va_newa (ty := .int) (a0 := (n.toNat, .inl (fun _ => 0))) C.1 C.2.1 (C.2.2.2.2.2.1 _ hw) rfl hKs h3.1 h3.2.1 h4 hA (fun _ => rfl) hneg hcl (by simp only [componentBytes]; omega) hc hs hd (fun qa cA H1 hK2 hP hD hS => ?_)
    have e1 := (hKs.2 0 _ rfl).2
    have e2 := (hK2.2 4 _ rfl).2
    have hcA : cA = D.2.1 := Option.some.inj ((show s.vm.findClass _ = some cA from e2).symm.trans (show s.vm.findClass _ = some D.2.1 from e1))
    subst hcA
    have hcell : am_cell D (fun b => if b = σ.1.length then qa else ρ b) (am_new σ 11 n.toNat) σ.1.length (11, n.toNat) = .inl (D.2.1, n.toNat, .inl (fun _ => 0)) := by
      simp [am_cell, am_new]
    rw [← hcell] at hP hD
    exact am_grow C h1 h2 h3.2.2 h5 h6 h8 (by omega) (fun h => by omega) hP hD hS kk
  · refine va_newa (ty := .long) (a0 := (n.toNat, .inr (.inl (fun _ => 0)))) C.1 C.2.1 (C.2.2.2.2.2.1 _ hw) rfl hKs h3.1 h3.2.1 h4 hA (fun _ => rfl) hneg hcl (by simp only [componentBytes]; omega) hc hs hd (fun qa cA H1 hK2 hP hD hS => ?_)
    have e1 := (hKs.2 1 _ rfl).2
    have e2 := (hK2.2 4 _ rfl).2
    have hcA : cA = D.2.2.1 := Option.some.inj ((show s.vm.findClass _ = some cA from e2).symm.trans (show s.vm.findClass _ = some D.2.2.1 from e1))
    subst hcA
    have hcell : am_cell D (fun b => if b = σ.1.length then qa else ρ b) (am_new σ 12 n.toNat) σ.1.length (12, n.toNat) = .inl (D.2.2.1, n.toNat, .inr (.inl (fun _ => 0))) := by
      simp [am_cell, am_new]
    rw [← hcell] at hP hD
    exact am_grow C h1 h2 h3.2.2 h5 h6 h8 (by omega) (fun h => by omega) hP hD hS kk
  · refine va_newa (ty := .char) (a0 := (n.toNat, .inl (fun _ => 0))) C.1 C.2.1 (C.2.2.2.2.2.1 _ hw) rfl hKs h3.1 h3.2.1 h4 hA (fun _ => rfl) hneg hcl (by simp only [componentBytes]; omega) hc hs hd (fun qa cA H1 hK2 hP hD hS => ?_)
    have e1 := (hKs.2 2 _ rfl).2
    have e2 := (hK2.2 4 _ rfl).2
    have hcA : cA = D.2.2.2.1 := Option.some.inj ((show s.vm.findClass _ = some cA from e2).symm.trans (show s.vm.findClass _ = some D.2.2.2.1 from e1))
    subst hcA
    have hcell : am_cell D (fun b => if b = σ.1.length then qa else ρ b) (am_new σ 13 n.toNat) σ.1.length (13, n.toNat) = .inl (D.2.2.2.1, n.toNat, .inl (fun _ => 0)) := by
      simp [am_cell, am_new]
    rw [← hcell] at hP hD
    exact am_grow C h1 h2 h3.2.2 h5 h6 h8 (by omega) (fun h => by omega) hP hD hS kk
theorem am_newQ {n : Int} {idx : Nat} (hw : Cond.classLink me.1 idx RX1 ∈ am_tb) (hn0 : 0 ≤ n) (hn1 : n ≤ 60000000) (hc : cells + 1 ≤ me.2.2.2.2.2.1.cells) (hs : slots + n.toNat ≤ me.2.2.2.2.2.1.slots) (hd : decode me.2.2.1 pc = .ok (.anewarray idx, 3)) (hq : pc + 3 = q)
    (kk : am_wp me Q (cells + 1) (slots + n.toNat) q ls (am_r σ.1.length :: st) (am_new σ 14 n.toNat)) : am_wp me Q cells slots pc ls (am_i n :: st) σ := by
  intro p l e s m args below meth c base D ss n0 ρ0 C ρ H locs lsA h1 h2 h3 h4 h5 h6 h7
  subst hq
  obtain ⟨hv, h8⟩ := List.forall_mem_cons.mp h7
  have hr : -2147483648 ≤ n ∧ n < 2147483648 := hv
  have hneg : ¬ Int32.ofInt n < 0 := fun h => by
    have := (am_ilt hr (y := 0) ⟨by omega, by omega⟩).mp h
    omega
  have hcl : (Int32.ofInt n).toNatClampNeg = n.toNat := by rw [Int32.toNatClampNeg, am_ti hr]
  have hA : ∀ q, s.heap.size ≤ q → base ≤ q := fun q h => Nat.le_trans C.2.2.2.2.2.2.2.2.2.2.1 h
  have hKs := C.2.2.2.2.2.2.2.2.1
  refine va_newq C.1 C.2.1 C.2.2.2.2.1 (C.2.2.2.2.2.1 _ hw) C.2.2.2.2.2.2.2.2.2.1.2.2.2.2.1 hKs h3.1 h3.2.1 h4 hA hneg hcl (by omega) hc hs hd (fun qa cA H1 hK2 hP hD hS => ?_)
  obtain ⟨k1, c1, -, -, -, e1⟩ := (hKs.2 3 _ rfl).2
  obtain ⟨k2, c2, -, -, -, e2⟩ := (hK2.2 4 _ rfl).2
  have hcA : cA = D.2.2.2.2 := Option.some.inj (e2.symm.trans e1)
  subst hcA
  have hcell : am_cell D (fun b => if b = σ.1.length then qa else ρ b) (am_new σ 14 n.toNat) σ.1.length (14, n.toNat) = .inl (D.2.2.2.2, n.toNat, .inr (.inr (.inr (.inr (fun _ => none))))) := by
    simp [am_cell, am_new]
  rw [← hcell] at hP hD
  exact am_grow C h1 h2 h3.2.2 h5 h6 h8 (by omega) (fun h => by omega) hP hD hS kk
theorem am_objI {a idx : Nat} (hl : Cond.methodLink me.1 idx objectInit ∈ am_tb) (hi : Cond.instanceMethod objectInit ∈ am_tb) (hc : Cond.code objectInit ⟨#[0xb1]⟩ 1 none ∈ am_tb) (hf : 1 ≤ me.2.2.2.2.2.1.frames) (hlo : (st.map am_cat).sum + 12 ≤ me.2.2.2.2.2.1.locals) (hd : decode me.2.2.1 pc = .ok (.invokespecial idx, 3)) (hq : pc + 3 = q) (kk : am_wp me Q cells slots q ls st σ) : am_wp me Q cells slots pc ls (am_r a :: st) σ := by
  intro p l e s m args below meth c base D ss n0 ρ0 C ρ H locs lsA h1 h2 h3 h4 h5 h6 h7
  subst hq
  obtain ⟨-, h8⟩ := List.forall_mem_cons.mp h7
  refine W.objInit (rest := st.map (am_cv ρ ss)) C.1 C.2.1 C.2.2.2.2.1 (C.2.2.2.2.2.1 _ hl) (C.2.2.2.2.2.1 _ hi) (C.2.2.2.2.2.1 _ hc) rfl (by rw [C.2.2.2.1]; exact h5.1) rfl hd hf ?_ ?_
  · rw [am_catsum]; simpa [JFrame.monitorRoom] using hlo
  · exact kk p l e s m args below meth c base D ss n0 ρ0 C ρ H locs lsA h1 h2 h3 h4 h5 h6 h8
/-- System.arraycopy between int arrays that are apart, or are one: by places -/
theorem am_copy {a0 a1 n0 n1 idx : Nat} {sp dp n : Int} (hs0 : σ.1[a0]? = some (11, n0)) (hs1 : σ.1[a1]? = some (11, n1)) (h0 : 0 ≤ sp) (h00 : 0 ≤ dp) (h000 : 0 ≤ n) (hb0 : sp + n ≤ n0) (hb1 : dp + n ≤ n1) (hn1 : n1 < 2147483648) (hl : Cond.methodLink me.1 idx arraycopyName ∈ am_tb) (hna : Cond.native arraycopyName ∈ am_tb) (hst : Cond.static arraycopyName ∈ am_tb) (hin : Cond.initialized "java/lang/System" ∈ am_tb) (hf : 1 ≤ me.2.2.2.2.2.1.frames) (hlo : (st.map am_cat).sum + 60 ≤ me.2.2.2.2.2.1.locals) (hd : decode me.2.2.1 pc = .ok (.invokestatic idx, 3)) (hq : pc + 3 = q)
    (kk : am_wp me Q cells slots q ls st (am_setA σ a1 (fun k => if dp.toNat ≤ k ∧ k < dp.toNat + n.toNat then σ.2.1 a0 (sp.toNat + (k - dp.toNat)) else σ.2.1 a1 k))) : am_wp me Q cells slots pc ls (am_i n :: am_i dp :: am_r a1 :: am_i sp :: am_r a0 :: st) σ := by
  intro p l e s m args below meth c base D ss m0 ρ0 C ρ H locs lsA h1 h2 h3 h4 h5 h6 h7
  subst hq
  obtain ⟨hvn, h7⟩ := List.forall_mem_cons.mp h7
  obtain ⟨hvd, h7⟩ := List.forall_mem_cons.mp h7
  obtain ⟨-, h7⟩ := List.forall_mem_cons.mp h7
  obtain ⟨hvs, h7⟩ := List.forall_mem_cons.mp h7
  obtain ⟨-, h7⟩ := List.forall_mem_cons.mp h7
  have neg : ∀ {x : Int}, am_ok σ.1.length (am_i x) → 0 ≤ x → ¬ Int32.ofInt x < 0 := fun {x} hx h0 h => by
    have := (am_ilt hx (y := 0) ⟨by omega, by omega⟩).mp h
    omega
  have cla : ∀ {x : Int}, am_ok σ.1.length (am_i x) → (Int32.ofInt x).toNatClampNeg = x.toNat := fun {x} hx => by rw [Int32.toNatClampNeg, am_ti hx]
  have he0 : (am_ws D ρ σ)[a0]? = some (ρ a0, .inl (D.2.1, n0, .inl (fun i => Int32.ofInt (σ.2.1 a0 i)))) := by rw [am_ws_at, hs0]; rfl
  have he1 : (am_ws D ρ σ)[a1]? = some (ρ a1, .inl (D.2.1, n1, .inl (fun i => Int32.ofInt (σ.2.1 a1 i)))) := by rw [am_ws_at, hs1]; rfl
  refine va_copyi (ty := .int) (rest := st.map (am_cv ρ ss)) C.1 C.2.1 (by rw [C.2.2.2.1]; exact h5.1.symm) C.2.2.2.2.1 (C.2.2.2.2.2.1 _ hl) (C.2.2.2.2.2.1 _ hna) (C.2.2.2.2.2.1 _ hst) (C.2.2.2.2.2.1 _ hin) C.2.2.2.2.2.2.2.2.1 h3.1 h3.2.1 h4 a0 a1 0 0 he0 he1 rfl rfl rfl (neg hvs h0) (neg hvd h00) (neg hvn h000) (by rw [cla hvs, cla hvn]; omega) (by rw [cla hvd, cla hvn]; omega) (fun i hi => rfl) hf ?_ hd (fun H1 locs1 hP hD hS => ?_)
  · rw [am_catsum]
    have h9 : nativeFrameWords "java/lang/System" "arraycopy" 5 ≤ 49 := by decide +kernel
    omega
  · rw [cla hvs, cla hvd, cla hvn] at hP hD
    have hws : am_ws D ρ (am_setA σ a1 (fun k => if dp.toNat ≤ k ∧ k < dp.toNat + n.toNat then σ.2.1 a0 (sp.toNat + (k - dp.toNat)) else σ.2.1 a1 k)) = (am_ws D ρ σ).set a1 (ρ a1, .inl (D.2.1, n1, .inl (va_cpy (fun i => Int32.ofInt (σ.2.1 a0 i)) (fun i => Int32.ofInt (σ.2.1 a1 i)) sp.toNat dp.toNat n.toNat))) := by
      refine am_ws_set rfl hs1 (fun b hb i => by simp [am_setA, hb]) (fun b hb i => rfl) ?_
      simp only [am_cell, am_setA]
      simp only [show ¬ (11 < 11) by omega, if_false, if_true]
      congr 4
      funext j
      simp only [va_cpy]
      split <;> rfl
    rw [← hws] at hP hD
    refine kk p l e s m args below meth c base D ss m0 ρ0 C ρ H1 locs1 lsA h1 h2 ⟨hP, hD, am_hsetA h3.2.2 (fun q i hq => ?_)⟩ hS h5 h6 h7
    rw [hs1] at hq; cases hq
    split
    · exact h3.2.2.1 a0 _ (11, n0) hs0
    · exact h3.2.2.1 a1 i (11, n1) hs1
/-- what holds of every number that the heap holds, and of every number at hand -/
theorem am_know (h : am_hok σ → (∀ q ∈ ls, am_ok σ.1.length q.2) → (∀ v ∈ st, am_ok σ.1.length v) → am_wp me Q cells slots pc ls st σ) : am_wp me Q cells slots pc ls st σ := by
  intro p l e s m args below meth c base D ss n0 ρ0 C ρ H locs lsA h1 h2 h3 h4 h5 h6 h7
  exact h h3.2.2 h6 h7 p l e s m args below meth c base D ss n0 ρ0 C ρ H locs lsA h1 h2 h3 h4 h5 h6 h7
/-- fewer locals, or in another order -/
theorem am_less {ls2 : am_Ls} (hs : ∀ q ∈ ls2, q ∈ ls) (k : am_wp me Q cells slots pc ls2 st σ) : am_wp me Q cells slots pc ls st σ := by
  intro p l e s m args below meth c base D ss n0 ρ0 C ρ H locs lsA h1 h2 h3 h4 h5 h6 h7
  refine k p l e s m args below meth c base D ss n0 ρ0 C ρ H locs lsA h1 h2 h3 h4 ⟨h5.1, h5.2.1, fun q hq => ?_⟩ (fun q hq => h6 q (hs q hq)) h7
  obtain ⟨z, hz, rfl⟩ := List.mem_map.mp hq
  exact h5.2.2 _ (List.mem_map.mpr ⟨z, hs z hz, rfl⟩)
/-- more cells counted than made -/
theorem am_wide {c2 s2 : Nat} (h1 : cells ≤ c2) (h2 : slots ≤ s2) (k : am_wp me Q c2 s2 pc ls st σ) : am_wp me Q cells slots pc ls st σ := by
  intro p l e s m args below meth c base D ss n0 ρ0 C ρ H locs lsA g1 g2 g3 g4 g5 g6 g7
  exact W.widen h1 h2 (k p l e s m args below meth c base D ss n0 ρ0 C ρ H locs lsA g1 g2 g3 g4 g5 g6 g7)
end AMN
