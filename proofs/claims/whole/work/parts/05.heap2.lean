def am_pw (me : am_M) (idx k j : Nat) : Prop := (am_fl me idx k j ∈ am_tb ∧ ((am_cl k).2.1 j).2.2.2 = false) ∨ (am_fn me idx k j ∈ am_tb ∧ ((am_cl k).2.1 j).2.2.2 = false) ∨ (am_fl me idx k j ∈ am_tb ∧ ((am_cl k).2.1 j).2.2.2 = true ∧ me.2.1.name = "<init>" ∧ ((am_cl k).2.1 j).1 = me.1)
section AMP
variable {me : am_M} {Q : Option am_V → am_H → Prop} {cells slots pc q : Nat} {ls : am_Ls} {st : List am_V} {σ : am_H}
theorem am_putV {a k n j idx : Nat} {v : am_V} {σ' : am_H} (hs : σ.1[a]? = some (k, n)) (hk : k < 11) (hj : j < am_nf k) (hw : am_pw me idx k j) (hd : decode me.2.2.1 pc = .ok (.putfield idx, 3)) (hq : pc + 3 = q) (hsh : σ'.1 = σ.1) (hok : ∀ n0, am_ok σ.1.length v → am_hok σ → n0 = 0 → am_hok σ')
    (hnf : ∀ ρ ss, am_ok σ.1.length v → narrow (am_ty k j) (am_cv ρ ss v) = am_cv ρ ss v ∧ fits (am_ty k j) (am_cv ρ ss v) = true)
    (hws : ∀ (D : am_D) (ρ ss : Nat → Nat), am_ws D ρ σ' = (am_ws D ρ σ).set a (ρ a, .inr (k, ((List.range n).map (am_fv ρ σ k a)).set j (am_cv ρ ss v))))
    (kk : am_wp me Q cells slots q ls st σ') : am_wp me Q cells slots pc ls (v :: am_r a :: st) σ := by
  intro p l e s m args below meth c base D ss n0 ρ0 C ρ H locs lsA h1 h2 h3 h4 h5 h6 h7
  subst hq
  obtain ⟨hv, h8⟩ := List.forall_mem_cons.mp h7
  obtain ⟨-, h9⟩ := List.forall_mem_cons.mp h8
  have hn : n = am_nf k := (h3.2.2.2.2 a (k, n) hs).2 hk
  have he : (am_ws D ρ σ)[a]? = some (ρ a, .inr (k, (List.range n).map (am_fv ρ σ k a))) := by rw [am_ws_at, hs, Option.map_some, am_objcell hk]
  have hK : ∀ (H1 : Heap) (locs1 : List Loc), va_P D.1 vwCl ((am_ws D ρ σ).set a (ρ a, .inr (k, ((List.range n).map (am_fv ρ σ k a)).set j (am_cv ρ ss v)))) H1 → va_D (fun q => base ≤ q) ((am_ws D ρ σ).set a (ρ a, .inr (k, ((List.range n).map (am_fv ρ σ k a)).set j (am_cv ρ ss v)))) → va_S (fun q => base ≤ q) s.heap H1 locs1 → W p l e me.2.2.2.2.2.1 s m args below meth c H1 locs1 cells slots (MQ below (am_Qc base D ρ0 ss n0 Q) args s me.2.2.2.2.2.1.cells me.2.2.2.2.2.1.slots (fun q => base ≤ q)) (F0 m (pc + 3) lsA (st.map (am_cv ρ ss))) := by
    intro H1 locs1 hP hD hS
    rw [← hws D ρ ss] at hP hD
    exact kk p l e s m args below meth c base D ss n0 ρ0 C ρ H1 locs1 lsA h1 (by rw [hsh]; exact h2) ⟨hP, hD, hok 0 hv h3.2.2 rfl⟩ hS h5 (by rw [hsh]; exact h6) (by rw [hsh]; exact h9)
  have hjn : j < (am_cl k).2.2 := by rw [am_cl_n hk]; exact hj
  have hpd := am_tyK hk j hjn
  have hlen : j < ((List.range n).map (am_fv ρ σ k a)).length := by simp; omega
  rcases hw with ⟨hw, hf⟩ | ⟨hw, hf⟩ | ⟨hw, hf, hi, ho⟩
  · exact va_put (C := (am_cl k).1) (T := (am_cl k).2.1) (N := (am_cl k).2.2) C.1 C.2.1 C.2.2.2.2.2.1 (am_inK hk) (am_ty k) (am_tyK hk) (am_nmK hk) C.2.2.2.2.1 C.2.2.2.2.2.2.2.2.1 h3.1 h3.2.1 h4 a he (am_cl_at hk) j hjn (C.2.2.2.2.2.1 _ hw) (fun _ h9 => h9) hf hpd (hnf ρ ss hv).1 (hnf ρ ss hv).2 hlen hd hK
  · exact va_putN (C := (am_cl k).1) (T := (am_cl k).2.1) (N := (am_cl k).2.2) C.1 C.2.1 C.2.2.2.2.2.1 (am_inK hk) (am_ty k) (am_tyK hk) (am_nmK hk) C.2.2.2.2.1 C.2.2.2.2.2.2.2.2.1 h3.1 h3.2.1 h4 a he (am_cl_at hk) j hjn (C.2.2.2.2.2.1 _ hw) (fun _ h9 => h9) hf hpd (hnf ρ ss hv).1 (hnf ρ ss hv).2 hlen hd hK
  · exact va_putF (C := (am_cl k).1) (T := (am_cl k).2.1) (N := (am_cl k).2.2) C.1 C.2.1 C.2.2.2.2.2.1 (am_inK hk) (am_ty k) (am_tyK hk) (am_nmK hk) C.2.2.2.2.1 C.2.2.2.2.2.2.2.2.1 h3.1 h3.2.1 h4 a he (am_cl_at hk) j hjn (C.2.2.2.2.2.1 _ hw) (fun _ h9 => h9) hf (by rw [C.2.2.2.2.2.2.2.1]; exact hi) ho hpd (hnf ρ ss hv).1 (hnf ρ ss hv).2 hlen hd hK
theorem am_fvN {ρ : Nat → Nat} {k a j i : Nat} {x : Int} (h : ¬ i = j) : am_fv ρ (am_setN σ a j x) k a i = am_fv ρ σ k a i := by
  simp [am_fv, am_setN, h]
theorem am_fvR {ρ : Nat → Nat} {k a j i : Nat} {r : Option Nat} (h : ¬ i = j) : am_fv ρ (am_setR σ a j r) k a i = am_fv ρ σ k a i := by
  simp [am_fv, am_setR, h]
theorem am_putI {a k n j idx : Nat} {x : Int} (hs : σ.1[a]? = some (k, n)) (hk : k < 11) (ht : am_ty k j = .int) (hj : j < am_nf k) (hw : am_pw me idx k j) (hd : decode me.2.2.1 pc = .ok (.putfield idx, 3)) (hq : pc + 3 = q) (kk : am_wp me Q cells slots q ls st (am_setN σ a j x)) : am_wp me Q cells slots pc ls (am_i x :: am_r a :: st) σ := by
  refine am_putV (σ' := am_setN σ a j x) hs hk hj hw hd hq rfl (fun _ hv hk2 _ => am_hset hk2 (fun q hq => ?_)) (fun ρ ss hv => ?_) (fun D ρ ss => ?_) kk
  · rw [hs] at hq; cases hq; rw [ht]; exact hv
  · rw [ht]; exact ⟨rfl, rfl⟩
  · refine am_ws_set rfl hs (fun b hb i => by simp [am_setN, hb]) (fun b hb i => rfl) ?_
    rw [am_objcell hk, am_setmap (f := am_fv ρ (am_setN σ a j x) k a) (g := am_fv ρ σ k a) (fun i hi => am_fvN hi)]
    simp [am_fv, ht, am_setN, am_cv]
theorem am_putZ {a k n j idx : Nat} {x : Int} (hs : σ.1[a]? = some (k, n)) (hk : k < 11) (ht : am_ty k j = .boolean) (hz : x = 0 ∨ x = 1) (hj : j < am_nf k) (hw : am_pw me idx k j) (hd : decode me.2.2.1 pc = .ok (.putfield idx, 3)) (hq : pc + 3 = q) (kk : am_wp me Q cells slots q ls st (am_setN σ a j x)) : am_wp me Q cells slots pc ls (am_i x :: am_r a :: st) σ := by
  refine am_putV (σ' := am_setN σ a j x) hs hk hj hw hd hq rfl (fun _ hv hk2 _ => am_hset hk2 (fun q hq => ?_)) (fun ρ ss hv => ?_) (fun D ρ ss => ?_) kk
  · rw [hs] at hq; cases hq; rw [ht]; rcases hz with rfl | rfl <;> exact ⟨by decide, by decide⟩
  · rw [ht]; rcases hz with rfl | rfl <;> exact ⟨rfl, rfl⟩
  · refine am_ws_set rfl hs (fun b hb i => by simp [am_setN, hb]) (fun b hb i => rfl) ?_
    rw [am_objcell hk, am_setmap (f := am_fv ρ (am_setN σ a j x) k a) (g := am_fv ρ σ k a) (fun i hi => am_fvN hi)]
    simp [am_fv, ht, am_setN, am_cv]
theorem am_putL {a k n j idx : Nat} {x : Int} (hs : σ.1[a]? = some (k, n)) (hk : k < 11) (ht : am_ty k j = .long) (hj : j < am_nf k) (hw : am_pw me idx k j) (hd : decode me.2.2.1 pc = .ok (.putfield idx, 3)) (hq : pc + 3 = q) (kk : am_wp me Q cells slots q ls st (am_setN σ a j x)) : am_wp me Q cells slots pc ls (am_l x :: am_r a :: st) σ := by
  refine am_putV (σ' := am_setN σ a j x) hs hk hj hw hd hq rfl (fun _ hv hk2 _ => am_hset hk2 (fun q hq => ?_)) (fun ρ ss hv => ?_) (fun D ρ ss => ?_) kk
  · rw [hs] at hq; cases hq; rw [ht]; exact hv
  · rw [ht]; exact ⟨rfl, rfl⟩
  · refine am_ws_set rfl hs (fun b hb i => by simp [am_setN, hb]) (fun b hb i => rfl) ?_
    rw [am_objcell hk, am_setmap (f := am_fv ρ (am_setN σ a j x) k a) (g := am_fv ρ σ k a) (fun i hi => am_fvN hi)]
    simp [am_fv, ht, am_setN, am_cv]
theorem am_putR {a k n j idx : Nat} {r : Option Nat} (hs : σ.1[a]? = some (k, n)) (hk : k < 11) (ht : am_tk k j = 3) (hj : j < am_nf k) (hw : am_pw me idx k j) (hd : decode me.2.2.1 pc = .ok (.putfield idx, 3)) (hq : pc + 3 = q) (kk : am_wp me Q cells slots q ls st (am_setR σ a j r)) : am_wp me Q cells slots pc ls (am_o r :: am_r a :: st) σ := by
  refine am_putV (σ' := am_setR σ a j r) hs hk hj hw hd hq rfl (fun _ hv hk2 _ => am_hsetR hk2 hv) (fun ρ ss hv => ?_) (fun D ρ ss => ?_) kk
  · unfold am_tk at ht
    revert ht
    cases am_ty k j <;> rcases r with _ | b <;> simp [am_cv, va_rf, narrow, fits]
  · refine am_ws_set rfl hs (fun b hb i => rfl) (fun b hb i => by simp [am_setR, hb]) ?_
    rw [am_objcell hk, am_setmap (f := am_fv ρ (am_setR σ a j r) k a) (g := am_fv ρ σ k a) (fun i hi => am_fvR hi)]
    unfold am_tk at ht
    revert ht
    cases h : am_ty k j <;> simp [am_fv, h, am_setR, am_cv]
theorem am_vp {i : Int} {n : Nat} (h0 : 0 ≤ i) (h1 : i < n) (hr : -2147483648 ≤ i ∧ i < 2147483648) : vp_in (Int32.ofInt i) n ∧ (Int32.ofInt i).toNatClampNeg = i.toNat := by
  have e1 : (Int32.ofInt i).toNatClampNeg = i.toNat := by
    rw [Int32.toNatClampNeg, am_ti hr]
  refine ⟨fun h => ?_, e1⟩
  rcases h with h | h
  · have := (am_ilt hr (y := 0) ⟨by omega, by omega⟩).mp h
    omega
  · rw [e1] at h; omega
theorem am_iald {a n : Nat} {i x : Int} (hs : σ.1[a]? = some (11, n)) (hi0 : 0 ≤ i) (hi : i < n) (hx : σ.2.1 a i.toNat = x) (hd : decode me.2.2.1 pc = .ok (.iaload, 1)) (hq : pc + 1 = q) (kk : am_wp me Q cells slots q ls (am_i x :: st) σ) : am_wp me Q cells slots pc ls (am_i i :: am_r a :: st) σ := by
  intro p l e s m args below meth c base D ss n0 ρ0 C ρ H locs lsA h1 h2 h3 h4 h5 h6 h7
  subst hq
  obtain ⟨hv, h8⟩ := List.forall_mem_cons.mp h7
  obtain ⟨-, h9⟩ := List.forall_mem_cons.mp h8
  obtain ⟨v1, v2⟩ := am_vp hi0 hi hv
  have he : (am_ws D ρ σ)[a]? = some (ρ a, .inl (D.2.1, n, .inl (fun i => Int32.ofInt (σ.2.1 a i)))) := by rw [am_ws_at, hs]; rfl
  refine va_iald C.1 C.2.1 C.2.2.2.2.2.2.2.2.1 h3.1 a 0 he rfl v1 hd ?_
  have hK := kk p l e s m args below meth c base D ss n0 ρ0 C ρ H locs lsA h1 h2 h3 h4 h5 h6 (am_all2 (show am_ok _ (am_i x) from by rw [← hx]; exact h3.2.2.1 a i.toNat (11, n) hs) h9)
  rw [v2, hx]
  exact hK
theorem am_cald {a n : Nat} {i x : Int} (hs : σ.1[a]? = some (13, n)) (hi0 : 0 ≤ i) (hi : i < n) (hx : σ.2.1 a i.toNat = x) (hd : decode me.2.2.1 pc = .ok (.caload, 1)) (hq : pc + 1 = q) (kk : am_wp me Q cells slots q ls (am_i x :: st) σ) : am_wp me Q cells slots pc ls (am_i i :: am_r a :: st) σ := by
  intro p l e s m args below meth c base D ss n0 ρ0 C ρ H locs lsA h1 h2 h3 h4 h5 h6 h7
  subst hq
  obtain ⟨hv, h8⟩ := List.forall_mem_cons.mp h7
  obtain ⟨-, h9⟩ := List.forall_mem_cons.mp h8
  obtain ⟨v1, v2⟩ := am_vp hi0 hi hv
  have he : (am_ws D ρ σ)[a]? = some (ρ a, .inl (D.2.2.2.1, n, .inl (fun i => Int32.ofInt (σ.2.1 a i)))) := by rw [am_ws_at, hs]; rfl
  refine va_cald C.1 C.2.1 C.2.2.2.2.2.2.2.2.1 h3.1 a 2 he rfl v1 hd ?_
  have hK := kk p l e s m args below meth c base D ss n0 ρ0 C ρ H locs lsA h1 h2 h3 h4 h5 h6 (am_all2 (show am_ok _ (am_i x) from by have h10 := h3.2.2.1 a i.toNat (13, n) hs; rw [hx] at h10; have h11 : 0 ≤ x ∧ x ≤ 65535 := h10; exact ⟨by omega, by omega⟩) h9)
  rw [v2, hx]
  exact hK
theorem am_lald {a n : Nat} {i x : Int} (hs : σ.1[a]? = some (12, n)) (hi0 : 0 ≤ i) (hi : i < n) (hx : σ.2.1 a i.toNat = x) (hd : decode me.2.2.1 pc = .ok (.laload, 1)) (hq : pc + 1 = q) (kk : am_wp me Q cells slots q ls (am_l x :: st) σ) : am_wp me Q cells slots pc ls (am_i i :: am_r a :: st) σ := by
  intro p l e s m args below meth c base D ss n0 ρ0 C ρ H locs lsA h1 h2 h3 h4 h5 h6 h7
  subst hq
  obtain ⟨hv, h8⟩ := List.forall_mem_cons.mp h7
  obtain ⟨-, h9⟩ := List.forall_mem_cons.mp h8
  obtain ⟨v1, v2⟩ := am_vp hi0 hi hv
  have he : (am_ws D ρ σ)[a]? = some (ρ a, .inl (D.2.2.1, n, .inr (.inl (fun i => Int64.ofInt (σ.2.1 a i))))) := by rw [am_ws_at, hs]; rfl
  refine va_lald C.1 C.2.1 C.2.2.2.2.2.2.2.2.1 h3.1 a 1 he rfl v1 hd ?_
  have hK := kk p l e s m args below meth c base D ss n0 ρ0 C ρ H locs lsA h1 h2 h3 h4 h5 h6 (am_all2 (show am_ok _ (am_l x) from by rw [← hx]; exact h3.2.2.1 a i.toNat (12, n) hs) h9)
  rw [v2, hx]
  exact hK
theorem am_aald {a n : Nat} {i : Int} {r : Option Nat} (hs : σ.1[a]? = some (14, n)) (hi0 : 0 ≤ i) (hi : i < n) (hx : σ.2.2 a i.toNat = r) (hd : decode me.2.2.1 pc = .ok (.aaload, 1)) (hq : pc + 1 = q) (kk : am_wp me Q cells slots q ls (am_o r :: st) σ) : am_wp me Q cells slots pc ls (am_i i :: am_r a :: st) σ := by
  intro p l e s m args below meth c base D ss n0 ρ0 C ρ H locs lsA h1 h2 h3 h4 h5 h6 h7
  subst hq
  obtain ⟨hv, h8⟩ := List.forall_mem_cons.mp h7
  obtain ⟨-, h9⟩ := List.forall_mem_cons.mp h8
  obtain ⟨v1, v2⟩ := am_vp hi0 hi hv
  have he : (am_ws D ρ σ)[a]? = some (ρ a, .inl (D.2.2.2.2, n, .inr (.inr (.inr (.inr (fun i => (σ.2.2 a i).map ρ)))))) := by rw [am_ws_at, hs]; rfl
  refine va_aldq C.1 C.2.1 C.2.2.2.2.2.2.2.2.1 h3.1 a 3 he rfl v1 hd ?_
  have hK := kk p l e s m args below meth c base D ss n0 ρ0 C ρ H locs lsA h1 h2 h3 h4 h5 h6 (am_all2 (P := am_ok σ.1.length) (a := am_o r) (fun b hb => h3.2.2.2.1 a i.toNat b (by rw [hx, hb])) h9)
  rw [v2, hx]
  exact hK
theorem am_alen {a k n : Nat} (hs : σ.1[a]? = some (k, n)) (hk : 11 ≤ k) (hn : n < 2147483648) (hd : decode me.2.2.1 pc = .ok (.arraylength, 1)) (hq : pc + 1 = q) (kk : am_wp me Q cells slots q ls (am_i n :: st) σ) : am_wp me Q cells slots pc ls (am_r a :: st) σ := by
  intro p l e s m args below meth c base D ss n0 ρ0 C ρ H locs lsA h1 h2 h3 h4 h5 h6 h7
  subst hq
  obtain ⟨hv, h8⟩ := List.forall_mem_cons.mp h7
  have hK := kk p l e s m args below meth c base D ss n0 ρ0 C ρ H locs lsA h1 h2 h3 h4 h5 h6 (am_all2 (show am_ok _ (am_i n) from ⟨by omega, by omega⟩) h8)
  have hk15 : k < 15 := (h3.2.2.2.2 a (k, n) hs).1
  have hof : Int32.ofNat n = Int32.ofInt n := rfl
  have he : (am_ws D ρ σ)[a]? = some (ρ a, am_cell D ρ σ a (k, n)) := by rw [am_ws_at, hs]; rfl
  have hcs : k = 11 ∨ k = 12 ∨ k = 13 ∨ k = 14 := by omega
  rcases hcs with rfl | rfl | rfl | rfl
  · exact va_alen C.1 C.2.1 C.2.2.2.2.2.2.2.2.1 h3.1 a 0 he rfl hof hd hK
  · exact va_alen C.1 C.2.1 C.2.2.2.2.2.2.2.2.1 h3.1 a 1 he rfl hof hd hK
  · exact va_alen C.1 C.2.1 C.2.2.2.2.2.2.2.2.1 h3.1 a 2 he rfl hof hd hK
  · exact va_alen C.1 C.2.1 C.2.2.2.2.2.2.2.2.1 h3.1 a 3 he rfl hof hd hK
theorem am_iast {a n : Nat} {i x : Int} (hs : σ.1[a]? = some (11, n)) (hi0 : 0 ≤ i) (hi : i < n) (hd : decode me.2.2.1 pc = .ok (.iastore, 1)) (hq : pc + 1 = q) (kk : am_wp me Q cells slots q ls st (am_setN σ a i.toNat x)) : am_wp me Q cells slots pc ls (am_i x :: am_i i :: am_r a :: st) σ := by
  intro p l e s m args below meth c base D ss n0 ρ0 C ρ H locs lsA h1 h2 h3 h4 h5 h6 h7
  subst hq
  obtain ⟨hxv, h7a⟩ := List.forall_mem_cons.mp h7
  obtain ⟨hv, h8⟩ := List.forall_mem_cons.mp h7a
  obtain ⟨-, h9⟩ := List.forall_mem_cons.mp h8
  obtain ⟨v1, v2⟩ := am_vp hi0 hi hv
  have he : (am_ws D ρ σ)[a]? = some (ρ a, .inl (D.2.1, n, .inl (fun i => Int32.ofInt (σ.2.1 a i)))) := by rw [am_ws_at, hs]; rfl
  refine va_iast C.1 C.2.1 C.2.2.2.2.2.2.2.2.1 h3.1 h3.2.1 h4 a 0 he rfl v1 hd (fun H1 locs1 hP hD hS => ?_)
  have hws : am_ws D ρ (am_setN σ a i.toNat x) = (am_ws D ρ σ).set a (ρ a, .inl (D.2.1, n, .inl (upd (fun i => Int32.ofInt (σ.2.1 a i)) (Int32.ofInt i).toNatClampNeg (Int32.ofInt x)))) := by
    refine am_ws_set rfl hs (fun b hb i => by simp [am_setN, hb]) (fun b hb i => rfl) ?_
    rw [v2]
    simp only [am_cell, am_setN]
    simp only [show ¬ (11 < 11) by omega, if_false, if_true]
    congr 4
    funext j
    by_cases hj : j = i.toNat <;> simp [upd, hj]
  rw [← hws] at hP hD
  exact kk p l e s m args below meth c base D ss n0 ρ0 C ρ H1 locs1 lsA h1 h2 ⟨hP, hD, am_hset h3.2.2 (fun q hq => by rw [hs] at hq; cases hq; exact hxv)⟩ hS h5 h6 h9
theorem am_last {a n : Nat} {i x : Int} (hs : σ.1[a]? = some (12, n)) (hi0 : 0 ≤ i) (hi : i < n) (hd : decode me.2.2.1 pc = .ok (.lastore, 1)) (hq : pc + 1 = q) (kk : am_wp me Q cells slots q ls st (am_setN σ a i.toNat x)) : am_wp me Q cells slots pc ls (am_l x :: am_i i :: am_r a :: st) σ := by
  intro p l e s m args below meth c base D ss n0 ρ0 C ρ H locs lsA h1 h2 h3 h4 h5 h6 h7
  subst hq
  obtain ⟨hxv, h7a⟩ := List.forall_mem_cons.mp h7
  obtain ⟨hv, h8⟩ := List.forall_mem_cons.mp h7a
  obtain ⟨-, h9⟩ := List.forall_mem_cons.mp h8
  obtain ⟨v1, v2⟩ := am_vp hi0 hi hv
  have he : (am_ws D ρ σ)[a]? = some (ρ a, .inl (D.2.2.1, n, .inr (.inl (fun i => Int64.ofInt (σ.2.1 a i))))) := by rw [am_ws_at, hs]; rfl
  refine va_last C.1 C.2.1 C.2.2.2.2.2.2.2.2.1 h3.1 h3.2.1 h4 a 1 he rfl v1 hd (fun H1 locs1 hP hD hS => ?_)
  have hws : am_ws D ρ (am_setN σ a i.toNat x) = (am_ws D ρ σ).set a (ρ a, .inl (D.2.2.1, n, .inr (.inl (vp_updL (fun i => Int64.ofInt (σ.2.1 a i)) (Int32.ofInt i).toNatClampNeg (Int64.ofInt x))))) := by
    refine am_ws_set rfl hs (fun b hb i => by simp [am_setN, hb]) (fun b hb i => rfl) ?_
    rw [v2]
    simp only [am_cell, am_setN]
    simp only [show ¬ (12 < 11) by omega, show ¬ (12 = 11) by omega, if_false, if_true]
    congr 5
    funext j
    by_cases hj : j = i.toNat <;> simp [vp_updL, hj]
  rw [← hws] at hP hD
  exact kk p l e s m args below meth c base D ss n0 ρ0 C ρ H1 locs1 lsA h1 h2 ⟨hP, hD, am_hset h3.2.2 (fun q hq => by rw [hs] at hq; cases hq; exact hxv)⟩ hS h5 h6 h9
theorem am_cast {a n : Nat} {i x : Int} (hs : σ.1[a]? = some (13, n)) (hi0 : 0 ≤ i) (hi : i < n) (hx0 : 0 ≤ x ∧ x ≤ 65535) (hnar : vp_nar .char (Int32.ofInt x) = Int32.ofInt x) (hd : decode me.2.2.1 pc = .ok (.castore, 1)) (hq : pc + 1 = q) (kk : am_wp me Q cells slots q ls st (am_setN σ a i.toNat x)) : am_wp me Q cells slots pc ls (am_i x :: am_i i :: am_r a :: st) σ := by
  intro p l e s m args below meth c base D ss n0 ρ0 C ρ H locs lsA h1 h2 h3 h4 h5 h6 h7
  subst hq
  obtain ⟨hxv, h7a⟩ := List.forall_mem_cons.mp h7
  obtain ⟨hv, h8⟩ := List.forall_mem_cons.mp h7a
  obtain ⟨-, h9⟩ := List.forall_mem_cons.mp h8
  obtain ⟨v1, v2⟩ := am_vp hi0 hi hv
  have he : (am_ws D ρ σ)[a]? = some (ρ a, .inl (D.2.2.2.1, n, .inl (fun i => Int32.ofInt (σ.2.1 a i)))) := by rw [am_ws_at, hs]; rfl
  refine va_cast C.1 C.2.1 C.2.2.2.2.2.2.2.2.1 h3.1 h3.2.1 h4 a 2 he rfl v1 hd (fun H1 locs1 hP hD hS => ?_)
  have hws : am_ws D ρ (am_setN σ a i.toNat x) = (am_ws D ρ σ).set a (ρ a, .inl (D.2.2.2.1, n, .inl (upd (fun i => Int32.ofInt (σ.2.1 a i)) (Int32.ofInt i).toNatClampNeg (vp_nar .char (Int32.ofInt x))))) := by
    refine am_ws_set rfl hs (fun b hb i => by simp [am_setN, hb]) (fun b hb i => rfl) ?_
    rw [v2, hnar]
    simp only [am_cell, am_setN]
    simp only [show ¬ (13 < 11) by omega, show ¬ (13 = 11) by omega, show ¬ (13 = 12) by omega, if_false, if_true]
    congr 4
    funext j
    by_cases hj : j = i.toNat <;> simp [upd, hj]
  rw [← hws] at hP hD
  exact kk p l e s m args below meth c base D ss n0 ρ0 C ρ H1 locs1 lsA h1 h2 ⟨hP, hD, am_hset h3.2.2 (fun q hq => by rw [hs] at hq; cases hq; exact hx0)⟩ hS h5 h6 h9
theorem am_aast {a n b nb : Nat} {i : Int} (hs : σ.1[a]? = some (14, n)) (hb : σ.1[b]? = some (1, nb)) (hi0 : 0 ≤ i) (hi : i < n) (hd : decode me.2.2.1 pc = .ok (.aastore, 1)) (hq : pc + 1 = q) (kk : am_wp me Q cells slots q ls st (am_setR σ a i.toNat (some b))) : am_wp me Q cells slots pc ls (am_r b :: am_i i :: am_r a :: st) σ := by
  intro p l e s m args below meth c base D ss n0 ρ0 C ρ H locs lsA h1 h2 h3 h4 h5 h6 h7
  subst hq
  obtain ⟨hxv, h7a⟩ := List.forall_mem_cons.mp h7
  obtain ⟨hv, h8⟩ := List.forall_mem_cons.mp h7a
  obtain ⟨-, h9⟩ := List.forall_mem_cons.mp h8
  obtain ⟨v1, v2⟩ := am_vp hi0 hi hv
  have he : (am_ws D ρ σ)[a]? = some (ρ a, .inl (D.2.2.2.2, n, .inr (.inr (.inr (.inr (fun i => (σ.2.2 a i).map ρ)))))) := by rw [am_ws_at, hs]; rfl
  have hbe : (am_ws D ρ σ)[b]? = some (ρ b, .inr (1, (List.range nb).map (am_fv ρ σ 1 b))) := by rw [am_ws_at, hb]; rfl
  refine va_astq C.1 C.2.1 C.2.2.2.2.2.2.2.2.1 h3.1 h3.2.1 h4 a 3 b 1 (r := (RX1, TX1, 11)) he rfl hbe rfl v1 hd (fun H1 locs1 hP hD hS => ?_)
  have hws : am_ws D ρ (am_setR σ a i.toNat (some b)) = (am_ws D ρ σ).set a (ρ a, .inl (D.2.2.2.2, n, .inr (.inr (.inr (.inr (va_up (fun i => (σ.2.2 a i).map ρ) (Int32.ofInt i).toNatClampNeg (some (ρ b)))))))) := by
    refine am_ws_set rfl hs (fun b hb i => rfl) (fun b hb i => by simp [am_setR, hb]) ?_
    rw [v2]
    simp only [am_cell, am_setR]
    simp only [show ¬ (14 < 11) by omega, show ¬ (14 = 11) by omega, show ¬ (14 = 12) by omega, show ¬ (14 = 13) by omega, if_false]
    congr 7
    funext j
    by_cases hj : j = i.toNat <;> simp [va_up, hj]
  rw [← hws] at hP hD
  exact kk p l e s m args below meth c base D ss n0 ρ0 C ρ H1 locs1 lsA h1 h2 ⟨hP, hD, am_hsetR h3.2.2 hxv⟩ hS h5 h6 h9
end AMP
