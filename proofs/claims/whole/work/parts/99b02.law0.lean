def am_tm (i : Nat) : Term := Term.string RX7 (if i = 0 then 73 else 54)
def am_sv (i : Nat) : Term := Term.field (am_tm i) "java/lang/String" "value" "[B"
def am_strC (i : Nat) : List Cond := [Cond.exactly (am_tm i) "java/lang/String", Cond.eq (.field (am_tm i) "java/lang/String" "coder" "B") (.int 0), Cond.arrayOf (am_sv i) .byte, Cond.eq (.length (am_sv i)) (.int (Int32.ofNat (am_len.getD i 0)))] ++ (List.range (am_len.getD i 0)).map (fun j => Cond.eq (.elem (am_sv i) (.int (Int32.ofNat j))) (.int ((am_byt.getD i []).getD j 0)))
set_option maxRecDepth 100000 in
theorem am_flat3 : (flatC narrow_1)[3]? = some (Cond.isRef (.static RJ3 "SIOOBE_FORMATTER" "Ljava/util/function/BiFunction;")) := by decide +kernel
set_option maxRecDepth 100000 in
theorem am_flat : ((flatC narrow_1).drop 7).take 268 = am_strC 0 ∧ ((flatC narrow_1).drop 275).take 17 = am_strC 1 ∧ (flatC narrow_1)[2]? = some (Cond.eq (Term.static "java/lang/String" "COMPACT_STRINGS" "Z") (.int 1)) ∧ (flatC narrow_1)[292]? = some (Cond.not (Cond.eq (am_tm 0) (am_tm 1))) := by decide +kernel
theorem am_strs {args : Array Value} {s : State} (h : narrow_1.before args s = true) {A : Nat → Prop} (hA : ∀ a : Nat, a < s.heap.size → ¬ A a) : ∃ adK adV : Nat → Nat, vk_S 2 am_len am_byt adK adV A s s.heap ∧ ∀ i : Nat, i < 2 → (am_tm i).eval args s none [] s = some (.ref (adK i)) := by
  have hf := flat_of_before narrow_1 h
  have hs : ∀ i, i < 2 → ∀ w ∈ am_strC i, w.before args s = true := by
    intro i hi w hw
    rcases (show i = 0 ∨ i = 1 by omega) with rfl | rfl
    · rw [← am_flat.1] at hw
      exact hf w (List.mem_of_mem_drop (List.mem_of_mem_take hw))
    · rw [← am_flat.2.1] at hw
      exact hf w (List.mem_of_mem_drop (List.mem_of_mem_take hw))
  have hne : (Cond.not (Cond.eq (am_tm 0) (am_tm 1))).before args s = true := hf _ (List.mem_of_getElem? am_flat.2.2.2)
  refine vk_Sof (tm := am_tm) (fun i hi => ?_) (fun i hi => hs i hi _ (by simp [am_strC])) (fun i hi => hs i hi _ (by simp [am_strC])) (fun i hi => hs i hi _ (by simp [am_strC, am_sv])) (fun i hi => hs i hi _ (by simp [am_strC, am_sv])) (fun i hi j hj => hs i hi _ ?_) (fun i j hi hj hij => ?_) hA
  · rcases (show i = 0 ∨ i = 1 by omega) with rfl | rfl <;> decide
  · refine List.mem_append_right _ (List.mem_map.mpr ⟨j, List.mem_range.mpr hj, rfl⟩)
  · rcases (show i = 0 ∨ i = 1 by omega) with rfl | rfl <;> rcases (show j = 0 ∨ j = 1 by omega) with rfl | rfl
    · exact absurd rfl hij
    · exact Or.inl hne
    · exact Or.inr hne
    · exact absurd rfl hij
theorem am_arrs {args : Array Value} {s : State} {ty : FieldType} (hty : ty = .int ∨ ty = .long ∨ ty = .char) (h : (Cond.arrayClass ty).before args s = true) : ∃ cA, ArrOfT s cA ty ∧ va_RA s cA ty := by
  obtain ⟨cA, kA, comp, h1, h2, h3⟩ := Cond.arrayClass_spec h
  refine ⟨cA, fun N z => ⟨(fun k h => by cases h), kA, h2, comp, h3⟩, ?_⟩
  rcases hty with rfl | rfl | rfl <;> exact h1
theorem am_arrq {args : Array Value} {s : State} {C : String} (h : (Cond.arrayOver (.object C)).before args s = true) : ∃ cA, ArrOfT s cA (.object C) ∧ va_RA s cA (.object C) := by
  obtain ⟨comp, cA, kA, h1, h2, h3, h4, h5⟩ := Cond.arrayOver_spec h
  exact ⟨cA, fun N z => ⟨(fun k h => by cases h), kA, h3, comp, h4⟩, kA, comp, h3, h4, h1, h5⟩
def am_lawX (L : Nat) (xs : Nat → Int32) : Nat → (Nat → Nat) → State → Prop := fun base ss s => va_X (ss 2) L xs s s.heap ∧ ss 2 < s.heap.size ∧ base = s.heap.size
def M_L (L : Nat) (xs : Nat → Int32) : am_M := ("ForgottenFeastLaw", x, code, 4, some .boolean, room_1, am_lawX L xs)
section AML
variable {L : Nat} {xs : Nat → Int32} {Q : Option am_V → am_H → Prop} {cells slots pc q : Nat} {ls : am_Ls} {st : List am_V} {σ : am_H}
theorem am_slen (hL : L ≤ 3072) (hd : decode code pc = .ok (.arraylength, 1)) (hq : pc + 1 = q) (kk : am_wp (M_L L xs) Q cells slots q ls (am_i L :: st) σ) : am_wp (M_L L xs) Q cells slots pc ls (am_s 2 :: st) σ := by
  intro p l e s m args below meth c base D ss n0 ρ0 C ρ H locs lsA h1 h2 h3 h4 h5 h6 h7
  subst hq
  obtain ⟨-, h8⟩ := List.forall_mem_cons.mp h7
  obtain ⟨hX, hlt, hbs⟩ := C.2.2.2.2.2.2.2.2.2.2.2
  refine va_slen (A := fun q => base ≤ q) C.1 C.2.1 hX hlt (by omega) h4 hd ?_
  exact kk p l e s m args below meth c base D ss n0 ρ0 C ρ H locs lsA h1 h2 h3 h4 h5 h6 (am_all2 (show am_ok _ (am_i L) from ⟨by omega, by omega⟩) h8)
theorem am_sld {i : Int} (hi0 : 0 ≤ i) (hi : i < L) (hd : decode code pc = .ok (.iaload, 1)) (hq : pc + 1 = q) (kk : am_wp (M_L L xs) Q cells slots q ls (am_i (xs i.toNat).toInt :: st) σ) : am_wp (M_L L xs) Q cells slots pc ls (am_i i :: am_s 2 :: st) σ := by
  intro p l e s m args below meth c base D ss n0 ρ0 C ρ H locs lsA h1 h2 h3 h4 h5 h6 h7
  subst hq
  obtain ⟨hv, h8⟩ := List.forall_mem_cons.mp h7
  obtain ⟨-, h9⟩ := List.forall_mem_cons.mp h8
  obtain ⟨hX, hlt, hbs⟩ := C.2.2.2.2.2.2.2.2.2.2.2
  obtain ⟨v1, v2⟩ := am_vp hi0 hi hv
  refine va_sld (A := fun q => base ≤ q) C.1 C.2.1 hX hlt (by omega) h4 v1 hd ?_
  have hk := kk p l e s m args below meth c base D ss n0 ρ0 C ρ H locs lsA h1 h2 h3 h4 h5 h6 (am_all2 (am_r32 _) h9)
  rw [v2]
  have he : am_cv ρ ss (am_i (xs i.toNat).toInt) = .int (xs i.toNat) := by show Value.int (Int32.ofInt _) = _; rw [Int32.ofInt_toInt]
  rw [List.map_cons, he] at hk
  exact hk
theorem am_sload {i : Fin 4} {k : Nat} (hl : am_get? ls i = some (am_s k)) (hd : decode code pc = .ok (.aload_n i, 1)) (hq : pc + 1 = q) (kk : am_wp (M_L L xs) Q cells slots q ls (am_s k :: st) σ) : am_wp (M_L L xs) Q cells slots pc ls st σ := by
  intro p l e s m args below meth c base D ss n0 ρ0 C ρ H locs lsA h1 h2 h3 h4 h5 h6 h7
  subst hq
  have hk := kk p l e s m args below meth c base D ss n0 ρ0 C ρ H locs lsA h1 h2 h3 h4 h5 h6 (am_all2 (h6 _ (am_getM hl)) h7)
  exact lv_aload_n C.1 C.2.1 hd rfl (am_lAt h5 (am_getM hl)) hk
end AML
/-- a frame whose written places are all new is a frame that writes none -/
theorem am_noLocs {s t : State} {L : List Loc} {k n : Nat} (h : s.sameButNew t L k n) (hL : ∀ q ∈ L, s.heap.size ≤ q.base) : s.sameButNew t [] k n := by
  obtain ⟨h1, h2, h3, h4, h5, h6⟩ := h
  refine ⟨h1, h2, h3, h4, h5, fun a c hc => ?_⟩
  obtain ⟨c', g1, g2, g3, g4⟩ := h6 a c hc
  refine ⟨c', g1, g2, g3, fun i _ => g4 i (fun hm => ?_)⟩
  have h7 : a < s.heap.size := (Array.getElem?_eq_some_iff.mp hc).1
  have := hL _ hm
  exact absurd h7 (Nat.not_lt.mpr this)
def am_0 : am_H := ([], fun _ _ => 0, fun _ _ => none)
/-! THE CLAIM OUT OF ONE WALK OF THE LAW'S BODY. Your part is whole_start (and what it stands on); all else here is the same for every law, but numbers. -/
def R_law : String := "ForgottenFeastLaw"
def lw_P (b : Addr) (xs : List Int32) (args : Array Value) (s : State) : Prop := args = #[.ref b] ∧ s.IntsAt b xs ∧ xs.length ≤ 3072 ∧ (Jvm.Cond.and given_1 narrow_1).before args s = true
def lw_Q (_ : Array Value) (s : State) (o : Outcome) (t : State) : Prop := o = .returned (some (.int 1)) ∧ Framed s o t [] 600000 7302250
def lw_Z (below : List Frame) (a : Array Value) (s : State) : State → Prop := fun t => ∃ o, t.status = .running ∧ Ended t below o ∧ lw_Q a s o t
/-- the law's own end, with 1 on the stack, nothing written that was there before, its room as the claim has it -/
theorem lw_ret {p : Program} {l : Launch} {e : Env} {s : State} {m : MethodId} {below : List Frame} {meth : Method} {c : Code} {b : Nat} (hx : p.tables.exec = Jvm.exec) (hb : c.code = code) (hr : meth.sig.returnType = ret) (hlocks : meth.locks = false) {pc : Nat} {H : Heap} {ls : Array Slot} (hdg : decode code pc = .ok (.ireturn, 1)) : W p l e room_1 s m #[Value.ref b] below meth c H [] 600000 7302250 (lw_Z below #[Value.ref b] s) (F0 m pc ls [.int 1]) := by
  intro T hT X
  obtain ⟨fs, hret, hrun, hended, hW, hframe⟩ := X.leave (v := some (.int 1)) (hlocks := hlocks) (fun h => by rw [hr] at h; cases h)
  have hmeth' : T.vm.method? m = some meth := X.method'
  refine ⟨T.setFrames fs, ?_, .returned (some (.int 1)), hrun, hended, rfl, ⟨_, rfl⟩, hW, hframe⟩
  jvm_step X.here [X.here.top, hx, hb, hdg, hmeth', hr, ret, narrow_b1]
  (try refine ⟨rfl, ?_⟩); (try refine ⟨rfl, ?_⟩)
  first | (intro acts; rw [hret _ acts rfl rfl rfl]) | rw [hret _ _ rfl rfl rfl]
  exact Steps.refl _
/-- what holds at the law's entry: the machine, the code, the tables' words (any of lw_tbl by 'hts w (by decide +kernel)'), the script of L ints xs at the cell b, what the Statement gives of the start (any of its parts by flat_of_before) -/
def lw_At (p : Program) (s : State) (m : MethodId) (meth : Method) (c : Code) (b L : Nat) (xs : Nat → Int32) : Prop :=
  p.tables.exec = Jvm.exec ∧ c.code = code ∧ meth.sig.returnType = ret ∧ c.maxLocals = 4 ∧ s.vm.findClass R_law = some m.cls ∧ (∀ w ∈ lw_tbl, w.before #[Value.ref b] s = true) ∧ va_X b L xs s s.heap ∧ b < s.heap.size ∧ meth.locks = false ∧ meth.name = "law" ∧ (Jvm.Cond.and given_1 narrow_1).before #[Value.ref b] s = true
set_option maxHeartbeats 4000000 in
theorem whole_start {p : Program} {e : Env} {s : State} {m : MethodId} {below : List Frame} {meth : Method} {c : Code} (l : Launch) {b L : Nat} {xs : Nat → Int32} (hL : L ≤ 3072) (hW : ∀ (L : Nat) (xs : Nat → Int32), L ≤ 3072 → am_wp (M_L L xs) (fun r _ => r = some (am_i 1)) 0 0 0 [(0, am_s 2)] [] am_0) (C0 : lw_At p s m meth c b L xs) : W p l e room_1 s m #[Value.ref b] below meth c s.heap [] 0 0 (lw_Z below #[Value.ref b] s) (entryFrame m ([Value.ref b] : List Value).toArray 4) := by
  obtain ⟨hx, hb, hr, hml, hown, hts0, hX, hbl, hlocks, hnm, hgv⟩ := C0
  have hts : ∀ w ∈ am_tb, w.before #[Value.ref b] s = true := fun w hw => hts0 w (List.mem_filter.mp hw).1
  have hA : ∀ a : Nat, a < s.heap.size → ¬ s.heap.size ≤ a := fun a h => by omega
  have hnar : narrow_1.before #[Value.ref b] s = true := by rw [Cond.before_and, Bool.and_eq_true] at hgv; exact hgv.2
  obtain ⟨adK, adV, hS1, hev⟩ := am_strs (A := fun q => s.heap.size ≤ q) hnar hA
  obtain ⟨c0, i0, k0⟩ := u_known (C := RX0) (T := TX0) (N := 14) (n := 14) hts am_inX0 (hts _ kt_X0)
  obtain ⟨c1, i1, k1⟩ := u_known (C := RX1) (T := TX1) (N := 11) (n := 11) hts am_inX1 (hts _ kt_X1)
  obtain ⟨c2, i2, k2⟩ := u_known (C := RX2) (T := TX2) (N := 3) (n := 3) hts am_inX2 (hts _ kt_X2)
  obtain ⟨c3, i3, k3⟩ := u_known (C := RX3) (T := TX3) (N := 2) (n := 2) hts am_inX3 (hts _ kt_X3)
  obtain ⟨c4, i4, k4⟩ := u_known (C := RX4) (T := TX4) (N := 13) (n := 13) hts am_inX4 (hts _ kt_X4)
  obtain ⟨c5, i5, k5⟩ := u_known (C := RX5) (T := TX5) (N := 2) (n := 2) hts am_inX5 (hts _ kt_X5)
  obtain ⟨c6, i6, k6⟩ := u_known (C := RX6) (T := TX6) (N := 2) (n := 2) hts am_inX6 (hts _ kt_X6)
  obtain ⟨c7, i7, k7⟩ := u_known (C := RX7) (T := TX7) (N := 3) (n := 3) hts am_inX7 (hts _ kt_X7)
  obtain ⟨c8, i8, k8⟩ := u_known (C := RX8) (T := TX8) (N := 17) (n := 17) hts am_inX8 (hts _ kt_X8)
  obtain ⟨c9, i9, k9⟩ := u_known (C := RX9) (T := TX9) (N := 17) (n := 17) hts am_inX9 (hts _ kt_X9)
  obtain ⟨c10, i10, k10⟩ := u_known (C := RX10) (T := TX10) (N := 108) (n := 108) hts am_inX10 (hts _ kt_X10)
  obtain ⟨dC, dI, hKc⟩ : ∃ (dC : Nat → ClassId) (dI : Nat → Nat → Nat), ∀ (k : Nat) (q : vw_C), vwCl[k]? = some q → u_Kn s q.1 q.2.1 q.2.2 (dC k) (dI k) := by
    refine ⟨fun k => if k = 0 then c0 else if k = 1 then c1 else if k = 2 then c2 else if k = 3 then c3 else if k = 4 then c4 else if k = 5 then c5 else if k = 6 then c6 else if k = 7 then c7 else if k = 8 then c8 else if k = 9 then c9 else c10, fun k => if k = 0 then i0 else if k = 1 then i1 else if k = 2 then i2 else if k = 3 then i3 else if k = 4 then i4 else if k = 5 then i5 else if k = 6 then i6 else if k = 7 then i7 else if k = 8 then i8 else if k = 9 then i9 else i10, ?_⟩
    intro k q hq
    have hk : k < 11 := (List.getElem?_eq_some_iff.mp hq).1
    rcases (show k = 0 ∨ k = 1 ∨ k = 2 ∨ k = 3 ∨ k = 4 ∨ k = 5 ∨ k = 6 ∨ k = 7 ∨ k = 8 ∨ k = 9 ∨ k = 10 by omega) with rfl | rfl | rfl | rfl | rfl | rfl | rfl | rfl | rfl | rfl | rfl
    · cases hq; exact k0
    · cases hq; exact k1
    · cases hq; exact k2
    · cases hq; exact k3
    · cases hq; exact k4
    · cases hq; exact k5
    · cases hq; exact k6
    · cases hq; exact k7
    · cases hq; exact k8
    · cases hq; exact k9
    · cases hq; exact k10
  obtain ⟨aI, aI1, aI2⟩ := am_arrs (Or.inl rfl) (hts _ ka_int)
  obtain ⟨aL, aL1, aL2⟩ := am_arrs (Or.inr (Or.inl rfl)) (hts _ ka_long)
  obtain ⟨aC, aC1, aC2⟩ := am_arrs (Or.inr (Or.inr rfl)) (hts _ ka_char)
  have hAO : (Cond.arrayOver (.object RX1)).before #[Value.ref b] s = true := hts0 _ (List.mem_append_right _ (tw_m2 54 rfl))
  obtain ⟨aQ, aQ1, aQ2⟩ := am_arrq hAO
  have hK : va_K ((dC, dI), aI, aL, aC, aQ).1 vwCl (am_tys ((dC, dI), aI, aL, aC, aQ)) s := by
    refine ⟨hKc, fun k q hq => ?_⟩
    have hk : k < 4 := (List.getElem?_eq_some_iff.mp hq).1
    rcases (show k = 0 ∨ k = 1 ∨ k = 2 ∨ k = 3 by omega) with rfl | rfl | rfl | rfl
    · cases hq; exact ⟨aI1, aI2⟩
    · cases hq; exact ⟨aL1, aL2⟩
    · cases hq; exact ⟨aC1, aC2⟩
    · cases hq; exact ⟨aQ1, aQ2⟩
  have hZq : va_Zq RJ3 "SIOOBE_FORMATTER" "Ljava/util/function/BiFunction;" (fun q => s.heap.size ≤ q) s s.heap := va_Zqof (hts0 _ (List.mem_append_right _ (tw_m3 16 rfl))) (hts _ kn_J3) (flat_of_before narrow_1 hnar _ (List.mem_of_getElem? am_flat3)) hA
  obtain ⟨fo, hfo⟩ : ∃ fo : Nat, va_Z RJ3 "SIOOBE_FORMATTER" "Ljava/util/function/BiFunction;" .null (fun q => s.heap.size ≤ q) s s.heap ∨ va_Z RJ3 "SIOOBE_FORMATTER" "Ljava/util/function/BiFunction;" (.ref fo) (fun q => s.heap.size ≤ q) s s.heap := by
    rcases hZq with h | ⟨t, h⟩
    · exact ⟨0, Or.inl h⟩
    · exact ⟨t, Or.inr h⟩
  have hss : ∀ i, i < 2 → (fun i => if i = 2 then b else if 3 ≤ i ∧ i ≤ 4 then adV (i - 3) else if i = 5 then fo else adK i) i = adK i := fun i hi => by
    show (if i = 2 then b else if 3 ≤ i ∧ i ≤ 4 then adV (i - 3) else if i = 5 then fo else adK i) = adK i
    rw [if_neg (by omega), if_neg (by omega), if_neg (by omega)]
  have hsv : ∀ i, i < 2 → (fun i => if i = 2 then b else if 3 ≤ i ∧ i ≤ 4 then adV (i - 3) else if i = 5 then fo else adK i) (3 + i) = adV i := fun i hi => by
    show (if 3 + i = 2 then b else if 3 ≤ 3 + i ∧ 3 + i ≤ 4 then adV (3 + i - 3) else if 3 + i = 5 then fo else adK (3 + i)) = adV i
    rw [if_neg (by omega), if_pos (by omega), show 3 + i - 3 = i by omega]
  have hJ : am_J s.heap.size (fun i => if i = 2 then b else if 3 ≤ i ∧ i ≤ 4 then adV (i - 3) else if i = 5 then fo else adK i) s s.heap := by
    refine ⟨⟨fun i hi => ?_, fun i j hi hj he => ?_⟩, ?_, ?_, ?_, va_AO.of hAO, hfo⟩
    · show _
      rw [hss i hi, hsv i hi]; exact hS1.1 i hi
    · rw [hss i hi, hss j hj] at he; exact hS1.2 i j hi hj he
    · exact vk_R.of (hts0 _ (List.mem_append_right _ (tw_m2 238 rfl))) (hev 0 (by omega))
    · exact vk_R.of (hts0 _ (List.mem_append_right _ (tw_m3 51 rfl))) (hev 1 (by omega))
    · exact va_Zof (hts0 _ (List.mem_append_right _ (tw_m3 8 rfl))) (hts _ kn_J0) (va_eqt (flat_of_before narrow_1 hnar _ (List.mem_of_getElem? am_flat.2.2.1))) hA
  have hhp : am_hp s.heap.size ((dC, dI), aI, aL, aC, aQ) (fun _ => 0) am_0 s.heap := by
    refine ⟨fun k q h => by simp [am_ws, am_0] at h, ⟨fun i j p q h => by simp [am_ws, am_0] at h, fun k q h => by simp [am_ws, am_0] at h⟩, fun a j q h => by simp [am_0] at h, fun a j b h => by simp [am_0] at h, fun a q h => by simp [am_0] at h⟩
  have hl := lv_entry ([.ref b]) (n := 4) (Nat.le_of_ble_eq_true rfl)
  rw [lg_entry_eq]
  have hw := hW L xs hL p l e s m #[Value.ref b] below meth c s.heap.size ((dC, dI), aI, aL, aC, aQ) (fun i => if i = 2 then b else if 3 ≤ i ∧ i ≤ 4 then adV (i - 3) else if i = 5 then fo else adK i) 0 (fun _ => 0) ⟨hx, hb, hr, hml, hown, hts, hlocks, hnm, hK, hJ, Nat.le_refl _, hX, hbl, rfl⟩ (fun _ => 0) s.heap [] _ (fun _ _ => rfl) (Nat.le_refl _) hhp va_S.rf hl (fun q hq => by simp at hq; rw [hq]; trivial) (fun v hv => by cases hv)
  intro T hT X
  obtain ⟨t, a1, o, b1, b2, ⟨⟨r, σ', ρ', e1, -, -, -, e2, -⟩, -⟩, Ls, hF, hLs⟩ := hw T hT X
  refine ⟨t, a1, o, b1, b2, ?_, hF.1, hF.2.1, am_noLocs hF.2.2 hLs⟩
  rw [e1, e2]; rfl
