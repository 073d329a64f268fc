theorem am_pay {args : Array Value} {s : State} (hts : ∀ w ∈ am_tb, w.before args s = true) : ∀ w ∈ am_tb, ∀ (a' : Array Value) (U : State), s.WarmedH U.vm → w.before a' U = true := by
  intro w hw a' U hW
  have hg : am_good w = true := (List.mem_filter.mp hw).2
  have h0 := hts w hw
  unfold am_good at hg
  split at hg
  · exact va_tabs rfl (rfl : (s.setVm U.vm).vm = U.vm) (Cond.fieldLinkNest_warmed (args := args) hW h0)
  · exact va_tabs rfl (rfl : (s.setVm U.vm).vm = U.vm) (Cond.methodLinkNest_warmed (args := args) hW h0)
  · exact word_at hW (good_of_word hg) h0
theorem am_J.calling {base : Nat} {ss : Nat → Nat} {U : State} {g : JFrame} {mk : MethodId} {a : Array Value} (h : am_J base ss U U.heap) : am_J base ss (U.calling g mk a) (U.calling g mk a).heap := by
  obtain ⟨h1, h2, h3, h4, h5, h6⟩ := h
  exact ⟨h1.moved (U := U.calling g mk a) (Vm.Alike.refl U.vm), h2.same rfl, h3.same rfl, h4.moved (U := U.calling g mk a) (Vm.Alike.refl U.vm), h5.moved (U := U.calling g mk a) (Vm.Alike.refl U.vm), h6.imp (fun h => h.moved (U := U.calling g mk a) (Vm.Alike.refl U.vm)) (fun h => h.moved (U := U.calling g mk a) (Vm.Alike.refl U.vm))⟩
theorem am_cvx {ρ ρ' ss : Nat → Nat} {n : Nat} (h : ∀ k, k < n → ρ' k = ρ k) {v : am_V} (hv : am_ok n v) : am_cv ρ' ss v = am_cv ρ ss v := by
  rcases v with x | x | (_ | a) | i
  · rfl
  · rfl
  · rfl
  · show va_rf ((some a).map ρ') = va_rf ((some a).map ρ)
    rw [Option.map_some, Option.map_some, h a (hv a rfl)]
  · rfl
theorem am_okx {n n' : Nat} (h : n ≤ n') {v : am_V} (hv : am_ok n v) : am_ok n' v := by
  rcases v with x | x | r | i
  · exact hv
  · exact hv
  · exact fun a ha => Nat.lt_of_lt_of_le (hv a ha) h
  · trivial
theorem am_lvx {ρ ρ' ss : Nat → Nat} {n : Nat} (h : ∀ k, k < n → ρ' k = ρ k) {ls : am_Ls} (hv : ∀ q ∈ ls, am_ok n q.2) : am_lv ρ' ss ls = am_lv ρ ss ls := List.map_congr_left (fun q hq => by rw [am_cvx h (hv q hq)])
theorem am_stx {ρ ρ' ss : Nat → Nat} {n : Nat} (h : ∀ k, k < n → ρ' k = ρ k) {st : List am_V} (hv : ∀ v ∈ st, am_ok n v) : st.map (am_cv ρ' ss) = st.map (am_cv ρ ss) := List.map_congr_left (fun q hq => am_cvx h (hv q hq))
section AMC
variable {p : Program} {l : Launch} {e : Env} {R : Room} {s : State} {m : MethodId} {args : Array Value} {below : List Frame} {meth : Method} {c : Code} {H : Heap} {locs : List Loc} {cells slots mc ms : Nat} {Q0 : State → Prop}
theorem am_after {base n pc : Nat} {D : am_D} {ρ ss : Nat → Nat} {Q2 : Option am_V → am_H → Prop} {a : Array Value} {lsA : Array Slot} {st0 rest : List Value} (hr : va_Run p l e R s m args below meth c H locs cells slots mc ms (F0 m pc lsA st0) rest (am_Qc base D ρ ss n Q2 a) (fun q => base ≤ q)) (hS : va_S (fun q => base ≤ q) s.heap H locs)
    (kk : ∀ (r : Option am_V) (σ' : am_H) (ρ' : Nat → Nat) (H1 : Heap) (locs1 : List Loc), (∀ k, k < n → ρ' k = ρ k) → n ≤ σ'.1.length → (∀ v, r = some v → am_ok σ'.1.length v) → Q2 r σ' → am_hp base D ρ' σ' H1 → va_S (fun q => base ≤ q) s.heap H1 locs1 → W p l e R s m args below meth c H1 locs1 (cells + mc) (slots + ms) Q0 (F0 m (pc + 3) lsA ((r.map (am_cv ρ' ss)).toList ++ rest))) :
    W p l e R s m args below meth c H locs cells slots Q0 (F0 m pc lsA st0) := by
  intro T hT X
  obtain ⟨v, st₀, t, T', L, h0, X', hL, e1, e2, ⟨⟨r, σ', ρ', hv, a1, a2, a3, a4, a5, -, -⟩, hz, hk⟩, st⟩ := hr T hT X
  cases hv
  rw [h0] at hz hk
  obtain ⟨t2, b1, b2⟩ := kk r σ' ρ' T'.heap (locs ++ L) a1 a2 a3 a4 (by rw [e1]; exact a5)
    ⟨Nat.le_trans hS.1 (by rw [e1]; exact hz), fun q h1 h2 => by rw [e1, hk q (Nat.lt_of_lt_of_le h1 hS.1) h2]; exact hS.2.1 q h1 h2, fun q hq => by
      rcases List.mem_append.mp hq with h | h
      · exact hS.2.2 q h
      · exact hL q h⟩ T' rfl X'
  exact ⟨t2, st t2 b1, b2⟩
end AMC
theorem am_args_lv (ρ ss : Nat → Nat) : ∀ (As : List am_V) (i : Nat), lv_args i (As.map (am_cv ρ ss)) = am_lv ρ ss (am_args i As)
  | [], _ => rfl
  | v :: vs, i => by
    simp only [List.map_cons, lv_args, am_args, am_lv, am_cv_cat]
    congr 1
    rw [show (if am_cat v = 2 then i + 2 else i + 1) = i + am_cat v by rcases v with x | x | r | k <;> simp [am_cat]]
    exact am_args_lv ρ ss vs (i + am_cat v)
theorem am_args_len (ρ ss : Nat → Nat) : ∀ (As : List am_V), (lg_sl (As.map (am_cv ρ ss))).length = (As.map am_cat).sum
  | [] => rfl
  | v :: vs => by
    have ih := am_args_len ρ ss vs
    simp only [lg_sl, List.map_cons, List.flatMap_cons, List.length_append, List.sum_cons] at ih ⊢
    rw [ih, am_cv_cat]
    rcases v with x | x | r | k <;> simp [am_cat]
theorem am_args_ok {n : Nat} : ∀ {As : List am_V} {i : Nat}, (∀ v ∈ As, am_ok n v) → ∀ q ∈ am_args i As, am_ok n q.2
  | [], _, _, q, hq => by simp [am_args] at hq
  | v :: vs, i, h, q, hq => by
    rcases List.mem_cons.mp hq with rfl | hq
    · exact h v List.mem_cons_self
    · exact am_args_ok (fun w hw => h w (List.mem_cons_of_mem _ hw)) q hq
section AME
variable {me me2 : am_M} {Q Q2 : Option am_V → am_H → Prop} {cells slots pc q : Nat} {ls : am_Ls} {st rest As : List am_V} {σ : am_H}
/-- the entry -/
theorem am_enter (hy : plainFor me.2.1 = true) (ho : me.2.1.cls = me.1) (hn : (As.map am_cat).sum ≤ me.2.2.2.1) (hφ : ∀ base ss U, me.2.2.2.2.2.2 base ss U) (k : am_wp me Q 0 0 0 (am_args 0 As) [] σ) : am_met me As σ Q := by
  intro l base D ρ ss
  refine va_MetF (cc := me.2.2.1) (maxL := me.2.2.2.1) (ret := me.2.2.2.2.1) hy rfl ?_
  intro p e s m args below meth c s₁ B hml hv
  obtain ⟨rfl, hhp, hK, hJ, hb, hok⟩ := hv
  have hts := atoms_spec (ws := Cond.code me.2.1 me.2.2.1 me.2.2.2.1 me.2.2.2.2.1 :: am_tb) B.pre
  have hown : s.vm.findClass me.1 = some m.cls := by rw [← ho]; exact findClass_of_methodNamed B.named
  have hname := (name_of_methodNamed B.named B.method).1
  have hl := lv_entry (As.map (am_cv ρ ss)) (n := me.2.2.2.1) (by rw [am_args_len]; exact hn)
  rw [lg_entry_eq]
  rw [am_args_lv] at hl
  exact k p l e s m _ below meth c base D ss σ.1.length ρ ⟨B.exec, B.bytes, B.returns, hml, hown, fun w hw => hts w (List.mem_cons_of_mem _ hw), B.notSynchronized, hname, hK, hJ, hb, hφ _ _ _⟩ ρ s.heap [] _ (fun _ _ => rfl) (Nat.le_refl _) hhp va_S.rf hl (am_args_ok hok) (fun v hv => by cases hv)
/-- the ends -/
theorem am_iret {x : Int} (hret : me.2.2.2.2.1 = some .int ∨ (me.2.2.2.2.1 = some .boolean ∧ (x = 0 ∨ x = 1))) (hc : cells ≤ me.2.2.2.2.2.1.cells) (hs : slots ≤ me.2.2.2.2.2.1.slots) (hd : decode me.2.2.1 pc = .ok (.ireturn, 1)) (hQ : Q (some (am_i x)) σ) : am_wp me Q cells slots pc ls [am_i x] σ := by
  intro p l e s m args below meth c base D ss n0 ρ0 C ρ H locs lsA h1 h2 h3 h4 h5 h6 h7
  refine W.widen hc hs ?_
  have hx := h7 _ List.mem_cons_self
  have hq : ∀ t : State, t.heap = H → s.WarmedH t.vm → am_Qc base D ρ0 ss n0 Q args s (.returned (some (.int (Int32.ofInt x)))) t := fun t ht hW => ⟨⟨some (am_i x), σ, ρ, rfl, h1, h2, fun v hv => by cases hv; exact hx, hQ, by rw [ht]; exact h3, va_K.moved hW.alike C.2.2.2.2.2.2.2.2.1, by rw [ht]; exact C.2.2.2.2.2.2.2.2.2.1.next h4 hW⟩, h4.F ht⟩
  rcases hret with hret | ⟨hret, hx2⟩
  · exact W.zret (ty := .int) C.1 C.2.1 (by rw [C.2.2.1]; exact hret) rfl hq h4.2.2 hd C.2.2.2.2.2.2.1
  · exact W.zret (ty := .boolean) C.1 C.2.1 (by rw [C.2.2.1]; exact hret) (by rcases hx2 with rfl | rfl <;> rfl) hq h4.2.2 hd C.2.2.2.2.2.2.1
theorem am_lret {x : Int} (hret : me.2.2.2.2.1 = some .long) (hc : cells ≤ me.2.2.2.2.2.1.cells) (hs : slots ≤ me.2.2.2.2.2.1.slots) (hd : decode me.2.2.1 pc = .ok (.lreturn, 1)) (hQ : Q (some (am_l x)) σ) : am_wp me Q cells slots pc ls [am_l x] σ := by
  intro p l e s m args below meth c base D ss n0 ρ0 C ρ H locs lsA h1 h2 h3 h4 h5 h6 h7
  refine W.widen hc hs ?_
  have hx := h7 _ List.mem_cons_self
  exact W.lret C.1 C.2.1 (by rw [C.2.2.1]; exact hret) (fun t ht hW => ⟨⟨some (am_l x), σ, ρ, rfl, h1, h2, fun v hv => by cases hv; exact hx, hQ, by rw [ht]; exact h3, va_K.moved hW.alike C.2.2.2.2.2.2.2.2.1, by rw [ht]; exact C.2.2.2.2.2.2.2.2.2.1.next h4 hW⟩, h4.F ht⟩) h4.2.2 hd C.2.2.2.2.2.2.1
theorem am_vret (hret : me.2.2.2.2.1 = none) (hc : cells ≤ me.2.2.2.2.2.1.cells) (hs : slots ≤ me.2.2.2.2.2.1.slots) (hd : decode me.2.2.1 pc = .ok (.return_, 1)) (hQ : Q none σ) : am_wp me Q cells slots pc ls [] σ := by
  intro p l e s m args below meth c base D ss n0 ρ0 C ρ H locs lsA h1 h2 h3 h4 h5 h6 h7
  refine W.widen hc hs ?_
  exact W.vret C.1 C.2.1 (by rw [C.2.2.1]; exact hret) (fun t ht hW => ⟨⟨none, σ, ρ, rfl, h1, h2, (fun v hv => nomatch hv), hQ, by rw [ht]; exact h3, va_K.moved hW.alike C.2.2.2.2.2.2.2.2.1, by rw [ht]; exact C.2.2.2.2.2.2.2.2.2.1.next h4 hW⟩, h4.F ht⟩) h4.2.2 hd C.2.2.2.2.2.2.1
theorem am_aret {r : Option Nat} (hret : ∃ n, me.2.2.2.2.1 = some (.object n)) (hc : cells ≤ me.2.2.2.2.2.1.cells) (hs : slots ≤ me.2.2.2.2.2.1.slots) (hd : decode me.2.2.1 pc = .ok (.areturn, 1)) (hQ : Q (some (am_o r)) σ) : am_wp me Q cells slots pc ls [am_o r] σ := by
  intro p l e s m args below meth c base D ss n0 ρ0 C ρ H locs lsA h1 h2 h3 h4 h5 h6 h7
  refine W.widen hc hs ?_
  have hx := h7 _ List.mem_cons_self
  obtain ⟨n, hret⟩ := hret
  exact W.aret (v := va_rf (r.map ρ)) (rt := .object n) C.1 C.2.1 (by rw [C.2.2.1]; exact hret) (Or.inl ⟨n, rfl⟩) (by rcases r with _ | a; exact Or.inl rfl; exact Or.inr ⟨_, rfl⟩) (fun t ht hW => ⟨⟨some (am_o r), σ, ρ, rfl, h1, h2, fun v hv => by cases hv; exact hx, hQ, by rw [ht]; exact h3, va_K.moved hW.alike C.2.2.2.2.2.2.2.2.1, by rw [ht]; exact C.2.2.2.2.2.2.2.2.2.1.next h4 hW⟩, h4.F ht⟩) h4.2.2 hd C.2.2.2.2.2.2.1
/-- the words and the room of a call -/
def am_cw (me me2 : am_M) (idx n cells slots : Nat) (rest : List am_V) : Prop :=
  (Cond.methodLink me.1 idx me2.2.1 ∈ am_tb ∨ Cond.methodLinkNest me.1 idx me2.2.1 RX9 ∈ am_tb) ∧ Cond.code me2.2.1 me2.2.2.1 me2.2.2.2.1 me2.2.2.2.2.1 ∈ am_tb ∧ Cond.initialized me2.2.1.cls ∈ am_tb ∧ (me2.2.1.cls ≠ "java/lang/invoke/MethodHandle" ∧ me2.2.1.cls ≠ "java/lang/invoke/VarHandle" ∧ (parseMethodDescriptor me2.2.1.desc).map (fun d => d.parameters.length) = some n) ∧
  (me2.2.2.2.2.2.1.frames + 1 ≤ me.2.2.2.2.2.1.frames ∧ 8 + (me2.2.2.2.1 + 11) + me2.2.2.2.2.2.1.locals ≤ me.2.2.2.2.2.1.locals) ∧ (cells + me2.2.2.2.2.2.1.cells ≤ me.2.2.2.2.2.1.cells ∧ slots + me2.2.2.2.2.2.1.slots ≤ me.2.2.2.2.2.1.slots) ∧ (rest.map am_cat).sum ≤ 8
theorem am_catsum (ρ ss : Nat → Nat) (rest : List am_V) : ((rest.map (am_cv ρ ss)).map fun v => v.category).sum = (rest.map am_cat).sum := by
  rw [List.map_map]
  congr 1
  exact List.map_congr_left (fun v _ => am_cv_cat ρ ss v)
theorem am_pcall {base : Nat} {D : am_D} {ρ ss : Nat → Nat} : FrameBlind (va_Pc (As.map (am_cv ρ ss)) (fun U => am_hp base D ρ σ U.heap ∧ va_K D.1 vwCl (am_tys D) U ∧ am_J base ss U U.heap ∧ base ≤ U.heap.size ∧ ∀ v ∈ As, am_ok σ.1.length v)) := fun a U g mk q => by
  obtain ⟨q0, q1, q2, q3, q4, q5⟩ := q
  exact ⟨q0, q1, va_K.moved (u := U) (U := U.calling g mk a) (Vm.Alike.refl U.vm) q2, q3.calling, q4, q5⟩
theorem am_ctw {s : State} {args : Array Value} {me me2 : am_M} {idx n : Nat} (hts : ∀ w ∈ am_tb, w.before args s = true) (h1 : Cond.methodLink me.1 idx me2.2.1 ∈ am_tb) (h2 : Cond.code me2.2.1 me2.2.2.1 me2.2.2.2.1 me2.2.2.2.2.1 ∈ am_tb) (h3 : Cond.initialized me2.2.1.cls ∈ am_tb) (h4 : me2.2.1.cls ≠ "java/lang/invoke/MethodHandle" ∧ me2.2.1.cls ≠ "java/lang/invoke/VarHandle" ∧ (parseMethodDescriptor me2.2.1.desc).map (fun d => d.parameters.length) = some n) (h5 : me2.2.2.2.2.2.1.frames + 1 ≤ me.2.2.2.2.2.1.frames ∧ 8 + (me2.2.2.2.1 + 11) + me2.2.2.2.2.2.1.locals ≤ me.2.2.2.2.2.1.locals) :
    CallB me.2.2.2.2.2.1 s args me.1 idx me2.2.1 me2.2.2.1 me2.2.2.2.1 me2.2.2.2.2.1 (Cond.code me2.2.1 me2.2.2.1 me2.2.2.2.1 me2.2.2.2.2.1 :: am_tb) me2.2.2.2.2.2.1 me2.2.2.2.2.2.1.cells me2.2.2.2.2.2.1.slots n := by
  refine ⟨rfl, rfl, h5.1, h5.2, fun w hw a' U hW => ?_, List.mem_cons_self, hts _ h2, hts _ h3, ⟨h4.1, h4.2.1⟩, fun sig h => ?_, hts _ h1⟩
  · rcases List.mem_cons.mp hw with rfl | hw
    · exact am_pay hts _ h2 a' U hW
    · exact am_pay hts w hw a' U hW
  · have h6 := h4.2.2
    rw [h] at h6
    exact (Option.some.inj h6).symm
theorem am_ctn {s : State} {args : Array Value} {me me2 : am_M} {idx n : Nat} (hts : ∀ w ∈ am_tb, w.before args s = true) (h1 : Cond.methodLinkNest me.1 idx me2.2.1 RX9 ∈ am_tb) (h2 : Cond.code me2.2.1 me2.2.2.1 me2.2.2.2.1 me2.2.2.2.2.1 ∈ am_tb) (h3 : Cond.initialized me2.2.1.cls ∈ am_tb) (h4 : me2.2.1.cls ≠ "java/lang/invoke/MethodHandle" ∧ me2.2.1.cls ≠ "java/lang/invoke/VarHandle" ∧ (parseMethodDescriptor me2.2.1.desc).map (fun d => d.parameters.length) = some n) (h5 : me2.2.2.2.2.2.1.frames + 1 ≤ me.2.2.2.2.2.1.frames ∧ 8 + (me2.2.2.2.1 + 11) + me2.2.2.2.2.2.1.locals ≤ me.2.2.2.2.2.1.locals) :
    va_CN me.2.2.2.2.2.1 s args me.1 idx me2.2.1 RX9 me2.2.2.1 me2.2.2.2.1 me2.2.2.2.2.1 (Cond.code me2.2.1 me2.2.2.1 me2.2.2.2.1 me2.2.2.2.2.1 :: am_tb) me2.2.2.2.2.2.1 me2.2.2.2.2.2.1.cells me2.2.2.2.2.2.1.slots n := by
  refine ⟨⟨rfl, rfl, h5.1, h5.2, fun w hw a' U hW => ?_, List.mem_cons_self⟩, hts _ h2, hts _ h3, ⟨h4.1, h4.2.1⟩, fun sig h => ?_, hts _ h1⟩
  · rcases List.mem_cons.mp hw with rfl | hw
    · exact am_pay hts _ h2 a' U hW
    · exact am_pay hts w hw a' U hW
  · have h6 := h4.2.2
    rw [h] at h6
    exact (Option.some.inj h6).symm
theorem am_next {p : Program} {l : Launch} {e : Env} {s : State} {m : MethodId} {args : Array Value} {below : List Frame} {meth : Method} {c : Code} {base : Nat} {D : am_D} {ss : Nat → Nat} {n0 : Nat} {ρ0 : Nat → Nat} (C : am_cx me p s m args meth c base D ss) {ρ : Nat → Nat} {lsA : Array Slot} (h1 : ∀ k, k < n0 → ρ k = ρ0 k) (h2 : n0 ≤ σ.1.length) (h5 : lv_has lsA me.2.2.2.1 (am_lv ρ ss ls)) (h6 : ∀ q ∈ ls, am_ok σ.1.length q.2) (h9 : ∀ v ∈ rest, am_ok σ.1.length v) (mc ms : Nat)
    (kk : ∀ r σ', Q2 r σ' → am_wp me Q (cells + mc) (slots + ms) (pc + 3) ls (r.toList ++ rest) σ') : ∀ (r : Option am_V) (σ' : am_H) (ρ' : Nat → Nat) (H1 : Heap) (locs1 : List Loc), (∀ k, k < σ.1.length → ρ' k = ρ k) → σ.1.length ≤ σ'.1.length → (∀ v, r = some v → am_ok σ'.1.length v) → Q2 r σ' → am_hp base D ρ' σ' H1 → va_S (fun q => base ≤ q) s.heap H1 locs1 → W p l e me.2.2.2.2.2.1 s m args below meth c H1 locs1 (cells + mc) (slots + ms) (MQ below (am_Qc base D ρ0 ss n0 Q) args s me.2.2.2.2.2.1.cells me.2.2.2.2.2.1.slots (fun q => base ≤ q)) (F0 m (pc + 3) lsA ((r.map (am_cv ρ' ss)).toList ++ rest.map (am_cv ρ ss))) := by
  intro r σ' ρ' H1 locs1 a1 a2 a3 a4 a5 a6
  have hk := kk r σ' a4 p l e s m args below meth c base D ss n0 ρ0 C ρ' H1 locs1 lsA (fun k hk => by rw [a1 k (Nat.lt_of_lt_of_le hk h2), h1 k hk]) (Nat.le_trans h2 a2) a5 a6 (by rw [am_lvx a1 h6]; exact h5) (fun q hq => am_okx a2 (h6 q hq)) (fun v hv => by
    rcases List.mem_append.mp hv with h | h
    · rcases r with _ | w
      · cases h
      · rcases List.mem_cons.mp h with rfl | h
        · exact a3 _ rfl
        · cases h
    · exact am_okx a2 (h9 v h))
  rw [← am_stx (ss := ss) a1 h9]
  rcases r with _ | w
  · exact hk
  · exact hk
/-- calls -/
theorem am_callV {b kb nb idx : Nat} (hM : am_met me2 (am_r b :: As) σ Q2) (hb : σ.1[b]? = some (kb, nb)) (hk : kb < 11) (hw : am_cw me me2 idx As.length cells slots rest) (hi : Cond.instanceMethod me2.2.1 ∈ am_tb) (hse : Cond.selects (am_cl kb).1 me2.2.1 me2.2.1 ∈ am_tb) (hst : st = As.reverse ++ am_r b :: rest) (hd : decode me.2.2.1 pc = .ok (.invokevirtual idx, 3)) (hq : pc + 3 = q)
    (kk : ∀ r σ', Q2 r σ' → am_wp me Q (cells + me2.2.2.2.2.2.1.cells) (slots + me2.2.2.2.2.2.1.slots) q ls (r.toList ++ rest) σ') : am_wp me Q cells slots pc ls st σ := by
  intro p l e s m args below meth c base D ss n0 ρ0 C ρ H locs lsA h1 h2 h3 h4 h5 h6 h7
  subst hq; subst hst
  obtain ⟨hl, hc, hin, hdsc, hrm, hcs, hcat⟩ := hw
  have he : (am_ws D ρ σ)[b]? = some (ρ b, .inr (kb, (List.range nb).map (am_fv ρ σ kb b))) := by rw [am_ws_at, hb, Option.map_some, am_objcell hk]
  have hAs : ∀ v ∈ am_r b :: As, am_ok σ.1.length v := fun v hv => by
    rcases List.mem_cons.mp hv with rfl | hv
    · exact h7 _ (List.mem_append_right _ List.mem_cons_self)
    · exact h7 _ (List.mem_append_left _ (List.mem_reverse.mpr hv))
  have hre : ∀ v ∈ rest, am_ok σ.1.length v := fun v hv => h7 _ (List.mem_append_right _ (List.mem_cons_of_mem _ hv))
  have hpre : PreV s H (am_cl kb).1 (ρ b) (va_Pc ((am_r b :: As).map (am_cv ρ ss)) (fun U => am_hp base D ρ σ U.heap ∧ va_K D.1 vwCl (am_tys D) U ∧ am_J base ss U U.heap ∧ base ≤ U.heap.size ∧ ∀ v ∈ am_r b :: As, am_ok σ.1.length v)) (As.map (am_cv ρ ss)) :=
    ⟨am_pcall, va_recv C.2.2.2.2.2.2.2.2.1 h3.1 (am_cl_at hk) he, fun U hU hW => ⟨rfl, by rw [hU]; exact h3, va_K.moved hW.alike C.2.2.2.2.2.2.2.2.1, by rw [hU]; exact C.2.2.2.2.2.2.2.2.2.1.next h4 hW, by rw [hU]; exact Nat.le_trans C.2.2.2.2.2.2.2.2.2.2.1 h4.1, hAs⟩⟩
  have hstk : (As.reverse ++ am_r b :: rest).map (am_cv ρ ss) = (As.map (am_cv ρ ss)).reverse ++ .ref (ρ b) :: rest.map (am_cv ρ ss) := by simp [am_cv, va_rf]
  rw [hstk]
  have hn : (As.map (am_cv ρ ss)).length = As.length := by simp
  have hcat2 : 2 * (F0 m pc lsA ((As.map (am_cv ρ ss)).reverse ++ .ref (ρ b) :: rest.map (am_cv ρ ss))).monitorRoom + ((rest.map (am_cv ρ ss)).map fun v => v.category).sum ≤ 8 := by
    rw [am_catsum]
    simpa [JFrame.monitorRoom] using hcat
  rcases hl with hl | hl
  · exact am_after (va_runV ⟨C.1, C.2.1, C.2.2.2.1, C.2.2.2.2.1, C.2.2.2.2.2.1⟩ (hM l base D ρ ss) ⟨am_ctw C.2.2.2.2.2.1 hl hc hin hdsc hrm, C.2.2.2.2.2.1 _ hi, C.2.2.2.2.2.1 _ hse⟩ hpre rfl hn h5.1 rfl hcat2 hd hcs) h4 (am_next C h1 h2 h5 h6 hre _ _ kk)
  · exact am_after (va_runVN ⟨C.1, C.2.1, C.2.2.2.1, C.2.2.2.2.1, C.2.2.2.2.2.1⟩ (hM l base D ρ ss) ⟨am_ctn C.2.2.2.2.2.1 hl hc hin hdsc hrm, C.2.2.2.2.2.1 _ hi, C.2.2.2.2.2.1 _ hse⟩ hpre rfl hn h5.1 rfl hcat2 hd hcs) h4 (am_next C h1 h2 h5 h6 hre _ _ kk)
theorem am_callS {idx : Nat} (hM : am_met me2 As σ Q2) (hw : am_cw me me2 idx As.length cells slots rest) (hi : Cond.static me2.2.1 ∈ am_tb) (hst : st = As.reverse ++ rest) (hd : decode me.2.2.1 pc = .ok (.invokestatic idx, 3)) (hq : pc + 3 = q)
    (kk : ∀ r σ', Q2 r σ' → am_wp me Q (cells + me2.2.2.2.2.2.1.cells) (slots + me2.2.2.2.2.2.1.slots) q ls (r.toList ++ rest) σ') : am_wp me Q cells slots pc ls st σ := by
  intro p l e s m args below meth c base D ss n0 ρ0 C ρ H locs lsA h1 h2 h3 h4 h5 h6 h7
  subst hq; subst hst
  obtain ⟨hl, hc, hin, hdsc, hrm, hcs, hcat⟩ := hw
  have hAs : ∀ v ∈ As, am_ok σ.1.length v := fun v hv => h7 _ (List.mem_append_left _ (List.mem_reverse.mpr hv))
  have hre : ∀ v ∈ rest, am_ok σ.1.length v := fun v hv => h7 _ (List.mem_append_right _ hv)
  have hpre : PreS s H (va_Pc (As.map (am_cv ρ ss)) (fun U => am_hp base D ρ σ U.heap ∧ va_K D.1 vwCl (am_tys D) U ∧ am_J base ss U U.heap ∧ base ≤ U.heap.size ∧ ∀ v ∈ As, am_ok σ.1.length v)) (As.map (am_cv ρ ss)) :=
    ⟨am_pcall, fun U hU hW => ⟨rfl, by rw [hU]; exact h3, va_K.moved hW.alike C.2.2.2.2.2.2.2.2.1, by rw [hU]; exact C.2.2.2.2.2.2.2.2.2.1.next h4 hW, by rw [hU]; exact Nat.le_trans C.2.2.2.2.2.2.2.2.2.2.1 h4.1, hAs⟩⟩
  have hstk : (As.reverse ++ rest).map (am_cv ρ ss) = (As.map (am_cv ρ ss)).reverse ++ rest.map (am_cv ρ ss) := by simp
  rw [hstk]
  have hn : (As.map (am_cv ρ ss)).length = As.length := by simp
  have hcat2 : 2 * (F0 m pc lsA ((As.map (am_cv ρ ss)).reverse ++ rest.map (am_cv ρ ss))).monitorRoom + ((rest.map (am_cv ρ ss)).map fun v => v.category).sum ≤ 8 := by
    rw [am_catsum]
    simpa [JFrame.monitorRoom] using hcat
  rcases hl with hl | hl
  · exact am_after (va_runS ⟨C.1, C.2.1, C.2.2.2.1, C.2.2.2.2.1, C.2.2.2.2.2.1⟩ (hM l base D ρ ss) ⟨am_ctw C.2.2.2.2.2.1 hl hc hin hdsc hrm, C.2.2.2.2.2.1 _ hi⟩ hpre rfl hn h5.1 rfl hcat2 hd hcs) h4 (am_next C h1 h2 h5 h6 hre _ _ kk)
  · exact am_after (va_runSN ⟨C.1, C.2.1, C.2.2.2.1, C.2.2.2.2.1, C.2.2.2.2.2.1⟩ (hM l base D ρ ss) ⟨am_ctn C.2.2.2.2.2.1 hl hc hin hdsc hrm, C.2.2.2.2.2.1 _ hi, trivial⟩ hpre rfl hn h5.1 rfl hcat2 hd hcs) h4 (am_next C h1 h2 h5 h6 hre _ _ kk)
theorem am_callI {b idx : Nat} (hM : am_met me2 (am_r b :: As) σ Q2) (hrt : me2.2.2.2.2.1 = none) (hnm : me2.2.1.name = "<init>") (hw : am_cw me me2 idx As.length cells slots rest) (hi : Cond.instanceMethod me2.2.1 ∈ am_tb) (hst : st = As.reverse ++ am_r b :: rest) (hd : decode me.2.2.1 pc = .ok (.invokespecial idx, 3)) (hq : pc + 3 = q)
    (kk : ∀ r σ', Q2 r σ' → am_wp me Q (cells + me2.2.2.2.2.2.1.cells) (slots + me2.2.2.2.2.2.1.slots) q ls (r.toList ++ rest) σ') : am_wp me Q cells slots pc ls st σ := by
  intro p l e s m args below meth c base D ss n0 ρ0 C ρ H locs lsA h1 h2 h3 h4 h5 h6 h7
  subst hq; subst hst
  obtain ⟨hl, hc, hin, hdsc, hrm, hcs, hcat⟩ := hw
  have hAs : ∀ v ∈ am_r b :: As, am_ok σ.1.length v := fun v hv => by
    rcases List.mem_cons.mp hv with rfl | hv
    · exact h7 _ (List.mem_append_right _ List.mem_cons_self)
    · exact h7 _ (List.mem_append_left _ (List.mem_reverse.mpr hv))
  have hre : ∀ v ∈ rest, am_ok σ.1.length v := fun v hv => h7 _ (List.mem_append_right _ (List.mem_cons_of_mem _ hv))
  have hpre : PreS s H (va_Pc ((am_r b :: As).map (am_cv ρ ss)) (fun U => am_hp base D ρ σ U.heap ∧ va_K D.1 vwCl (am_tys D) U ∧ am_J base ss U U.heap ∧ base ≤ U.heap.size ∧ ∀ v ∈ am_r b :: As, am_ok σ.1.length v)) (.ref (ρ b) :: As.map (am_cv ρ ss)) :=
    ⟨am_pcall, fun U hU hW => ⟨rfl, by rw [hU]; exact h3, va_K.moved hW.alike C.2.2.2.2.2.2.2.2.1, by rw [hU]; exact C.2.2.2.2.2.2.2.2.2.1.next h4 hW, by rw [hU]; exact Nat.le_trans C.2.2.2.2.2.2.2.2.2.2.1 h4.1, hAs⟩⟩
  have hstk : (As.reverse ++ am_r b :: rest).map (am_cv ρ ss) = (As.map (am_cv ρ ss)).reverse ++ .ref (ρ b) :: rest.map (am_cv ρ ss) := by simp [am_cv, va_rf]
  rw [hstk]
  have hn : (As.map (am_cv ρ ss)).length = As.length := by simp
  have hcat2 : 2 * (F0 m pc lsA ((As.map (am_cv ρ ss)).reverse ++ .ref (ρ b) :: rest.map (am_cv ρ ss))).monitorRoom + ((rest.map (am_cv ρ ss)).map fun v => v.category).sum ≤ 8 := by
    rw [am_catsum]
    simpa [JFrame.monitorRoom] using hcat
  rcases hl with hl | hl
  · have hB := am_ctw (s := s) C.2.2.2.2.2.1 hl hc hin hdsc hrm
    have hMM := hM l base D ρ ss
    rw [hrt] at hB hMM
    exact am_after (va_runI ⟨C.1, C.2.1, C.2.2.2.1, C.2.2.2.2.1, C.2.2.2.2.2.1⟩ hMM ⟨hB, hnm, C.2.2.2.2.2.1 _ hi⟩ hpre rfl hn h5.1 rfl hcat2 hd hcs) h4 (am_next C h1 h2 h5 h6 hre _ _ kk)
  · have hB := am_ctn (s := s) C.2.2.2.2.2.1 hl hc hin hdsc hrm
    have hMM := hM l base D ρ ss
    rw [hrt] at hB hMM
    exact am_after (va_runIN ⟨C.1, C.2.1, C.2.2.2.1, C.2.2.2.2.1, C.2.2.2.2.2.1⟩ hMM ⟨hB, hnm, C.2.2.2.2.2.1 _ hi⟩ hpre rfl hn h5.1 rfl hcat2 hd hcs) h4 (am_next C h1 h2 h5 h6 hre _ _ kk)
end AME
