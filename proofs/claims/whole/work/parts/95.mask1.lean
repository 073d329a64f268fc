/-- a question: its kind and codes, or a fault -/
def aqQ (b : Nat → Int) (E : Nat) : (Nat × List Int) ⊕ (Int × Int) := if 155 ≤ zK b E 0 ∧ zK b E 0 ≤ 160 then (if zK b E 0 < 158 then tsF b E 2 1700 1 [] [] 0 else smF b E 2 1700 1 [] [] 0) else .inr (1, (zP b E 0 : Int))
def aqF (b : Nat → Int) (E : Nat) : List Int ⊕ (Int × Int) := match aqQ b E with
  | .inl q => if zK b E q.1 = 6 then .inl q.2.reverse else .inr (1, (zP b E q.1 : Int))
  | .inr e => .inr e
/-- how all stands n days ahead, when a question is asked -/
def aqS (σ : am_H) (n : Nat) (x y : Int) : am_H := am_setN (am_setN (am_setN (am_setN (am_setN (itS n σ) 55 56 ((itS n σ).2.1 96 (20 + (itS n σ).2.1 96 1).toNat)) 55 57 (if fsD (itS (n - 1) σ) = 0 then 0 else 1)) 55 61 (thD (itS (n - 1) σ))) 55 58 x) 55 59 y
def aqV (σ : am_H) (n : Nat) (cs : List Int) (x y : Int) (i : Nat) : Int := (evQ (ptM (aqS σ n x y) i) (fun m => ofQ σ m (i : Int)) [] cs).headD 0
def aqL (σ : am_H) (n : Nat) (kd : Int) (cs : List Int) (x y : Int) : Nat → Int
  | 0 => if kd < 2 then -1 else 0
  | i + 1 => tkQ kd (aqV σ n cs x y i) (i : Int) (aqL σ n kd cs x y i) (if i = 0 then 1 else 0)
def W_ask (a j : Nat) : Prop := W_pub a j ∨ W_t a j ∨ (a = 55 ∧ (j = 104 ∨ j = 105))
def aqP (b : Nat → Int) (E : Nat) (σ : am_H) (n : Int) (r : Option am_V) (τ : am_H) : Prop :=
  if ¬ σ.2.1 55 52 = 0 ∧ (1 ≤ n ∧ n ≤ 120) ∧ n ≤ dlM σ then (match aqF b E with
    | .inl cs => (∃ x y : Int, r = some (am_l (aqL σ n.toNat (zK b E 0 - 155) cs x y (σ.2.1 85 5).toNat))) ∧ frw W_ask (am_setN (am_setN (t1H σ) 55 7 0) 55 8 (-1)) τ ∧ GD τ
    | .inr e => r = some (am_l (-1000000000000000)) ∧ ¬ e.1 = 0 ∧ frw W_ask (am_setN (am_setN (t1H σ) 55 7 e.1) 55 8 e.2) τ ∧ GD τ)
  else r = some (am_l (-1000000000000000)) ∧ τ = am_setN σ 55 1 0
theorem tkQ_rng {kd v i A nw B : Int} (hv : -1000000 ≤ v ∧ v ≤ 1000000) (hi : 0 ≤ i ∧ i < 8) (hA : -B ≤ A ∧ A ≤ B) (hB : 1000000 ≤ B) : -(B + 1000001) ≤ tkQ kd v i A nw ∧ tkQ kd v i A nw ≤ B + 1000001 := by
  unfold tkQ
  repeat' split
  all_goals omega
theorem aqL_rng {σ : am_H} {n : Nat} {kd x y : Int} {cs : List Int} (hok : okQ cs [] = true) : ∀ i : Nat, i ≤ 8 → -(1000001 * ((i : Int) + 1)) ≤ aqL σ n kd cs x y i ∧ aqL σ n kd cs x y i ≤ 1000001 * ((i : Int) + 1)
  | 0, _ => by unfold aqL; split <;> decide
  | i + 1, h => by
    have ih := aqL_rng (σ := σ) (n := n) (kd := kd) (x := x) (y := y) hok i (by omega)
    have hv : -1000000 ≤ aqV σ n cs x y i ∧ aqV σ n cs x y i ≤ 1000000 := evQ_rng (ts := []) (st := []) trivial hok
    have h2 := tkQ_rng (kd := kd) (nw := if i = 0 then 1 else 0) (i := (i : Int)) hv (by omega) ih (by omega)
    show -(1000001 * (((i + 1 : Nat) : Int) + 1)) ≤ tkQ kd (aqV σ n cs x y i) (i : Int) (aqL σ n kd cs x y i) (if i = 0 then 1 else 0) ∧ tkQ kd (aqV σ n cs x y i) (i : Int) (aqL σ n kd cs x y i) (if i = 0 then 1 else 0) ≤ 1000001 * (((i + 1 : Nat) : Int) + 1)
    rw [show (1000001 * (((i + 1 : Nat) : Int) + 1)) = 1000001 * ((i : Int) + 1) + 1000001 by push_cast; omega]
    exact h2
theorem ptM_eq {S T : am_H} {p : Nat} (h1 : ∀ j, S.2.1 96 j = T.2.1 96 j) (h2 : ∀ j, S.2.1 87 j = T.2.1 87 j) (h56 : S.2.1 55 56 = T.2.1 55 56) (h57 : S.2.1 55 57 = T.2.1 55 57) (h58 : S.2.1 55 58 = T.2.1 55 58) (h59 : S.2.1 55 59 = T.2.1 55 59) (h61 : S.2.1 55 61 = T.2.1 55 61) : ptM S p = ptM T p := by
  funext w
  unfold ptM
  rw [h1, h1, h1, h1, h2, h56, h57, h58, h59, h61]
theorem itS_9 {σ : am_H} (a j : Nat) (h : ¬ a = 96) : ∀ n, (itS n σ).2.1 a j = σ.2.1 a j
  | 0 => rfl
  | n + 1 => by
    show (if a = 96 then nwD (itS n σ) j else (itS n σ).2.1 a j) = _
    rw [if_neg h]
    exact itS_9 a j h n
