/-- heaps of one town, alike in what a rule reads of the time -/
def ag20 (X Y : am_H) : Prop := (∀ a j, 85 ≤ a → a ≤ 95 → X.2.1 a j = Y.2.1 a j) ∧ (∀ j, j < 20 → X.2.1 96 j = Y.2.1 96 j)
theorem mkS_congr {f g : Nat → Bool} : ∀ n, (∀ p, p < n → f p = g p) → mkS f n = mkS g n
  | 0, _ => rfl
  | n + 1, h => by
    unfold mkS
    rw [mkS_congr n (fun p hp => h p (by omega)), h n (by omega)]
theorem ruM_20 {X Y : am_H} (h : ag20 X Y) (wh : Nat) : ruM X wh = ruM Y wh := by
  have e93 : ∀ j, X.2.1 93 j = Y.2.1 93 j := fun j => h.1 93 j (by decide) (by decide)
  have e94 : ∀ j, X.2.1 94 j = Y.2.1 94 j := fun j => h.1 94 j (by decide) (by decide)
  have e95 : ∀ j, X.2.1 95 j = Y.2.1 95 j := fun j => h.1 95 j (by decide) (by decide)
  unfold ruM rB rE
  simp only [e93, e94, e95]
theorem tdE_20 {X Y : am_H} (h : ag20 X Y) {p : Nat} (hp : p < 8) (ts ff fz ot : Int) (wh : Nat) : tdE X ts ff fz ot wh p = tdE Y ts ff fz ot wh p := by
  have e : pe X ts ff fz ot p = pe Y ts ff fz ot p := by
    funext w
    unfold pe
    rw [h.2 1 (by omega), h.2 (4 + p) (by omega), h.1 87 (8 + p) (by decide) (by decide), h.2 0 (by omega)]
  unfold tdE
  rw [e, ruM_20 h]
theorem pN_20 {X Y : am_H} (h : ag20 X Y) : pN X = pN Y := by unfold pN; rw [h.1 85 5 (by decide) (by decide)]
theorem ffM_20 {X Y : am_H} (h : ag20 X Y) : ffM X = ffM Y := by unfold ffM; rw [h.2 2 (by omega)]
theorem fzM_20 {X Y : am_H} (h : ag20 X Y) : fzM X = fzM Y := by
  have e91 : ∀ j, X.2.1 91 j = Y.2.1 91 j := fun j => h.1 91 j (by decide) (by decide)
  have e85 : ∀ j, X.2.1 85 j = Y.2.1 85 j := fun j => h.1 85 j (by decide) (by decide)
  unfold fzM frM fN
  rw [h.2 1 (by omega)]
  simp only [e91, e85]
theorem selE_20 {X Y : am_H} (h : ag20 X Y) (h8 : pN Y ≤ 8) (ts bs : Int) : selE X ts bs = selE Y ts bs := by
  unfold selE
  rw [pN_20 h]
  refine mkS_congr _ (fun p hp => ?_)
  unfold slB
  rw [h.2 (12 + p) (by omega), h.1 93 2 (by decide) (by decide), tdE_20 h (by omega), ffM_20 h, fzM_20 h]
theorem rgB_20 {X Y : am_H} (h : ag20 X Y) {p : Nat} (hp : p < 8) (ts bs set : Int) : rgB X ts bs set p = rgB Y ts bs set p := by
  have e89 : ∀ j, X.2.1 89 j = Y.2.1 89 j := fun j => h.1 89 j (by decide) (by decide)
  have eq : rqM X p set = rqM Y p set := by unfold rqM; rw [pN_20 h]; simp only [e89]
  unfold rgB
  rw [eq, h.2 (12 + p) (by omega), h.1 93 3 (by decide) (by decide), h.1 87 _ (by decide) (by decide), tdE_20 h hp, ffM_20 h, fzM_20 h]
theorem rpE_20 {X Y : am_H} (h : ag20 X Y) (ts bs set : Int) : ∀ n, n ≤ 8 → rpE X ts bs set n = rpE Y ts bs set n
  | 0, _ => rfl
  | n + 1, hn => by
    unfold rpE
    rw [rpE_20 h ts bs set n (by omega), rgB_20 h (by omega)]
theorem rdE_20 {X Y : am_H} (h : ag20 X Y) (h8 : pN Y ≤ 8) (ts bs : Int) : ∀ k s, rdE X ts bs k s = rdE Y ts bs k s
  | 0, _ => rfl
  | k + 1, s => by
    unfold rdE
    rw [pN_20 h, rpE_20 h ts bs s (pN Y) h8, rdE_20 h h8 ts bs k]
theorem rmE_20 {X Y : am_H} (h : ag20 X Y) (h8 : pN Y ≤ 8) (ts own bs : Int) : rmE X ts own bs = rmE Y ts own bs := rdE_20 h h8 ts bs 256 own
theorem orr_all : (List.range 256).all (fun s => (List.range 8).all (fun p => decide (0 ≤ ao_or (s : Nat) (ao_shl 1 (p : Nat)) ∧ ao_or (s : Nat) (ao_shl 1 (p : Nat)) < 256))) = true := by decide +kernel
theorem orr {s : Int} {p : Nat} (hs : 0 ≤ s ∧ s < 256) (hp : p < 8) : 0 ≤ ao_or s (ao_shl 1 (p : Int)) ∧ ao_or s (ao_shl 1 (p : Int)) < 256 := by
  obtain ⟨a, rfl⟩ : ∃ n : Nat, s = n := ⟨s.toNat, by omega⟩
  exact of_decide_eq_true (List.all_eq_true.mp (List.all_eq_true.mp orr_all a (List.mem_range.mpr (by omega))) p (List.mem_range.mpr hp))
/-- with him bribed too -/
def wtD (σ : am_H) (p : Nat) : Int := ao_or (bsD σ) (ao_shl 1 (p : Int))
def hgB (σ : am_H) (p : Nat) : Bool := decide (¬ σ.2.1 96 (12 + p) = 1 ∧ rmE (bgS σ) (tsD σ) (selE (bgS σ) (tsD σ) (wtD σ p)) (wtD σ p) = 0)
/-- on whom the next day hangs -/
def hgM (σ : am_H) : Int := if thD σ = 0 then 0 else mkS (hgB σ) (pN σ)
theorem nwD_lo {σ : am_H} (hR : MR σ) (hc : cc σ) (k : Nat) (h1 : 12 ≤ k ∨ k < 2 ∨ k = 3 ∨ 4 + pN σ ≤ k) (h2 : k < 111) (h3 : ¬ k = 2) : nwD σ k = bgN σ k := by
  have hd := bgN_day hR hc
  have h8 := pN_8 hR
  have e : nwD σ k = noD σ k := by
    unfold nwD kpA
    repeat' split
    all_goals first | rfl | omega
  rw [e]
  unfold noD bsN
  rw [if_neg (by omega), if_neg (by omega), if_neg h3]
theorem bgN_hi (σ : am_H) (k : Nat) (h : 3 ≤ k) : bgN σ k = σ.2.1 96 k := by
  unfold bgN
  repeat' split
  all_goals first | rfl | omega
/-- the time with what was ahead of the day put back -/
def xN (σ : am_H) (k : Nat) : Int := if k = 2 then bgN σ 2 else if 4 ≤ k ∧ k < 4 + pN σ then σ.2.1 96 k else nwD σ k
theorem xN_20 {σ : am_H} (hR : MR σ) (hc : cc σ) (k : Nat) (hk : k < 111) : xN σ k = bgN σ k := by
  unfold xN
  split
  · rename_i h; rw [h]
  · split
    · rw [bgN_hi σ k (by omega)]
    · exact nwD_lo hR hc k (by omega) hk (by assumption)
theorem xN_MN {σ : am_H} (hR : MR σ) (hc : cc σ) : MN (σ.2.1 85 9) (xN σ) := by
  have h := bgN_MN hR hc
  have hn := nwD_MN hR hc
  have h8 := pN_8 hR
  have hx : ∀ k, 12 ≤ k → xN σ k = nwD σ k := fun k hk => by unfold xN; rw [if_neg (by omega), if_neg (by omega)]
  refine ⟨?_, ?_, ?_, ?_, ?_, ?_, ?_, ?_, ?_, ?_⟩
  · rw [xN_20 hR hc 0 (by omega)]; exact h.1
  · rw [xN_20 hR hc 1 (by omega)]; exact h.2.1
  · rw [xN_20 hR hc 2 (by omega)]; exact h.2.2.1
  · rw [xN_20 hR hc 3 (by omega)]; exact h.2.2.2.1
  · intro p hp; rw [xN_20 hR hc _ (by omega)]; exact h.2.2.2.2.1 p hp
  · intro p hp; rw [xN_20 hR hc _ (by omega)]; exact h.2.2.2.2.2.1 p hp
  · intro p hp; rw [xN_20 hR hc _ (by omega)]; exact h.2.2.2.2.2.2.1 p hp
  · intro p hp; rw [hx _ (by omega)]; exact hn.2.2.2.2.2.2.2.1 p hp
  · rw [hx _ (by omega)]; exact hn.2.2.2.2.2.2.2.2.1
  · intro p hp; rw [hx _ (by omega)]; exact hn.2.2.2.2.2.2.2.2.2 p hp
def W_98 (a _j : Nat) : Prop := a = 98
def W_hg (a j : Nat) : Prop := a = 96 ∨ a = 98 ∨ a = 99 ∨ a = 129 ∨ (a = 55 ∧ ((56 ≤ j ∧ j ≤ 62) ∨ j = 103))
theorem c_X10_hangsNext (σ : am_H) (hG : GD σ)  (hc : cc σ) : am_met M_X10_hangsNext [am_r 55] σ (fun r σ' => r = some (am_i (hgM σ)) ∧ frw W_hg σ σ' ∧ (∀ k, σ'.2.1 96 k = nwD σ k) ∧ σ'.2.1 55 60 = sfD σ ∧ σ'.2.1 55 61 = thD σ ∧ σ'.2.1 55 62 = fsD σ ∧ (0 ≤ σ'.2.1 55 59 ∧ σ'.2.1 55 59 ≤ 99)) := by
  refine am_qq (fun Q hQ => ?_)
  refine am_enter (show plainFor yX10_hangsNext = true by decide +kernel) rfl (Nat.le_of_ble_eq_true rfl) (fun _ _ _ => trivial) ?_
  have hL := hG.L
  have hts := tsD_rng hG.R hc
  have hbs := bsD_rng hG.R hc
  have hG0 := bgS_GD hG hc
  have hd := bgN_day hG.R hc
  have hN := pN_eq hG.R
  have h8 := pN_8 hG.R
  have hdy := hG.R.day
  have hY9 := hG.R.Y
  refine am_iconst (q := 1) (n := 0) (by decide) (am_tab tk_X10_hangsNext 0 rfl) rfl ?_
  refine am_istore_n (q := 2) (by decide) (ls2 := [(1, am_i 0), (0, am_r 55)]) rfl (am_tab tk_X10_hangsNext 1 rfl) rfl ?_
  refine am_iconst (q := 3) (n := 0) (by decide) (am_tab tk_X10_hangsNext 2 rfl) rfl ?_
  refine am_istore_n (q := 4) (by decide) (ls2 := [(2, am_i 0), (1, am_i 0), (0, am_r 55)]) rfl (am_tab tk_X10_hangsNext 3 rfl) rfl ?_
  have L4 : ∀ (n4 : Nat) (i : Nat) (S : am_H), pN σ - i < n4 → i ≤ pN σ → frw W_98 σ S → (∀ k, k < i → S.2.1 98 k = σ.2.1 96 (4 + k)) → am_wp M_X10_hangsNext Q 0 0 4 [(2, am_i ((i : Int))), (1, am_i ((i : Int))), (0, am_r 55)] [] S := by
    intro n4
    induction n4 with
    | zero => intro i S hn4; exact absurd hn4 (Nat.not_lt_zero _)
    | succ n4 ih4 =>
      intro i S hn4 hi hF h98
      have hLS : lay S := hF.L hL
      refine am_iload_n (q := 5) rfl (am_tab tk_X10_hangsNext 4 rfl) rfl ?_
      refine am_aload_n (q := 6) rfl (am_tab tk_X10_hangsNext 5 rfl) rfl ?_
      refine am_callV0 (q := 9) (me2 := M_X10_peopleMany) (b := 55) (kb := 10) (nb := 108) (As := []) (rest := [am_i ((i : Int))]) (out := [am_i (S.2.1 85 5), am_i ((i : Int))]) (c_X10_peopleMany S hLS  ) ⟨rfl, rfl⟩ (Ls_55 hLS) (by decide) ⟨Or.inl km_X10_394, kc_X10_peopleMany, kn_X10, kd_X10_peopleMany, ⟨(Nat.le_of_ble_eq_true rfl), (Nat.le_of_ble_eq_true rfl)⟩, ⟨(Nat.le_of_ble_eq_true rfl), (Nat.le_of_ble_eq_true rfl)⟩, (Nat.le_of_ble_eq_true rfl)⟩ ki_X10_peopleMany ks_X10_peopleMany rfl rfl (am_tab tk_X10_hangsNext 6 rfl) rfl ?_
      refine am_st (st2 := [am_i ((σ.2.1 85 5)), am_i ((i : Int))]) (by simp only [(show S.2.1 85 5 = σ.2.1 85 5 from (hF.2.2 85 5 (by unfold W_98; omega)))]) ?_
      refine am_icmp_ge (q := 12) (t := 32) (am_tab tk_X10_hangsNext 7 rfl) (by decide) rfl (fun h9 => ?_) (fun h9 => ?_)
      · refine am_aload_n (q := 33) rfl (am_tab tk_X10_hangsNext 18 rfl) rfl ?_
        refine am_getR (q := 36) (a := 55) (k := 10) (n := 108) (j := 54) (r := some (96)) (Ls_55 hLS) (by decide) rfl (Lr_55_54 hLS) (by decide) (Or.inl kf_X10_136) (am_tab tk_X10_hangsNext 19 rfl) rfl ?_
        refine am_iconst (q := 37) (n := 2) (by decide) (am_tab tk_X10_hangsNext 20 rfl) rfl ?_
        refine am_iald (q := 38) (a := 96) (n := 443) (x := (σ.2.1 96 2)) (Ls_96 hLS) (by omega) (by omega) (hF.2.2 96 2 (by unfold W_98; omega)) (am_tab tk_X10_hangsNext 21 rfl) rfl ?_
        refine am_istore_n (q := 39) (by decide) (ls2 := [(2, am_i ((σ.2.1 96 2))), (1, am_i ((i : Int))), (0, am_r 55)]) rfl (am_tab tk_X10_hangsNext 22 rfl) rfl ?_
        have eiN : (i : Int) = (pN σ : Int) := by omega
        have hcS : cn S = cn σ := cn_eq (fun a j h1 h2 => hF.2.2 a j (by unfold W_98; omega))
        have hGS : GD S := GD_fr hG hF (by unfold W_98; omega) (by rw [hF.2.2 55 59 (by unfold W_98; omega)]; exact hG.o) (by rw [hF.2.2 55 61 (by unfold W_98; omega)]; exact hG.t)
        have hcc : cc S := by unfold cc at *; rw [hF.2.2 85 9 (by unfold W_98; omega), hF.2.2 96 0 (by unfold W_98; omega), hF.2.2 96 1 (by unfold W_98; omega)]; exact hc
        have L93 : ∀ (n93 : Nat) (fl : Int), 0 < n93 → (if fl = 0 then σ.2.1 96 2 else 0) = bgN σ 2 → am_wp M_X10_hangsNext Q 0 0 93 [(1, am_i ((pN σ : Int))), (2, am_i (σ.2.1 96 2)), (3, am_i (bsD σ)), (4, am_i fl), (0, am_r 55)] [] S := by
          intro n93
          induction n93 with
          | zero => intro fl hn93; exact absurd hn93 (Nat.not_lt_zero _)
          | succ n93 ih93 =>
            intro fl hn93 e2
            refine am_aload_n (q := 94) rfl (am_tab tk_X10_hangsNext 55 rfl) rfl ?_
            refine am_callVr (q := 97) (me2 := M_X10_dayGoes) (b := 55) (kb := 10) (nb := 108) (As := []) (rest := []) (c_X10_dayGoes S hGS hcc) ⟨rfl, rfl⟩ (Ls_55 hLS) (by decide) ⟨Or.inl km_X10_476, kc_X10_dayGoes, kn_X10, kd_X10_dayGoes, ⟨(Nat.le_of_ble_eq_true rfl), (Nat.le_of_ble_eq_true rfl)⟩, ⟨(Nat.le_of_ble_eq_true rfl), (Nat.le_of_ble_eq_true rfl)⟩, (Nat.le_of_ble_eq_true rfl)⟩ ki_X10_dayGoes ks_X10_dayGoes rfl (am_tab tk_X10_hangsNext 56 rfl) rfl ?_
            rintro r T ⟨rfl, hF1, h96, h60, h61, h62, h59⟩
            rw [nwD_eq hcS] at h96
            rw [sfD_eq hcS] at h60
            rw [thD_eq hcS] at h61
            rw [fsD_eq hcS] at h62
            have hT : frw W_hg σ T := (hF.mono (by unfold W_98 W_hg; omega)).trans (hF1.mono (by unfold W_day W_hg; omega))
            have hLT : lay T := hT.L hL
            have h98T : ∀ k, k < pN σ → T.2.1 98 k = σ.2.1 96 (4 + k) := fun k hk => (hF1.2.2 98 k (by unfold W_day; omega)).trans (h98 k (by omega))
            refine am_st (st2 := []) rfl ?_
            refine am_aload_n (q := 98) rfl (am_tab tk_X10_hangsNext 57 rfl) rfl ?_
            refine am_getI (q := 101) (a := 55) (k := 10) (n := 108) (j := 61) (x := (thD σ)) (Ls_55 hLT) (by decide) rfl h61 (by decide) (Or.inl kf_X10_461) (am_tab tk_X10_hangsNext 58 rfl) rfl ?_
            refine am_istore (q := 103) (by decide) (ls2 := [(5, am_i ((thD σ))), (1, am_i ((pN σ : Int))), (2, am_i (σ.2.1 96 2)), (3, am_i (bsD σ)), (4, am_i fl), (0, am_r 55)]) rfl (am_tab tk_X10_hangsNext 59 rfl) rfl ?_
            refine am_aload_n (q := 104) rfl (am_tab tk_X10_hangsNext 60 rfl) rfl ?_
            refine am_getI (q := 107) (a := 55) (k := 10) (n := 108) (j := 62) (x := (fsD σ)) (Ls_55 hLT) (by decide) rfl h62 (by decide) (Or.inl kf_X10_464) (am_tab tk_X10_hangsNext 61 rfl) rfl ?_
            refine am_istore (q := 109) (by decide) (ls2 := [(6, am_i ((fsD σ))), (5, am_i ((thD σ))), (1, am_i ((pN σ : Int))), (2, am_i (σ.2.1 96 2)), (3, am_i (bsD σ)), (4, am_i fl), (0, am_r 55)]) rfl (am_tab tk_X10_hangsNext 62 rfl) rfl ?_
            refine am_iconst (q := 110) (n := 0) (by decide) (am_tab tk_X10_hangsNext 63 rfl) rfl ?_
            refine am_istore (q := 112) (by decide) (ls2 := [(7, am_i 0), (6, am_i ((fsD σ))), (5, am_i ((thD σ))), (1, am_i ((pN σ : Int))), (2, am_i (σ.2.1 96 2)), (3, am_i (bsD σ)), (4, am_i fl), (0, am_r 55)]) rfl (am_tab tk_X10_hangsNext 64 rfl) rfl ?_
            refine am_aload_n (q := 113) rfl (am_tab tk_X10_hangsNext 65 rfl) rfl ?_
            refine am_getR (q := 116) (a := 55) (k := 10) (n := 108) (j := 54) (r := some (96)) (Ls_55 hLT) (by decide) rfl (Lr_55_54 hLT) (by decide) (Or.inl kf_X10_136) (am_tab tk_X10_hangsNext 66 rfl) rfl ?_
            refine am_iconst (q := 117) (n := 2) (by decide) (am_tab tk_X10_hangsNext 67 rfl) rfl ?_
            refine am_iald (q := 118) (a := 96) (n := 443) (x := (nwD σ 2)) (Ls_96 hLT) (by omega) (by omega) (h96 2) (am_tab tk_X10_hangsNext 68 rfl) rfl ?_
            refine am_istore (q := 120) (by decide) (ls2 := [(8, am_i ((nwD σ 2))), (7, am_i 0), (6, am_i ((fsD σ))), (5, am_i ((thD σ))), (1, am_i ((pN σ : Int))), (2, am_i (σ.2.1 96 2)), (3, am_i (bsD σ)), (4, am_i fl), (0, am_r 55)]) rfl (am_tab tk_X10_hangsNext 69 rfl) rfl ?_
            refine am_iconst (q := 121) (n := 0) (by decide) (am_tab tk_X10_hangsNext 70 rfl) rfl ?_
            refine am_istore (q := 123) (by decide) (ls2 := [(9, am_i 0), (8, am_i ((nwD σ 2))), (7, am_i 0), (6, am_i ((fsD σ))), (5, am_i ((thD σ))), (1, am_i ((pN σ : Int))), (2, am_i (σ.2.1 96 2)), (3, am_i (bsD σ)), (4, am_i fl), (0, am_r 55)]) rfl (am_tab tk_X10_hangsNext 71 rfl) rfl ?_
            have L123 : ∀ (n123 : Nat) (i : Nat) (U : am_H), pN σ - i < n123 → i ≤ pN σ → frw W_hg σ U → (∀ k, U.2.1 96 k = if 4 ≤ k ∧ k < 4 + i then σ.2.1 96 k else nwD σ k) → (∀ k, k < pN σ → U.2.1 98 k = σ.2.1 96 (4 + k)) → (∀ k, k < i → U.2.1 99 k = nwD σ (4 + k)) → U.2.1 55 60 = sfD σ → U.2.1 55 61 = thD σ → U.2.1 55 62 = fsD σ → (0 ≤ U.2.1 55 59 ∧ U.2.1 55 59 ≤ 99) → am_wp M_X10_hangsNext Q 0 0 123 [(1, am_i ((pN σ : Int))), (2, am_i (σ.2.1 96 2)), (3, am_i (bsD σ)), (5, am_i (thD σ)), (6, am_i (fsD σ)), (8, am_i (nwD σ 2)), (0, am_r 55), (9, am_i ((i : Int))), (4, am_i fl), (7, am_i 0)] [] U := by
              intro n123
              induction n123 with
              | zero => intro i U hn123; exact absurd hn123 (Nat.not_lt_zero _)
              | succ n123 ih123 =>
                intro i U hn123 hi hU hU96 hU98 hU99 h60 h61 h62 h59
                have hLU : lay U := hU.L hL
                have e4 : ((4 : Int) + (i : Int)).toNat = 4 + i := by omega
                refine am_iload (q := 125) rfl (am_tab tk_X10_hangsNext 72 rfl) rfl ?_
                refine am_iload_n (q := 126) rfl (am_tab tk_X10_hangsNext 73 rfl) rfl ?_
                refine am_icmp_ge (q := 129) (t := 164) (am_tab tk_X10_hangsNext 74 rfl) (by decide) rfl (fun h126 => ?_) (fun h126 => ?_)
                · have L183 : ∀ (n183 : Nat) (i : Nat) (V : am_H), pN σ - i < n183 → i ≤ pN σ → frw W_hg σ V → (∀ k, V.2.1 96 k = xN σ k) → (∀ k, k < pN σ → V.2.1 99 k = nwD σ (4 + k)) → V.2.1 55 60 = sfD σ → V.2.1 55 61 = thD σ → V.2.1 55 62 = fsD σ → (0 ≤ V.2.1 55 59 ∧ V.2.1 55 59 ≤ 99) → (thD σ = 0 → i = 0) → am_wp M_X10_hangsNext Q 0 0 183 [(1, am_i ((pN σ : Int))), (2, am_i (σ.2.1 96 2)), (3, am_i (bsD σ)), (5, am_i (thD σ)), (6, am_i (fsD σ)), (8, am_i (nwD σ 2)), (0, am_r 55), (9, am_i ((i : Int))), (7, am_i (mkS (hgB σ) i))] [] V := by
                    intro n183
                    induction n183 with
                    | zero => intro i V hn183; exact absurd hn183 (Nat.not_lt_zero _)
                    | succ n183 ih183 =>
                      intro i V hn183 hi hV hV96 hV99 h60 h61 h62 h59 hz9
                      have hLV : lay V := hV.L hL
                      have e12 : ((12 : Int) + (i : Int)).toNat = 12 + i := by omega
                      have hcV : cn V = cn (am_setA σ 96 (xN σ)) := cn_eq (fun a j h1 h2 => by
                          show _ = (if a = 96 then xN σ j else σ.2.1 a j)
                          by_cases ha : a = 96
                          · subst ha; rw [if_pos rfl]; exact hV96 j
                          · rw [if_neg ha]; exact hV.2.2 a j (by unfold W_hg; omega))
                      have hGV : GD V := GD_now hG hLV hcV (hV.2.2 55 52 (by unfold W_hg; omega)) (xN_MN hG.R hc) h59 (by rw [h61]; exact thD_rng hG hc)
                      have hag : ag20 V (bgS σ) := ⟨fun a j h1 h2 => by
                          show _ = (if a = 96 then _ else σ.2.1 a j)
                          rw [if_neg (by omega)]; exact hV.2.2 a j (by unfold W_hg; omega), fun j hj => (hV96 j).trans (xN_20 hG.R hc j (by omega))⟩
                      have L261 : ∀ (n261 : Nat) (i : Nat) (Y : am_H) (set : Int), pN σ - i < n261 → i ≤ pN σ → frw W_hg σ Y → (∀ k, Y.2.1 96 k = if 4 ≤ k ∧ k < 4 + i then nwD σ k else xN σ k) → (∀ k, k < pN σ → Y.2.1 99 k = nwD σ (4 + k)) → Y.2.1 55 60 = sfD σ → Y.2.1 55 61 = thD σ → Y.2.1 55 62 = fsD σ → (0 ≤ Y.2.1 55 59 ∧ Y.2.1 55 59 ≤ 99) → set = hgM σ → am_wp M_X10_hangsNext Q 0 0 261 [(1, am_i ((pN σ : Int))), (2, am_i (σ.2.1 96 2)), (3, am_i (bsD σ)), (5, am_i (thD σ)), (6, am_i (fsD σ)), (8, am_i (nwD σ 2)), (0, am_r 55), (9, am_i ((i : Int))), (7, am_i set)] [] Y := by
                        intro n261
                        induction n261 with
                        | zero => intro i Y set hn261; exact absurd hn261 (Nat.not_lt_zero _)
                        | succ n261 ih261 =>
                          intro i Y set hn261 hi hY hY96 hY99 h60 h61 h62 h59 hset
                          have hLY : lay Y := hY.L hL
                          have e4 : ((4 : Int) + (i : Int)).toNat = 4 + i := by omega
                          refine am_iload (q := 263) rfl (am_tab tk_X10_hangsNext 147 rfl) rfl ?_
                          refine am_iload_n (q := 264) rfl (am_tab tk_X10_hangsNext 148 rfl) rfl ?_
                          refine am_icmp_ge (q := 267) (t := 289) (am_tab tk_X10_hangsNext 149 rfl) (by decide) rfl (fun h264 => ?_) (fun h264 => ?_)
                          · refine am_aload_n (q := 290) rfl (am_tab tk_X10_hangsNext 162 rfl) rfl ?_
                            refine am_getR (q := 293) (a := 55) (k := 10) (n := 108) (j := 54) (r := some (96)) (Ls_55 hLY) (by decide) rfl (Lr_55_54 hLY) (by decide) (Or.inl kf_X10_136) (am_tab tk_X10_hangsNext 163 rfl) rfl ?_
                            refine am_iconst (q := 294) (n := 2) (by decide) (am_tab tk_X10_hangsNext 164 rfl) rfl ?_
                            refine am_iload (q := 296) rfl (am_tab tk_X10_hangsNext 165 rfl) rfl ?_
                            refine am_iast (q := 297) (a := 96) (n := 443) (Ls_96 hLY) (by omega) (by omega) (am_tab tk_X10_hangsNext 166 rfl) rfl ?_
                            refine am_aload_n (q := 298) rfl (am_tab tk_X10_hangsNext 167 rfl) rfl ?_
                            refine am_iload (q := 300) rfl (am_tab tk_X10_hangsNext 168 rfl) rfl ?_
                            refine am_putI (q := 303) (k := 10) (n := 108) (j := 61) (Ls_55 hLY) (by decide) rfl (by decide) (Or.inl ⟨kf_X10_461, rfl⟩) (am_tab tk_X10_hangsNext 169 rfl) rfl ?_
                            refine am_aload_n (q := 304) rfl (am_tab tk_X10_hangsNext 170 rfl) rfl ?_
                            refine am_iload (q := 306) rfl (am_tab tk_X10_hangsNext 171 rfl) rfl ?_
                            refine am_putZ (q := 309) (k := 10) (n := 108) (j := 62) (Ls_55 hLY) (by decide) rfl (by exact fsD_01 σ) (by decide) (Or.inl ⟨kf_X10_464, rfl⟩) (am_tab tk_X10_hangsNext 172 rfl) rfl ?_
                            refine am_iload (q := 311) rfl (am_tab tk_X10_hangsNext 173 rfl) rfl ?_
                            refine am_iret (Or.inl rfl) (Nat.le_of_ble_eq_true rfl) (Nat.le_of_ble_eq_true rfl) (am_tab tk_X10_hangsNext 174 rfl) ?_
                            refine hQ _ _ ?_
                            rw [hset]
                            refine ⟨rfl, ((hY.setN (by unfold W_hg; omega)).setN (by unfold W_hg; omega)).setN (by unfold W_hg; omega), ?_, h60, rfl, rfl, h59⟩
                            intro k
                            show (if 96 = 96 ∧ k = 2 then nwD σ 2 else Y.2.1 96 k) = _
                            by_cases hk : k = 2
                            · rw [if_pos ⟨rfl, hk⟩, hk]
                            · rw [if_neg (fun hc => hk hc.2), hY96 k, show i = pN σ by omega]
                              unfold xN
                              by_cases hk2 : 4 ≤ k ∧ k < 4 + pN σ
                              · rw [if_pos hk2]
                              · rw [if_neg hk2, if_neg hk, if_neg hk2]
                          · refine am_aload_n (q := 268) rfl (am_tab tk_X10_hangsNext 150 rfl) rfl ?_
                            refine am_getR (q := 271) (a := 55) (k := 10) (n := 108) (j := 54) (r := some (96)) (Ls_55 hLY) (by decide) rfl (Lr_55_54 hLY) (by decide) (Or.inl kf_X10_136) (am_tab tk_X10_hangsNext 151 rfl) rfl ?_
                            refine am_iconst (q := 272) (n := 4) (by decide) (am_tab tk_X10_hangsNext 152 rfl) rfl ?_
                            refine am_iload (q := 274) rfl (am_tab tk_X10_hangsNext 153 rfl) rfl ?_
                            refine am_iadd (q := 275) (by omega) (am_tab tk_X10_hangsNext 154 rfl) rfl ?_
                            refine am_aload_n (q := 276) rfl (am_tab tk_X10_hangsNext 155 rfl) rfl ?_
                            refine am_getR (q := 279) (a := 55) (k := 10) (n := 108) (j := 64) (r := some (99)) (Ls_55 hLY) (by decide) rfl (Lr_55_64 hLY) (by decide) (Or.inl kf_X10_145) (am_tab tk_X10_hangsNext 156 rfl) rfl ?_
                            refine am_iload (q := 281) rfl (am_tab tk_X10_hangsNext 157 rfl) rfl ?_
                            refine am_iald (q := 282) (a := 99) (n := 8) (x := (nwD σ (4 + i))) (Ls_99 hLY) (by omega) (by omega) (by rw [show Int.toNat (i : Int) = i by omega]; exact hY99 i (by omega)) (am_tab tk_X10_hangsNext 158 rfl) rfl ?_
                            refine am_iast (q := 283) (a := 96) (n := 443) (Ls_96 hLY) (by omega) (by omega) (am_tab tk_X10_hangsNext 159 rfl) rfl ?_
                            refine am_iinc (q := 286) rfl (by omega) (by decide) (ls2 := [(9, am_i (((i : Int) + 1))), (1, am_i ((pN σ : Int))), (2, am_i (σ.2.1 96 2)), (3, am_i (bsD σ)), (5, am_i (thD σ)), (6, am_i (fsD σ)), (8, am_i (nwD σ 2)), (0, am_r 55), (7, am_i set)]) rfl (am_tab tk_X10_hangsNext 160 rfl) rfl ?_
                            refine am_goto (t := 261) (am_tab tk_X10_hangsNext 161 rfl) (by decide) ?_
                            have hn96 : ∀ k, ((am_setN Y 96 (Int.toNat (4 + (i : Int))) (nwD σ (4 + i)))).2.1 96 k = if 4 ≤ k ∧ k < 4 + (i + 1) then nwD σ k else xN σ k := by
                              intro k
                              show (if 96 = 96 ∧ k = Int.toNat (4 + (i : Int)) then nwD σ (4 + i) else Y.2.1 96 k) = _
                              rw [e4]
                              by_cases hk : k = 4 + i
                              · rw [if_pos ⟨rfl, hk⟩, if_pos (by omega), hk]
                              · rw [if_neg (fun hc => hk hc.2), hY96 k]
                                by_cases hk2 : 4 ≤ k ∧ k < 4 + i
                                · rw [if_pos hk2, if_pos (by omega)]
                                · rw [if_neg hk2, if_neg (by omega)]
                            exact am_less (by intro q hq; simp only [List.mem_cons, List.not_mem_nil, or_false] at hq; rcases hq with rfl | rfl | rfl | rfl | rfl | rfl | rfl | rfl | rfl <;> simp) (ih261 (i + 1) (am_setN Y 96 (Int.toNat (4 + (i : Int))) (nwD σ (4 + i))) set (by omega) (by omega) (hY.setN (by unfold W_hg; omega)) hn96 hY99 h60 h61 h62 h59 hset)
                      refine am_iload (q := 185) rfl (am_tab tk_X10_hangsNext 105 rfl) rfl ?_
                      refine am_iload_n (q := 186) rfl (am_tab tk_X10_hangsNext 106 rfl) rfl ?_
                      refine am_icmp_ge (q := 189) (t := 258) (am_tab tk_X10_hangsNext 107 rfl) (by decide) rfl (fun h186 => ?_) (fun h186 => ?_)
                      · refine am_iconst (q := 259) (n := 0) (by decide) (am_tab tk_X10_hangsNext 145 rfl) rfl ?_
                        refine am_istore (q := 261) (by decide) (ls2 := [(9, am_i 0), (1, am_i ((pN σ : Int))), (2, am_i (σ.2.1 96 2)), (3, am_i (bsD σ)), (5, am_i (thD σ)), (6, am_i (fsD σ)), (8, am_i (nwD σ 2)), (0, am_r 55), (7, am_i (mkS (hgB σ) i))]) rfl (am_tab tk_X10_hangsNext 146 rfl) rfl ?_
                        have hset : mkS (hgB σ) i = hgM σ := by
                          unfold hgM
                          by_cases h9 : thD σ = 0
                          · rw [if_pos h9, hz9 h9]; rfl
                          · rw [if_neg h9, show i = pN σ by omega]
                        refine am_less (by intro q hq; simp only [List.mem_cons, List.not_mem_nil, or_false] at hq; rcases hq with rfl | rfl | rfl | rfl | rfl | rfl | rfl | rfl | rfl <;> simp) (L261 (_ + 1) 0 V (mkS (hgB σ) i) (by exact Nat.lt_succ_self _) (by omega) hV (fun k => by rw [if_neg (by omega)]; exact hV96 k) hV99 h60 h61 h62 h59 hset)
                      · refine am_iload (q := 191) rfl (am_tab tk_X10_hangsNext 108 rfl) rfl ?_
                        refine am_if_eq (q := 194) (t := 258) (am_tab tk_X10_hangsNext 109 rfl) (by decide) rfl (fun h191 => ?_) (fun h191 => ?_)
                        · refine am_iconst (q := 259) (n := 0) (by decide) (am_tab tk_X10_hangsNext 145 rfl) rfl ?_
                          refine am_istore (q := 261) (by decide) (ls2 := [(9, am_i 0), (1, am_i ((pN σ : Int))), (2, am_i (σ.2.1 96 2)), (3, am_i (bsD σ)), (5, am_i (thD σ)), (6, am_i (fsD σ)), (8, am_i (nwD σ 2)), (0, am_r 55), (7, am_i (mkS (hgB σ) i))]) rfl (am_tab tk_X10_hangsNext 146 rfl) rfl ?_
                          have hset : mkS (hgB σ) i = hgM σ := by
                            unfold hgM
                            by_cases h9 : thD σ = 0
                            · rw [if_pos h9, hz9 h9]; rfl
                            · rw [if_neg h9, show i = pN σ by omega]
                          refine am_less (by intro q hq; simp only [List.mem_cons, List.not_mem_nil, or_false] at hq; rcases hq with rfl | rfl | rfl | rfl | rfl | rfl | rfl | rfl | rfl <;> simp) (L261 (_ + 1) 0 V (mkS (hgB σ) i) (by exact Nat.lt_succ_self _) (by omega) hV (fun k => by rw [if_neg (by omega)]; exact hV96 k) hV99 h60 h61 h62 h59 hset)
                        · refine am_aload_n (q := 195) rfl (am_tab tk_X10_hangsNext 110 rfl) rfl ?_
                          refine am_iload (q := 197) rfl (am_tab tk_X10_hangsNext 111 rfl) rfl ?_
                          refine am_callV0 (q := 200) (me2 := M_X10_isDead) (b := 55) (kb := 10) (nb := 108) (As := [am_i ((i : Int))]) (rest := []) (out := [am_i (if V.2.1 96 (12 + (i : Int)).toNat = 1 then 1 else 0)]) (c_X10_isDead V hLV (i : Int) (by omega)) ⟨rfl, rfl⟩ (Ls_55 hLV) (by decide) ⟨Or.inl km_X10_400, kc_X10_isDead, kn_X10, kd_X10_isDead, ⟨(Nat.le_of_ble_eq_true rfl), (Nat.le_of_ble_eq_true rfl)⟩, ⟨(Nat.le_of_ble_eq_true rfl), (Nat.le_of_ble_eq_true rfl)⟩, (Nat.le_of_ble_eq_true rfl)⟩ ki_X10_isDead ks_X10_isDead rfl rfl (am_tab tk_X10_hangsNext 112 rfl) rfl ?_
                          refine am_st (st2 := [am_i (if (σ.2.1 96 (12 + i)) = 1 then 1 else 0)]) (by simp only [(show V.2.1 96 (12 + (i : Int)).toNat = (σ.2.1 96 (12 + i)) from (by rw [e12, hV96, xN_20 hG.R hc _ (by omega)]; exact bgN_hi σ _ (by omega)))]) ?_
                          refine am_if_eq (q := 203) (t := 206) (am_tab tk_X10_hangsNext 113 rfl) (by decide) rfl (fun h200 => ?_) (fun h200 => ?_)
                          · replace h200 := b01z h200
                            refine am_iload_n (q := 207) rfl (am_tab tk_X10_hangsNext 115 rfl) rfl ?_
                            refine am_iconst (q := 208) (n := 1) (by decide) (am_tab tk_X10_hangsNext 116 rfl) rfl ?_
                            refine am_iload (q := 210) rfl (am_tab tk_X10_hangsNext 117 rfl) rfl ?_
                            refine am_ishl (q := 211) (am_tab tk_X10_hangsNext 118 rfl) rfl ?_
                            refine am_ior (q := 212) (am_tab tk_X10_hangsNext 119 rfl) rfl ?_
                            refine am_istore (q := 214) (by decide) (ls2 := [(10, am_i ((ao_or (bsD σ) (ao_shl 1 (i : Int))))), (1, am_i ((pN σ : Int))), (2, am_i (σ.2.1 96 2)), (3, am_i (bsD σ)), (5, am_i (thD σ)), (6, am_i (fsD σ)), (8, am_i (nwD σ 2)), (0, am_r 55), (9, am_i ((i : Int))), (7, am_i (mkS (hgB σ) i))]) rfl (am_tab tk_X10_hangsNext 120 rfl) rfl ?_
                            have hwt : 0 ≤ wtD σ i ∧ wtD σ i < 256 := orr hbs (by omega)
                            refine am_aload_n (q := 215) rfl (am_tab tk_X10_hangsNext 121 rfl) rfl ?_
                            refine am_aload_n (q := 216) rfl (am_tab tk_X10_hangsNext 122 rfl) rfl ?_
                            refine am_aload_n (q := 217) rfl (am_tab tk_X10_hangsNext 123 rfl) rfl ?_
                            refine am_getR (q := 220) (a := 55) (k := 10) (n := 108) (j := 54) (r := some (96)) (Ls_55 hLV) (by decide) rfl (Lr_55_54 hLV) (by decide) (Or.inl kf_X10_136) (am_tab tk_X10_hangsNext 124 rfl) rfl ?_
                            refine am_bipush (q := 222) (n := 20) (by decide) rfl (am_tab tk_X10_hangsNext 125 rfl) rfl ?_
                            refine am_aload_n (q := 223) rfl (am_tab tk_X10_hangsNext 126 rfl) rfl ?_
                            refine am_getR (q := 226) (a := 55) (k := 10) (n := 108) (j := 54) (r := some (96)) (Ls_55 hLV) (by decide) rfl (Lr_55_54 hLV) (by decide) (Or.inl kf_X10_136) (am_tab tk_X10_hangsNext 127 rfl) rfl ?_
                            refine am_iconst (q := 227) (n := 1) (by decide) (am_tab tk_X10_hangsNext 128 rfl) rfl ?_
                            refine am_iald (q := 228) (a := 96) (n := 443) (x := (bgN σ 1)) (Ls_96 hLV) (by omega) (by omega) ((hV96 1).trans (xN_20 hG.R hc 1 (by omega))) (am_tab tk_X10_hangsNext 129 rfl) rfl ?_
                            refine am_iadd (q := 229) (by omega) (am_tab tk_X10_hangsNext 130 rfl) rfl ?_
                            refine am_iald (q := 230) (a := 96) (n := 443) (x := (tsD σ)) (Ls_96 hLV) (by omega) (by omega) ((hV96 _).trans (xN_20 hG.R hc _ (by omega))) (am_tab tk_X10_hangsNext 131 rfl) rfl ?_
                            refine am_iload (q := 232) rfl (am_tab tk_X10_hangsNext 132 rfl) rfl ?_
                            refine am_callVr (q := 235) (me2 := M_X10_selves) (b := 55) (kb := 10) (nb := 108) (As := [am_i ((tsD σ)), am_i ((ao_or (bsD σ) (ao_shl 1 (i : Int))))]) (rest := [am_r 55]) (c_sel2 V hGV (tsD σ) (wtD σ i) hts hwt) ⟨rfl, rfl⟩ (Ls_55 hLV) (by decide) ⟨Or.inl km_X10_452, kc_X10_selves, kn_X10, kd_X10_selves, ⟨(Nat.le_of_ble_eq_true rfl), (Nat.le_of_ble_eq_true rfl)⟩, ⟨(Nat.le_of_ble_eq_true rfl), (Nat.le_of_ble_eq_true rfl)⟩, (Nat.le_of_ble_eq_true rfl)⟩ ki_X10_selves ks_X10_selves rfl (am_tab tk_X10_hangsNext 133 rfl) rfl ?_
                            rintro r V1 ⟨rfl, hF4, e56, e57, e58⟩
                            have hLV1 : lay V1 := hF4.L hLV
                            rw [selE_20 hag (pN_8 hG0.R)]
                            have hG4 : GD V1 := GD_fr hGV hF4 (by unfold W_sel; omega) (by rw [hF4.2.2 55 59 (by unfold W_sel; omega)]; exact hGV.o) (by rw [hF4.2.2 55 61 (by unfold W_sel; omega)]; exact hGV.t)
                            have hc4 : cn V1 = cn V := cn_eq (fun a j h1 h2 => hF4.2.2 a j (by unfold W_sel; omega))
                            refine am_st (st2 := [am_i (selE (bgS σ) (tsD σ) (wtD σ i)), am_r 55]) rfl ?_
                            refine am_iload (q := 237) rfl (am_tab tk_X10_hangsNext 134 rfl) rfl ?_
                            refine am_callVr (q := 240) (me2 := M_X10_reminded) (b := 55) (kb := 10) (nb := 108) (As := [am_i (selE (bgS σ) (tsD σ) (wtD σ i)), am_i ((ao_or (bsD σ) (ao_shl 1 (i : Int))))]) (rest := []) (c_rem2 V1 hG4 (selE (bgS σ) (tsD σ) (wtD σ i)) (wtD σ i) (tsD σ) (selE_rng hG0.R _ _) hwt hts e56 (e57.trans (ffM_eq hc4).symm) (e58.trans (fzM_eq hc4).symm)) ⟨rfl, rfl⟩ (Ls_55 hLV1) (by decide) ⟨Or.inl km_X10_458, kc_X10_reminded, kn_X10, kd_X10_reminded, ⟨(Nat.le_of_ble_eq_true rfl), (Nat.le_of_ble_eq_true rfl)⟩, ⟨(Nat.le_of_ble_eq_true rfl), (Nat.le_of_ble_eq_true rfl)⟩, (Nat.le_of_ble_eq_true rfl)⟩ ki_X10_reminded ks_X10_reminded rfl (am_tab tk_X10_hangsNext 135 rfl) rfl ?_
                            rintro r V2 ⟨rfl, hF5, e59⟩
                            have hV2 : frw W_hg σ V2 := (hV.trans (hF4.mono (by unfold W_sel W_hg; omega))).trans (hF5.mono (by unfold W_rem W_hg; omega))
                            have hLV2 : lay V2 := hV2.L hL
                            rw [rmE_eq hc4, rmE_20 hag (pN_8 hG0.R)]
                            have hVV : ∀ a j, ¬ W_sel a j → ¬ W_rem a j → V2.2.1 a j = V.2.1 a j := fun a j h1 h2 => (hF5.2.2 a j h2).trans (hF4.2.2 a j h1)
                            refine am_st (st2 := [am_i (rmE (bgS σ) (tsD σ) (selE (bgS σ) (tsD σ) (wtD σ i)) (wtD σ i))]) rfl ?_
                            refine am_if_ne (q := 243) (t := 252) (am_tab tk_X10_hangsNext 136 rfl) (by decide) rfl (fun h240 => ?_) (fun h240 => ?_)
                            · refine am_iinc (q := 255) rfl (by omega) (by decide) (ls2 := [(9, am_i (((i : Int) + 1))), (10, am_i ((ao_or (bsD σ) (ao_shl 1 (i : Int))))), (1, am_i ((pN σ : Int))), (2, am_i (σ.2.1 96 2)), (3, am_i (bsD σ)), (5, am_i (thD σ)), (6, am_i (fsD σ)), (8, am_i (nwD σ 2)), (0, am_r 55), (7, am_i (mkS (hgB σ) i))]) rfl (am_tab tk_X10_hangsNext 143 rfl) rfl ?_
                              refine am_goto (t := 183) (am_tab tk_X10_hangsNext 144 rfl) (by decide) ?_
                              have k96 : ∀ k, V2.2.1 96 k = xN σ k := fun k => (hVV 96 k (by unfold W_sel; omega) (by unfold W_rem; omega)).trans (hV96 k)
                              have k99 : ∀ k, k < pN σ → V2.2.1 99 k = nwD σ (4 + k) := fun k hk => (hVV 99 k (by unfold W_sel; omega) (by unfold W_rem; omega)).trans (hV99 k hk)
                              have hs : ¬ hgB σ i = true := by unfold hgB; simp only [decide_eq_true_eq]; intro hx; first | exact absurd h200 hx.1 | exact h240 hx.2
                              rw [mkS_no (hgB σ) (n := i) hs]
                              exact am_less (by intro q hq; simp only [List.mem_cons, List.not_mem_nil, or_false] at hq; rcases hq with rfl | rfl | rfl | rfl | rfl | rfl | rfl | rfl | rfl <;> simp) (ih183 (i + 1) V2 (by omega) (by omega) hV2 k96 k99 ((hVV 55 60 (by unfold W_sel; omega) (by unfold W_rem; omega)).trans h60) ((hVV 55 61 (by unfold W_sel; omega) (by unfold W_rem; omega)).trans h61) ((hVV 55 62 (by unfold W_sel; omega) (by unfold W_rem; omega)).trans h62) e59 (fun h => absurd h h191))
                            · refine am_iload (q := 245) rfl (am_tab tk_X10_hangsNext 137 rfl) rfl ?_
                              refine am_iconst (q := 246) (n := 1) (by decide) (am_tab tk_X10_hangsNext 138 rfl) rfl ?_
                              refine am_iload (q := 248) rfl (am_tab tk_X10_hangsNext 139 rfl) rfl ?_
                              refine am_ishl (q := 249) (am_tab tk_X10_hangsNext 140 rfl) rfl ?_
                              refine am_ior (q := 250) (am_tab tk_X10_hangsNext 141 rfl) rfl ?_
                              refine am_istore (q := 252) (by decide) (ls2 := [(7, am_i ((ao_or (mkS (hgB σ) i) (ao_shl 1 (i : Int))))), (10, am_i ((ao_or (bsD σ) (ao_shl 1 (i : Int))))), (1, am_i ((pN σ : Int))), (2, am_i (σ.2.1 96 2)), (3, am_i (bsD σ)), (5, am_i (thD σ)), (6, am_i (fsD σ)), (8, am_i (nwD σ 2)), (0, am_r 55), (9, am_i ((i : Int)))]) rfl (am_tab tk_X10_hangsNext 142 rfl) rfl ?_
                              refine am_iinc (q := 255) rfl (by omega) (by decide) (ls2 := [(9, am_i (((i : Int) + 1))), (7, am_i ((ao_or (mkS (hgB σ) i) (ao_shl 1 (i : Int))))), (10, am_i ((ao_or (bsD σ) (ao_shl 1 (i : Int))))), (1, am_i ((pN σ : Int))), (2, am_i (σ.2.1 96 2)), (3, am_i (bsD σ)), (5, am_i (thD σ)), (6, am_i (fsD σ)), (8, am_i (nwD σ 2)), (0, am_r 55)]) rfl (am_tab tk_X10_hangsNext 143 rfl) rfl ?_
                              refine am_goto (t := 183) (am_tab tk_X10_hangsNext 144 rfl) (by decide) ?_
                              have k96 : ∀ k, V2.2.1 96 k = xN σ k := fun k => (hVV 96 k (by unfold W_sel; omega) (by unfold W_rem; omega)).trans (hV96 k)
                              have k99 : ∀ k, k < pN σ → V2.2.1 99 k = nwD σ (4 + k) := fun k hk => (hVV 99 k (by unfold W_sel; omega) (by unfold W_rem; omega)).trans (hV99 k hk)
                              have hs : hgB σ i = true := by unfold hgB; simp only [decide_eq_true_eq]; exact ⟨h200, h240⟩
                              rw [mkS_or (hgB σ) (n := i) (by omega) hs]
                              exact am_less (by intro q hq; simp only [List.mem_cons, List.not_mem_nil, or_false] at hq; rcases hq with rfl | rfl | rfl | rfl | rfl | rfl | rfl | rfl | rfl <;> simp) (ih183 (i + 1) V2 (by omega) (by omega) hV2 k96 k99 ((hVV 55 60 (by unfold W_sel; omega) (by unfold W_rem; omega)).trans h60) ((hVV 55 61 (by unfold W_sel; omega) (by unfold W_rem; omega)).trans h61) ((hVV 55 62 (by unfold W_sel; omega) (by unfold W_rem; omega)).trans h62) e59 (fun h => absurd h h191))
                          · replace h200 := b01n h200
                            refine am_goto (t := 252) (am_tab tk_X10_hangsNext 114 rfl) (by decide) ?_
                            refine am_iinc (q := 255) rfl (by omega) (by decide) (ls2 := [(9, am_i (((i : Int) + 1))), (1, am_i ((pN σ : Int))), (2, am_i (σ.2.1 96 2)), (3, am_i (bsD σ)), (5, am_i (thD σ)), (6, am_i (fsD σ)), (8, am_i (nwD σ 2)), (0, am_r 55), (7, am_i (mkS (hgB σ) i))]) rfl (am_tab tk_X10_hangsNext 143 rfl) rfl ?_
                            refine am_goto (t := 183) (am_tab tk_X10_hangsNext 144 rfl) (by decide) ?_
                            have hs : ¬ hgB σ i = true := by unfold hgB; simp only [decide_eq_true_eq]; intro hx; first | exact absurd h200 hx.1 | exact h240 hx.2
                            rw [mkS_no (hgB σ) (n := i) hs]
                            exact am_less (by intro q hq; simp only [List.mem_cons, List.not_mem_nil, or_false] at hq; rcases hq with rfl | rfl | rfl | rfl | rfl | rfl | rfl | rfl | rfl <;> simp) (ih183 (i + 1) V (by omega) (by omega) hV hV96 hV99 h60 h61 h62 h59 (fun h => absurd h h191))
                  refine am_aload_n (q := 165) rfl (am_tab tk_X10_hangsNext 94 rfl) rfl ?_
                  refine am_getR (q := 168) (a := 55) (k := 10) (n := 108) (j := 54) (r := some (96)) (Ls_55 hLU) (by decide) rfl (Lr_55_54 hLU) (by decide) (Or.inl kf_X10_136) (am_tab tk_X10_hangsNext 95 rfl) rfl ?_
                  refine am_iconst (q := 169) (n := 2) (by decide) (am_tab tk_X10_hangsNext 96 rfl) rfl ?_
                  refine am_iload (q := 171) rfl (am_tab tk_X10_hangsNext 97 rfl) rfl ?_
                  refine am_if_eq (q := 174) (t := 178) (am_tab tk_X10_hangsNext 98 rfl) (by decide) rfl (fun h171 => ?_) (fun h171 => ?_)
                  · refine am_iload_n (q := 179) rfl (am_tab tk_X10_hangsNext 101 rfl) rfl ?_
                    refine am_iast (q := 180) (a := 96) (n := 443) (Ls_96 hLU) (by omega) (by omega) (am_tab tk_X10_hangsNext 102 rfl) rfl ?_
                    refine am_iconst (q := 181) (n := 0) (by decide) (am_tab tk_X10_hangsNext 103 rfl) rfl ?_
                    refine am_istore (q := 183) (by decide) (ls2 := [(9, am_i 0), (1, am_i ((pN σ : Int))), (2, am_i (σ.2.1 96 2)), (3, am_i (bsD σ)), (5, am_i (thD σ)), (6, am_i (fsD σ)), (8, am_i (nwD σ 2)), (0, am_r 55), (4, am_i fl), (7, am_i 0)]) rfl (am_tab tk_X10_hangsNext 104 rfl) rfl ?_
                    have hv2 : σ.2.1 96 2 = bgN σ 2 := by
                      first | (rw [if_pos (by omega)] at e2; exact e2) | (rw [if_neg (by omega)] at e2; exact e2)
                    have hx96 : ∀ k, ((am_setN U 96 2 (σ.2.1 96 2))).2.1 96 k = xN σ k := by
                      intro k
                      show (if 96 = 96 ∧ k = 2 then σ.2.1 96 2 else U.2.1 96 k) = _
                      unfold xN
                      by_cases hk : k = 2
                      · rw [if_pos ⟨rfl, hk⟩, if_pos hk, hv2]
                      · rw [if_neg (fun hc => hk hc.2), if_neg hk, hU96 k, show i = pN σ by omega]
                    refine am_less (by intro q hq; simp only [List.mem_cons, List.not_mem_nil, or_false] at hq; rcases hq with rfl | rfl | rfl | rfl | rfl | rfl | rfl | rfl | rfl <;> simp [mkS]) (L183 (_ + 1) 0 (am_setN U 96 2 (σ.2.1 96 2)) (by exact Nat.lt_succ_self _) (by omega) (hU.setN (by unfold W_hg; omega)) hx96 (fun k hk => hU99 k (by omega)) h60 h61 h62 h59 (fun _ => rfl))
                  · refine am_iconst (q := 175) (n := 0) (by decide) (am_tab tk_X10_hangsNext 99 rfl) rfl ?_
                    refine am_goto (t := 179) (am_tab tk_X10_hangsNext 100 rfl) (by decide) ?_
                    refine am_iast (q := 180) (a := 96) (n := 443) (Ls_96 hLU) (by omega) (by omega) (am_tab tk_X10_hangsNext 102 rfl) rfl ?_
                    refine am_iconst (q := 181) (n := 0) (by decide) (am_tab tk_X10_hangsNext 103 rfl) rfl ?_
                    refine am_istore (q := 183) (by decide) (ls2 := [(9, am_i 0), (1, am_i ((pN σ : Int))), (2, am_i (σ.2.1 96 2)), (3, am_i (bsD σ)), (5, am_i (thD σ)), (6, am_i (fsD σ)), (8, am_i (nwD σ 2)), (0, am_r 55), (4, am_i fl), (7, am_i 0)]) rfl (am_tab tk_X10_hangsNext 104 rfl) rfl ?_
                    have hv2 : 0 = bgN σ 2 := by
                      first | (rw [if_pos (by omega)] at e2; exact e2) | (rw [if_neg (by omega)] at e2; exact e2)
                    have hx96 : ∀ k, ((am_setN U 96 2 0)).2.1 96 k = xN σ k := by
                      intro k
                      show (if 96 = 96 ∧ k = 2 then 0 else U.2.1 96 k) = _
                      unfold xN
                      by_cases hk : k = 2
                      · rw [if_pos ⟨rfl, hk⟩, if_pos hk, hv2]
                      · rw [if_neg (fun hc => hk hc.2), if_neg hk, hU96 k, show i = pN σ by omega]
                    refine am_less (by intro q hq; simp only [List.mem_cons, List.not_mem_nil, or_false] at hq; rcases hq with rfl | rfl | rfl | rfl | rfl | rfl | rfl | rfl | rfl <;> simp [mkS]) (L183 (_ + 1) 0 (am_setN U 96 2 0) (by exact Nat.lt_succ_self _) (by omega) (hU.setN (by unfold W_hg; omega)) hx96 (fun k hk => hU99 k (by omega)) h60 h61 h62 h59 (fun _ => rfl))
                · refine am_aload_n (q := 130) rfl (am_tab tk_X10_hangsNext 75 rfl) rfl ?_
                  refine am_getR (q := 133) (a := 55) (k := 10) (n := 108) (j := 64) (r := some (99)) (Ls_55 hLU) (by decide) rfl (Lr_55_64 hLU) (by decide) (Or.inl kf_X10_145) (am_tab tk_X10_hangsNext 76 rfl) rfl ?_
                  refine am_iload (q := 135) rfl (am_tab tk_X10_hangsNext 77 rfl) rfl ?_
                  refine am_aload_n (q := 136) rfl (am_tab tk_X10_hangsNext 78 rfl) rfl ?_
                  refine am_iload (q := 138) rfl (am_tab tk_X10_hangsNext 79 rfl) rfl ?_
                  refine am_callV0 (q := 141) (me2 := M_X10_agoOf) (b := 55) (kb := 10) (nb := 108) (As := [am_i ((i : Int))]) (rest := [am_i ((i : Int)), am_r 99]) (out := [am_i (U.2.1 96 (4 + (i : Int)).toNat), am_i ((i : Int)), am_r 99]) (c_X10_agoOf U hLU (i : Int) (by omega)) ⟨rfl, rfl⟩ (Ls_55 hLU) (by decide) ⟨Or.inl km_X10_467, kc_X10_agoOf, kn_X10, kd_X10_agoOf, ⟨(Nat.le_of_ble_eq_true rfl), (Nat.le_of_ble_eq_true rfl)⟩, ⟨(Nat.le_of_ble_eq_true rfl), (Nat.le_of_ble_eq_true rfl)⟩, (Nat.le_of_ble_eq_true rfl)⟩ ki_X10_agoOf ks_X10_agoOf rfl rfl (am_tab tk_X10_hangsNext 80 rfl) rfl ?_
                  refine am_st (st2 := [am_i ((nwD σ (4 + i))), am_i ((i : Int)), am_r 99]) (by simp only [(show U.2.1 96 (4 + (i : Int)).toNat = (nwD σ (4 + i)) from (by rw [e4, hU96 (4 + i), if_neg (by omega)]))]) ?_
                  refine am_iast (q := 142) (a := 99) (n := 8) (Ls_99 hLU) (by omega) (by omega) (am_tab tk_X10_hangsNext 81 rfl) rfl ?_
                  refine am_aload_n (q := 143) rfl (am_tab tk_X10_hangsNext 82 rfl) rfl ?_
                  refine am_getR (q := 146) (a := 55) (k := 10) (n := 108) (j := 54) (r := some (96)) (Ls_55 hLU) (by decide) rfl (Lr_55_54 hLU) (by decide) (Or.inl kf_X10_136) (am_tab tk_X10_hangsNext 83 rfl) rfl ?_
                  refine am_iconst (q := 147) (n := 4) (by decide) (am_tab tk_X10_hangsNext 84 rfl) rfl ?_
                  refine am_iload (q := 149) rfl (am_tab tk_X10_hangsNext 85 rfl) rfl ?_
                  refine am_iadd (q := 150) (by omega) (am_tab tk_X10_hangsNext 86 rfl) rfl ?_
                  refine am_aload_n (q := 151) rfl (am_tab tk_X10_hangsNext 87 rfl) rfl ?_
                  refine am_getR (q := 154) (a := 55) (k := 10) (n := 108) (j := 63) (r := some (98)) (Ls_55 hLU) (by decide) rfl (Lr_55_63 hLU) (by decide) (Or.inl kf_X10_142) (am_tab tk_X10_hangsNext 88 rfl) rfl ?_
                  refine am_iload (q := 156) rfl (am_tab tk_X10_hangsNext 89 rfl) rfl ?_
                  refine am_iald (q := 157) (a := 98) (n := 8) (x := (σ.2.1 96 (4 + i))) (Ls_98 hLU) (by omega) (by omega) (by rw [show Int.toNat (i : Int) = i by omega]; exact hU98 i (by omega)) (am_tab tk_X10_hangsNext 90 rfl) rfl ?_
                  refine am_iast (q := 158) (a := 96) (n := 443) (Ls_96 hLU) (by omega) (by omega) (am_tab tk_X10_hangsNext 91 rfl) rfl ?_
                  refine am_iinc (q := 161) rfl (by omega) (by decide) (ls2 := [(9, am_i (((i : Int) + 1))), (1, am_i ((pN σ : Int))), (2, am_i (σ.2.1 96 2)), (3, am_i (bsD σ)), (5, am_i (thD σ)), (6, am_i (fsD σ)), (8, am_i (nwD σ 2)), (0, am_r 55), (4, am_i fl), (7, am_i 0)]) rfl (am_tab tk_X10_hangsNext 92 rfl) rfl ?_
                  refine am_goto (t := 123) (am_tab tk_X10_hangsNext 93 rfl) (by decide) ?_
                  have hn96 : ∀ k, ((am_setN (am_setN U 99 (Int.toNat (i : Int)) (nwD σ (4 + i))) 96 (Int.toNat (4 + (i : Int))) (σ.2.1 96 (4 + i)))).2.1 96 k = if 4 ≤ k ∧ k < 4 + (i + 1) then σ.2.1 96 k else nwD σ k := by
                    intro k
                    show (if 96 = 96 ∧ k = Int.toNat (4 + (i : Int)) then σ.2.1 96 (4 + i) else U.2.1 96 k) = _
                    rw [e4]
                    by_cases hk : k = 4 + i
                    · rw [if_pos ⟨rfl, hk⟩, if_pos (by omega), hk]
                    · rw [if_neg (fun hc => hk hc.2), hU96 k]
                      by_cases hk2 : 4 ≤ k ∧ k < 4 + i
                      · rw [if_pos hk2, if_pos (by omega)]
                      · rw [if_neg hk2, if_neg (by omega)]
                  have hn99 : ∀ k, k < i + 1 → ((am_setN (am_setN U 99 (Int.toNat (i : Int)) (nwD σ (4 + i))) 96 (Int.toNat (4 + (i : Int))) (σ.2.1 96 (4 + i)))).2.1 99 k = nwD σ (4 + k) := by
                    intro k hk
                    show (if 99 = 99 ∧ k = Int.toNat (i : Int) then nwD σ (4 + i) else U.2.1 99 k) = _
                    rw [show Int.toNat (i : Int) = i by omega]
                    by_cases hk : k = i
                    · rw [if_pos ⟨rfl, hk⟩, hk]
                    · rw [if_neg (fun hc => hk hc.2)]; exact hU99 k (by omega)
                  exact am_less (by intro q hq; simp only [List.mem_cons, List.not_mem_nil, or_false] at hq; rcases hq with rfl | rfl | rfl | rfl | rfl | rfl | rfl | rfl | rfl | rfl <;> simp) (ih123 (i + 1) (am_setN (am_setN U 99 (Int.toNat (i : Int)) (nwD σ (4 + i))) 96 (Int.toNat (4 + (i : Int))) (σ.2.1 96 (4 + i))) (by omega) (by omega) ((hU.setN (by unfold W_hg; omega)).setN (by unfold W_hg; omega)) hn96 hU98 hn99 h60 h61 h62 h59)
            refine am_less (by intro q hq; simp only [List.mem_cons, List.not_mem_nil, or_false] at hq; rcases hq with rfl | rfl | rfl | rfl | rfl | rfl | rfl | rfl | rfl | rfl <;> simp) (L123 (_ + 1) 0 T (by exact Nat.lt_succ_self _) (by omega) hT (fun k => by rw [if_neg (by omega)]; exact h96 k) h98T (by omega) h60 h61 h62 h59)
        refine am_aload_n (q := 40) rfl (am_tab tk_X10_hangsNext 23 rfl) rfl ?_
        refine am_getR (q := 43) (a := 55) (k := 10) (n := 108) (j := 54) (r := some (96)) (Ls_55 hLS) (by decide) rfl (Lr_55_54 hLS) (by decide) (Or.inl kf_X10_136) (am_tab tk_X10_hangsNext 24 rfl) rfl ?_
        refine am_bipush (q := 45) (n := 111) (by decide) rfl (am_tab tk_X10_hangsNext 25 rfl) rfl ?_
        refine am_aload_n (q := 46) rfl (am_tab tk_X10_hangsNext 26 rfl) rfl ?_
        refine am_getR (q := 49) (a := 55) (k := 10) (n := 108) (j := 54) (r := some (96)) (Ls_55 hLS) (by decide) rfl (Lr_55_54 hLS) (by decide) (Or.inl kf_X10_136) (am_tab tk_X10_hangsNext 27 rfl) rfl ?_
        refine am_iconst (q := 50) (n := 1) (by decide) (am_tab tk_X10_hangsNext 28 rfl) rfl ?_
        refine am_iald (q := 51) (a := 96) (n := 443) (x := (σ.2.1 96 1)) (Ls_96 hLS) (by omega) (by omega) (hF.2.2 96 1 (by unfold W_98; omega)) (am_tab tk_X10_hangsNext 29 rfl) rfl ?_
        refine am_aload_n (q := 52) rfl (am_tab tk_X10_hangsNext 30 rfl) rfl ?_
        refine am_callV0 (q := 55) (me2 := M_X10_yearDays) (b := 55) (kb := 10) (nb := 108) (As := []) (rest := [am_i ((σ.2.1 96 1)), am_i 111, am_r 96]) (out := [am_i (S.2.1 85 9), am_i ((σ.2.1 96 1)), am_i 111, am_r 96]) (c_X10_yearDays S hLS) ⟨rfl, rfl⟩ (Ls_55 hLS) (by decide) ⟨Or.inl km_X10_397, kc_X10_yearDays, kn_X10, kd_X10_yearDays, ⟨(Nat.le_of_ble_eq_true rfl), (Nat.le_of_ble_eq_true rfl)⟩, ⟨(Nat.le_of_ble_eq_true rfl), (Nat.le_of_ble_eq_true rfl)⟩, (Nat.le_of_ble_eq_true rfl)⟩ ki_X10_yearDays ks_X10_yearDays rfl rfl (am_tab tk_X10_hangsNext 31 rfl) rfl ?_
        refine am_st (st2 := [am_i ((σ.2.1 85 9)), am_i ((σ.2.1 96 1)), am_i 111, am_r 96]) (by simp only [(show S.2.1 85 9 = σ.2.1 85 9 from (hF.2.2 85 9 (by unfold W_98; omega)))]) ?_
        refine am_icmp_ne (q := 58) (t := 62) (am_tab tk_X10_hangsNext 32 rfl) (by decide) rfl (fun h55 => ?_) (fun h55 => ?_)
        · refine am_aload_n (q := 63) rfl (am_tab tk_X10_hangsNext 35 rfl) rfl ?_
          refine am_getR (q := 66) (a := 55) (k := 10) (n := 108) (j := 54) (r := some (96)) (Ls_55 hLS) (by decide) rfl (Lr_55_54 hLS) (by decide) (Or.inl kf_X10_136) (am_tab tk_X10_hangsNext 36 rfl) rfl ?_
          refine am_iconst (q := 67) (n := 1) (by decide) (am_tab tk_X10_hangsNext 37 rfl) rfl ?_
          refine am_iald (q := 68) (a := 96) (n := 443) (x := (σ.2.1 96 1)) (Ls_96 hLS) (by omega) (by omega) (hF.2.2 96 1 (by unfold W_98; omega)) (am_tab tk_X10_hangsNext 38 rfl) rfl ?_
          refine am_iconst (q := 69) (n := 1) (by decide) (am_tab tk_X10_hangsNext 39 rfl) rfl ?_
          refine am_iadd (q := 70) (by omega) (am_tab tk_X10_hangsNext 40 rfl) rfl ?_
          refine am_iadd (q := 71) (by omega) (am_tab tk_X10_hangsNext 41 rfl) rfl ?_
          refine am_iald (q := 72) (a := 96) (n := 443) (x := (σ.2.1 96 (Int.toNat (111 + ((σ.2.1 96 1) + 1))))) (Ls_96 hLS) (by omega) (by omega) (hF.2.2 96 (Int.toNat (111 + ((σ.2.1 96 1) + 1))) (by unfold W_98; omega)) (am_tab tk_X10_hangsNext 42 rfl) rfl ?_
          refine am_istore_n (q := 73) (by decide) (ls2 := [(3, am_i ((σ.2.1 96 (Int.toNat (111 + ((σ.2.1 96 1) + 1)))))), (2, am_i ((σ.2.1 96 2))), (1, am_i ((i : Int))), (0, am_r 55)]) rfl (am_tab tk_X10_hangsNext 43 rfl) rfl ?_
          refine am_aload_n (q := 74) rfl (am_tab tk_X10_hangsNext 44 rfl) rfl ?_
          refine am_getR (q := 77) (a := 55) (k := 10) (n := 108) (j := 54) (r := some (96)) (Ls_55 hLS) (by decide) rfl (Lr_55_54 hLS) (by decide) (Or.inl kf_X10_136) (am_tab tk_X10_hangsNext 45 rfl) rfl ?_
          refine am_iconst (q := 78) (n := 1) (by decide) (am_tab tk_X10_hangsNext 46 rfl) rfl ?_
          refine am_iald (q := 79) (a := 96) (n := 443) (x := (σ.2.1 96 1)) (Ls_96 hLS) (by omega) (by omega) (hF.2.2 96 1 (by unfold W_98; omega)) (am_tab tk_X10_hangsNext 47 rfl) rfl ?_
          refine am_aload_n (q := 80) rfl (am_tab tk_X10_hangsNext 48 rfl) rfl ?_
          refine am_callV0 (q := 83) (me2 := M_X10_yearDays) (b := 55) (kb := 10) (nb := 108) (As := []) (rest := [am_i ((σ.2.1 96 1))]) (out := [am_i (S.2.1 85 9), am_i ((σ.2.1 96 1))]) (c_X10_yearDays S hLS) ⟨rfl, rfl⟩ (Ls_55 hLS) (by decide) ⟨Or.inl km_X10_397, kc_X10_yearDays, kn_X10, kd_X10_yearDays, ⟨(Nat.le_of_ble_eq_true rfl), (Nat.le_of_ble_eq_true rfl)⟩, ⟨(Nat.le_of_ble_eq_true rfl), (Nat.le_of_ble_eq_true rfl)⟩, (Nat.le_of_ble_eq_true rfl)⟩ ki_X10_yearDays ks_X10_yearDays rfl rfl (am_tab tk_X10_hangsNext 49 rfl) rfl ?_
          refine am_st (st2 := [am_i ((σ.2.1 85 9)), am_i ((σ.2.1 96 1))]) (by simp only [(show S.2.1 85 9 = σ.2.1 85 9 from (hF.2.2 85 9 (by unfold W_98; omega)))]) ?_
          refine am_icmp_ne (q := 86) (t := 90) (am_tab tk_X10_hangsNext 50 rfl) (by decide) rfl (fun h83 => ?_) (fun h83 => ?_)
          · refine am_iconst (q := 91) (n := 0) (by decide) (am_tab tk_X10_hangsNext 53 rfl) rfl ?_
            refine am_istore (q := 93) (by decide) (ls2 := [(4, am_i 0), (3, am_i ((σ.2.1 96 (Int.toNat (111 + ((σ.2.1 96 1) + 1)))))), (2, am_i ((σ.2.1 96 2))), (1, am_i ((i : Int))), (0, am_r 55)]) rfl (am_tab tk_X10_hangsNext 54 rfl) rfl ?_
            have eb : (σ.2.1 96 (Int.toNat (111 + ((σ.2.1 96 1) + 1)))) = bsD σ := by
              unfold bsD
              rw [bgN_hi σ (Int.toNat (111 + bgN σ 1)) (by omega)]
              congr 1
              unfold bgN
              first
                | (rw [if_pos (by omega), if_pos rfl])
                | (rw [if_neg (by omega), if_neg (by omega), if_pos rfl])
            rw [eb]
            have e2 : (if 0 = 0 then σ.2.1 96 2 else 0) = bgN σ 2 := by
              unfold bgN
              first
                | (rw [if_pos rfl, if_pos (by omega), if_neg (by omega)])
                | (rw [if_neg (by omega), if_neg (by omega), if_neg (by omega), if_neg (by omega), if_pos rfl])
            refine am_less (by intro q hq; simp only [List.mem_cons, List.not_mem_nil, or_false] at hq; rcases hq with rfl | rfl | rfl | rfl | rfl <;> simp [eiN]) (L93 (_ + 1) 0 (by exact Nat.lt_succ_self _) e2)
          · exact absurd h55 (by omega)
        · refine am_iconst (q := 59) (n := 1) (by decide) (am_tab tk_X10_hangsNext 33 rfl) rfl ?_
          refine am_goto (t := 70) (am_tab tk_X10_hangsNext 34 rfl) (by decide) ?_
          refine am_iadd (q := 71) (by omega) (am_tab tk_X10_hangsNext 41 rfl) rfl ?_
          refine am_iald (q := 72) (a := 96) (n := 443) (x := (σ.2.1 96 (Int.toNat (111 + 1)))) (Ls_96 hLS) (by omega) (by omega) (hF.2.2 96 (Int.toNat (111 + 1)) (by unfold W_98; omega)) (am_tab tk_X10_hangsNext 42 rfl) rfl ?_
          refine am_istore_n (q := 73) (by decide) (ls2 := [(3, am_i ((σ.2.1 96 (Int.toNat (111 + 1))))), (2, am_i ((σ.2.1 96 2))), (1, am_i ((i : Int))), (0, am_r 55)]) rfl (am_tab tk_X10_hangsNext 43 rfl) rfl ?_
          refine am_aload_n (q := 74) rfl (am_tab tk_X10_hangsNext 44 rfl) rfl ?_
          refine am_getR (q := 77) (a := 55) (k := 10) (n := 108) (j := 54) (r := some (96)) (Ls_55 hLS) (by decide) rfl (Lr_55_54 hLS) (by decide) (Or.inl kf_X10_136) (am_tab tk_X10_hangsNext 45 rfl) rfl ?_
          refine am_iconst (q := 78) (n := 1) (by decide) (am_tab tk_X10_hangsNext 46 rfl) rfl ?_
          refine am_iald (q := 79) (a := 96) (n := 443) (x := (σ.2.1 96 1)) (Ls_96 hLS) (by omega) (by omega) (hF.2.2 96 1 (by unfold W_98; omega)) (am_tab tk_X10_hangsNext 47 rfl) rfl ?_
          refine am_aload_n (q := 80) rfl (am_tab tk_X10_hangsNext 48 rfl) rfl ?_
          refine am_callV0 (q := 83) (me2 := M_X10_yearDays) (b := 55) (kb := 10) (nb := 108) (As := []) (rest := [am_i ((σ.2.1 96 1))]) (out := [am_i (S.2.1 85 9), am_i ((σ.2.1 96 1))]) (c_X10_yearDays S hLS) ⟨rfl, rfl⟩ (Ls_55 hLS) (by decide) ⟨Or.inl km_X10_397, kc_X10_yearDays, kn_X10, kd_X10_yearDays, ⟨(Nat.le_of_ble_eq_true rfl), (Nat.le_of_ble_eq_true rfl)⟩, ⟨(Nat.le_of_ble_eq_true rfl), (Nat.le_of_ble_eq_true rfl)⟩, (Nat.le_of_ble_eq_true rfl)⟩ ki_X10_yearDays ks_X10_yearDays rfl rfl (am_tab tk_X10_hangsNext 49 rfl) rfl ?_
          refine am_st (st2 := [am_i ((σ.2.1 85 9)), am_i ((σ.2.1 96 1))]) (by simp only [(show S.2.1 85 9 = σ.2.1 85 9 from (hF.2.2 85 9 (by unfold W_98; omega)))]) ?_
          refine am_icmp_ne (q := 86) (t := 90) (am_tab tk_X10_hangsNext 50 rfl) (by decide) rfl (fun h83 => ?_) (fun h83 => ?_)
          · exact absurd h55 (by omega)
          · refine am_iconst (q := 87) (n := 1) (by decide) (am_tab tk_X10_hangsNext 51 rfl) rfl ?_
            refine am_goto (t := 91) (am_tab tk_X10_hangsNext 52 rfl) (by decide) ?_
            refine am_istore (q := 93) (by decide) (ls2 := [(4, am_i 1), (3, am_i ((σ.2.1 96 (Int.toNat (111 + 1))))), (2, am_i ((σ.2.1 96 2))), (1, am_i ((i : Int))), (0, am_r 55)]) rfl (am_tab tk_X10_hangsNext 54 rfl) rfl ?_
            have eb : (σ.2.1 96 (Int.toNat (111 + 1))) = bsD σ := by
              unfold bsD
              rw [bgN_hi σ (Int.toNat (111 + bgN σ 1)) (by omega)]
              congr 1
              unfold bgN
              first
                | (rw [if_pos (by omega), if_pos rfl])
                | (rw [if_neg (by omega), if_neg (by omega), if_pos rfl])
            rw [eb]
            have e2 : (if 1 = 0 then σ.2.1 96 2 else 0) = bgN σ 2 := by
              unfold bgN
              first
                | (rw [if_pos rfl, if_pos (by omega), if_neg (by omega)])
                | (rw [if_neg (by omega), if_neg (by omega), if_neg (by omega), if_neg (by omega), if_pos rfl])
            refine am_less (by intro q hq; simp only [List.mem_cons, List.not_mem_nil, or_false] at hq; rcases hq with rfl | rfl | rfl | rfl | rfl <;> simp [eiN]) (L93 (_ + 1) 1 (by exact Nat.lt_succ_self _) e2)
      · refine am_aload_n (q := 13) rfl (am_tab tk_X10_hangsNext 8 rfl) rfl ?_
        refine am_getR (q := 16) (a := 55) (k := 10) (n := 108) (j := 63) (r := some (98)) (Ls_55 hLS) (by decide) rfl (Lr_55_63 hLS) (by decide) (Or.inl kf_X10_142) (am_tab tk_X10_hangsNext 9 rfl) rfl ?_
        refine am_iload_n (q := 17) rfl (am_tab tk_X10_hangsNext 10 rfl) rfl ?_
        refine am_aload_n (q := 18) rfl (am_tab tk_X10_hangsNext 11 rfl) rfl ?_
        refine am_iload_n (q := 19) rfl (am_tab tk_X10_hangsNext 12 rfl) rfl ?_
        refine am_callV0 (q := 22) (me2 := M_X10_agoOf) (b := 55) (kb := 10) (nb := 108) (As := [am_i ((i : Int))]) (rest := [am_i ((i : Int)), am_r 98]) (out := [am_i (S.2.1 96 (4 + (i : Int)).toNat), am_i ((i : Int)), am_r 98]) (c_X10_agoOf S hLS (i : Int) (by omega)) ⟨rfl, rfl⟩ (Ls_55 hLS) (by decide) ⟨Or.inl km_X10_467, kc_X10_agoOf, kn_X10, kd_X10_agoOf, ⟨(Nat.le_of_ble_eq_true rfl), (Nat.le_of_ble_eq_true rfl)⟩, ⟨(Nat.le_of_ble_eq_true rfl), (Nat.le_of_ble_eq_true rfl)⟩, (Nat.le_of_ble_eq_true rfl)⟩ ki_X10_agoOf ks_X10_agoOf rfl rfl (am_tab tk_X10_hangsNext 13 rfl) rfl ?_
        refine am_st (st2 := [am_i ((σ.2.1 96 (4 + (i : Int)).toNat)), am_i ((i : Int)), am_r 98]) (by simp only [(show S.2.1 96 (4 + (i : Int)).toNat = σ.2.1 96 (4 + (i : Int)).toNat from (hF.2.2 96 ((4 + (i : Int)).toNat) (by unfold W_98; omega)))]) ?_
        refine am_iast (q := 23) (a := 98) (n := 8) (Ls_98 hLS) (by omega) (by omega) (am_tab tk_X10_hangsNext 14 rfl) rfl ?_
        refine am_iinc (q := 26) rfl (by omega) (by decide) (ls2 := [(1, am_i (((i : Int) + 1))), (2, am_i ((i : Int))), (0, am_r 55)]) rfl (am_tab tk_X10_hangsNext 15 rfl) rfl ?_
        refine am_iinc (q := 29) rfl (by omega) (by decide) (ls2 := [(2, am_i (((i : Int) + 1))), (1, am_i (((i : Int) + 1))), (0, am_r 55)]) rfl (am_tab tk_X10_hangsNext 16 rfl) rfl ?_
        refine am_goto (t := 4) (am_tab tk_X10_hangsNext 17 rfl) (by decide) ?_
        have hn98 : ∀ k, k < i + 1 → ((am_setN S 98 (Int.toNat (i : Int)) (σ.2.1 96 (4 + (i : Int)).toNat))).2.1 98 k = σ.2.1 96 (4 + k) := by
          intro k hk
          show (if 98 = 98 ∧ k = Int.toNat (i : Int) then σ.2.1 96 (4 + (i : Int)).toNat else S.2.1 98 k) = _
          rw [show Int.toNat (i : Int) = i by omega, show ((4 : Int) + (i : Int)).toNat = 4 + i by omega]
          by_cases hk : k = i
          · rw [if_pos ⟨rfl, hk⟩, hk]
          · rw [if_neg (fun hc => hk hc.2)]; exact h98 k (by omega)
        exact am_less (by intro q hq; simp only [List.mem_cons, List.not_mem_nil, or_false] at hq; rcases hq with rfl | rfl | rfl <;> simp) (ih4 (i + 1) (am_setN S 98 (Int.toNat (i : Int)) (σ.2.1 96 (4 + (i : Int)).toNat)) (by omega) (by omega) (hF.setN rfl) hn98)
  refine am_less (by intro q hq; simp only [List.mem_cons, List.not_mem_nil, or_false] at hq; rcases hq with rfl | rfl | rfl <;> simp) (L4 (_ + 1) 0 σ (by exact Nat.lt_succ_self _) (by omega) (frw.refl _ σ) (by omega))
