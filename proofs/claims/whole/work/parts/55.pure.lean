/-! what a call leaves alone -/
def fr (S T : List Nat) (x x' : gx_S) : Prop := (∀ k, k ∉ S → vI x' k = vI x k) ∧ (∀ k, k ∉ T → ∀ i, vA x' k i = vA x k i) ∧ gx_gL x' = gx_gL x
theorem fr_rf {S T : List Nat} {x : gx_S} : fr S T x x := ⟨fun _ _ => rfl, fun _ _ _ => rfl, rfl⟩
theorem fr_tr {S T : List Nat} {x y z : gx_S} (h : fr S T x y) (h2 : fr S T y z) : fr S T x z :=
  ⟨fun k hk => (h2.1 k hk).trans (h.1 k hk), fun k hk i => (h2.2.1 k hk i).trans (h.2.1 k hk i), h2.2.2.trans h.2.2⟩
theorem fr_mo {S T S' T' : List Nat} {x y : gx_S} (h : fr S T x y) (hS : ∀ k ∈ S, k ∈ S') (hT : ∀ k ∈ T, k ∈ T') : fr S' T' x y :=
  ⟨fun k hk => h.1 k (fun q => hk (hS k q)), fun k hk i => h.2.1 k (fun q => hk (hT k q)) i, h.2.2⟩
theorem fr_sI {S T : List Nat} {x : gx_S} {k : Nat} (v : Int32) (hk : k ∈ S) : fr S T x (gx_sI x k v) :=
  ⟨fun j hj => vI_In x v (fun q => hj (q ▸ hk)), fun _ _ _ => rfl, rfl⟩
theorem fr_sA {S T : List Nat} {x : gx_S} {k : Nat} (i : Nat) (v : Int32) (hk : k ∈ T) : fr S T x (gx_sA x k i v) :=
  ⟨fun _ _ => rfl, fun _ hj i' => vA_An x i v i' (fun q => hj (q ▸ hk)), rfl⟩
theorem fr_sF {S T : List Nat} {x : gx_S} {k : Nat} (f : Nat → Int32) (hk : k ∈ T) : fr S T x (gx_sF x k f) :=
  ⟨fun _ _ => rfl, fun _ hj i' => vA_Fn x f i' (fun q => hj (q ▸ hk)), rfl⟩
theorem fr_D {S T : List Nat} {D x y : gx_S} (h : fr S T x y) (hD : isD D x) (hS : ∀ k, k ≤ 6 → k ∉ S) (hT : ∀ k, k ≤ 10 → k ∉ T) : isD D y :=
  ⟨fun k hk => (h.1 k (hS k hk)).trans (hD.1 k hk), fun k hk i => (h.2.1 k (hT k hk) i).trans (hD.2 k hk i)⟩
theorem fr_M {S T : List Nat} {D x y : gx_S} (h : fr S T x y) (hM : isM D x) (hS : ∀ k, k ≤ 17 → 12 ≤ k → k ∉ S) (hT : ∀ k, k ≤ 31 → 20 ≤ k → k ∉ T) : isM D y := by
  obtain ⟨⟨a1, a2, a3, a4, a5, a6⟩, ⟨b1, b2, b3, b4, b5, b6, b7, b8, b9, b10⟩, c⟩ := hM
  have f := fun k q1 q2 => h.1 k (hS k q1 q2)
  have e := fun k q1 q2 => h.2.1 k (hT k q1 q2)
  refine ⟨⟨(f 12 (by omega) (by omega)).trans a1, (f 13 (by omega) (by omega)).trans a2, (f 14 (by omega) (by omega)).trans a3, (f 15 (by omega) (by omega)).trans a4, (f 16 (by omega) (by omega)).trans a5, (f 17 (by omega) (by omega)).trans a6⟩, ⟨fun i => (e 20 (by omega) (by omega) i).trans (b1 i), fun i => (e 21 (by omega) (by omega) i).trans (b2 i), fun i => (e 22 (by omega) (by omega) i).trans (b3 i), fun i => (e 23 (by omega) (by omega) i).trans (b4 i), fun i => (e 24 (by omega) (by omega) i).trans (b5 i), fun i => (e 25 (by omega) (by omega) i).trans (b6 i), fun i => (e 26 (by omega) (by omega) i).trans (b7 i), fun i => (e 27 (by omega) (by omega) i).trans (b8 i), fun i => (e 28 (by omega) (by omega) i).trans (b9 i), fun i => (e 29 (by omega) (by omega) i).trans (b10 i)⟩, fun q hq => ?_⟩
  rw [e 30 (by omega) (by omega), e 31 (by omega) (by omega)]
  exact c q hq
/-! the worth of the reference -/
theorem r_worthNow {D x : gx_S} (hM : isM D x) (hg : goodD D) {X Y : Nat → Int} (hX : ∀ i, i < (vI D 3).toNat → vA x 32 i = X i ∧ vA x 33 i = Y i) (hp : plc X Y (vI D 3).toNat) (hv : ∀ a b, b < a → a < (vI D 3).toNat → 0 ≤ gp D X Y a b) : f_CaseLayoutModel_worthNow x = some (pI (gainAll D X Y (vI D 3).toNat), x) := by
  have g := hg.1
  unfold goodG at g
  have gb : ∀ j, j ≤ 7 → 0 ≤ sumTo (gain D X Y) j ∧ sumTo (gain D X Y) j ≤ 99 * 7 * j := by
    intro j
    induction j with
    | zero => intro _; exact ⟨Int.le_refl _, Int.le_refl _⟩
    | succ j ih =>
      intro hj
      have := ih (by omega)
      have q := gain_bd hg.2 X Y j
      show 0 ≤ sumTo (gain D X Y) j + gain D X Y j ∧ sumTo (gain D X Y) j + gain D X Y j ≤ _
      omega
  have inner : ∀ (a : Nat) (A : Int), a < (vI D 3).toNat → 0 ≤ A → A ≤ 10000 → gx_it (s_CaseLayoutModel_worthNow_14 (pI a)) gx_fuel (pI A, pI 0, x) = some (0, pI (A + gain D X Y a), pI a, x) := by
    intro a A ha h0 h1
    have key := lp_acc (s := s_CaseLayoutModel_worthNow_14 (pI a)) (x := x) a (fun i => pI (A + sumTo (wsh D X Y a) i)) (fun i hi => by
      have z := hg.2.2.2.2.2.1 (7 * (a : Int) + i).toNat
      have e := r_gap hM hg (a := a) (b := i) (n := (vI D 3).toNat) (by omega) (by omega) (by omega) hX hp
      have p1 := hp a (by omega)
      have p2 := hp i (by omega)
      have z1 := hg.2.2.1 a (by omega)
      have z2 := hg.2.2.1 i (by omega)
      have hgp : -100 ≤ gp D X Y a i ∧ gp D X Y a i ≤ 100 := by unfold gp; omega
      have hgn := hv a i hi ha
      rw [show max 0 (gp D X Y a i) = gp D X Y a i by omega] at e
      show s_CaseLayoutModel_worthNow_14 (pI a) (pI (A + sumTo (wsh D X Y a) i), pI i, x) = some (.inl (pI (A + (sumTo (wsh D X Y a) i + wsh D X Y a i)), pI (i + 1), x))
      unfold s_CaseLayoutModel_worthNow_14
      simp (disch := omega) only [gI_p, gA_p, p_l0, p_l1, p_l2, p_l3, p_l4, p_l5, p_l6, p_l7, p_l8, p_l9, p_l15, p_l81, p_l99, p_l1000, p_l20000, p_add, p_sub, p_mul, p_neg, p_lt, p_le, p_eq, p_div, ck_p, nz_p, tn_p, bd_s, bl_s, bx_0, m9, m7, m81, Int.toNat_natCast, isM_12 hM, isM_13 hM, isM_14 hM, isM_15 hM, isM_16 hM, isM_17 hM, isM_20 hM, isM_21 hM, isM_22 hM, isM_23 hM, isM_24 hM, isM_25 hM, isM_26 hM, isM_27 hM, isM_28 hM, isM_29 hM, e, cif_if]
      rw [cif_f (by omega)]
      unfold wsh
      by_cases q2 : gp D X Y a i = 0
      · rw [cif_t q2, cif_t q2, Int.add_assoc]
      · rw [cif_f q2, cif_f q2, Int.add_zero, Int.add_zero]) (by
      show s_CaseLayoutModel_worthNow_14 (pI a) (pI (A + sumTo (wsh D X Y a) a), pI a, x) = _
      unfold s_CaseLayoutModel_worthNow_14
      simp (disch := omega) only [gI_p, gA_p, p_l0, p_l1, p_l2, p_l3, p_l4, p_l5, p_l6, p_l7, p_l8, p_l9, p_l15, p_l81, p_l99, p_l1000, p_l20000, p_add, p_sub, p_mul, p_neg, p_lt, p_le, p_eq, p_div, ck_p, nz_p, tn_p, bd_s, bl_s, bx_0, m9, m7, m81, Int.toNat_natCast, cif_if]
      rw [cif_t (by omega)]) a 0 (by omega) gx_fuel (by unfold gx_fuel; omega)
    have e0 : A + sumTo (wsh D X Y a) 0 = A := Int.add_zero A
    simp only [e0] at key
    exact key
  have key := lp_acc (s := s_CaseLayoutModel_worthNow_4) (x := x) (vI D 3).toNat (fun j => pI (sumTo (gain D X Y) j)) (fun j hj => by
      have b := gb j (by omega)
      show s_CaseLayoutModel_worthNow_4 (pI (sumTo (gain D X Y) j), pI j, x) = some (.inl (pI (sumTo (gain D X Y) j + gain D X Y j), pI (j + 1), x))
      unfold s_CaseLayoutModel_worthNow_4
      simp (disch := omega) only [gI_p, gA_p, p_l0, p_l1, p_l2, p_l3, p_l4, p_l5, p_l6, p_l7, p_l8, p_l9, p_l15, p_l81, p_l99, p_l1000, p_l20000, p_add, p_sub, p_mul, p_neg, p_lt, p_le, p_eq, p_div, ck_p, nz_p, tn_p, bd_s, bl_s, bx_0, m9, m7, m81, Int.toNat_natCast, isM_12 hM, isM_13 hM, isM_14 hM, isM_15 hM, isM_16 hM, isM_17 hM, isM_20 hM, isM_21 hM, isM_22 hM, isM_23 hM, isM_24 hM, isM_25 hM, isM_26 hM, isM_27 hM, isM_28 hM, isM_29 hM, inner, cif_if]
      rw [cif_f (by omega)]) (by
      show s_CaseLayoutModel_worthNow_4 (pI (sumTo (gain D X Y) (vI D 3).toNat), pI (vI D 3).toNat, x) = _
      unfold s_CaseLayoutModel_worthNow_4
      simp (disch := omega) only [gI_p, gA_p, p_l0, p_l1, p_l2, p_l3, p_l4, p_l5, p_l6, p_l7, p_l8, p_l9, p_l15, p_l81, p_l99, p_l1000, p_l20000, p_add, p_sub, p_mul, p_neg, p_lt, p_le, p_eq, p_div, ck_p, nz_p, tn_p, bd_s, bl_s, bx_0, m9, m7, m81, Int.toNat_natCast, isM_12 hM, isM_13 hM, isM_14 hM, isM_15 hM, isM_16 hM, isM_17 hM, isM_20 hM, isM_21 hM, isM_22 hM, isM_23 hM, isM_24 hM, isM_25 hM, isM_26 hM, isM_27 hM, isM_28 hM, isM_29 hM, cif_if]
      rw [cif_t (by omega)]) (vI D 3).toNat 0 (by omega) gx_fuel (by unfold gx_fuel; omega)
  have key' : gx_it s_CaseLayoutModel_worthNow_4 gx_fuel (pI 0, pI 0, x) = some (0, pI (gainAll D X Y (vI D 3).toNat), pI (vI D 3).toNat, x) := key
  unfold f_CaseLayoutModel_worthNow
  simp only [p_l0]
  rw [key', bl_s]
/-! whose each cell is -/
noncomputable def own (D : gx_S) (X Y : Nat → Int) : Nat → Int → Int → Int
  | 0, a, b => cif (vA D 0 (9 * b + a).toNat = 0) (-1) (-2)
  | n + 1, a, b => cif (cov D X Y n a b) n (own D X Y n a b)
theorem e_lay1 {D x : gx_S} (hD : isD D x) : ∃ z x', gx_it s_Floor_lay_2 gx_fuel (pI 0, x) = some (0, z, x') ∧ fr [] [11] x x' ∧ ∀ i, i < 81 → vA x' 11 i = cif (vA D 0 i = 0) (-1) (-2) := by
  obtain ⟨b, h1, h2, h3, h4⟩ := it_for (f := s_Floor_lay_2) (a := (pI 0, x)) (fun i a => a.1 = pI i ∧ fr [] [11] x a.2 ∧ ∀ j, j < i → vA a.2 11 j = cif (vA D 0 j = 0) (-1) (-2)) (fun b => b.1 = 0 ∧ fr [] [11] x b.2.2 ∧ ∀ j, j < 81 → vA b.2.2 11 j = cif (vA D 0 j = 0) (-1) (-2)) 81 (by omega) ⟨rfl, fr_rf, fun j h => by omega⟩ (fun i a hi ha => by
      obtain ⟨i0, y⟩ := a
      obtain ⟨rfl, hf, hj⟩ := ha
      have hD' := fr_D hf hD (by decide) (by decide)
      have b0 := vA_lo D 0 i
      have b1 := vA_hi D 0 i
      refine Or.inl ?_
      unfold s_Floor_lay_2
      simp (disch := omega) only [gI_p, gA_p, p_l0, p_l1, p_l2, p_l3, p_l4, p_l5, p_l6, p_l7, p_l8, p_l9, p_l15, p_l81, p_l99, p_l1000, p_l20000, p_add, p_sub, p_mul, p_neg, p_lt, p_le, p_eq, p_div, ck_p, nz_p, tn_p, bd_s, bl_s, bx_0, m9, m7, m81, Int.toNat_natCast, hD'.2, cif_if]
      rw [cif_f (by omega)]
      by_cases q : vA D 0 i = 0
      · refine ⟨(pI (i + 1), gx_sA y 11 i (pI (-1))), by rw [cif_t q], rfl, fr_tr hf (fr_sA _ _ (by decide)), fun j h => ?_⟩
        by_cases e : j = i
        · subst e; rw [vA_Ae, cif_t q, pI_ti (by omega) (by omega)]
        · rw [vA_Ai _ _ _ e]; exact hj j (by omega)
      · refine ⟨(pI (i + 1), gx_sA y 11 i (pI (-2))), by rw [cif_f q], rfl, fr_tr hf (fr_sA _ _ (by decide)), fun j h => ?_⟩
        by_cases e : j = i
        · subst e; rw [vA_Ae, cif_f q, pI_ti (by omega) (by omega)]
        · rw [vA_Ai _ _ _ e]; exact hj j (by omega)) (fun a ha => by
      obtain ⟨i0, y⟩ := a
      obtain ⟨rfl, hf, hj⟩ := ha
      refine ⟨(0, pI 81, y), ?_, rfl, hf, hj⟩
      unfold s_Floor_lay_2
      simp (disch := omega) only [gI_p, gA_p, p_l0, p_l1, p_l2, p_l3, p_l4, p_l5, p_l6, p_l7, p_l8, p_l9, p_l15, p_l81, p_l99, p_l1000, p_l20000, p_add, p_sub, p_mul, p_neg, p_lt, p_le, p_eq, p_div, ck_p, nz_p, tn_p, bd_s, bl_s, bx_0, m9, m7, m81, Int.toNat_natCast, cif_if]
      rw [cif_t (by omega)]
      rfl)
  exact ⟨b.2.1, b.2.2, by rw [h1, ← h2], h3, h4⟩
theorem e_lay1_2 {D x : gx_S} (hD : isD D x) : ∃ z x', gx_it s_Floor_lay_2_2 gx_fuel (pI 0, x) = some (0, z, x') ∧ fr [] [11] x x' ∧ ∀ i, i < 81 → vA x' 11 i = cif (vA D 0 i = 0) (-1) (-2) := by
  obtain ⟨b, h1, h2, h3, h4⟩ := it_for (f := s_Floor_lay_2_2) (a := (pI 0, x)) (fun i a => a.1 = pI i ∧ fr [] [11] x a.2 ∧ ∀ j, j < i → vA a.2 11 j = cif (vA D 0 j = 0) (-1) (-2)) (fun b => b.1 = 0 ∧ fr [] [11] x b.2.2 ∧ ∀ j, j < 81 → vA b.2.2 11 j = cif (vA D 0 j = 0) (-1) (-2)) 81 (by omega) ⟨rfl, fr_rf, fun j h => by omega⟩ (fun i a hi ha => by
      obtain ⟨i0, y⟩ := a
      obtain ⟨rfl, hf, hj⟩ := ha
      have hD' := fr_D hf hD (by decide) (by decide)
      have b0 := vA_lo D 0 i
      have b1 := vA_hi D 0 i
      refine Or.inl ?_
      unfold s_Floor_lay_2_2
      simp (disch := omega) only [gI_p, gA_p, p_l0, p_l1, p_l2, p_l3, p_l4, p_l5, p_l6, p_l7, p_l8, p_l9, p_l15, p_l81, p_l99, p_l1000, p_l20000, p_add, p_sub, p_mul, p_neg, p_lt, p_le, p_eq, p_div, ck_p, nz_p, tn_p, bd_s, bl_s, bx_0, m9, m7, m81, Int.toNat_natCast, hD'.2, cif_if]
      rw [cif_f (by omega)]
      by_cases q : vA D 0 i = 0
      · refine ⟨(pI (i + 1), gx_sA y 11 i (pI (-1))), by rw [cif_t q], rfl, fr_tr hf (fr_sA _ _ (by decide)), fun j h => ?_⟩
        by_cases e : j = i
        · subst e; rw [vA_Ae, cif_t q, pI_ti (by omega) (by omega)]
        · rw [vA_Ai _ _ _ e]; exact hj j (by omega)
      · refine ⟨(pI (i + 1), gx_sA y 11 i (pI (-2))), by rw [cif_f q], rfl, fr_tr hf (fr_sA _ _ (by decide)), fun j h => ?_⟩
        by_cases e : j = i
        · subst e; rw [vA_Ae, cif_f q, pI_ti (by omega) (by omega)]
        · rw [vA_Ai _ _ _ e]; exact hj j (by omega)) (fun a ha => by
      obtain ⟨i0, y⟩ := a
      obtain ⟨rfl, hf, hj⟩ := ha
      refine ⟨(0, pI 81, y), ?_, rfl, hf, hj⟩
      unfold s_Floor_lay_2_2
      simp (disch := omega) only [gI_p, gA_p, p_l0, p_l1, p_l2, p_l3, p_l4, p_l5, p_l6, p_l7, p_l8, p_l9, p_l15, p_l81, p_l99, p_l1000, p_l20000, p_add, p_sub, p_mul, p_neg, p_lt, p_le, p_eq, p_div, ck_p, nz_p, tn_p, bd_s, bl_s, bx_0, m9, m7, m81, Int.toNat_natCast, cif_if]
      rw [cif_t (by omega)]
      rfl)
  exact ⟨b.2.1, b.2.2, by rw [h1, ← h2], h3, h4⟩
