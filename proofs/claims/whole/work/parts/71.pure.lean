/-! what holds between calls -/
def fw (S T : List Nat) (x y : gx_S) : Prop := (∀ k, k ∉ S → vI y k = vI x k) ∧ (∀ k, k ∉ T → ∀ i, vA y k i = vA x k i)
theorem fw_rf {S T : List Nat} {x : gx_S} : fw S T x x := ⟨fun _ _ => rfl, fun _ _ _ => rfl⟩
theorem fw_tr {S T : List Nat} {x y z : gx_S} (h : fw S T x y) (h2 : fw S T y z) : fw S T x z :=
  ⟨fun k hk => (h2.1 k hk).trans (h.1 k hk), fun k hk i => (h2.2 k hk i).trans (h.2 k hk i)⟩
theorem fw_mo {S T S' T' : List Nat} {x y : gx_S} (h : fw S T x y) (hS : ∀ k ∈ S, k ∈ S') (hT : ∀ k ∈ T, k ∈ T') : fw S' T' x y :=
  ⟨fun k hk => h.1 k (fun q => hk (hS k q)), fun k hk i => h.2 k (fun q => hk (hT k q)) i⟩
theorem fw_fr {S T : List Nat} {x y : gx_S} (h : fr S T x y) : fw S T x y := ⟨h.1, h.2.1⟩
theorem fw_sI {S T : List Nat} {x : gx_S} {k : Nat} (v : Int32) (hk : k ∈ S) : fw S T x (gx_sI x k v) := fw_fr (fr_sI v hk)
theorem fw_sA {S T : List Nat} {x : gx_S} {k : Nat} (i : Nat) (v : Int32) (hk : k ∈ T) : fw S T x (gx_sA x k i v) := fw_fr (fr_sA i v hk)
theorem fw_sL {S T : List Nat} {x : gx_S} (i : Nat) (v : Int64) : fw S T x (gx_sL x i v) := ⟨fun _ _ => rfl, fun _ _ _ => rfl⟩
theorem fw_I {S T : List Nat} {x y : gx_S} (h : fw S T x y) (k : Nat) (hk : k ∉ S) : vI y k = vI x k := h.1 k hk
theorem fw_A {S T : List Nat} {x y : gx_S} (h : fw S T x y) (k : Nat) (hk : k ∉ T) : vA y k = vA x k := funext (h.2 k hk)
theorem fw_D {S T : List Nat} {D x y : gx_S} (h : fw S T x y) (hD : isD D x) (hS : ∀ k, k ≤ 6 → k ∉ S) (hT : ∀ k, k ≤ 10 → k ∉ T) : isD D y :=
  ⟨fun k hk => (h.1 k (hS k hk)).trans (hD.1 k hk), fun k hk i => (h.2 k (hT k hk) i).trans (hD.2 k hk i)⟩
theorem fw_M {S T : List Nat} {D x y : gx_S} (h : fw S T x y) (hM : isM D x) (hS : ∀ k, k ≤ 17 → 12 ≤ k → k ∉ S) (hT : ∀ k, k ≤ 31 → 20 ≤ k → k ∉ T) : isM D y := by
  obtain ⟨⟨a1, a2, a3, a4, a5, a6⟩, ⟨b1, b2, b3, b4, b5, b6, b7, b8, b9, b10⟩, c⟩ := hM
  have f := fun k q1 q2 => h.1 k (hS k q1 q2)
  have e := fun k q1 q2 => h.2 k (hT k q1 q2)
  refine ⟨⟨(f 12 (by omega) (by omega)).trans a1, (f 13 (by omega) (by omega)).trans a2, (f 14 (by omega) (by omega)).trans a3, (f 15 (by omega) (by omega)).trans a4, (f 16 (by omega) (by omega)).trans a5, (f 17 (by omega) (by omega)).trans a6⟩, ⟨fun i => (e 20 (by omega) (by omega) i).trans (b1 i), fun i => (e 21 (by omega) (by omega) i).trans (b2 i), fun i => (e 22 (by omega) (by omega) i).trans (b3 i), fun i => (e 23 (by omega) (by omega) i).trans (b4 i), fun i => (e 24 (by omega) (by omega) i).trans (b5 i), fun i => (e 25 (by omega) (by omega) i).trans (b6 i), fun i => (e 26 (by omega) (by omega) i).trans (b7 i), fun i => (e 27 (by omega) (by omega) i).trans (b8 i), fun i => (e 28 (by omega) (by omega) i).trans (b9 i), fun i => (e 29 (by omega) (by omega) i).trans (b10 i)⟩, fun q hq => ?_⟩
  rw [e 30 (by omega) (by omega), e 31 (by omega) (by omega)]
  exact c q hq
def WF (D : gx_S) (s : sg) : Prop := s.2.1 = -1 ∨ (0 ≤ s.2.1 ∧ val D s.2.2.1 s.2.2.2 (vI D 3).toNat)
def SGM (x : gx_S) : Prop := ∃ s, CR x x s ∧ RR x x s ∧ WF x s
def INV (x : gx_S) : Prop := isM x x ∧ goodD x ∧ vI x 2 = (cn 0 (vA x 0) 81 : Nat) ∧ SGM x
theorem isD_rf (x : gx_S) : isD x x := ⟨fun _ _ => rfl, fun _ _ _ => rfl⟩
theorem SGM_0 {y : gx_S} (v9 : vI y 9 = 0) (v10 : vI y 10 = -1) (v18 : vI y 18 = 0) (v20 : vI y 20 = 0) : SGM y :=
  ⟨(0, -1, fun _ => 0, fun _ => 0), ⟨v9, v10, fun q => absurd rfl q⟩, ⟨v20, Or.inl ⟨rfl, v18⟩⟩, Or.inl rfl⟩
theorem val_D {D D' : gx_S} (h0 : vI D' 0 = vI D 0) (h1 : vI D' 1 = vI D 1) (a0 : vA D' 0 = vA D 0) (a1 : vA D' 1 = vA D 1) (a2 : vA D' 2 = vA D 2) (a3 : vA D' 3 = vA D 3) (a4 : vA D' 4 = vA D 4) (a5 : vA D' 5 = vA D 5) {X Y : Nat → Int} {n : Nat} (h : val D X Y n) : val D' X Y n := by
  unfold val lies fits cellOk apt gp at h ⊢
  rw [h0, h1, a0, a1, a2, a3, a4, a5]
  exact h
theorem SGM_f {x y : gx_S} {S T : List Nat} (h : SGM x) (hf : fw S T x y) (i0 : 0 ∉ S) (i1 : 1 ∉ S) (i3 : 3 ∉ S) (i9 : 9 ∉ S) (i10 : 10 ∉ S) (i18 : 18 ∉ S) (i19 : 19 ∉ S) (i20 : 20 ∉ S) (b0 : 0 ∉ T) (b1 : 1 ∉ T) (b2 : 2 ∉ T) (b3 : 3 ∉ T) (b4 : 4 ∉ T) (b5 : 5 ∉ T) (b16 : 16 ∉ T) (b17 : 17 ∉ T) (b35 : 35 ∉ T) (b36 : 36 ∉ T) : SGM y := by
  obtain ⟨s, h1, h2, h3⟩ := h
  refine ⟨s, ?_, ?_, ?_⟩
  · unfold CR at h1 ⊢
    rw [fw_I hf 9 i9, fw_I hf 10 i10, fw_I hf 3 i3, fw_A hf 16 b16, fw_A hf 17 b17]
    exact h1
  · unfold RR at h2 ⊢
    rw [fw_I hf 20 i20, fw_I hf 18 i18, fw_I hf 19 i19, fw_I hf 3 i3, fw_A hf 35 b35, fw_A hf 36 b36]
    exact h2
  · unfold WF at h3 ⊢
    rw [fw_I hf 3 i3]
    exact h3.imp id (fun z => ⟨z.1, val_D (fw_I hf 0 i0) (fw_I hf 1 i1) (fw_A hf 0 b0) (fw_A hf 1 b1) (fw_A hf 2 b2) (fw_A hf 3 b3) (fw_A hf 4 b4) (fw_A hf 5 b5) z.2⟩)
theorem good_f {x y : gx_S} {S T : List Nat} (h : goodD x) (hf : fw S T x y) (hS : ∀ k, k ≤ 6 → k ≠ 2 → k ∉ S) (hT : ∀ k, k ≤ 10 → k ≠ 1 → k ≠ 4 → k ∉ T) : goodD y := by
  unfold goodD goodG goodA at h ⊢
  rw [fw_I hf 0 (hS 0 (by omega) (by omega)), fw_I hf 1 (hS 1 (by omega) (by omega)), fw_I hf 3 (hS 3 (by omega) (by omega)), fw_I hf 4 (hS 4 (by omega) (by omega)), fw_I hf 5 (hS 5 (by omega) (by omega)), fw_I hf 6 (hS 6 (by omega) (by omega)), fw_A hf 0 (hT 0 (by omega) (by omega) (by omega)), fw_A hf 2 (hT 2 (by omega) (by omega) (by omega)), fw_A hf 3 (hT 3 (by omega) (by omega) (by omega)), fw_A hf 5 (hT 5 (by omega) (by omega) (by omega)), fw_A hf 6 (hT 6 (by omega) (by omega) (by omega)), fw_A hf 7 (hT 7 (by omega) (by omega) (by omega)), fw_A hf 8 (hT 8 (by omega) (by omega) (by omega)), fw_A hf 9 (hT 9 (by omega) (by omega) (by omega)), fw_A hf 10 (hT 10 (by omega) (by omega) (by omega))]
  exact h
theorem isM_f {x y : gx_S} {S T : List Nat} (h : isM x x) (hf : fw S T x y) (hS : ∀ k, k ≤ 6 → k ≠ 2 → k ∉ S) (hT : ∀ k, k ≤ 10 → k ∉ T) (hS2 : ∀ k, k ≤ 17 → 12 ≤ k → k ∉ S) (hT2 : ∀ k, k ≤ 31 → 20 ≤ k → k ∉ T) : isM y y := by
  have h2 := fw_M hf h hS2 hT2
  unfold isM at h2 ⊢
  rw [fw_I hf 0 (hS 0 (by omega) (by omega)), fw_I hf 1 (hS 1 (by omega) (by omega)), fw_I hf 3 (hS 3 (by omega) (by omega)), fw_I hf 4 (hS 4 (by omega) (by omega)), fw_I hf 5 (hS 5 (by omega) (by omega)), fw_I hf 6 (hS 6 (by omega) (by omega)), fw_A hf 0 (hT 0 (by omega)), fw_A hf 1 (hT 1 (by omega)), fw_A hf 2 (hT 2 (by omega)), fw_A hf 3 (hT 3 (by omega)), fw_A hf 4 (hT 4 (by omega)), fw_A hf 5 (hT 5 (by omega)), fw_A hf 6 (hT 6 (by omega)), fw_A hf 7 (hT 7 (by omega)), fw_A hf 8 (hT 8 (by omega)), fw_A hf 9 (hT 9 (by omega)), fw_A hf 10 (hT 10 (by omega))]
  exact h2
/-- scratch may change at will -/
theorem INV_f {x y : gx_S} (h : INV x) (hf : fw [7, 8, 11] [11, 12, 13, 14, 15, 18, 19, 32, 33, 34, 37] x y) : INV y := by
  refine ⟨isM_f h.1 hf (by decide) (by decide) (by decide) (by decide), good_f h.2.1 hf (by decide) (by decide), ?_, SGM_f h.2.2.2 hf (by decide) (by decide) (by decide) (by decide) (by decide) (by decide) (by decide) (by decide) (by decide) (by decide) (by decide) (by decide) (by decide) (by decide) (by decide) (by decide) (by decide) (by decide)⟩
  rw [fw_I hf 2 (by decide), fw_A hf 0 (by decide)]
  exact h.2.2.1
/-! one call on both sides -/
def PAIR (C : gx_S → Option (Nat × Int32 × gx_S)) (M : gx_S → Option (Int32 × gx_S)) (cd : Nat → Int) (x : gx_S) : Prop := ∃ j v x1, C x = some (j, v, x1) ∧ ∀ y, (y = x1 ∨ ∃ w, y = gx_sL x1 0 w) → ∃ r y2, M y = some (r, y2) ∧ gx_gL y2 = gx_gL y ∧ vI y2 11 = cd j ∧ ((j = 0 → r = v) ∧ (j ≠ 0 → cd j ≠ 0)) ∧ INV y2
theorem y_fw {S T : List Nat} {x1 y : gx_S} (h : y = x1 ∨ ∃ w, y = gx_sL x1 0 w) : fw S T x1 y := by
  rcases h with rfl | ⟨w, rfl⟩
  · exact fw_rf
  · exact fw_sL _ _
theorem t_0 (y : gx_S) : f_CaseLayoutModel_throwing (pI 0) (pI 0) (pI 0) y = some (pI 0, gx_sI y 11 (pI 0)) := by
  unfold f_CaseLayoutModel_throwing j_CaseLayoutModel_throwing_26
  simp (disch := omega) only [gI_p, p_l0, p_l1, p_eq, p_le, vI_I, pI_ti, cif_if, cif_tt, Int.le_refl]
theorem t_1 (y : gx_S) (u v : Int32) : f_CaseLayoutModel_throwing (pI 1) u v y = some (pI 1, gx_sI y 11 (pI 1)) := by
  unfold f_CaseLayoutModel_throwing j_CaseLayoutModel_throwing_26
  simp (disch := omega) only [gI_p, p_l0, p_l1, p_l2, p_l3, p_eq, p_le, vI_I, pI_ti, cif_if]
  rw [cif_f (by omega), cif_f (by omega)]
theorem t_2 (y : gx_S) (v : Int32) : f_CaseLayoutModel_throwing (pI 0) (pI 1) v y = some (pI 1, gx_sI y 11 (pI 2)) := by
  unfold f_CaseLayoutModel_throwing j_CaseLayoutModel_throwing_26
  simp (disch := omega) only [gI_p, p_l0, p_l1, p_l2, p_l3, p_eq, p_le, vI_I, pI_ti, cif_if]
  rw [cif_tt, cif_f (by omega), cif_f (by omega)]
theorem t_3 (y : gx_S) : f_CaseLayoutModel_throwing (pI 0) (pI 0) (pI 1) y = some (pI 1, gx_sI y 11 (pI 3)) := by
  unfold f_CaseLayoutModel_throwing j_CaseLayoutModel_throwing_26
  simp (disch := omega) only [gI_p, p_l0, p_l1, p_l2, p_l3, p_eq, p_le, vI_I, pI_ti, cif_if]
  rw [cif_tt, cif_tt, cif_f (by omega), cif_f (by omega)]
theorem a_pI (a : Int32) : ∃ z, a = pI z ∧ -2147483648 ≤ z ∧ z ≤ 2147483647 := ⟨a.toInt, (pI_to a).symm, by have := Int32.le_toInt a; omega, by have := Int32.toInt_lt a; omega⟩
/-- both sides throw -/
theorem P_throw {C : gx_S → Option (Nat × Int32 × gx_S)} {M : gx_S → Option (Int32 × gx_S)} {cd : Nat → Int} {x : gx_S} (hI : INV x) (j : Nat) (c : Int) (hc : 1 ≤ c ∧ c ≤ 3) (hcd : cd (j + 1) = c) (hC : C x = some (j + 1, pI 0, x)) (hM : ∀ y, isM x y → SGM y → (fw [] [] x y) → M y = some (pI 0, gx_sI y 11 (pI c))) : PAIR C M cd x := by
  refine ⟨j + 1, pI 0, x, hC, fun y hy => ?_⟩
  have f0 : fw [] [] x y := y_fw hy
  have hM' := fw_M f0 hI.1 (by decide) (by decide)
  have hS' : SGM y := SGM_f hI.2.2.2 f0 (by decide) (by decide) (by decide) (by decide) (by decide) (by decide) (by decide) (by decide) (by decide) (by decide) (by decide) (by decide) (by decide) (by decide) (by decide) (by decide) (by decide) (by decide)
  refine ⟨_, _, hM y hM' hS' f0, rfl, ?_, ⟨fun h => by omega, fun _ => by rw [hcd]; omega⟩, ?_⟩
  · rw [vI_I, pI_ti (by omega) (by omega), hcd]
  · exact INV_f hI (fw_tr (fw_mo f0 (by decide) (by decide)) (fw_sI _ (by decide)))
theorem e_needCell {D x : gx_S} (hD : isD D x) {a b : Int} (a0 : -2147483648 ≤ a) (a1 : a ≤ 2147483647) (b0 : -2147483648 ≤ b) (b1 : b ≤ 2147483647) : f_CaseLayout_needCell (pI a) (pI b) x = cif (inG D a b) (some (0, pI 0, x)) (some (1, pI 0, x)) := by
  unfold f_CaseLayout_needCell
  rw [e_holds hD a0 a1 b0 b1, bd_s]
  simp only [p_l0, bI_zp, cif_if, cif_n]
theorem e_needWithin {x : gx_S} {a l h : Int} (a0 : -2147483648 ≤ a) (a1 : a ≤ 2147483647) (l0 : -2147483648 ≤ l) (l1 : l ≤ 2147483647) (h0 : -2147483648 ≤ h) (h1 : h ≤ 2147483647) : f_CaseLayout_needWithin (pI a) (pI l) (pI h) x = cif (l ≤ a ∧ a ≤ h) (some (0, pI 0, x)) (some (3, pI 0, x)) := by
  unfold f_CaseLayout_needWithin j_CaseLayout_needWithin_10
  simp (disch := omega) only [p_l0, p_lt, p_le, cif_if]
  by_cases q : a < l
  · rw [cif_t q, cif_f (by omega)]
  · rw [cif_f q]
    exact cif_c (by omega)
theorem e_needThing {D x : gx_S} (hD : isD D x) {a : Int} (a0 : -2147483648 ≤ a) (a1 : a ≤ 2147483647) : f_CaseLayout_needThing (pI a) x = cif (0 ≤ a ∧ a < vI D 3) (some (0, pI 0, x)) (some (1, pI 0, x)) := by
  have l0 := vI_lo D 3
  have l1 := vI_hi D 3
  unfold f_CaseLayout_needThing j_CaseLayout_needThing_15
  simp (disch := omega) only [gI_p, hD.1, p_l0, p_lt, cif_if]
  by_cases q : a < 0
  · rw [cif_t q, cif_f (by omega)]
  · rw [cif_f q]
    exact cif_c (by omega)
theorem e_needPlace {D x : gx_S} (hD : isD D x) {a : Int} (a0 : -2147483648 ≤ a) (a1 : a ≤ 2147483647) : f_CaseLayout_needPlace (pI a) x = cif (0 ≤ a ∧ a < vI D 4) (some (0, pI 0, x)) (some (1, pI 0, x)) := by
  have l0 := vI_lo D 4
  have l1 := vI_hi D 4
  unfold f_CaseLayout_needPlace j_CaseLayout_needPlace_15
  simp (disch := omega) only [gI_p, hD.1, p_l0, p_lt, cif_if]
  by_cases q : a < 0
  · rw [cif_t q, cif_f (by omega)]
  · rw [cif_f q]
    exact cif_c (by omega)
theorem c_forget (x : gx_S) : f_Search_forget x = some (pI 0, gx_sI (gx_sI x 9 (pI 0)) 10 (pI (-1))) := by
  unfold f_Search_forget
  simp only [p_l0, p_l1, p_neg]
theorem m_forget (x : gx_S) : f_CaseLayoutModel_forget x = some (pI 0, gx_sI (gx_sI x 18 (pI 0)) 20 (pI 0)) := by
  unfold f_CaseLayoutModel_forget
  simp only [p_l0]
theorem bx_1 {j : Nat} {r : Int32} {x : gx_S} {g : Int32 → gx_S → Option (Nat × Int32 × gx_S)} (h : j ≠ 0) : gx_bx (some (j, r, x)) g = some (j, pI 0, x) := by
  show (if j = 0 then g r x else some (j, 0, x)) = _
  rw [if_neg h]; rfl
