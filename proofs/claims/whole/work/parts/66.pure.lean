/-! a layout is judged -/
abbrev sg : Type := Int × Int × (Nat → Int) × (Nat → Int)
noncomputable def jd (D : gx_S) (X Y : Nat → Int) (s : sg) : sg := cif (s.2.1 < gainAll D X Y (vI D 3).toNat ∧ okL D X Y) (s.1, gainAll D X Y (vI D 3).toNat, X, Y) s
def CR (D x : gx_S) (s : sg) : Prop := vI x 9 = s.1 ∧ vI x 10 = s.2.1 ∧ (s.2.1 ≠ -1 → ∀ t, t < (vI D 3).toNat → vA x 16 t = s.2.2.1 t ∧ vA x 17 t = s.2.2.2 t)
def RR (D x : gx_S) (s : sg) : Prop := vI x 20 = s.1 ∧ ((s.2.1 = -1 ∧ vI x 18 = 0) ∨ (0 ≤ s.2.1 ∧ vI x 18 = 1 ∧ vI x 19 = s.2.1 ∧ ∀ t, t < (vI D 3).toNat → vA x 35 t = s.2.2.1 t ∧ vA x 36 t = s.2.2.2 t))
theorem gainAll_bd {D : gx_S} (hg : goodD D) (X Y : Nat → Int) : ∀ j, j ≤ 7 → 0 ≤ gainAll D X Y j ∧ gainAll D X Y j ≤ 99 * 7 * j := by
  intro j
  induction j with
  | zero => intro _; exact ⟨Int.le_refl _, Int.le_refl _⟩
  | succ j ih =>
    intro hj
    have := ih (by omega)
    have q := gain_bd hg.2 X Y j
    show 0 ≤ gainAll D X Y j + gain D X Y j ∧ gainAll D X Y j + gain D X Y j ≤ _
    omega
theorem CR_f {D x y : gx_S} {s : sg} {S T : List Nat} (h : CR D x s) (hf : fr S T x y) (h9 : 9 ∉ S) (h10 : 10 ∉ S) (h16 : 16 ∉ T) (h17 : 17 ∉ T) : CR D y s :=
  ⟨(hf.1 9 h9).trans h.1, (hf.1 10 h10).trans h.2.1, fun q t ht => by rw [hf.2.1 16 h16, hf.2.1 17 h17]; exact h.2.2 q t ht⟩
theorem RR_f {D x y : gx_S} {s : sg} {S T : List Nat} (h : RR D x s) (hf : fr S T x y) (h18 : 18 ∉ S) (h19 : 19 ∉ S) (h20 : 20 ∉ S) (h35 : 35 ∉ T) (h36 : 36 ∉ T) : RR D y s := by
  refine ⟨(hf.1 20 h20).trans h.1, ?_⟩
  rw [hf.1 18 h18, hf.1 19 h19]
  refine h.2.imp id (fun ⟨a, b, c, d⟩ => ⟨a, b, c, fun t ht => ?_⟩)
  rw [hf.2.1 35 h35, hf.2.1 36 h36]
  exact d t ht
theorem own_FR {D : gx_S} {X Y : Nat → Int} {a b : Int} (hin : inG D a b) : own D X Y (vI D 3).toNat a b = -1 ↔ FR D X Y a b := by
  rw [own_free]
  unfold FR
  exact ⟨fun z => ⟨hin, z⟩, fun z => z.2⟩
theorem e_judge {D x : gx_S} (hD : isD D x) (hg : goodD D) {X Y : Nat → Int} (hX : ∀ i, i < (vI D 3).toNat → vA x 14 i = X i ∧ vA x 15 i = Y i) (hv : val D X Y (vI D 3).toNat) {s : sg} (hC : CR D x s) : ∃ y, f_Search_judge (pI (gainAll D X Y (vI D 3).toNat)) x = some (pI 0, y) ∧ fr [7, 10] [11, 12, 13, 16, 17] x y ∧ CR D y (jd D X Y s) := by
  have g := hg.1
  unfold goodG at g
  have hp := val_plc hg (by omega) hv
  have gb := gainAll_bd hg X Y (vI D 3).toNat (by omega)
  have l0 := vI_lo x 10
  have l1 := vI_hi x 10
  unfold f_Search_judge jd
  rw [← hC.2.1]
  generalize gainAll D X Y (vI D 3).toNat = gA at *
  simp (disch := omega) only [gI_p, p_lt, cif_if]
  by_cases q : vI x 10 < gA
  · rw [cif_t q]
    obtain ⟨y1, k1, k2, k3⟩ := e_lay hD hg hX hp
    have hD1 := fr_D k2 hD (by decide) (by decide)
    have hX1 : ∀ i, i < (vI D 3).toNat → vA y1 14 i = X i ∧ vA y1 15 i = Y i := fun i hi => by
      rw [k2.2.1 14 (by decide), k2.2.1 15 (by decide)]; exact hX i hi
    have e1 := e_allSeen hD1 hg k3 hv hX1
    have C1 := CR_f hC k2 (by decide) (by decide) (by decide) (by decide)
    rw [k1, bd_s, e1, bd_s]
    simp only [p_l0, bI_zp, cif_n]
    by_cases q1 : allS D X Y
    · rw [cif_t q1]
      obtain ⟨y2, m1, m2⟩ := e_allEscape hD1 hg (F := FR D X Y) (fun a b h => h.1) (fun a b hin => by rw [k3 a b hin]; exact own_FR hin) hX1 hp
      have f2 : fr [7, 10] [11, 12, 13, 16, 17] x y2 := fr_tr (fr_mo k2 (by decide) (by decide)) (fr_mo m2 (by decide) (by decide))
      have C2 := CR_f C1 m2 (by decide) (by decide) (by decide) (by decide)
      rw [m1, bd_s]
      simp only [bI_zp, cif_n]
      by_cases q2 : allE D (FR D X Y) X Y
      · rw [cif_t q2, cif_t ⟨q, q1, q2⟩]
        refine ⟨_, rfl, ?_, ?_, ?_, ?_⟩
        · exact fr_tr (fr_tr (fr_tr f2 (fr_sF _ (by decide))) (fr_sF _ (by decide))) (fr_sI _ (by decide))
        · rw [vI_In _ _ (by decide)]; exact C2.1
        · rw [vI_I, pI_ti (by omega) (by omega)]
        · intro _ t ht
          have h7 : t < 7 := by omega
          have z0 : (pI 0).toNatClampNeg = 0 := by decide
          have z7 : (7 : Int32).toNatClampNeg = 7 := by decide
          have hx := hX1 t ht
          rw [← m2.2.1 14 (by decide), ← m2.2.1 15 (by decide)] at hx
          constructor
          · show vA (gx_sI _ 10 _) 16 t = X t
            rw [vA_I, vA_Fn _ _ _ (by decide), vA_F]
            show (va_cpy (gx_gA y2 14) (gx_gA y2 16) (pI 0).toNatClampNeg (pI 0).toNatClampNeg (7 : Int32).toNatClampNeg t).toInt = X t
            rw [z0, z7]
            unfold va_cpy
            rw [if_pos (by omega)]
            simp only [Nat.sub_zero, Nat.zero_add]
            exact hx.1
          · show vA (gx_sI _ 10 _) 17 t = Y t
            rw [vA_I, vA_F]
            have y0 : (0 : Int32).toNatClampNeg = 0 := by decide
            rw [y0, z7]
            unfold va_cpy
            rw [if_pos (by omega)]
            simp only [Nat.sub_zero, Nat.zero_add]
            show vA (gx_sF y2 16 _) 15 t = Y t
            rw [vA_Fn _ _ _ (by decide)]
            exact hx.2
      · rw [cif_f q2, cif_f (fun z => q2 z.2.2)]
        exact ⟨y2, rfl, f2, C2⟩
    · rw [cif_f q1, cif_f (fun z => q1 z.2.1)]
      exact ⟨y1, rfl, fr_mo k2 (by decide) (by decide), C1⟩
  · rw [cif_f q, cif_f (fun z => q z.1), p_l0]
    exact ⟨x, rfl, fr_rf, hC⟩
theorem r_keep {D x : gx_S} (hM : isM D x) (hg : goodD D) {X Y : Nat → Int} (hX : ∀ i, i < (vI D 3).toNat → vA x 32 i = X i ∧ vA x 33 i = Y i) (hv : val D X Y (vI D 3).toNat) (hok : okL D X Y) {s : sg} (hR : RR D x s) : ∃ y, f_CaseLayoutModel_keep x = some (pI 0, y) ∧ fr [18, 19] [35, 36] x y ∧ RR D y (jd D X Y s) := by
  have g := hg.1
  unfold goodG at g
  have hp := val_plc hg (by omega) hv
  have gb := gainAll_bd hg X Y (vI D 3).toNat (by omega)
  have e := r_worthNow hM hg hX hp (fun a b h1 h2 => val_gp hg hv h1 h2)
  unfold f_CaseLayoutModel_keep
  rw [e, bd_s]
  unfold jd
  generalize gainAll D X Y (vI D 3).toNat = gA at *
  have l0 := vI_lo x 18
  have l1 := vI_hi x 18
  have l2 := vI_lo x 19
  have l3 := vI_hi x 19
  have j21 : ∃ y, j_CaseLayoutModel_keep_21 (pI gA) x = some (pI 0, y) ∧ fr [18, 19] [35, 36] x y ∧ RR D y (s.1, gA, X, Y) := by
    obtain ⟨b, h1, h2, h3, h4, h5⟩ := it_for (f := s_CaseLayoutModel_keep_33) (a := (pI 0, gx_sI (gx_sI x 18 (pI 1)) 19 (pI gA))) (fun i a => a.1 = pI i ∧ fr [18, 19] [35, 36] x a.2 ∧ vI a.2 18 = 1 ∧ vI a.2 19 = gA ∧ ∀ t, t < i → vA a.2 35 t = X t ∧ vA a.2 36 t = Y t) (fun b => fr [18, 19] [35, 36] x b.2.2 ∧ vI b.2.2 18 = 1 ∧ vI b.2.2 19 = gA ∧ ∀ t, t < (vI D 3).toNat → vA b.2.2 35 t = X t ∧ vA b.2.2 36 t = Y t) (vI D 3).toNat (by omega) ⟨rfl, fr_tr (fr_sI _ (by decide)) (fr_sI _ (by decide)), by
          show vI (gx_sI (gx_sI x 18 (pI 1)) 19 (pI gA)) 18 = 1
          rw [vI_In _ _ (by decide), vI_I, pI_ti (by omega) (by omega)], by
          show vI (gx_sI (gx_sI x 18 (pI 1)) 19 (pI gA)) 19 = gA
          rw [vI_I, pI_ti (by omega) (by omega)], fun t ht => absurd ht (Nat.not_lt_zero t)⟩ (fun i a hi ha => by
        obtain ⟨i0, y⟩ := a
        obtain ⟨rfl, hf, v1, v2, hj⟩ := ha
        have hf : fr [18, 19] [35, 36] x y := hf
        have hM' := fr_M hf hM (by decide) (by decide)
        have hx := hX i hi
        rw [← hf.2.1 32 (by decide), ← hf.2.1 33 (by decide)] at hx
        have p1 := hp i hi
        refine Or.inl ⟨(pI (i + 1), gx_sA (gx_sA y 35 i (pI (X i))) 36 i (pI (Y i))), ?_, rfl, fr_tr hf (fr_tr (fr_sA _ _ (by decide)) (fr_sA _ _ (by decide))), v1, v2, fun t ht => ?_⟩
        · unfold s_CaseLayoutModel_keep_33
          simp (disch := omega) only [gI_p, gA_p, p_l0, p_l1, p_l2, p_l3, p_l4, p_l5, p_l6, p_l7, p_l8, p_l9, p_l15, p_l81, p_l99, p_l1000, p_l20000, p_add, p_sub, p_mul, p_neg, p_lt, p_le, p_eq, p_div, ck_p, nz_p, tn_p, bd_s, bl_s, bx_0, m9, m7, m81, Int.toNat_natCast, isM_14 hM', vA_An, hx.1, hx.2, cif_if]
          rw [cif_f (by omega)]
        · show vA (gx_sA (gx_sA y 35 i (pI (X i))) 36 i (pI (Y i))) 35 t = X t ∧ vA (gx_sA (gx_sA y 35 i (pI (X i))) 36 i (pI (Y i))) 36 t = Y t
          rw [vA_An _ _ _ _ (by decide)]
          by_cases ee : t = i
          · subst ee
            rw [vA_Ae, vA_Ae, pI_ti (by omega) (by omega), pI_ti (by omega) (by omega)]
            exact ⟨rfl, rfl⟩
          · rw [vA_Ai _ _ _ ee, vA_Ai _ _ _ ee, vA_An _ _ _ _ (by decide)]
            exact hj t (by omega)) (fun a ha => by
        obtain ⟨i0, y⟩ := a
        obtain ⟨rfl, hf, v1, v2, hj⟩ := ha
        have hM' := fr_M hf hM (by decide) (by decide)
        refine ⟨(0, pI (vI D 3).toNat, y), ?_, hf, v1, v2, hj⟩
        unfold s_CaseLayoutModel_keep_33
        simp (disch := omega) only [gI_p, gA_p, p_l0, p_l1, p_l2, p_l3, p_l4, p_l5, p_l6, p_l7, p_l8, p_l9, p_l15, p_l81, p_l99, p_l1000, p_l20000, p_add, p_sub, p_mul, p_neg, p_lt, p_le, p_eq, p_div, ck_p, nz_p, tn_p, bd_s, bl_s, bx_0, m9, m7, m81, Int.toNat_natCast, isM_14 hM', cif_if]
        rw [cif_t (by omega)])
    refine ⟨b.2.2, ?_, h2, ?_, Or.inr ⟨gb.1, h3, h4, h5⟩⟩
    · unfold j_CaseLayoutModel_keep_21
      simp only [p_l0, p_l1, h1, bl_s]
    · rw [h2.1 20 (by decide)]; exact hR.1
  obtain ⟨y, k1, k2, k3⟩ := j21
  rw [k1]
  simp (disch := omega) only [gI_p, p_l0, p_eq, p_lt, cif_if]
  rcases hR.2 with ⟨z1, z2⟩ | ⟨z1, z2, z3, z4⟩
  · rw [cif_t z2, cif_t ⟨by omega, hok⟩]
    exact ⟨y, rfl, k2, k3⟩
  · rw [cif_f (by omega), z3]
    by_cases q : s.2.1 < gA
    · rw [cif_t q, cif_t ⟨q, hok⟩]
      exact ⟨y, rfl, k2, k3⟩
    · rw [cif_f q, cif_f (fun z => q z.1)]
      exact ⟨x, rfl, fr_rf, hR⟩
