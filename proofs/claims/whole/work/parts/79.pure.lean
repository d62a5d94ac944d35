/-! count, nodes, worth, at -/
theorem r_wallCount {D y : gx_S} (hM : isM D y) (hg : goodD D) : f_CaseLayoutModel_wallCount y = some (pI (cn 0 (vA D 0) 81 : Nat), y) := by
  have key := lp_acc (s := s_CaseLayoutModel_wallCount_4) (x := y) 81 (fun i => pI (cn 0 (vA D 0) i : Nat)) (fun i hi => by
      have cl := cn_le 0 (vA D 0) i
      have wl := hg.2.1 i
      show s_CaseLayoutModel_wallCount_4 (pI (cn 0 (vA D 0) i : Nat), pI i, y) = some (.inl (pI (cn 0 (vA D 0) i + (if vA D 0 i = 0 then 0 else 1) : Nat), pI (i + 1), y))
      unfold s_CaseLayoutModel_wallCount_4
      simp (disch := omega) only [gI_p, gA_p, p_l0, p_l1, p_l2, p_l3, p_l4, p_l5, p_l6, p_l7, p_l8, p_l9, p_l15, p_l81, p_l99, p_l1000, p_l20000, p_add, p_sub, p_mul, p_neg, p_lt, p_le, p_eq, p_div, ck_p, nz_p, tn_p, bd_s, bl_s, bx_0, m9, m7, m81, Int.toNat_natCast, isM_12 hM, isM_13 hM, isM_14 hM, isM_15 hM, isM_16 hM, isM_17 hM, isM_20 hM, isM_21 hM, isM_22 hM, isM_23 hM, isM_24 hM, isM_25 hM, isM_26 hM, isM_27 hM, isM_28 hM, isM_29 hM, cif_if]
      rw [cif_f (by omega)]
      by_cases q : vA D 0 i = 0
      · rw [cif_t q, cif_t q, Int.add_zero]; rfl
      · rw [cif_f q, cif_f q]; rfl) (by
      have cl := cn_le 0 (vA D 0) 81
      show s_CaseLayoutModel_wallCount_4 (pI (cn 0 (vA D 0) 81 : Nat), pI (81 : Nat), y) = _
      unfold s_CaseLayoutModel_wallCount_4
      simp (disch := omega) only [gI_p, gA_p, p_l0, p_l1, p_l2, p_l3, p_l4, p_l5, p_l6, p_l7, p_l8, p_l9, p_l15, p_l81, p_l99, p_l1000, p_l20000, p_add, p_sub, p_mul, p_neg, p_lt, p_le, p_eq, p_div, ck_p, nz_p, tn_p, bd_s, bl_s, bx_0, m9, m7, m81, Int.toNat_natCast, cif_if]
      rw [cif_t (by omega)]) 81 0 (by omega) gx_fuel (by unfold gx_fuel; omega)
  have key' : gx_it s_CaseLayoutModel_wallCount_4 gx_fuel (pI 0, pI 0, y) = some (0, pI (cn 0 (vA D 0) 81 : Nat), pI (81 : Nat), y) := key
  unfold f_CaseLayoutModel_wallCount
  simp only [p_l0]
  rw [key', bl_s]
theorem P_count {x : gx_S} (hI : INV x) (a1 : Int32) : PAIR (f_CaseLayout_count a1) (f_CaseLayoutModel_count a1) cd1 x := by
  obtain ⟨a, rfl, a0, a1⟩ := a_pI a1
  have hg := hI.2.1
  have g := hg.1
  unfold goodG at g
  by_cases ha : 0 ≤ a ∧ a ≤ 3
  · have n1 : ¬ a < 0 := by omega
    have n2 : ¬ 3 < a := by omega
    refine ⟨0, cif (a = 0) (pI (vI x 3)) (cif (a = 1) (pI (vI x 4)) (cif (a = 2) (pI (vI x 5)) (pI (vI x 2)))), x, ?_, fun y hy => ?_⟩
    · unfold f_CaseLayout_count
      simp (disch := omega) only [gI_p, gA_p, p_l0, p_l1, p_l2, p_l3, p_l4, p_l5, p_l6, p_l7, p_l8, p_l9, p_l99, p_l20000, p_add, p_sub, p_mul, p_neg, p_eq, p_lt, p_le, e_needWithin, bd_s, bx_0, bx_1, bI_zp, cif_if, cif_n, c_forget, e_cellOf, e_pairOf, e_sightOf, vI_I, vI_In, vI_A, vA_I, vA_An, pI_ti, ck_p, tn_p, Int.toNat_natCast, l10, l20, l30, eq_self, cif_tt, cif_ff, cif_f n1, cif_f n2]
      by_cases e0 : a = 0
      · rw [cif_t e0, cif_t e0]
      · rw [cif_f e0, cif_f e0]
        by_cases e1 : a = 1
        · rw [cif_t e1, cif_t e1]
        · rw [cif_f e1, cif_f e1]
          by_cases e2 : a = 2
          · rw [cif_t e2, cif_t e2]
          · rw [cif_f e2, cif_f e2]
    · have hyf : fw [] [] x y := y_fw hy
      have hM : isM x y := fw_M hyf hI.1 (by decide) (by decide)
      have hM0 : isM x (gx_sI y 11 (pI 0)) := fw_M (S := [11]) (T := []) (fw_sI _ (by decide)) hM (by decide) (by decide)
      have wc := r_wallCount hM0 hg
      rw [← hI.2.2.1] at wc
      refine ⟨_, gx_sI y 11 (pI 0), ?_, rfl, ?_, ⟨fun _ => rfl, fun h => absurd rfl h⟩, ?_⟩
      · unfold f_CaseLayoutModel_count j_CaseLayoutModel_count_15
        simp (disch := omega) only [gI_p, gA_p, p_l0, p_l1, p_l2, p_l3, p_l4, p_l5, p_l6, p_l7, p_l8, p_l9, p_l99, p_l20000, p_add, p_sub, p_mul, p_neg, p_eq, p_lt, p_le, r_in, bd_s, bI_zp, cif_if, cif_n, t_0, t_1, t_2, t_3, m_forget, vI_I, vI_In, vI_A, vA_I, vA_An, pI_ti, ck_p, tn_p, Int.toNat_natCast, cv7, l10, l20, l30, eq_self, cif_tt, cif_ff, cif_t ha, wc, isM_12 hM, isM_13 hM, isM_14 hM, isM_15 hM, isM_16 hM, isM_17 hM, isM_20 hM, isM_21 hM, isM_22 hM, isM_23 hM, isM_24 hM, isM_25 hM, isM_26 hM, isM_27 hM, isM_28 hM, isM_29 hM]
        by_cases e0 : a = 0
        · rw [cif_t e0, cif_t e0]
        · rw [cif_f e0, cif_f e0]
          by_cases e1 : a = 1
          · rw [cif_t e1, cif_t e1]
          · rw [cif_f e1, cif_f e1]
            by_cases e2 : a = 2
            · rw [cif_t e2, cif_t e2]
            · rw [cif_f e2, cif_f e2]
      · simp (disch := omega) only [vI_I, pI_ti]; rfl
      · exact INV_f hI (fw_tr (fw_mo hyf (by decide) (by decide)) (fw_sI _ (by decide)))
  · refine P_throw hI 0 1 (by omega) rfl ?_ (fun y hM _ _ => ?_)
    · unfold f_CaseLayout_count
      simp (disch := omega) only [gI_p, gA_p, p_l0, p_l1, p_l2, p_l3, p_l4, p_l5, p_l6, p_l7, p_l8, p_l9, p_l99, p_l20000, p_add, p_sub, p_mul, p_neg, p_eq, p_lt, p_le, e_needWithin, bd_s, bx_0, bx_1, bI_zp, cif_if, cif_n, c_forget, e_cellOf, e_pairOf, e_sightOf, vI_I, vI_In, vI_A, vA_I, vA_An, pI_ti, ck_p, tn_p, Int.toNat_natCast, l10, l20, l30, eq_self, cif_tt, cif_ff]
      by_cases n1 : a < 0
      · rw [cif_t n1]
      · rw [cif_f n1, cif_t (by omega)]
    · unfold f_CaseLayoutModel_count j_CaseLayoutModel_count_15
      simp (disch := omega) only [gI_p, gA_p, p_l0, p_l1, p_l2, p_l3, p_l4, p_l5, p_l6, p_l7, p_l8, p_l9, p_l99, p_l20000, p_add, p_sub, p_mul, p_neg, p_eq, p_lt, p_le, r_in, bd_s, bI_zp, cif_if, cif_n, t_0, t_1, t_2, t_3, m_forget, vI_I, vI_In, vI_A, vA_I, vA_An, pI_ti, ck_p, tn_p, Int.toNat_natCast, cv7, l10, l20, l30, eq_self, cif_tt, cif_ff, cif_f ha, isM_12 hM, isM_13 hM, isM_14 hM, isM_15 hM, isM_16 hM, isM_17 hM, isM_20 hM, isM_21 hM, isM_22 hM, isM_23 hM, isM_24 hM, isM_25 hM, isM_26 hM, isM_27 hM, isM_28 hM, isM_29 hM]
/-- what was found, as both sides have it -/
theorem found_2 {x : gx_S} (h : SGM x) : vI x 9 = vI x 20 ∧ ((vI x 10 = -1 ∧ vI x 18 = 0) ∨ (0 ≤ vI x 10 ∧ vI x 18 = 1 ∧ vI x 19 = vI x 10 ∧ (∀ t, t < (vI x 3).toNat → vA x 16 t = vA x 35 t ∧ vA x 17 t = vA x 36 t) ∧ val x (vA x 16) (vA x 17) (vI x 3).toNat)) := by
  obtain ⟨s, h1, h2, h3⟩ := h
  refine ⟨h1.1.trans h2.1.symm, ?_⟩
  rcases h2.2 with ⟨q1, q2⟩ | ⟨q1, q2, q3, q4⟩
  · exact Or.inl ⟨h1.2.1.trans q1, q2⟩
  · refine Or.inr ⟨by rw [h1.2.1]; exact q1, q2, q3.trans h1.2.1.symm, fun t ht => ?_, ?_⟩
    · have u := h1.2.2 (by omega) t ht
      have v := q4 t ht
      rw [u.1, u.2, v.1, v.2]
      exact ⟨rfl, rfl⟩
    · rcases h3 with z | z
      · omega
      · exact val_c (fun t ht => by
          have u := h1.2.2 (by omega) t ht
          exact ⟨u.1.symm, u.2.symm⟩) z.2
theorem N_nodes {x : gx_S} (hI : INV x) : ∃ v y, f_CaseLayout_nodes x = some (v, x) ∧ f_CaseLayoutModel_nodes x = some (v, y) ∧ INV y := by
  have f := (found_2 hI.2.2.2).1
  refine ⟨pI (vI x 9), gx_sI x 11 (pI 0), ?_, ?_, INV_f hI (fw_sI _ (by decide))⟩
  · unfold f_CaseLayout_nodes
    simp only [gI_p]
  · unfold f_CaseLayoutModel_nodes
    simp (disch := omega) only [gI_p, p_l0, vI_In, f]
theorem N_worth {x : gx_S} (hI : INV x) : ∃ v y, f_CaseLayout_worth x = some (v, x) ∧ f_CaseLayoutModel_worth x = some (v, y) ∧ INV y := by
  have f := (found_2 hI.2.2.2).2
  have l0 := vI_lo x 18
  have l1 := vI_hi x 18
  refine ⟨pI (vI x 10), gx_sI x 11 (pI 0), ?_, ?_, INV_f hI (fw_sI _ (by decide))⟩
  · unfold f_CaseLayout_worth
    simp only [gI_p]
  · unfold f_CaseLayoutModel_worth
    simp (disch := omega) only [gI_p, p_l0, p_l1, p_neg, vI_In, p_eq, cif_if]
    rcases f with ⟨q1, q2⟩ | ⟨q1, q2, q3, -⟩
    · rw [cif_t q2, q1]
    · rw [cif_f (by omega), q3]
theorem e_needFound {x : gx_S} : f_CaseLayout_needFound x = cif (vI x 10 = -1) (some (2, pI 0, x)) (some (0, pI 0, x)) := by
  have l0 := vI_lo x 10
  have l1 := vI_hi x 10
  unfold f_CaseLayout_needFound f_Search_hasFound
  simp (disch := omega) only [gI_p, p_l0, p_l1, p_neg, p_eq, cif_if]
  by_cases q : vI x 10 = -1
  · rw [cif_t q, cif_t q, bd_s, cif_t rfl]
  · rw [cif_f q, cif_f q, bd_s]
    simp (disch := omega) only [p_eq, l10, cif_ff]
theorem P_at {x : gx_S} (hI : INV x) (a1 a2 : Int32) : PAIR (f_CaseLayout_at a1 a2) (f_CaseLayoutModel_at a1 a2) cd12 x := by
  obtain ⟨a, rfl, a0, a1⟩ := a_pI a1
  obtain ⟨b, rfl, b0, b1⟩ := a_pI a2
  have hg := hI.2.1
  have g := hg.1
  unfold goodG at g
  have hD := isD_rf x
  have na := e_needThing hD a0 a1
  have l0 := vI_lo x 18
  have l1 := vI_hi x 18
  have f := (found_2 hI.2.2.2).2
  by_cases ha : 0 ≤ a ∧ a < vI x 3
  · by_cases hb : 0 ≤ b ∧ b ≤ 1
    · rcases f with ⟨q1, q2⟩ | ⟨q1, q2, q3, q4, -⟩
      · refine P_throw hI 1 2 (by omega) rfl ?_ (fun y hM _ hyf => ?_)
        · unfold f_CaseLayout_at j_CaseLayout_at_24
          simp (disch := omega) only [gI_p, gA_p, p_l0, p_l1, p_l2, p_l3, p_l4, p_l5, p_l6, p_l7, p_l8, p_l9, p_l99, p_l20000, p_add, p_sub, p_mul, p_neg, p_eq, p_lt, p_le, e_needWithin, bd_s, bx_0, bx_1, bI_zp, cif_if, cif_n, c_forget, e_cellOf, e_pairOf, e_sightOf, vI_I, vI_In, vI_A, vA_I, vA_An, pI_ti, ck_p, tn_p, Int.toNat_natCast, l10, l20, l30, eq_self, cif_tt, cif_ff, na, cif_t ha, e_needFound, cif_t q1]
          by_cases e0 : b = 0
          · rw [cif_t e0]
          · rw [cif_f e0, cif_t (by omega)]
        · have ia := r_isThing hM hg.1 a0 a1
          have y18 := (fw_I hyf 18 (by decide)).trans q2
          unfold f_CaseLayoutModel_at j_CaseLayoutModel_at_18 j_CaseLayoutModel_at_23 j_CaseLayoutModel_at_35
          simp (disch := omega) only [gI_p, gA_p, p_l0, p_l1, p_l2, p_l3, p_l4, p_l5, p_l6, p_l7, p_l8, p_l9, p_l99, p_l20000, p_add, p_sub, p_mul, p_neg, p_eq, p_lt, p_le, r_in, bd_s, bI_zp, cif_if, cif_n, t_0, t_1, t_2, t_3, m_forget, vI_I, vI_In, vI_A, vA_I, vA_An, pI_ti, ck_p, tn_p, Int.toNat_natCast, cv7, l10, l20, l30, eq_self, cif_tt, cif_ff, ia, cif_t ha, cif_t hb, y18]
      · have n1 : ¬ vI x 10 = -1 := by omega
        have l16 := vA_lo x 16 a.toNat
        refine ⟨0, cif (b = 0) (pI (vA x 16 a.toNat)) (pI (vA x 17 a.toNat)), x, ?_, fun y hy => ?_⟩
        · unfold f_CaseLayout_at j_CaseLayout_at_24
          simp (disch := omega) only [gI_p, gA_p, p_l0, p_l1, p_l2, p_l3, p_l4, p_l5, p_l6, p_l7, p_l8, p_l9, p_l99, p_l20000, p_add, p_sub, p_mul, p_neg, p_eq, p_lt, p_le, e_needWithin, bd_s, bx_0, bx_1, bI_zp, cif_if, cif_n, c_forget, e_cellOf, e_pairOf, e_sightOf, vI_I, vI_In, vI_A, vA_I, vA_An, pI_ti, ck_p, tn_p, Int.toNat_natCast, l10, l20, l30, eq_self, cif_tt, cif_ff, na, cif_t ha, e_needFound, cif_f n1]
          by_cases e0 : b = 0
          · rw [cif_t e0, cif_t e0, cif_t e0]
          · rw [cif_f e0, cif_f e0, cif_t (by omega), cif_f e0]
        · have hyf : fw [] [] x y := y_fw hy
          have hM : isM x y := fw_M hyf hI.1 (by decide) (by decide)
          have ia := r_isThing hM hg.1 a0 a1
          have y18 := (fw_I hyf 18 (by decide)).trans q2
          have u := q4 a.toNat (by omega)
          refine ⟨_, gx_sI y 11 (pI 0), ?_, rfl, ?_, ⟨fun _ => rfl, fun h => absurd rfl h⟩, ?_⟩
          · unfold f_CaseLayoutModel_at j_CaseLayoutModel_at_18 j_CaseLayoutModel_at_23 j_CaseLayoutModel_at_35
            simp (disch := omega) only [gI_p, gA_p, p_l0, p_l1, p_l2, p_l3, p_l4, p_l5, p_l6, p_l7, p_l8, p_l9, p_l99, p_l20000, p_add, p_sub, p_mul, p_neg, p_eq, p_lt, p_le, r_in, bd_s, bI_zp, cif_if, cif_n, t_0, t_1, t_2, t_3, m_forget, vI_I, vI_In, vI_A, vA_I, vA_An, pI_ti, ck_p, tn_p, Int.toNat_natCast, cv7, l10, l20, l30, eq_self, cif_tt, cif_ff, ia, cif_t ha, cif_t hb, y18, fw_A hyf 35 (by decide), fw_A hyf 36 (by decide)]
            rw [u.1, u.2]
            by_cases e0 : b = 0
            · rw [cif_t e0, cif_t e0]
            · rw [cif_f e0, cif_f e0]
          · simp (disch := omega) only [vI_I, pI_ti]; rfl
          · exact INV_f hI (fw_tr (fw_mo hyf (by decide) (by decide)) (fw_sI _ (by decide)))
    · refine P_throw hI 0 1 (by omega) rfl ?_ (fun y hM _ hyf => ?_)
      · unfold f_CaseLayout_at
        simp (disch := omega) only [gI_p, gA_p, p_l0, p_l1, p_l2, p_l3, p_l4, p_l5, p_l6, p_l7, p_l8, p_l9, p_l99, p_l20000, p_add, p_sub, p_mul, p_neg, p_eq, p_lt, p_le, e_needWithin, bd_s, bx_0, bx_1, bI_zp, cif_if, cif_n, c_forget, e_cellOf, e_pairOf, e_sightOf, vI_I, vI_In, vI_A, vA_I, vA_An, pI_ti, ck_p, tn_p, Int.toNat_natCast, l10, l20, l30, eq_self, cif_tt, cif_ff, na, cif_t ha]
        rw [cif_f (by omega), cif_f (by omega)]
      · have ia := r_isThing hM hg.1 a0 a1
        unfold f_CaseLayoutModel_at j_CaseLayoutModel_at_18 j_CaseLayoutModel_at_23 j_CaseLayoutModel_at_35
        simp (disch := omega) only [gI_p, gA_p, p_l0, p_l1, p_l2, p_l3, p_l4, p_l5, p_l6, p_l7, p_l8, p_l9, p_l99, p_l20000, p_add, p_sub, p_mul, p_neg, p_eq, p_lt, p_le, r_in, bd_s, bI_zp, cif_if, cif_n, t_0, t_1, t_2, t_3, m_forget, vI_I, vI_In, vI_A, vA_I, vA_An, pI_ti, ck_p, tn_p, Int.toNat_natCast, cv7, l10, l20, l30, eq_self, cif_tt, cif_ff, ia, cif_t ha, cif_f hb, fw_I hyf 18 (by decide)]
  · refine P_throw hI 0 1 (by omega) rfl ?_ (fun y hM _ hyf => ?_)
    · unfold f_CaseLayout_at
      simp (disch := omega) only [gI_p, gA_p, p_l0, p_l1, p_l2, p_l3, p_l4, p_l5, p_l6, p_l7, p_l8, p_l9, p_l99, p_l20000, p_add, p_sub, p_mul, p_neg, p_eq, p_lt, p_le, e_needWithin, bd_s, bx_0, bx_1, bI_zp, cif_if, cif_n, c_forget, e_cellOf, e_pairOf, e_sightOf, vI_I, vI_In, vI_A, vA_I, vA_An, pI_ti, ck_p, tn_p, Int.toNat_natCast, l10, l20, l30, eq_self, cif_tt, cif_ff, na, cif_f ha]
    · have ia := r_isThing hM hg.1 a0 a1
      unfold f_CaseLayoutModel_at j_CaseLayoutModel_at_18 j_CaseLayoutModel_at_23 j_CaseLayoutModel_at_35
      simp (disch := omega) only [gI_p, gA_p, p_l0, p_l1, p_l2, p_l3, p_l4, p_l5, p_l6, p_l7, p_l8, p_l9, p_l99, p_l20000, p_add, p_sub, p_mul, p_neg, p_eq, p_lt, p_le, r_in, bd_s, bI_zp, cif_if, cif_n, t_0, t_1, t_2, t_3, m_forget, vI_I, vI_In, vI_A, vA_I, vA_An, pI_ti, ck_p, tn_p, Int.toNat_natCast, cv7, l10, l20, l30, eq_self, cif_tt, cif_ff, ia, cif_f ha, fw_I hyf 18 (by decide)]
