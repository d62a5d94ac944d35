/-! sight, escape -/
theorem r_layBest {D y : gx_S} (hM : isM D y) (hg : goodD D) : ∃ y', f_CaseLayoutModel_layBest y = some (pI 0, y') ∧ fr [] [32, 33] y y' ∧ ∀ t, t < (vI D 3).toNat → vA y' 32 t = vA y 35 t ∧ vA y' 33 t = vA y 36 t := by
  have g := hg.1
  unfold goodG at g
  obtain ⟨b, h1, h2, h3⟩ := it_for (f := s_CaseLayoutModel_layBest_2) (a := (pI 0, y)) (fun i a => a.1 = pI i ∧ fr [] [32, 33] y a.2 ∧ ∀ t, t < i → vA a.2 32 t = vA y 35 t ∧ vA a.2 33 t = vA y 36 t) (fun b => fr [] [32, 33] y b.2.2 ∧ ∀ t, t < (vI D 3).toNat → vA b.2.2 32 t = vA y 35 t ∧ vA b.2.2 33 t = vA y 36 t) (vI D 3).toNat (by omega) ⟨rfl, fr_rf, fun t ht => absurd ht (Nat.not_lt_zero t)⟩ (fun i a hi ha => by
      obtain ⟨i0, z⟩ := a
      obtain ⟨rfl, hf, hj⟩ := ha
      have hf : fr [] [32, 33] y z := hf
      have hM' := fr_M hf hM (by decide) (by decide)
      have e35 := hf.2.1 35 (by decide) i
      have e36 := hf.2.1 36 (by decide) i
      have l0 := vA_lo y 35 i
      have l1 := vA_hi y 35 i
      have l2 := vA_lo y 36 i
      have l3 := vA_hi y 36 i
      refine Or.inl ⟨(pI (i + 1), gx_sA (gx_sA z 32 i (pI (vA y 35 i))) 33 i (pI (vA y 36 i))), ?_, rfl, fr_tr hf (fr_tr (fr_sA _ _ (by decide)) (fr_sA _ _ (by decide))), fun t ht => ?_⟩
      · unfold s_CaseLayoutModel_layBest_2
        simp (disch := omega) only [gI_p, gA_p, p_l0, p_l1, p_l2, p_l3, p_l4, p_l5, p_l6, p_l7, p_l8, p_l9, p_l15, p_l81, p_l99, p_l1000, p_l20000, p_add, p_sub, p_mul, p_neg, p_lt, p_le, p_eq, p_div, ck_p, nz_p, tn_p, bd_s, bl_s, bx_0, m9, m7, m81, Int.toNat_natCast, isM_14 hM', vA_An, e35, e36, cif_if]
        rw [cif_f (by omega)]
      · show vA (gx_sA (gx_sA z 32 i (pI (vA y 35 i))) 33 i (pI (vA y 36 i))) 32 t = vA y 35 t ∧ vA (gx_sA (gx_sA z 32 i (pI (vA y 35 i))) 33 i (pI (vA y 36 i))) 33 t = vA y 36 t
        rw [vA_An _ _ _ _ (by decide)]
        by_cases ee : t = i
        · subst ee
          rw [vA_Ae, vA_Ae, pI_ti l0 l1, pI_ti l2 l3]
          exact ⟨rfl, rfl⟩
        · rw [vA_Ai _ _ _ ee, vA_Ai _ _ _ ee, vA_An _ _ _ _ (by decide)]
          exact hj t (by omega)) (fun a ha => by
      obtain ⟨i0, z⟩ := a
      obtain ⟨rfl, hf, hj⟩ := ha
      have hM' := fr_M hf hM (by decide) (by decide)
      refine ⟨(0, pI (vI D 3).toNat, z), ?_, hf, hj⟩
      unfold s_CaseLayoutModel_layBest_2
      simp (disch := omega) only [gI_p, gA_p, p_l0, p_l1, p_l2, p_l3, p_l4, p_l5, p_l6, p_l7, p_l8, p_l9, p_l15, p_l81, p_l99, p_l1000, p_l20000, p_add, p_sub, p_mul, p_neg, p_lt, p_le, p_eq, p_div, ck_p, nz_p, tn_p, bd_s, bl_s, bx_0, m9, m7, m81, Int.toNat_natCast, isM_14 hM', cif_if]
      rw [cif_t (by omega)])
  refine ⟨b.2.2, ?_, h2, h3⟩
  unfold f_CaseLayoutModel_layBest
  simp only [p_l0, h1, bl_s]
theorem P_sight {x : gx_S} (hI : INV x) (a1 a2 : Int32) : PAIR (f_CaseLayout_sight a1 a2) (f_CaseLayoutModel_sight a1 a2) cd12 x := by
  obtain ⟨a, rfl, a0, a1⟩ := a_pI a1
  obtain ⟨b, rfl, b0, b1⟩ := a_pI a2
  have hg := hI.2.1
  have g := hg.1
  unfold goodG at g
  have hD := isD_rf x
  have na := e_needPlace hD a0 a1
  have nb' := e_needThing hD b0 b1
  have f := (found_2 hI.2.2.2).2
  have l0 := vI_lo x 18
  have l1 := vI_hi x 18
  by_cases ha : 0 ≤ a ∧ a < vI x 4
  · have ha' : 0 ≤ a ∧ a ≤ vI x 4 - 1 := by omega
    by_cases hb : 0 ≤ b ∧ b < vI x 3
    · rcases f with ⟨q1, q2⟩ | ⟨q1, q2, q3, q4, q5⟩
      · refine P_throw hI 1 2 (by omega) rfl ?_ (fun y hM _ hyf => ?_)
        · unfold f_CaseLayout_sight
          simp (disch := omega) only [gI_p, gA_p, p_l0, p_l1, p_l2, p_l3, p_l4, p_l5, p_l6, p_l7, p_l8, p_l9, p_l99, p_l20000, p_add, p_sub, p_mul, p_neg, p_eq, p_lt, p_le, e_needWithin, bd_s, bx_0, bx_1, bI_zp, cif_if, cif_n, c_forget, e_cellOf, e_pairOf, e_sightOf, vI_I, vI_In, vI_A, vA_I, vA_An, pI_ti, ck_p, tn_p, Int.toNat_natCast, l10, l20, l30, eq_self, cif_tt, cif_ff, na, nb', cif_t ha, cif_t hb, e_needFound, cif_t q1]
        · have ib := r_isThing hM hg.1 b0 b1
          have y18 := (fw_I hyf 18 (by decide)).trans q2
          unfold f_CaseLayoutModel_sight j_CaseLayoutModel_sight_23 j_CaseLayoutModel_sight_28 j_CaseLayoutModel_sight_40
          simp (disch := omega) only [gI_p, gA_p, p_l0, p_l1, p_l2, p_l3, p_l4, p_l5, p_l6, p_l7, p_l8, p_l9, p_l99, p_l20000, p_add, p_sub, p_mul, p_neg, p_eq, p_lt, p_le, r_in, bd_s, bI_zp, cif_if, cif_n, t_0, t_1, t_2, t_3, m_forget, vI_I, vI_In, vI_A, vA_I, vA_An, pI_ti, ck_p, tn_p, Int.toNat_natCast, cv7, l10, l20, l30, eq_self, cif_tt, cif_ff, ib, cif_t ha', cif_t hb, y18, isM_12 hM, isM_13 hM, isM_14 hM, isM_15 hM, isM_16 hM, isM_17 hM, isM_20 hM, isM_21 hM, isM_22 hM, isM_23 hM, isM_24 hM, isM_25 hM, isM_26 hM, isM_27 hM, isM_28 hM, isM_29 hM]
      · have n1 : ¬ vI x 10 = -1 := by omega
        obtain ⟨p, rfl⟩ : ∃ p : Nat, a = p := ⟨a.toNat, by omega⟩
        obtain ⟨t, rfl⟩ : ∃ t : Nat, b = t := ⟨b.toNat, by omega⟩
        have hpl := val_plc hg (by omega) q5
        have gp' := hg.2.2.2.2.2.2.1 p (by omega)
        obtain ⟨x1, k1, k2, k3⟩ := e_lay_2 hD hg (X := vA x 16) (Y := vA x 17) (fun i _ => ⟨rfl, rfl⟩) hpl
        have hD1 := fr_D k2 hD (by decide) (by decide)
        have e := e_isSeen_2 hD1 hg k3 q5 (t := t) (by omega) (by rw [k2.2.1 16 (by decide), k2.2.1 17 (by decide)]; exact ⟨rfl, rfl⟩) (px := vA x 7 p) (py := vA x 8 p) (by unfold inG; omega)
        refine ⟨0, bI (seen x (vA x 16) (vA x 17) (vI x 3).toNat t (vA x 7 p) (vA x 8 p)), x1, ?_, fun y hy => ?_⟩
        · unfold f_CaseLayout_sight
          simp (disch := omega) only [gI_p, gA_p, p_l0, p_l1, p_l2, p_l3, p_l4, p_l5, p_l6, p_l7, p_l8, p_l9, p_l99, p_l20000, p_add, p_sub, p_mul, p_neg, p_eq, p_lt, p_le, e_needWithin, bd_s, bx_0, bx_1, bI_zp, cif_if, cif_n, c_forget, e_cellOf, e_pairOf, e_sightOf, vI_I, vI_In, vI_A, vA_I, vA_An, pI_ti, ck_p, tn_p, Int.toNat_natCast, l10, l20, l30, eq_self, cif_tt, cif_ff, na, nb', cif_t ha, cif_t hb, e_needFound, cif_f n1, k1, hD1.2, e, nb_b]
        · have hyf : fw [] [] x1 y := y_fw hy
          have f1 : fw [] [11] x y := fw_tr (fw_fr k2) (fw_mo hyf (by decide) (by decide))
          have hM : isM x y := fw_M f1 hI.1 (by decide) (by decide)
          have ib := r_isThing hM hg.1 b0 b1
          have y18 := (fw_I f1 18 (by decide)).trans q2
          have hM0 : isM x (gx_sI y 11 (pI 0)) := fw_M (S := [11]) (T := []) (fw_sI _ (by decide)) hM (by decide) (by decide)
          obtain ⟨y', m1, m2, m3⟩ := r_layBest hM0 hg
          have hM1 := fr_M m2 hM0 (by decide) (by decide)
          have hX : ∀ i, i < (vI x 3).toNat → vA y' 32 i = vA x 16 i ∧ vA y' 33 i = vA x 17 i := by
            intro i hi
            have u := m3 i hi
            have v := q4 i hi
            rw [u.1, u.2, v.1, v.2, vA_I, vA_I, fw_A f1 35 (by decide), fw_A f1 36 (by decide)]
            exact ⟨rfl, rfl⟩
          have s := r_isSeen hM1 hg hX q5 (p := p) (t := t) (by omega) (by omega)
          refine ⟨_, y', ?_, ?_, ?_, ⟨fun _ => rfl, fun h => absurd rfl h⟩, ?_⟩
          · unfold f_CaseLayoutModel_sight j_CaseLayoutModel_sight_23 j_CaseLayoutModel_sight_28 j_CaseLayoutModel_sight_40
            simp (disch := omega) only [gI_p, gA_p, p_l0, p_l1, p_l2, p_l3, p_l4, p_l5, p_l6, p_l7, p_l8, p_l9, p_l99, p_l20000, p_add, p_sub, p_mul, p_neg, p_eq, p_lt, p_le, r_in, bd_s, bI_zp, cif_if, cif_n, t_0, t_1, t_2, t_3, m_forget, vI_I, vI_In, vI_A, vA_I, vA_An, pI_ti, ck_p, tn_p, Int.toNat_natCast, cv7, l10, l20, l30, eq_self, cif_tt, cif_ff, ib, cif_t ha', cif_t hb, y18, isM_12 hM, isM_13 hM, isM_14 hM, isM_15 hM, isM_16 hM, isM_17 hM, isM_20 hM, isM_21 hM, isM_22 hM, isM_23 hM, isM_24 hM, isM_25 hM, isM_26 hM, isM_27 hM, isM_28 hM, isM_29 hM, m1, s, nb_b]
          · exact m2.2.2
          · rw [m2.1 11 (by decide), vI_I, pI_ti (by omega) (by omega)]; rfl
          · exact INV_f hI (fw_tr (fw_tr (fw_mo f1 (by decide) (by decide)) (fw_sI _ (by decide))) (fw_mo (fw_fr m2) (by decide) (by decide)))
    · refine P_throw hI 0 1 (by omega) rfl ?_ (fun y hM _ hyf => ?_)
      · unfold f_CaseLayout_sight
        simp (disch := omega) only [gI_p, gA_p, p_l0, p_l1, p_l2, p_l3, p_l4, p_l5, p_l6, p_l7, p_l8, p_l9, p_l99, p_l20000, p_add, p_sub, p_mul, p_neg, p_eq, p_lt, p_le, e_needWithin, bd_s, bx_0, bx_1, bI_zp, cif_if, cif_n, c_forget, e_cellOf, e_pairOf, e_sightOf, vI_I, vI_In, vI_A, vA_I, vA_An, pI_ti, ck_p, tn_p, Int.toNat_natCast, l10, l20, l30, eq_self, cif_tt, cif_ff, na, nb', cif_t ha, cif_f hb]
      · have ib := r_isThing hM hg.1 b0 b1
        unfold f_CaseLayoutModel_sight j_CaseLayoutModel_sight_23 j_CaseLayoutModel_sight_28 j_CaseLayoutModel_sight_40
        simp (disch := omega) only [gI_p, gA_p, p_l0, p_l1, p_l2, p_l3, p_l4, p_l5, p_l6, p_l7, p_l8, p_l9, p_l99, p_l20000, p_add, p_sub, p_mul, p_neg, p_eq, p_lt, p_le, r_in, bd_s, bI_zp, cif_if, cif_n, t_0, t_1, t_2, t_3, m_forget, vI_I, vI_In, vI_A, vA_I, vA_An, pI_ti, ck_p, tn_p, Int.toNat_natCast, cv7, l10, l20, l30, eq_self, cif_tt, cif_ff, ib, cif_t ha', cif_f hb, fw_I hyf 18 (by decide), isM_12 hM, isM_13 hM, isM_14 hM, isM_15 hM, isM_16 hM, isM_17 hM, isM_20 hM, isM_21 hM, isM_22 hM, isM_23 hM, isM_24 hM, isM_25 hM, isM_26 hM, isM_27 hM, isM_28 hM, isM_29 hM]
  · have ha' : ¬ (0 ≤ a ∧ a ≤ vI x 4 - 1) := by omega
    refine P_throw hI 0 1 (by omega) rfl ?_ (fun y hM _ hyf => ?_)
    · unfold f_CaseLayout_sight
      simp (disch := omega) only [gI_p, gA_p, p_l0, p_l1, p_l2, p_l3, p_l4, p_l5, p_l6, p_l7, p_l8, p_l9, p_l99, p_l20000, p_add, p_sub, p_mul, p_neg, p_eq, p_lt, p_le, e_needWithin, bd_s, bx_0, bx_1, bI_zp, cif_if, cif_n, c_forget, e_cellOf, e_pairOf, e_sightOf, vI_I, vI_In, vI_A, vA_I, vA_An, pI_ti, ck_p, tn_p, Int.toNat_natCast, l10, l20, l30, eq_self, cif_tt, cif_ff, na, cif_f ha]
    · unfold f_CaseLayoutModel_sight j_CaseLayoutModel_sight_23 j_CaseLayoutModel_sight_28 j_CaseLayoutModel_sight_40
      simp (disch := omega) only [gI_p, gA_p, p_l0, p_l1, p_l2, p_l3, p_l4, p_l5, p_l6, p_l7, p_l8, p_l9, p_l99, p_l20000, p_add, p_sub, p_mul, p_neg, p_eq, p_lt, p_le, r_in, bd_s, bI_zp, cif_if, cif_n, t_0, t_1, t_2, t_3, m_forget, vI_I, vI_In, vI_A, vA_I, vA_An, pI_ti, ck_p, tn_p, Int.toNat_natCast, cv7, l10, l20, l30, eq_self, cif_tt, cif_ff, cif_f ha', fw_I hyf 18 (by decide), isM_12 hM, isM_13 hM, isM_14 hM, isM_15 hM, isM_16 hM, isM_17 hM, isM_20 hM, isM_21 hM, isM_22 hM, isM_23 hM, isM_24 hM, isM_25 hM, isM_26 hM, isM_27 hM, isM_28 hM, isM_29 hM]
theorem P_escape {x : gx_S} (hI : INV x) (a1 a2 : Int32) : PAIR (f_CaseLayout_escape a1 a2) (f_CaseLayoutModel_escape a1 a2) cd12 x := by
  obtain ⟨a, rfl, a0, a1⟩ := a_pI a1
  obtain ⟨b, rfl, b0, b1⟩ := a_pI a2
  have hg := hI.2.1
  have g := hg.1
  unfold goodG at g
  have hD := isD_rf x
  have nc := e_needCell hD a0 a1 b0 b1
  have f := (found_2 hI.2.2.2).2
  have l0 := vI_lo x 18
  have l1 := vI_hi x 18
  by_cases hin : inG x a b
  · have hin' := hin
    unfold inG at hin'
    rcases f with ⟨q1, q2⟩ | ⟨q1, q2, q3, q4, q5⟩
    · refine P_throw hI 1 2 (by omega) rfl ?_ (fun y hM _ hyf => ?_)
      · unfold f_CaseLayout_escape
        simp (disch := omega) only [gI_p, gA_p, p_l0, p_l1, p_l2, p_l3, p_l4, p_l5, p_l6, p_l7, p_l8, p_l9, p_l99, p_l20000, p_add, p_sub, p_mul, p_neg, p_eq, p_lt, p_le, e_needWithin, bd_s, bx_0, bx_1, bI_zp, cif_if, cif_n, c_forget, e_cellOf, e_pairOf, e_sightOf, vI_I, vI_In, vI_A, vA_I, vA_An, pI_ti, ck_p, tn_p, Int.toNat_natCast, l10, l20, l30, eq_self, cif_tt, cif_ff, nc, cif_t hin, e_needFound, cif_t q1]
      · have ic := r_isCell hM hg.1 a0 a1 b0 b1
        have y18 := (fw_I hyf 18 (by decide)).trans q2
        unfold f_CaseLayoutModel_escape j_CaseLayoutModel_escape_15 j_CaseLayoutModel_escape_27
        simp (disch := omega) only [gI_p, gA_p, p_l0, p_l1, p_l2, p_l3, p_l4, p_l5, p_l6, p_l7, p_l8, p_l9, p_l99, p_l20000, p_add, p_sub, p_mul, p_neg, p_eq, p_lt, p_le, r_in, bd_s, bI_zp, cif_if, cif_n, t_0, t_1, t_2, t_3, m_forget, vI_I, vI_In, vI_A, vA_I, vA_An, pI_ti, ck_p, tn_p, Int.toNat_natCast, cv7, l10, l20, l30, eq_self, cif_tt, cif_ff, ic, cif_t hin, y18]
    · have n1 : ¬ vI x 10 = -1 := by omega
      have hpl := val_plc hg (by omega) q5
      obtain ⟨x1, k1, k2, k3⟩ := e_lay_2 hD hg (X := vA x 16) (Y := vA x 17) (fun i _ => ⟨rfl, rfl⟩) hpl
      have hD1 := fr_D k2 hD (by decide) (by decide)
      obtain ⟨x2, n2, n3, n4⟩ := e_measure hD1 hg (F := FR x (vA x 16) (vA x 17)) (fun a b h => h.1) (fun a b h => by rw [k3 a b h]; exact own_FR h)
      refine ⟨0, pI (vA x2 12 (9 * b + a).toNat), x2, ?_, fun y hy => ?_⟩
      · unfold f_CaseLayout_escape
        simp (disch := omega) only [gI_p, gA_p, p_l0, p_l1, p_l2, p_l3, p_l4, p_l5, p_l6, p_l7, p_l8, p_l9, p_l99, p_l20000, p_add, p_sub, p_mul, p_neg, p_eq, p_lt, p_le, e_needWithin, bd_s, bx_0, bx_1, bI_zp, cif_if, cif_n, c_forget, e_cellOf, e_pairOf, e_sightOf, vI_I, vI_In, vI_A, vA_I, vA_An, pI_ti, ck_p, tn_p, Int.toNat_natCast, l10, l20, l30, eq_self, cif_tt, cif_ff, nc, cif_t hin, e_needFound, cif_f n1, k1, n2]
      · have hyf : fw [] [] x2 y := y_fw hy
        have f1 : fw [7] [11, 12, 13] x y := fw_tr (fw_tr (fw_mo (fw_fr k2) (by decide) (by decide)) (fw_mo (fw_fr n3) (by decide) (by decide))) (fw_mo hyf (by decide) (by decide))
        have hM : isM x y := fw_M f1 hI.1 (by decide) (by decide)
        have ic := r_isCell hM hg.1 a0 a1 b0 b1
        have y18 := (fw_I f1 18 (by decide)).trans q2
        have hM0 : isM x (gx_sI y 11 (pI 0)) := fw_M (S := [11]) (T := []) (fw_sI _ (by decide)) hM (by decide) (by decide)
        obtain ⟨y', m1, m2, m3⟩ := r_layBest hM0 hg
        have hM1 := fr_M m2 hM0 (by decide) (by decide)
        have hX : ∀ i, i < (vI x 3).toNat → vA y' 32 i = vA x 16 i ∧ vA y' 33 i = vA x 17 i := by
          intro i hi
          have u := m3 i hi
          have v := q4 i hi
          rw [u.1, u.2, v.1, v.2, vA_I, vA_I, fw_A f1 35 (by decide), fw_A f1 36 (by decide)]
          exact ⟨rfl, rfl⟩
        obtain ⟨y3, r1, r2, r3⟩ := r_measure hM1 hg hX hpl
        have hM3 := fr_M r2 hM1 (by decide) (by decide)
        have hX3 : ∀ i, i < (vI x 3).toNat → vA y3 32 i = vA x 16 i ∧ vA y3 33 i = vA x 17 i := by
          intro i hi
          rw [r2.2.1 32 (by decide), r2.2.1 33 (by decide)]; exact hX i hi
        have sf := r_stepsFrom hM3 hg.1 (a := a) (b := b) (by omega) (by omega)
        have ff := r_isFree hM3 hg hX3 hpl (a := a) (b := b) (by omega) (by omega)
        have rel := SD_SR n4 r3 hin
        rw [stp_in hin] at sf
        refine ⟨pI (vA x2 12 (9 * b + a).toNat), y3, ?_, ?_, ?_, ⟨fun _ => rfl, fun h => absurd rfl h⟩, ?_⟩
        · unfold f_CaseLayoutModel_escape j_CaseLayoutModel_escape_15 j_CaseLayoutModel_escape_27
          rcases rel with ⟨s1, s2⟩ | ⟨s1, s2, s3, s4⟩
          · rw [s2] at sf
            simp (disch := omega) only [gI_p, gA_p, p_l0, p_l1, p_l2, p_l3, p_l4, p_l5, p_l6, p_l7, p_l8, p_l9, p_l99, p_l20000, p_add, p_sub, p_mul, p_neg, p_eq, p_lt, p_le, r_in, bd_s, bI_zp, cif_if, cif_n, t_0, t_1, t_2, t_3, m_forget, vI_I, vI_In, vI_A, vA_I, vA_An, pI_ti, ck_p, tn_p, Int.toNat_natCast, cv7, l10, l20, l30, eq_self, cif_tt, cif_ff, ic, cif_t hin, y18, m1, r1, sf, p_l1000, ff]
            rw [cif_t (by omega), s1]
          · rw [s3] at sf
            simp (disch := omega) only [gI_p, gA_p, p_l0, p_l1, p_l2, p_l3, p_l4, p_l5, p_l6, p_l7, p_l8, p_l9, p_l99, p_l20000, p_add, p_sub, p_mul, p_neg, p_eq, p_lt, p_le, r_in, bd_s, bI_zp, cif_if, cif_n, t_0, t_1, t_2, t_3, m_forget, vI_I, vI_In, vI_A, vA_I, vA_An, pI_ti, ck_p, tn_p, Int.toNat_natCast, cv7, l10, l20, l30, eq_self, cif_tt, cif_ff, ic, cif_t hin, y18, m1, r1, sf, p_l1000, ff, cif_t s4]
            rw [cif_f (by omega)]
        · exact r2.2.2.trans m2.2.2
        · rw [r2.1 11 (by decide), m2.1 11 (by decide), vI_I, pI_ti (by omega) (by omega)]; rfl
        · exact INV_f hI (fw_tr (fw_tr (fw_tr (fw_mo f1 (by decide) (by decide)) (fw_sI _ (by decide))) (fw_mo (fw_fr m2) (by decide) (by decide))) (fw_mo (fw_fr r2) (by decide) (by decide)))
  · refine P_throw hI 0 1 (by omega) rfl ?_ (fun y hM _ hyf => ?_)
    · unfold f_CaseLayout_escape
      simp (disch := omega) only [gI_p, gA_p, p_l0, p_l1, p_l2, p_l3, p_l4, p_l5, p_l6, p_l7, p_l8, p_l9, p_l99, p_l20000, p_add, p_sub, p_mul, p_neg, p_eq, p_lt, p_le, e_needWithin, bd_s, bx_0, bx_1, bI_zp, cif_if, cif_n, c_forget, e_cellOf, e_pairOf, e_sightOf, vI_I, vI_In, vI_A, vA_I, vA_An, pI_ti, ck_p, tn_p, Int.toNat_natCast, l10, l20, l30, eq_self, cif_tt, cif_ff, nc, cif_f hin]
    · have ic := r_isCell hM hg.1 a0 a1 b0 b1
      unfold f_CaseLayoutModel_escape j_CaseLayoutModel_escape_15 j_CaseLayoutModel_escape_27
      simp (disch := omega) only [gI_p, gA_p, p_l0, p_l1, p_l2, p_l3, p_l4, p_l5, p_l6, p_l7, p_l8, p_l9, p_l99, p_l20000, p_add, p_sub, p_mul, p_neg, p_eq, p_lt, p_le, r_in, bd_s, bI_zp, cif_if, cif_n, t_0, t_1, t_2, t_3, m_forget, vI_I, vI_In, vI_A, vA_I, vA_An, pI_ti, ck_p, tn_p, Int.toNat_natCast, cv7, l10, l20, l30, eq_self, cif_tt, cif_ff, ic, cif_f hin, fw_I hyf 18 (by decide)]
