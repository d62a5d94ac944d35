/-! place, sees, most -/
def cd123 (j : Nat) : Int := if j = 1 then 1 else if j = 2 then 2 else if j = 3 then 3 else 0
def cd1 (j : Nat) : Int := if j = 1 then 1 else 0
def cd3 (j : Nat) : Int := if j = 3 then 1 else 0
def cd12 (j : Nat) : Int := if j = 1 then 1 else if j = 2 then 2 else 0
theorem P_place {x : gx_S} (hI : INV x) (a1 a2 : Int32) : PAIR (f_CaseLayout_place a1 a2) (f_CaseLayoutModel_place a1 a2) cd123 x := by
  obtain ⟨a, rfl, a0, a1⟩ := a_pI a1
  obtain ⟨b, rfl, b0, b1⟩ := a_pI a2
  have hg := hI.2.1
  have g := hg.1
  unfold goodG at g
  have hD := isD_rf x
  have nc := e_needCell hD a0 a1 b0 b1
  by_cases hin : inG x a b
  · have hin' := hin
    unfold inG at hin'
    have wl := hg.2.1 (9 * b + a).toNat
    by_cases h8 : vI x 4 < 8
    · have h8' : ¬ vI x 4 = 8 := by omega
      by_cases hw : vA x 0 (9 * b + a).toNat = 0
      · refine ⟨0, pI (vI x 4), gx_sI (gx_sA (gx_sA x 7 (vI x 4).toNat (pI a)) 8 (vI x 4).toNat (pI b)) 4 (pI (vI x 4 + 1)), ?_, fun y hy => ?_⟩
        · unfold f_CaseLayout_place f_Places_add
          simp (disch := omega) only [gI_p, gA_p, p_l0, p_l1, p_l2, p_l3, p_l4, p_l5, p_l6, p_l7, p_l8, p_l9, p_l99, p_l20000, p_add, p_sub, p_mul, p_neg, p_eq, p_lt, p_le, e_needWithin, bd_s, bx_0, bx_1, bI_zp, cif_if, cif_n, c_forget, e_cellOf, e_pairOf, e_sightOf, vI_I, vI_In, vI_A, vA_I, vA_An, pI_ti, ck_p, tn_p, Int.toNat_natCast, l10, l20, l30, eq_self, cif_tt, cif_ff, nc, cif_t hin, cif_t h8, cif_t hw]
        · have hyf : fw [] [] _ y := y_fw hy
          have hM : isM x y := fw_M (fw_mo hyf (S' := [4]) (T' := [7, 8]) (by decide) (by decide)) (fw_M (x := x) (S := [4]) (T := [7, 8]) (by repeat (first | exact fw_rf | refine fw_tr ?_ (fw_sI _ (by decide)) | refine fw_tr ?_ (fw_sA _ _ (by decide)))) hI.1 (by decide) (by decide)) (by decide) (by decide)
          have ic := r_isCell hM hg.1 a0 a1 b0 b1
          refine ⟨pI (vI x 4), gx_sI (gx_sA (gx_sA (gx_sI y 11 (pI 0)) 27 (vI x 4).toNat (pI a)) 28 (vI x 4).toNat (pI b)) 15 (pI (vI x 4 + 1)), ?_, rfl, ?_, ⟨fun _ => rfl, fun h => absurd rfl h⟩, ?_⟩
          · unfold f_CaseLayoutModel_place j_CaseLayoutModel_place_14 j_CaseLayoutModel_place_31 j_CaseLayoutModel_place_53 j_CaseLayoutModel_place_54
            simp (disch := omega) only [gI_p, gA_p, p_l0, p_l1, p_l2, p_l3, p_l4, p_l5, p_l6, p_l7, p_l8, p_l9, p_l99, p_l20000, p_add, p_sub, p_mul, p_neg, p_eq, p_lt, p_le, r_in, bd_s, bI_zp, cif_if, cif_n, t_0, t_1, t_2, t_3, m_forget, vI_I, vI_In, vI_A, vA_I, vA_An, pI_ti, ck_p, tn_p, Int.toNat_natCast, cv7, l10, l20, l30, eq_self, cif_tt, cif_ff, ic, cif_t hin, cif_f h8', cif_t hw, isM_12 hM, isM_13 hM, isM_14 hM, isM_15 hM, isM_16 hM, isM_17 hM, isM_20 hM, isM_21 hM, isM_22 hM, isM_23 hM, isM_24 hM, isM_25 hM, isM_26 hM, isM_27 hM, isM_28 hM, isM_29 hM]
            rw [show vI x 4 + 1 - 1 = vI x 4 by omega]
          · simp (disch := omega) only [vI_I, vI_In, vI_A, pI_ti]; rfl
          · have hf : fw [4, 11, 15] [7, 8, 27, 28] x (gx_sI (gx_sA (gx_sA (gx_sI y 11 (pI 0)) 27 (vI x 4).toNat (pI a)) 28 (vI x 4).toNat (pI b)) 15 (pI (vI x 4 + 1))) := by
              refine fw_tr (y := y) (fw_tr ?_ (fw_mo hyf (by decide) (by decide))) ?_ <;> repeat (first | exact fw_rf | refine fw_tr ?_ (fw_sI _ (by decide)) | refine fw_tr ?_ (fw_sA _ _ (by decide)))
            generalize hy2 : gx_sI (gx_sA (gx_sA (gx_sI y 11 (pI 0)) 27 (vI x 4).toNat (pI a)) 28 (vI x 4).toNat (pI b)) 15 (pI (vI x 4 + 1)) = y2 at *
            have v4 : vI y2 4 = vI x 4 + 1 := by
              subst hy2
              simp (disch := omega) only [vI_I, vI_In, vI_A, fw_I hyf 4 (by decide), pI_ti]
            have v15 : vI y2 15 = vI y2 4 := by
              rw [v4]
              subst hy2
              simp (disch := omega) only [vI_I, vI_In, vI_A, pI_ti]
            have w7 : ∀ i, vA y2 7 i = if i = (vI x 4).toNat then a else vA x 7 i := by
              subst hy2
              intro i
              simp (disch := omega) only [vA_I, vA_An, vA_A, fw_A hyf 7 (by decide), pI_ti]
            have w8 : ∀ i, vA y2 8 i = if i = (vI x 4).toNat then b else vA x 8 i := by
              subst hy2
              intro i
              simp (disch := omega) only [vA_I, vA_An, vA_A, fw_A hyf 8 (by decide), pI_ti]
            have e27 : vA y2 27 = vA y2 7 := by
              funext i
              rw [w7]
              subst hy2
              simp (disch := omega) only [vA_I, vA_An, vA_A, fw_A hyf 27 (by decide), isM_27 hI.1, pI_ti]
            have e28 : vA y2 28 = vA y2 8 := by
              funext i
              rw [w8]
              subst hy2
              simp (disch := omega) only [vA_I, vA_An, vA_A, fw_A hyf 28 (by decide), isM_28 hI.1, pI_ti]
            refine ⟨⟨⟨(fw_I hf 12 (by decide)).trans ((isM_12 hI.1).trans (fw_I hf 0 (by decide)).symm), (fw_I hf 13 (by decide)).trans ((isM_13 hI.1).trans (fw_I hf 1 (by decide)).symm), (fw_I hf 14 (by decide)).trans ((isM_14 hI.1).trans (fw_I hf 3 (by decide)).symm), v15, (fw_I hf 16 (by decide)).trans ((isM_16 hI.1).trans (fw_I hf 5 (by decide)).symm), (fw_I hf 17 (by decide)).trans ((isM_17 hI.1).trans (fw_I hf 6 (by decide)).symm)⟩, ⟨fun i => (congrFun (fw_A hf 20 (by decide)) i).trans ((isM_20 hI.1 i).trans (congrFun (fw_A hf 0 (by decide)) i).symm), fun i => (congrFun (fw_A hf 21 (by decide)) i).trans ((isM_21 hI.1 i).trans (congrFun (fw_A hf 1 (by decide)) i).symm), fun i => (congrFun (fw_A hf 22 (by decide)) i).trans ((isM_22 hI.1 i).trans (congrFun (fw_A hf 2 (by decide)) i).symm), fun i => (congrFun (fw_A hf 23 (by decide)) i).trans ((isM_23 hI.1 i).trans (congrFun (fw_A hf 3 (by decide)) i).symm), fun i => (congrFun (fw_A hf 24 (by decide)) i).trans ((isM_24 hI.1 i).trans (congrFun (fw_A hf 4 (by decide)) i).symm), fun i => (congrFun (fw_A hf 25 (by decide)) i).trans ((isM_25 hI.1 i).trans (congrFun (fw_A hf 5 (by decide)) i).symm), fun i => (congrFun (fw_A hf 26 (by decide)) i).trans ((isM_26 hI.1 i).trans (congrFun (fw_A hf 6 (by decide)) i).symm), fun i => congrFun e27 i, fun i => congrFun e28 i, fun i => (congrFun (fw_A hf 29 (by decide)) i).trans ((isM_29 hI.1 i).trans (congrFun (fw_A hf 9 (by decide)) i).symm)⟩, fun e he => by rw [fw_A hf 30 (by decide), fw_A hf 31 (by decide), fw_A hf 10 (by decide)]; exact hI.1.2.2 e (by rw [← fw_I hf 5 (by decide)]; exact he)⟩, ?_, ?_, SGM_f hI.2.2.2 hf (by decide) (by decide) (by decide) (by decide) (by decide) (by decide) (by decide) (by decide) (by decide) (by decide) (by decide) (by decide) (by decide) (by decide) (by decide) (by decide) (by decide) (by decide)⟩
            · obtain ⟨-, k1, k2, k3, k4, k5, k6, k7, k8, k9⟩ := hg
              unfold goodD goodG goodA
              rw [fw_I hf 0 (by decide), fw_I hf 1 (by decide), fw_I hf 3 (by decide), fw_I hf 5 (by decide), fw_I hf 6 (by decide), fw_A hf 0 (by decide), fw_A hf 2 (by decide), fw_A hf 3 (by decide), fw_A hf 5 (by decide), fw_A hf 6 (by decide), fw_A hf 9 (by decide), fw_A hf 10 (by decide), v4]
              refine ⟨by omega, k1, k2, k3, k4, k5, fun p hp => ?_, k7, k8, k9⟩
              rw [w7, w8]
              by_cases e : p = (vI x 4).toNat
              · rw [if_pos e, if_pos e]; exact ⟨hin'.1, hin'.2.1, hin'.2.2.1, hin'.2.2.2, hw⟩
              · rw [if_neg e, if_neg e]; exact k6 p (by omega)
            · rw [fw_I hf 2 (by decide), fw_A hf 0 (by decide)]; exact hI.2.2.1
      · refine P_throw hI 2 3 (by omega) rfl ?_ (fun y hM _ _ => ?_)
        · unfold f_CaseLayout_place
          simp (disch := omega) only [gI_p, gA_p, p_l0, p_l1, p_l2, p_l3, p_l4, p_l5, p_l6, p_l7, p_l8, p_l9, p_l99, p_l20000, p_add, p_sub, p_mul, p_neg, p_eq, p_lt, p_le, e_needWithin, bd_s, bx_0, bx_1, bI_zp, cif_if, cif_n, c_forget, e_cellOf, e_pairOf, e_sightOf, vI_I, vI_In, vI_A, vA_I, vA_An, pI_ti, ck_p, tn_p, Int.toNat_natCast, l10, l20, l30, eq_self, cif_tt, cif_ff, nc, cif_t hin, cif_t h8, cif_f hw]
        · have ic := r_isCell hM hg.1 a0 a1 b0 b1
          unfold f_CaseLayoutModel_place j_CaseLayoutModel_place_14 j_CaseLayoutModel_place_31 j_CaseLayoutModel_place_53 j_CaseLayoutModel_place_54
          simp (disch := omega) only [gI_p, gA_p, p_l0, p_l1, p_l2, p_l3, p_l4, p_l5, p_l6, p_l7, p_l8, p_l9, p_l99, p_l20000, p_add, p_sub, p_mul, p_neg, p_eq, p_lt, p_le, r_in, bd_s, bI_zp, cif_if, cif_n, t_0, t_1, t_2, t_3, m_forget, vI_I, vI_In, vI_A, vA_I, vA_An, pI_ti, ck_p, tn_p, Int.toNat_natCast, cv7, l10, l20, l30, eq_self, cif_tt, cif_ff, ic, cif_t hin, cif_f h8', cif_f hw, isM_12 hM, isM_13 hM, isM_14 hM, isM_15 hM, isM_16 hM, isM_17 hM, isM_20 hM, isM_21 hM, isM_22 hM, isM_23 hM, isM_24 hM, isM_25 hM, isM_26 hM, isM_27 hM, isM_28 hM, isM_29 hM]
    · have h8' : vI x 4 = 8 := by omega
      refine P_throw hI 1 2 (by omega) rfl ?_ (fun y hM _ _ => ?_)
      · unfold f_CaseLayout_place
        simp (disch := omega) only [gI_p, gA_p, p_l0, p_l1, p_l2, p_l3, p_l4, p_l5, p_l6, p_l7, p_l8, p_l9, p_l99, p_l20000, p_add, p_sub, p_mul, p_neg, p_eq, p_lt, p_le, e_needWithin, bd_s, bx_0, bx_1, bI_zp, cif_if, cif_n, c_forget, e_cellOf, e_pairOf, e_sightOf, vI_I, vI_In, vI_A, vA_I, vA_An, pI_ti, ck_p, tn_p, Int.toNat_natCast, l10, l20, l30, eq_self, cif_tt, cif_ff, nc, cif_t hin, cif_f h8]
      · have ic := r_isCell hM hg.1 a0 a1 b0 b1
        unfold f_CaseLayoutModel_place j_CaseLayoutModel_place_14 j_CaseLayoutModel_place_31 j_CaseLayoutModel_place_53 j_CaseLayoutModel_place_54
        simp (disch := omega) only [gI_p, gA_p, p_l0, p_l1, p_l2, p_l3, p_l4, p_l5, p_l6, p_l7, p_l8, p_l9, p_l99, p_l20000, p_add, p_sub, p_mul, p_neg, p_eq, p_lt, p_le, r_in, bd_s, bI_zp, cif_if, cif_n, t_0, t_1, t_2, t_3, m_forget, vI_I, vI_In, vI_A, vA_I, vA_An, pI_ti, ck_p, tn_p, Int.toNat_natCast, cv7, l10, l20, l30, eq_self, cif_tt, cif_ff, ic, cif_t hin, cif_t h8', isM_12 hM, isM_13 hM, isM_14 hM, isM_15 hM, isM_16 hM, isM_17 hM, isM_20 hM, isM_21 hM, isM_22 hM, isM_23 hM, isM_24 hM, isM_25 hM, isM_26 hM, isM_27 hM, isM_28 hM, isM_29 hM]
  · refine P_throw hI 0 1 (by omega) rfl ?_ (fun y hM _ _ => ?_)
    · unfold f_CaseLayout_place
      simp (disch := omega) only [gI_p, gA_p, p_l0, p_l1, p_l2, p_l3, p_l4, p_l5, p_l6, p_l7, p_l8, p_l9, p_l99, p_l20000, p_add, p_sub, p_mul, p_neg, p_eq, p_lt, p_le, e_needWithin, bd_s, bx_0, bx_1, bI_zp, cif_if, cif_n, c_forget, e_cellOf, e_pairOf, e_sightOf, vI_I, vI_In, vI_A, vA_I, vA_An, pI_ti, ck_p, tn_p, Int.toNat_natCast, l10, l20, l30, eq_self, cif_tt, cif_ff, nc, cif_f hin]
    · have ic := r_isCell hM hg.1 a0 a1 b0 b1
      unfold f_CaseLayoutModel_place j_CaseLayoutModel_place_14 j_CaseLayoutModel_place_31 j_CaseLayoutModel_place_53 j_CaseLayoutModel_place_54
      simp (disch := omega) only [gI_p, gA_p, p_l0, p_l1, p_l2, p_l3, p_l4, p_l5, p_l6, p_l7, p_l8, p_l9, p_l99, p_l20000, p_add, p_sub, p_mul, p_neg, p_eq, p_lt, p_le, r_in, bd_s, bI_zp, cif_if, cif_n, t_0, t_1, t_2, t_3, m_forget, vI_I, vI_In, vI_A, vA_I, vA_An, pI_ti, ck_p, tn_p, Int.toNat_natCast, cv7, l10, l20, l30, eq_self, cif_tt, cif_ff, ic, cif_f hin, isM_12 hM, isM_13 hM, isM_14 hM, isM_15 hM, isM_16 hM, isM_17 hM, isM_20 hM, isM_21 hM, isM_22 hM, isM_23 hM, isM_24 hM, isM_25 hM, isM_26 hM, isM_27 hM, isM_28 hM, isM_29 hM]
theorem nar_p {v : Int} (h : v = 0 ∨ v = 1) : vp_nar .boolean (pI v) = pI v := by
  rcases h with rfl | rfl
  · exact nar_0
  · exact nar_1
theorem nb_p {α : Type} {v : Int} {o : Option α} (h : v = 0 ∨ v = 1) : gx_nb (pI v) o = o := if_pos (nar_p h)
theorem P_sees {x : gx_S} (hI : INV x) (a1 a2 : Int32) {m : Int} (hm : m = 0 ∨ m = 1) : PAIR (f_CaseLayout_sees a1 a2 (pI m)) (f_CaseLayoutModel_sees a1 a2 (pI m)) cd1 x := by
  obtain ⟨a, rfl, a0, a1⟩ := a_pI a1
  obtain ⟨b, rfl, b0, b1⟩ := a_pI a2
  have hg := hI.2.1
  have g := hg.1
  unfold goodG at g
  have hD := isD_rf x
  have na := e_needPlace hD a0 a1
  have nb' := e_needThing hD b0 b1
  by_cases ha : 0 ≤ a ∧ a < vI x 4
  · by_cases hb : 0 ≤ b ∧ b < vI x 3
    · have wl := hg.2.2.2.2.2.2.2.2.2 (7 * a + b).toNat
      refine ⟨0, cif (vA x 9 (7 * a + b).toNat = m) (pI 0) (pI 1), gx_sI (gx_sI (gx_sA x 9 (7 * a + b).toNat (pI m)) 9 (pI 0)) 10 (pI (-1)), ?_, fun y hy => ?_⟩
      · unfold f_CaseLayout_sees j_CaseLayout_sees_36
        simp (disch := omega) only [gI_p, gA_p, p_l0, p_l1, p_l2, p_l3, p_l4, p_l5, p_l6, p_l7, p_l8, p_l9, p_l99, p_l20000, p_add, p_sub, p_mul, p_neg, p_eq, p_lt, p_le, e_needWithin, bd_s, bx_0, bx_1, bI_zp, cif_if, cif_n, c_forget, e_cellOf, e_pairOf, e_sightOf, vI_I, vI_In, vI_A, vA_I, vA_An, pI_ti, ck_p, tn_p, Int.toNat_natCast, l10, l20, l30, eq_self, cif_tt, cif_ff, na, nb', cif_t ha, cif_t hb, nar_p, nb_p]
        by_cases q : vA x 9 (7 * a + b).toNat = m
        · rw [cif_t q, cif_t q]
        · rw [cif_f q, cif_f q]
      · have hyf : fw [] [] _ y := y_fw hy
        have hM : isM x y := fw_M (fw_mo hyf (S' := [9, 10]) (T' := [9]) (by decide) (by decide)) (fw_M (x := x) (S := [9, 10]) (T := [9]) (by repeat (first | exact fw_rf | refine fw_tr ?_ (fw_sI _ (by decide)) | refine fw_tr ?_ (fw_sA _ _ (by decide)))) hI.1 (by decide) (by decide)) (by decide) (by decide)
        have ib := r_isThing hM hg.1 b0 b1
        have ha' : 0 ≤ a ∧ a ≤ vI x 4 - 1 := by omega
        refine ⟨cif (vA x 9 (7 * a + b).toNat = m) (pI 0) (pI 1), gx_sI (gx_sI (gx_sA (gx_sI y 11 (pI 0)) 29 (7 * a + b).toNat (pI m)) 18 (pI 0)) 20 (pI 0), ?_, rfl, ?_, ⟨fun _ => rfl, fun h => absurd rfl h⟩, ?_⟩
        · unfold f_CaseLayoutModel_sees j_CaseLayoutModel_sees_23 j_CaseLayoutModel_sees_28
          simp (disch := omega) only [gI_p, gA_p, p_l0, p_l1, p_l2, p_l3, p_l4, p_l5, p_l6, p_l7, p_l8, p_l9, p_l99, p_l20000, p_add, p_sub, p_mul, p_neg, p_eq, p_lt, p_le, r_in, bd_s, bI_zp, cif_if, cif_n, t_0, t_1, t_2, t_3, m_forget, vI_I, vI_In, vI_A, vA_I, vA_An, pI_ti, ck_p, tn_p, Int.toNat_natCast, cv7, l10, l20, l30, eq_self, cif_tt, cif_ff, ib, cif_t ha', cif_t hb, nar_p, isM_12 hM, isM_13 hM, isM_14 hM, isM_15 hM, isM_16 hM, isM_17 hM, isM_20 hM, isM_21 hM, isM_22 hM, isM_23 hM, isM_24 hM, isM_25 hM, isM_26 hM, isM_27 hM, isM_28 hM, isM_29 hM]
          by_cases q : vA x 9 (7 * a + b).toNat = m
          · rw [cif_t q, cif_t q]
          · rw [cif_f q, cif_f q]
        · simp (disch := omega) only [vI_I, vI_In, vI_A, pI_ti]; rfl
        · have hf : fw [9, 10, 11, 18, 20] [9, 29] x (gx_sI (gx_sI (gx_sA (gx_sI y 11 (pI 0)) 29 (7 * a + b).toNat (pI m)) 18 (pI 0)) 20 (pI 0)) := by
            refine fw_tr (y := y) (fw_tr ?_ (fw_mo hyf (by decide) (by decide))) ?_ <;> repeat (first | exact fw_rf | refine fw_tr ?_ (fw_sI _ (by decide)) | refine fw_tr ?_ (fw_sA _ _ (by decide)))
          generalize hy2 : gx_sI (gx_sI (gx_sA (gx_sI y 11 (pI 0)) 29 (7 * a + b).toNat (pI m)) 18 (pI 0)) 20 (pI 0) = y2 at *
          have w9 : ∀ i, vA y2 9 i = if i = (7 * a + b).toNat then m else vA x 9 i := by
            subst hy2
            intro i
            simp (disch := omega) only [vA_I, vA_An, vA_A, fw_A hyf 9 (by decide), pI_ti]
          have e29 : vA y2 29 = vA y2 9 := by
            funext i
            rw [w9]
            subst hy2
            simp (disch := omega) only [vA_I, vA_An, vA_A, fw_A hyf 29 (by decide), isM_29 hI.1, pI_ti]
          refine ⟨⟨⟨(fw_I hf 12 (by decide)).trans ((isM_12 hI.1).trans (fw_I hf 0 (by decide)).symm), (fw_I hf 13 (by decide)).trans ((isM_13 hI.1).trans (fw_I hf 1 (by decide)).symm), (fw_I hf 14 (by decide)).trans ((isM_14 hI.1).trans (fw_I hf 3 (by decide)).symm), (fw_I hf 15 (by decide)).trans ((isM_15 hI.1).trans (fw_I hf 4 (by decide)).symm), (fw_I hf 16 (by decide)).trans ((isM_16 hI.1).trans (fw_I hf 5 (by decide)).symm), (fw_I hf 17 (by decide)).trans ((isM_17 hI.1).trans (fw_I hf 6 (by decide)).symm)⟩, ⟨fun i => (congrFun (fw_A hf 20 (by decide)) i).trans ((isM_20 hI.1 i).trans (congrFun (fw_A hf 0 (by decide)) i).symm), fun i => (congrFun (fw_A hf 21 (by decide)) i).trans ((isM_21 hI.1 i).trans (congrFun (fw_A hf 1 (by decide)) i).symm), fun i => (congrFun (fw_A hf 22 (by decide)) i).trans ((isM_22 hI.1 i).trans (congrFun (fw_A hf 2 (by decide)) i).symm), fun i => (congrFun (fw_A hf 23 (by decide)) i).trans ((isM_23 hI.1 i).trans (congrFun (fw_A hf 3 (by decide)) i).symm), fun i => (congrFun (fw_A hf 24 (by decide)) i).trans ((isM_24 hI.1 i).trans (congrFun (fw_A hf 4 (by decide)) i).symm), fun i => (congrFun (fw_A hf 25 (by decide)) i).trans ((isM_25 hI.1 i).trans (congrFun (fw_A hf 5 (by decide)) i).symm), fun i => (congrFun (fw_A hf 26 (by decide)) i).trans ((isM_26 hI.1 i).trans (congrFun (fw_A hf 6 (by decide)) i).symm), fun i => (congrFun (fw_A hf 27 (by decide)) i).trans ((isM_27 hI.1 i).trans (congrFun (fw_A hf 7 (by decide)) i).symm), fun i => (congrFun (fw_A hf 28 (by decide)) i).trans ((isM_28 hI.1 i).trans (congrFun (fw_A hf 8 (by decide)) i).symm), fun i => congrFun e29 i⟩, fun e he => by rw [fw_A hf 30 (by decide), fw_A hf 31 (by decide), fw_A hf 10 (by decide)]; exact hI.1.2.2 e (by rw [← fw_I hf 5 (by decide)]; exact he)⟩, ?_, ?_, SGM_0 ?_ ?_ ?_ ?_⟩
          · obtain ⟨-, k1, k2, k3, k4, k5, k6, k7, k8, k9⟩ := hg
            unfold goodD goodG goodA
            rw [fw_I hf 0 (by decide), fw_I hf 1 (by decide), fw_I hf 3 (by decide), fw_I hf 4 (by decide), fw_I hf 5 (by decide), fw_I hf 6 (by decide), fw_A hf 0 (by decide), fw_A hf 2 (by decide), fw_A hf 3 (by decide), fw_A hf 5 (by decide), fw_A hf 6 (by decide), fw_A hf 7 (by decide), fw_A hf 8 (by decide), fw_A hf 10 (by decide)]
            refine ⟨by omega, k1, k2, k3, k4, k5, k6, fun p t ht h => ?_, k8, fun i => ?_⟩
            · rw [w9] at h
              by_cases e : (7 * (p : Int) + t).toNat = (7 * a + b).toNat
              · omega
              · rw [if_neg e] at h; exact k7 p t ht h
            · rw [w9]
              by_cases e : i = (7 * a + b).toNat
              · rw [if_pos e]; exact hm
              · rw [if_neg e]; exact k9 i
          · rw [fw_I hf 2 (by decide), fw_A hf 0 (by decide)]; exact hI.2.2.1
          · subst hy2
            simp (disch := omega) only [vI_I, vI_In, vI_A, fw_I hyf 9 (by decide), pI_ti]
          · subst hy2
            simp (disch := omega) only [vI_I, vI_In, vI_A, fw_I hyf 10 (by decide), pI_ti]
          · subst hy2
            simp (disch := omega) only [vI_I, vI_In, vI_A, pI_ti]
          · subst hy2
            simp (disch := omega) only [vI_I, vI_In, vI_A, pI_ti]
    · refine P_throw hI 0 1 (by omega) rfl ?_ (fun y hM _ _ => ?_)
      · unfold f_CaseLayout_sees
        simp (disch := omega) only [gI_p, gA_p, p_l0, p_l1, p_l2, p_l3, p_l4, p_l5, p_l6, p_l7, p_l8, p_l9, p_l99, p_l20000, p_add, p_sub, p_mul, p_neg, p_eq, p_lt, p_le, e_needWithin, bd_s, bx_0, bx_1, bI_zp, cif_if, cif_n, c_forget, e_cellOf, e_pairOf, e_sightOf, vI_I, vI_In, vI_A, vA_I, vA_An, pI_ti, ck_p, tn_p, Int.toNat_natCast, l10, l20, l30, eq_self, cif_tt, cif_ff, na, nb', cif_t ha, cif_f hb]
      · have ib := r_isThing hM hg.1 b0 b1
        have ha' : 0 ≤ a ∧ a ≤ vI x 4 - 1 := by omega
        unfold f_CaseLayoutModel_sees j_CaseLayoutModel_sees_23 j_CaseLayoutModel_sees_28
        simp (disch := omega) only [gI_p, gA_p, p_l0, p_l1, p_l2, p_l3, p_l4, p_l5, p_l6, p_l7, p_l8, p_l9, p_l99, p_l20000, p_add, p_sub, p_mul, p_neg, p_eq, p_lt, p_le, r_in, bd_s, bI_zp, cif_if, cif_n, t_0, t_1, t_2, t_3, m_forget, vI_I, vI_In, vI_A, vA_I, vA_An, pI_ti, ck_p, tn_p, Int.toNat_natCast, cv7, l10, l20, l30, eq_self, cif_tt, cif_ff, ib, cif_t ha', cif_f hb, isM_12 hM, isM_13 hM, isM_14 hM, isM_15 hM, isM_16 hM, isM_17 hM, isM_20 hM, isM_21 hM, isM_22 hM, isM_23 hM, isM_24 hM, isM_25 hM, isM_26 hM, isM_27 hM, isM_28 hM, isM_29 hM]
  · refine P_throw hI 0 1 (by omega) rfl ?_ (fun y hM _ _ => ?_)
    · unfold f_CaseLayout_sees
      simp (disch := omega) only [gI_p, gA_p, p_l0, p_l1, p_l2, p_l3, p_l4, p_l5, p_l6, p_l7, p_l8, p_l9, p_l99, p_l20000, p_add, p_sub, p_mul, p_neg, p_eq, p_lt, p_le, e_needWithin, bd_s, bx_0, bx_1, bI_zp, cif_if, cif_n, c_forget, e_cellOf, e_pairOf, e_sightOf, vI_I, vI_In, vI_A, vA_I, vA_An, pI_ti, ck_p, tn_p, Int.toNat_natCast, l10, l20, l30, eq_self, cif_tt, cif_ff, na, cif_f ha]
    · have ha' : ¬ (0 ≤ a ∧ a ≤ vI x 4 - 1) := by omega
      unfold f_CaseLayoutModel_sees j_CaseLayoutModel_sees_23 j_CaseLayoutModel_sees_28
      simp (disch := omega) only [gI_p, gA_p, p_l0, p_l1, p_l2, p_l3, p_l4, p_l5, p_l6, p_l7, p_l8, p_l9, p_l99, p_l20000, p_add, p_sub, p_mul, p_neg, p_eq, p_lt, p_le, r_in, bd_s, bI_zp, cif_if, cif_n, t_0, t_1, t_2, t_3, m_forget, vI_I, vI_In, vI_A, vA_I, vA_An, pI_ti, ck_p, tn_p, Int.toNat_natCast, cv7, l10, l20, l30, eq_self, cif_tt, cif_ff, cif_f ha', isM_12 hM, isM_13 hM, isM_14 hM, isM_15 hM, isM_16 hM, isM_17 hM, isM_20 hM, isM_21 hM, isM_22 hM, isM_23 hM, isM_24 hM, isM_25 hM, isM_26 hM, isM_27 hM, isM_28 hM, isM_29 hM]
theorem P_most {x : gx_S} (hI : INV x) (a1 : Int32) : PAIR (f_CaseLayout_most a1) (f_CaseLayoutModel_most a1) cd3 x := by
  obtain ⟨a, rfl, a0, a1⟩ := a_pI a1
  have hg := hI.2.1
  have g := hg.1
  unfold goodG at g
  by_cases ha : 0 ≤ a ∧ a ≤ 99
  · refine ⟨0, pI (vI x 6), gx_sI (gx_sI (gx_sI x 6 (pI a)) 9 (pI 0)) 10 (pI (-1)), ?_, fun y hy => ?_⟩
    · unfold f_CaseLayout_most
      simp (disch := omega) only [gI_p, gA_p, p_l0, p_l1, p_l2, p_l3, p_l4, p_l5, p_l6, p_l7, p_l8, p_l9, p_l99, p_l20000, p_add, p_sub, p_mul, p_neg, p_eq, p_lt, p_le, e_needWithin, bd_s, bx_0, bx_1, bI_zp, cif_if, cif_n, c_forget, e_cellOf, e_pairOf, e_sightOf, vI_I, vI_In, vI_A, vA_I, vA_An, pI_ti, ck_p, tn_p, Int.toNat_natCast, l10, l20, l30, eq_self, cif_tt, cif_ff, cif_t ha]
    · have hyf : fw [] [] _ y := y_fw hy
      have hM : isM x y := fw_M (fw_mo hyf (S' := [6, 9, 10]) (T' := []) (by decide) (by decide)) (fw_M (x := x) (S := [6, 9, 10]) (T := []) (by repeat (first | exact fw_rf | refine fw_tr ?_ (fw_sI _ (by decide)) | refine fw_tr ?_ (fw_sA _ _ (by decide)))) hI.1 (by decide) (by decide)) (by decide) (by decide)
      refine ⟨pI (vI x 6), gx_sI (gx_sI (gx_sI (gx_sI y 11 (pI 0)) 17 (pI a)) 18 (pI 0)) 20 (pI 0), ?_, rfl, ?_, ⟨fun _ => rfl, fun h => absurd rfl h⟩, ?_⟩
      · unfold f_CaseLayoutModel_most j_CaseLayoutModel_most_16
        simp (disch := omega) only [gI_p, gA_p, p_l0, p_l1, p_l2, p_l3, p_l4, p_l5, p_l6, p_l7, p_l8, p_l9, p_l99, p_l20000, p_add, p_sub, p_mul, p_neg, p_eq, p_lt, p_le, r_in, bd_s, bI_zp, cif_if, cif_n, t_0, t_1, t_2, t_3, m_forget, vI_I, vI_In, vI_A, vA_I, vA_An, pI_ti, ck_p, tn_p, Int.toNat_natCast, cv7, l10, l20, l30, eq_self, cif_tt, cif_ff, cif_t ha, isM_12 hM, isM_13 hM, isM_14 hM, isM_15 hM, isM_16 hM, isM_17 hM, isM_20 hM, isM_21 hM, isM_22 hM, isM_23 hM, isM_24 hM, isM_25 hM, isM_26 hM, isM_27 hM, isM_28 hM, isM_29 hM]
      · simp (disch := omega) only [vI_I, vI_In, vI_A, pI_ti]; rfl
      · have hf : fw [6, 9, 10, 11, 17, 18, 20] [] x (gx_sI (gx_sI (gx_sI (gx_sI y 11 (pI 0)) 17 (pI a)) 18 (pI 0)) 20 (pI 0)) := by
          refine fw_tr (y := y) (fw_tr ?_ (fw_mo hyf (by decide) (by decide))) ?_ <;> repeat (first | exact fw_rf | refine fw_tr ?_ (fw_sI _ (by decide)) | refine fw_tr ?_ (fw_sA _ _ (by decide)))
        generalize hy2 : gx_sI (gx_sI (gx_sI (gx_sI y 11 (pI 0)) 17 (pI a)) 18 (pI 0)) 20 (pI 0) = y2 at *
        have v6 : vI y2 6 = a := by
          subst hy2
          simp (disch := omega) only [vI_I, vI_In, vI_A, fw_I hyf 6 (by decide), pI_ti]
        have v17 : vI y2 17 = vI y2 6 := by
          rw [v6]
          subst hy2
          simp (disch := omega) only [vI_I, vI_In, vI_A, pI_ti]
        refine ⟨⟨⟨(fw_I hf 12 (by decide)).trans ((isM_12 hI.1).trans (fw_I hf 0 (by decide)).symm), (fw_I hf 13 (by decide)).trans ((isM_13 hI.1).trans (fw_I hf 1 (by decide)).symm), (fw_I hf 14 (by decide)).trans ((isM_14 hI.1).trans (fw_I hf 3 (by decide)).symm), (fw_I hf 15 (by decide)).trans ((isM_15 hI.1).trans (fw_I hf 4 (by decide)).symm), (fw_I hf 16 (by decide)).trans ((isM_16 hI.1).trans (fw_I hf 5 (by decide)).symm), v17⟩, ⟨fun i => (congrFun (fw_A hf 20 (by decide)) i).trans ((isM_20 hI.1 i).trans (congrFun (fw_A hf 0 (by decide)) i).symm), fun i => (congrFun (fw_A hf 21 (by decide)) i).trans ((isM_21 hI.1 i).trans (congrFun (fw_A hf 1 (by decide)) i).symm), fun i => (congrFun (fw_A hf 22 (by decide)) i).trans ((isM_22 hI.1 i).trans (congrFun (fw_A hf 2 (by decide)) i).symm), fun i => (congrFun (fw_A hf 23 (by decide)) i).trans ((isM_23 hI.1 i).trans (congrFun (fw_A hf 3 (by decide)) i).symm), fun i => (congrFun (fw_A hf 24 (by decide)) i).trans ((isM_24 hI.1 i).trans (congrFun (fw_A hf 4 (by decide)) i).symm), fun i => (congrFun (fw_A hf 25 (by decide)) i).trans ((isM_25 hI.1 i).trans (congrFun (fw_A hf 5 (by decide)) i).symm), fun i => (congrFun (fw_A hf 26 (by decide)) i).trans ((isM_26 hI.1 i).trans (congrFun (fw_A hf 6 (by decide)) i).symm), fun i => (congrFun (fw_A hf 27 (by decide)) i).trans ((isM_27 hI.1 i).trans (congrFun (fw_A hf 7 (by decide)) i).symm), fun i => (congrFun (fw_A hf 28 (by decide)) i).trans ((isM_28 hI.1 i).trans (congrFun (fw_A hf 8 (by decide)) i).symm), fun i => (congrFun (fw_A hf 29 (by decide)) i).trans ((isM_29 hI.1 i).trans (congrFun (fw_A hf 9 (by decide)) i).symm)⟩, fun e he => by rw [fw_A hf 30 (by decide), fw_A hf 31 (by decide), fw_A hf 10 (by decide)]; exact hI.1.2.2 e (by rw [← fw_I hf 5 (by decide)]; exact he)⟩, ?_, ?_, SGM_0 ?_ ?_ ?_ ?_⟩
        · obtain ⟨-, k1⟩ := hg
          unfold goodA at k1
          unfold goodD goodG goodA
          rw [fw_I hf 0 (by decide), fw_I hf 1 (by decide), fw_I hf 3 (by decide), fw_I hf 4 (by decide), fw_I hf 5 (by decide), fw_A hf 0 (by decide), fw_A hf 2 (by decide), fw_A hf 3 (by decide), fw_A hf 5 (by decide), fw_A hf 6 (by decide), fw_A hf 7 (by decide), fw_A hf 8 (by decide), fw_A hf 9 (by decide), fw_A hf 10 (by decide), v6]
          exact ⟨by omega, k1⟩
        · rw [fw_I hf 2 (by decide), fw_A hf 0 (by decide)]; exact hI.2.2.1
        · subst hy2
          simp (disch := omega) only [vI_I, vI_In, vI_A, fw_I hyf 9 (by decide), pI_ti]
        · subst hy2
          simp (disch := omega) only [vI_I, vI_In, vI_A, fw_I hyf 10 (by decide), pI_ti]
        · subst hy2
          simp (disch := omega) only [vI_I, vI_In, vI_A, pI_ti]
        · subst hy2
          simp (disch := omega) only [vI_I, vI_In, vI_A, pI_ti]
  · refine P_throw hI 2 1 (by omega) rfl ?_ (fun y hM _ _ => ?_)
    · unfold f_CaseLayout_most
      simp (disch := omega) only [gI_p, gA_p, p_l0, p_l1, p_l2, p_l3, p_l4, p_l5, p_l6, p_l7, p_l8, p_l9, p_l99, p_l20000, p_add, p_sub, p_mul, p_neg, p_eq, p_lt, p_le, e_needWithin, bd_s, bx_0, bx_1, bI_zp, cif_if, cif_n, c_forget, e_cellOf, e_pairOf, e_sightOf, vI_I, vI_In, vI_A, vA_I, vA_An, pI_ti, ck_p, tn_p, Int.toNat_natCast, l10, l20, l30, eq_self, cif_tt, cif_ff, cif_f ha]
    · unfold f_CaseLayoutModel_most j_CaseLayoutModel_most_16
      simp (disch := omega) only [gI_p, gA_p, p_l0, p_l1, p_l2, p_l3, p_l4, p_l5, p_l6, p_l7, p_l8, p_l9, p_l99, p_l20000, p_add, p_sub, p_mul, p_neg, p_eq, p_lt, p_le, r_in, bd_s, bI_zp, cif_if, cif_n, t_0, t_1, t_2, t_3, m_forget, vI_I, vI_In, vI_A, vA_I, vA_An, pI_ti, ck_p, tn_p, Int.toNat_natCast, cv7, l10, l20, l30, eq_self, cif_tt, cif_ff, cif_f ha, isM_12 hM, isM_13 hM, isM_14 hM, isM_15 hM, isM_16 hM, isM_17 hM, isM_20 hM, isM_21 hM, isM_22 hM, isM_23 hM, isM_24 hM, isM_25 hM, isM_26 hM, isM_27 hM, isM_28 hM, isM_29 hM]
