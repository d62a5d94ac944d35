/-! apart -/
theorem P_apart {x : gx_S} (hI : INV x) (a1 a2 a3 : Int32) : PAIR (f_CaseLayout_apart a1 a2 a3) (f_CaseLayoutModel_apart a1 a2 a3) cd13 x := by
  obtain ⟨a, rfl, a0, a1⟩ := a_pI a1
  obtain ⟨b, rfl, b0, b1⟩ := a_pI a2
  obtain ⟨c, rfl, c0, c1⟩ := a_pI a3
  have hg := hI.2.1
  have g := hg.1
  unfold goodG at g
  have hD := isD_rf x
  have na := e_needThing hD a0 a1
  have nb' := e_needThing hD b0 b1
  by_cases ha : 0 ≤ a ∧ a < vI x 3
  · by_cases hb : 0 ≤ b ∧ b < vI x 3
    · by_cases he : a = b
      · refine P_throw hI 2 2 (by omega) rfl ?_ (fun y hM _ _ => ?_)
        · unfold f_CaseLayout_apart f_CaseLayout_needPair
          simp (disch := omega) only [gI_p, gA_p, p_l0, p_l1, p_l2, p_l3, p_l4, p_l5, p_l6, p_l7, p_l8, p_l9, p_l99, p_l20000, p_add, p_sub, p_mul, p_neg, p_eq, p_lt, p_le, e_needWithin, bd_s, bx_0, bx_1, bI_zp, cif_if, cif_n, c_forget, e_cellOf, e_pairOf, e_sightOf, vI_I, vI_In, vI_A, vA_I, vA_An, pI_ti, ck_p, tn_p, Int.toNat_natCast, l10, l20, l30, eq_self, cif_tt, cif_ff, na, nb', cif_t ha, cif_t hb, cif_t he]
        · have ia := r_isThing hM hg.1 a0 a1
          have ib := r_isThing hM hg.1 b0 b1
          unfold f_CaseLayoutModel_apart j_CaseLayoutModel_apart_17 j_CaseLayoutModel_apart_22 j_CaseLayoutModel_apart_36 j_CaseLayoutModel_apart_41
          simp (disch := omega) only [gI_p, gA_p, p_l0, p_l1, p_l2, p_l3, p_l4, p_l5, p_l6, p_l7, p_l8, p_l9, p_l99, p_l20000, p_add, p_sub, p_mul, p_neg, p_eq, p_lt, p_le, r_in, bd_s, bI_zp, cif_if, cif_n, t_0, t_1, t_2, t_3, m_forget, vI_I, vI_In, vI_A, vA_I, vA_An, pI_ti, ck_p, tn_p, Int.toNat_natCast, cv7, l10, l20, l30, eq_self, cif_tt, cif_ff, ia, ib, cif_t ha, cif_t hb, cif_t he]
      · by_cases hc : 0 ≤ c ∧ c ≤ 5
        · have lz := vA_lo x 5 (7 * a + b).toNat
          have lz2 := vA_hi x 5 (7 * a + b).toNat
          refine ⟨0, pI (vA x 5 (7 * a + b).toNat), gx_sA (gx_sA (gx_sI (gx_sI x 9 (pI 0)) 10 (pI (-1))) 5 (7 * a + b).toNat (pI c)) 5 (7 * b + a).toNat (pI c), ?_, fun y hy => ?_⟩
          · unfold f_CaseLayout_apart f_CaseLayout_needPair f_CaseLayout_setBoth
            simp (disch := omega) only [gI_p, gA_p, p_l0, p_l1, p_l2, p_l3, p_l4, p_l5, p_l6, p_l7, p_l8, p_l9, p_l99, p_l20000, p_add, p_sub, p_mul, p_neg, p_eq, p_lt, p_le, e_needWithin, bd_s, bx_0, bx_1, bI_zp, cif_if, cif_n, c_forget, e_cellOf, e_pairOf, e_sightOf, vI_I, vI_In, vI_A, vA_I, vA_An, pI_ti, ck_p, tn_p, Int.toNat_natCast, l10, l20, l30, eq_self, cif_tt, cif_ff, na, nb', cif_t ha, cif_t hb, cif_f he, cif_t hc]
          · have hyf : fw [] [] _ y := y_fw hy
            have hM : isM x y := fw_M (fw_mo hyf (S' := [9, 10]) (T' := [5]) (by decide) (by decide)) (fw_M (x := x) (S := [9, 10]) (T := [5]) (by repeat (first | exact fw_rf | refine fw_tr ?_ (fw_sI _ (by decide)) | refine fw_tr ?_ (fw_sA _ _ (by decide)))) hI.1 (by decide) (by decide)) (by decide) (by decide)
            have ia := r_isThing hM hg.1 a0 a1
            have ib := r_isThing hM hg.1 b0 b1
            refine ⟨pI (vA x 5 (7 * a + b).toNat), gx_sI (gx_sI (gx_sA (gx_sA (gx_sI y 11 (pI 0)) 25 (7 * a + b).toNat (pI c)) 25 (7 * b + a).toNat (pI c)) 18 (pI 0)) 20 (pI 0), ?_, rfl, ?_, ⟨fun _ => rfl, fun h => absurd rfl h⟩, ?_⟩
            · unfold f_CaseLayoutModel_apart j_CaseLayoutModel_apart_17 j_CaseLayoutModel_apart_22 j_CaseLayoutModel_apart_36 j_CaseLayoutModel_apart_41
              simp (disch := omega) only [gI_p, gA_p, p_l0, p_l1, p_l2, p_l3, p_l4, p_l5, p_l6, p_l7, p_l8, p_l9, p_l99, p_l20000, p_add, p_sub, p_mul, p_neg, p_eq, p_lt, p_le, r_in, bd_s, bI_zp, cif_if, cif_n, t_0, t_1, t_2, t_3, m_forget, vI_I, vI_In, vI_A, vA_I, vA_An, pI_ti, ck_p, tn_p, Int.toNat_natCast, cv7, l10, l20, l30, eq_self, cif_tt, cif_ff, ia, ib, cif_t ha, cif_t hb, cif_f he, cif_t hc, isM_12 hM, isM_13 hM, isM_14 hM, isM_15 hM, isM_16 hM, isM_17 hM, isM_20 hM, isM_21 hM, isM_22 hM, isM_23 hM, isM_24 hM, isM_25 hM, isM_26 hM, isM_27 hM, isM_28 hM, isM_29 hM]
            · simp (disch := omega) only [vI_I, vI_In, vI_A, pI_ti]; rfl
            · have hf : fw [9, 10, 11, 18, 20] [5, 25] x (gx_sI (gx_sI (gx_sA (gx_sA (gx_sI y 11 (pI 0)) 25 (7 * a + b).toNat (pI c)) 25 (7 * b + a).toNat (pI c)) 18 (pI 0)) 20 (pI 0)) := by
                refine fw_tr (y := y) (fw_tr ?_ (fw_mo hyf (by decide) (by decide))) ?_ <;> repeat (first | exact fw_rf | refine fw_tr ?_ (fw_sI _ (by decide)) | refine fw_tr ?_ (fw_sA _ _ (by decide)))
              generalize hy2 : gx_sI (gx_sI (gx_sA (gx_sA (gx_sI y 11 (pI 0)) 25 (7 * a + b).toNat (pI c)) 25 (7 * b + a).toNat (pI c)) 18 (pI 0)) 20 (pI 0) = y2 at *
              have w5 : ∀ i, vA y2 5 i = if i = (7 * b + a).toNat then c else if i = (7 * a + b).toNat then c else vA x 5 i := by
                subst hy2
                intro i
                simp (disch := omega) only [vA_I, vA_An, vA_A, fw_A hyf 5 (by decide), pI_ti]
              have e25 : vA y2 25 = vA y2 5 := by
                funext i
                rw [w5]
                subst hy2
                simp (disch := omega) only [vA_I, vA_An, vA_A, fw_A hyf 25 (by decide), isM_25 hI.1, pI_ti]
              refine ⟨⟨⟨(fw_I hf 12 (by decide)).trans ((isM_12 hI.1).trans (fw_I hf 0 (by decide)).symm), (fw_I hf 13 (by decide)).trans ((isM_13 hI.1).trans (fw_I hf 1 (by decide)).symm), (fw_I hf 14 (by decide)).trans ((isM_14 hI.1).trans (fw_I hf 3 (by decide)).symm), (fw_I hf 15 (by decide)).trans ((isM_15 hI.1).trans (fw_I hf 4 (by decide)).symm), (fw_I hf 16 (by decide)).trans ((isM_16 hI.1).trans (fw_I hf 5 (by decide)).symm), (fw_I hf 17 (by decide)).trans ((isM_17 hI.1).trans (fw_I hf 6 (by decide)).symm)⟩, ⟨fun i => (congrFun (fw_A hf 20 (by decide)) i).trans ((isM_20 hI.1 i).trans (congrFun (fw_A hf 0 (by decide)) i).symm), fun i => (congrFun (fw_A hf 21 (by decide)) i).trans ((isM_21 hI.1 i).trans (congrFun (fw_A hf 1 (by decide)) i).symm), fun i => (congrFun (fw_A hf 22 (by decide)) i).trans ((isM_22 hI.1 i).trans (congrFun (fw_A hf 2 (by decide)) i).symm), fun i => (congrFun (fw_A hf 23 (by decide)) i).trans ((isM_23 hI.1 i).trans (congrFun (fw_A hf 3 (by decide)) i).symm), fun i => (congrFun (fw_A hf 24 (by decide)) i).trans ((isM_24 hI.1 i).trans (congrFun (fw_A hf 4 (by decide)) i).symm), fun i => congrFun e25 i, fun i => (congrFun (fw_A hf 26 (by decide)) i).trans ((isM_26 hI.1 i).trans (congrFun (fw_A hf 6 (by decide)) i).symm), fun i => (congrFun (fw_A hf 27 (by decide)) i).trans ((isM_27 hI.1 i).trans (congrFun (fw_A hf 7 (by decide)) i).symm), fun i => (congrFun (fw_A hf 28 (by decide)) i).trans ((isM_28 hI.1 i).trans (congrFun (fw_A hf 8 (by decide)) i).symm), fun i => (congrFun (fw_A hf 29 (by decide)) i).trans ((isM_29 hI.1 i).trans (congrFun (fw_A hf 9 (by decide)) i).symm)⟩, fun e he => by rw [fw_A hf 30 (by decide), fw_A hf 31 (by decide), fw_A hf 10 (by decide)]; exact hI.1.2.2 e (by rw [← fw_I hf 5 (by decide)]; exact he)⟩, ?_, ?_, SGM_0 ?_ ?_ ?_ ?_⟩
              · obtain ⟨-, k1, k2, k3, k4, k5, k6, k7, k8, k9⟩ := hg
                unfold goodD goodG goodA
                rw [fw_I hf 0 (by decide), fw_I hf 1 (by decide), fw_I hf 3 (by decide), fw_I hf 4 (by decide), fw_I hf 5 (by decide), fw_I hf 6 (by decide), fw_A hf 0 (by decide), fw_A hf 2 (by decide), fw_A hf 3 (by decide), fw_A hf 6 (by decide), fw_A hf 7 (by decide), fw_A hf 8 (by decide), fw_A hf 9 (by decide), fw_A hf 10 (by decide)]
                refine ⟨by omega, k1, k2, fun i => ?_, fun p q hp hq => ?_, k5, k6, k7, k8, k9⟩
                · rw [w5]
                  by_cases e1 : i = (7 * b + a).toNat
                  · rw [if_pos e1]; omega
                  · rw [if_neg e1]
                    by_cases e2 : i = (7 * a + b).toNat
                    · rw [if_pos e2]; omega
                    · rw [if_neg e2]; exact k3 i
                · rw [w5, w5]
                  by_cases e1 : (7 * (p : Int) + q).toNat = (7 * b + a).toNat
                  · rw [if_pos e1, if_neg (by omega), if_pos (by omega)]
                  · rw [if_neg e1]
                    by_cases e2 : (7 * (p : Int) + q).toNat = (7 * a + b).toNat
                    · rw [if_pos e2, if_pos (by omega)]
                    · rw [if_neg e2, if_neg (by omega), if_neg (by omega)]; exact k4 p q hp hq
              · rw [fw_I hf 2 (by decide), fw_A hf 0 (by decide)]; exact hI.2.2.1
              · subst hy2
                simp (disch := omega) only [vI_I, vI_In, vI_A, fw_I hyf 9 (by decide), pI_ti]
              · subst hy2
                simp (disch := omega) only [vI_I, vI_In, vI_A, fw_I hyf 10 (by decide), pI_ti]
              · subst hy2
                simp (disch := omega) only [vI_I, vI_In, vI_A, pI_ti]
              · subst hy2
                simp (disch := omega) only [vI_I, vI_In, vI_A, pI_ti]
        · refine P_throw hI 2 2 (by omega) rfl ?_ (fun y hM _ _ => ?_)
          · unfold f_CaseLayout_apart f_CaseLayout_needPair
            simp (disch := omega) only [gI_p, gA_p, p_l0, p_l1, p_l2, p_l3, p_l4, p_l5, p_l6, p_l7, p_l8, p_l9, p_l99, p_l20000, p_add, p_sub, p_mul, p_neg, p_eq, p_lt, p_le, e_needWithin, bd_s, bx_0, bx_1, bI_zp, cif_if, cif_n, c_forget, e_cellOf, e_pairOf, e_sightOf, vI_I, vI_In, vI_A, vA_I, vA_An, pI_ti, ck_p, tn_p, Int.toNat_natCast, l10, l20, l30, eq_self, cif_tt, cif_ff, na, nb', cif_t ha, cif_t hb, cif_f he, cif_f hc]
          · have ia := r_isThing hM hg.1 a0 a1
            have ib := r_isThing hM hg.1 b0 b1
            unfold f_CaseLayoutModel_apart j_CaseLayoutModel_apart_17 j_CaseLayoutModel_apart_22 j_CaseLayoutModel_apart_36 j_CaseLayoutModel_apart_41
            simp (disch := omega) only [gI_p, gA_p, p_l0, p_l1, p_l2, p_l3, p_l4, p_l5, p_l6, p_l7, p_l8, p_l9, p_l99, p_l20000, p_add, p_sub, p_mul, p_neg, p_eq, p_lt, p_le, r_in, bd_s, bI_zp, cif_if, cif_n, t_0, t_1, t_2, t_3, m_forget, vI_I, vI_In, vI_A, vA_I, vA_An, pI_ti, ck_p, tn_p, Int.toNat_natCast, cv7, l10, l20, l30, eq_self, cif_tt, cif_ff, ia, ib, cif_t ha, cif_t hb, cif_f he, cif_f hc]
    · refine P_throw hI 0 1 (by omega) rfl ?_ (fun y hM _ _ => ?_)
      · unfold f_CaseLayout_apart f_CaseLayout_needPair
        simp (disch := omega) only [gI_p, gA_p, p_l0, p_l1, p_l2, p_l3, p_l4, p_l5, p_l6, p_l7, p_l8, p_l9, p_l99, p_l20000, p_add, p_sub, p_mul, p_neg, p_eq, p_lt, p_le, e_needWithin, bd_s, bx_0, bx_1, bI_zp, cif_if, cif_n, c_forget, e_cellOf, e_pairOf, e_sightOf, vI_I, vI_In, vI_A, vA_I, vA_An, pI_ti, ck_p, tn_p, Int.toNat_natCast, l10, l20, l30, eq_self, cif_tt, cif_ff, na, nb', cif_t ha, cif_f hb]
      · have ia := r_isThing hM hg.1 a0 a1
        have ib := r_isThing hM hg.1 b0 b1
        unfold f_CaseLayoutModel_apart j_CaseLayoutModel_apart_17 j_CaseLayoutModel_apart_22 j_CaseLayoutModel_apart_36 j_CaseLayoutModel_apart_41
        simp (disch := omega) only [gI_p, gA_p, p_l0, p_l1, p_l2, p_l3, p_l4, p_l5, p_l6, p_l7, p_l8, p_l9, p_l99, p_l20000, p_add, p_sub, p_mul, p_neg, p_eq, p_lt, p_le, r_in, bd_s, bI_zp, cif_if, cif_n, t_0, t_1, t_2, t_3, m_forget, vI_I, vI_In, vI_A, vA_I, vA_An, pI_ti, ck_p, tn_p, Int.toNat_natCast, cv7, l10, l20, l30, eq_self, cif_tt, cif_ff, ia, ib, cif_t ha, cif_f hb]
  · refine P_throw hI 0 1 (by omega) rfl ?_ (fun y hM _ _ => ?_)
    · unfold f_CaseLayout_apart f_CaseLayout_needPair
      simp (disch := omega) only [gI_p, gA_p, p_l0, p_l1, p_l2, p_l3, p_l4, p_l5, p_l6, p_l7, p_l8, p_l9, p_l99, p_l20000, p_add, p_sub, p_mul, p_neg, p_eq, p_lt, p_le, e_needWithin, bd_s, bx_0, bx_1, bI_zp, cif_if, cif_n, c_forget, e_cellOf, e_pairOf, e_sightOf, vI_I, vI_In, vI_A, vA_I, vA_An, pI_ti, ck_p, tn_p, Int.toNat_natCast, l10, l20, l30, eq_self, cif_tt, cif_ff, na, cif_f ha]
    · have ia := r_isThing hM hg.1 a0 a1
      unfold f_CaseLayoutModel_apart j_CaseLayoutModel_apart_17 j_CaseLayoutModel_apart_22 j_CaseLayoutModel_apart_36 j_CaseLayoutModel_apart_41
      simp (disch := omega) only [gI_p, gA_p, p_l0, p_l1, p_l2, p_l3, p_l4, p_l5, p_l6, p_l7, p_l8, p_l9, p_l99, p_l20000, p_add, p_sub, p_mul, p_neg, p_eq, p_lt, p_le, r_in, bd_s, bI_zp, cif_if, cif_n, t_0, t_1, t_2, t_3, m_forget, vI_I, vI_In, vI_A, vA_I, vA_An, pI_ti, ck_p, tn_p, Int.toNat_natCast, cv7, l10, l20, l30, eq_self, cif_tt, cif_ff, ia, cif_f ha]
