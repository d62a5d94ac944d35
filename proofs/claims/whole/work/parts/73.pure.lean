/-! thing -/
def cd23 (j : Nat) : Int := if j = 2 then 1 else if j = 3 then 2 else 0
theorem P_thing {x : gx_S} (hI : INV x) (a1 a2 a3 : Int32) : PAIR (f_CaseLayout_thing a1 a2 a3) (f_CaseLayoutModel_thing a1 a2 a3) cd23 x := by
  obtain ⟨a, rfl, a0, a1⟩ := a_pI a1
  obtain ⟨b, rfl, b0, b1⟩ := a_pI a2
  obtain ⟨c, rfl, c0, c1⟩ := a_pI a3
  have hg := hI.2.1
  have g := hg.1
  unfold goodG at g
  have hD := isD_rf x
  by_cases h7 : vI x 3 < 7
  · have h7' : ¬ vI x 3 = 7 := by omega
    by_cases ha : 1 ≤ a ∧ a ≤ 4
    · by_cases hb : 1 ≤ b ∧ b ≤ 4
      · by_cases hc : 0 ≤ c ∧ c ≤ 3
        · refine ⟨0, pI (vI x 3), gx_sI (gx_sA (gx_sA (gx_sA (gx_sI (gx_sI x 9 (pI 0)) 10 (pI (-1))) 2 (vI x 3).toNat (pI a)) 3 (vI x 3).toNat (pI b)) 4 (vI x 3).toNat (pI c)) 3 (pI (vI x 3 + 1)), ?_, fun y hy => ?_⟩
          · unfold f_CaseLayout_thing f_Things_add
            simp (disch := omega) only [gI_p, gA_p, p_l0, p_l1, p_l2, p_l3, p_l4, p_l5, p_l6, p_l7, p_l8, p_l9, p_l99, p_l20000, p_add, p_sub, p_mul, p_neg, p_eq, p_lt, p_le, e_needWithin, bd_s, bx_0, bx_1, bI_zp, cif_if, cif_n, c_forget, e_cellOf, e_pairOf, e_sightOf, vI_I, vI_In, vI_A, vA_I, vA_An, pI_ti, ck_p, tn_p, Int.toNat_natCast, l10, l20, l30, eq_self, cif_tt, cif_ff, cif_t h7, cif_t ha, cif_t hb, cif_t hc]
          · have hyf : fw [] [] _ y := y_fw hy
            have hM : isM x y := fw_M (fw_mo hyf (S' := [3, 9, 10]) (T' := [2, 3, 4]) (by decide) (by decide)) (fw_M (x := x) (S := [3, 9, 10]) (T := [2, 3, 4]) (by repeat (first | exact fw_rf | refine fw_tr ?_ (fw_sI _ (by decide)) | refine fw_tr ?_ (fw_sA _ _ (by decide)))) hI.1 (by decide) (by decide)) (by decide) (by decide)
            refine ⟨pI (vI x 3), gx_sI (gx_sI (gx_sI (gx_sA (gx_sA (gx_sA (gx_sI y 11 (pI 0)) 22 (vI x 3).toNat (pI a)) 23 (vI x 3).toNat (pI b)) 24 (vI x 3).toNat (pI c)) 14 (pI (vI x 3 + 1))) 18 (pI 0)) 20 (pI 0), ?_, rfl, ?_, ⟨fun _ => rfl, fun h => absurd rfl h⟩, ?_⟩
            · unfold f_CaseLayoutModel_thing j_CaseLayoutModel_thing_15 j_CaseLayoutModel_thing_42 j_CaseLayoutModel_thing_47
              simp (disch := omega) only [gI_p, gA_p, p_l0, p_l1, p_l2, p_l3, p_l4, p_l5, p_l6, p_l7, p_l8, p_l9, p_l99, p_l20000, p_add, p_sub, p_mul, p_neg, p_eq, p_lt, p_le, r_in, bd_s, bI_zp, cif_if, cif_n, t_0, t_1, t_2, t_3, m_forget, vI_I, vI_In, vI_A, vA_I, vA_An, pI_ti, ck_p, tn_p, Int.toNat_natCast, cv7, l10, l20, l30, eq_self, cif_tt, cif_ff, cif_f h7', cif_t ha, cif_t hb, cif_t hc, isM_12 hM, isM_13 hM, isM_14 hM, isM_15 hM, isM_16 hM, isM_17 hM, isM_20 hM, isM_21 hM, isM_22 hM, isM_23 hM, isM_24 hM, isM_25 hM, isM_26 hM, isM_27 hM, isM_28 hM, isM_29 hM]
              rw [show vI x 3 + 1 - 1 = vI x 3 by omega]
            · simp (disch := omega) only [vI_I, vI_In, vI_A, pI_ti]; rfl
            · have hf : fw [3, 9, 10, 11, 14, 18, 20] [2, 3, 4, 22, 23, 24] x (gx_sI (gx_sI (gx_sI (gx_sA (gx_sA (gx_sA (gx_sI y 11 (pI 0)) 22 (vI x 3).toNat (pI a)) 23 (vI x 3).toNat (pI b)) 24 (vI x 3).toNat (pI c)) 14 (pI (vI x 3 + 1))) 18 (pI 0)) 20 (pI 0)) := by
                refine fw_tr (y := y) (fw_tr ?_ (fw_mo hyf (by decide) (by decide))) ?_ <;> repeat (first | exact fw_rf | refine fw_tr ?_ (fw_sI _ (by decide)) | refine fw_tr ?_ (fw_sA _ _ (by decide)))
              generalize hy2 : gx_sI (gx_sI (gx_sI (gx_sA (gx_sA (gx_sA (gx_sI y 11 (pI 0)) 22 (vI x 3).toNat (pI a)) 23 (vI x 3).toNat (pI b)) 24 (vI x 3).toNat (pI c)) 14 (pI (vI x 3 + 1))) 18 (pI 0)) 20 (pI 0) = y2 at *
              have v3 : vI y2 3 = vI x 3 + 1 := by
                subst hy2
                simp (disch := omega) only [vI_I, vI_In, vI_A, fw_I hyf 3 (by decide), pI_ti]
              have v14 : vI y2 14 = vI y2 3 := by
                rw [v3]
                subst hy2
                simp (disch := omega) only [vI_I, vI_In, vI_A, pI_ti]
              have w2 : ∀ i, vA y2 2 i = if i = (vI x 3).toNat then a else vA x 2 i := by
                subst hy2
                intro i
                simp (disch := omega) only [vA_I, vA_An, vA_A, fw_A hyf 2 (by decide), pI_ti]
              have w3 : ∀ i, vA y2 3 i = if i = (vI x 3).toNat then b else vA x 3 i := by
                subst hy2
                intro i
                simp (disch := omega) only [vA_I, vA_An, vA_A, fw_A hyf 3 (by decide), pI_ti]
              have e22 : vA y2 22 = vA y2 2 := by
                funext i
                rw [w2]
                subst hy2
                simp (disch := omega) only [vA_I, vA_An, vA_A, fw_A hyf 22 (by decide), isM_22 hI.1, pI_ti]
              have e23 : vA y2 23 = vA y2 3 := by
                funext i
                rw [w3]
                subst hy2
                simp (disch := omega) only [vA_I, vA_An, vA_A, fw_A hyf 23 (by decide), isM_23 hI.1, pI_ti]
              have e24 : vA y2 24 = vA y2 4 := by
                funext i
                subst hy2
                simp (disch := omega) only [vA_I, vA_An, vA_A, fw_A hyf 24 (by decide), fw_A hyf 4 (by decide), isM_24 hI.1, pI_ti]
              refine ⟨⟨⟨(fw_I hf 12 (by decide)).trans ((isM_12 hI.1).trans (fw_I hf 0 (by decide)).symm), (fw_I hf 13 (by decide)).trans ((isM_13 hI.1).trans (fw_I hf 1 (by decide)).symm), v14, (fw_I hf 15 (by decide)).trans ((isM_15 hI.1).trans (fw_I hf 4 (by decide)).symm), (fw_I hf 16 (by decide)).trans ((isM_16 hI.1).trans (fw_I hf 5 (by decide)).symm), (fw_I hf 17 (by decide)).trans ((isM_17 hI.1).trans (fw_I hf 6 (by decide)).symm)⟩, ⟨fun i => (congrFun (fw_A hf 20 (by decide)) i).trans ((isM_20 hI.1 i).trans (congrFun (fw_A hf 0 (by decide)) i).symm), fun i => (congrFun (fw_A hf 21 (by decide)) i).trans ((isM_21 hI.1 i).trans (congrFun (fw_A hf 1 (by decide)) i).symm), fun i => congrFun e22 i, fun i => congrFun e23 i, fun i => congrFun e24 i, fun i => (congrFun (fw_A hf 25 (by decide)) i).trans ((isM_25 hI.1 i).trans (congrFun (fw_A hf 5 (by decide)) i).symm), fun i => (congrFun (fw_A hf 26 (by decide)) i).trans ((isM_26 hI.1 i).trans (congrFun (fw_A hf 6 (by decide)) i).symm), fun i => (congrFun (fw_A hf 27 (by decide)) i).trans ((isM_27 hI.1 i).trans (congrFun (fw_A hf 7 (by decide)) i).symm), fun i => (congrFun (fw_A hf 28 (by decide)) i).trans ((isM_28 hI.1 i).trans (congrFun (fw_A hf 8 (by decide)) i).symm), fun i => (congrFun (fw_A hf 29 (by decide)) i).trans ((isM_29 hI.1 i).trans (congrFun (fw_A hf 9 (by decide)) i).symm)⟩, fun e he => by rw [fw_A hf 30 (by decide), fw_A hf 31 (by decide), fw_A hf 10 (by decide)]; exact hI.1.2.2 e (by rw [← fw_I hf 5 (by decide)]; exact he)⟩, ?_, ?_, SGM_0 ?_ ?_ ?_ ?_⟩
              · obtain ⟨-, k1, k2, k3, k4, k5, k6, k7, k8, k9⟩ := hg
                unfold goodD goodG goodA
                rw [fw_I hf 0 (by decide), fw_I hf 1 (by decide), fw_I hf 4 (by decide), fw_I hf 5 (by decide), fw_I hf 6 (by decide), fw_A hf 0 (by decide), fw_A hf 5 (by decide), fw_A hf 6 (by decide), fw_A hf 7 (by decide), fw_A hf 8 (by decide), fw_A hf 9 (by decide), fw_A hf 10 (by decide), v3]
                refine ⟨by omega, k1, fun t ht => ?_, k3, k4, k5, k6, fun p t ht h => ?_, k8, k9⟩
                · rw [w2, w3]
                  by_cases e : t = (vI x 3).toNat
                  · rw [if_pos e, if_pos e]; omega
                  · rw [if_neg e, if_neg e]; exact k2 t (by omega)
                · have := k7 p t ht h
                  omega
              · rw [fw_I hf 2 (by decide), fw_A hf 0 (by decide)]; exact hI.2.2.1
              · subst hy2
                simp (disch := omega) only [vI_I, vI_In, vI_A, fw_I hyf 9 (by decide), pI_ti]
              · subst hy2
                simp (disch := omega) only [vI_I, vI_In, vI_A, fw_I hyf 10 (by decide), pI_ti]
              · subst hy2
                simp (disch := omega) only [vI_I, vI_In, vI_A, pI_ti]
              · subst hy2
                simp (disch := omega) only [vI_I, vI_In, vI_A, pI_ti]
        · refine P_throw hI 2 2 (by omega) rfl ?_ (fun y hM _ _ => ?_)
          · unfold f_CaseLayout_thing
            simp (disch := omega) only [gI_p, gA_p, p_l0, p_l1, p_l2, p_l3, p_l4, p_l5, p_l6, p_l7, p_l8, p_l9, p_l99, p_l20000, p_add, p_sub, p_mul, p_neg, p_eq, p_lt, p_le, e_needWithin, bd_s, bx_0, bx_1, bI_zp, cif_if, cif_n, c_forget, e_cellOf, e_pairOf, e_sightOf, vI_I, vI_In, vI_A, vA_I, vA_An, pI_ti, ck_p, tn_p, Int.toNat_natCast, l10, l20, l30, eq_self, cif_tt, cif_ff, cif_t h7, cif_t ha, cif_t hb, cif_f hc]
          · unfold f_CaseLayoutModel_thing j_CaseLayoutModel_thing_15 j_CaseLayoutModel_thing_42 j_CaseLayoutModel_thing_47
            simp (disch := omega) only [gI_p, gA_p, p_l0, p_l1, p_l2, p_l3, p_l4, p_l5, p_l6, p_l7, p_l8, p_l9, p_l99, p_l20000, p_add, p_sub, p_mul, p_neg, p_eq, p_lt, p_le, r_in, bd_s, bI_zp, cif_if, cif_n, t_0, t_1, t_2, t_3, m_forget, vI_I, vI_In, vI_A, vA_I, vA_An, pI_ti, ck_p, tn_p, Int.toNat_natCast, cv7, l10, l20, l30, eq_self, cif_tt, cif_ff, cif_f h7', cif_t ha, cif_t hb, cif_f hc, isM_12 hM, isM_13 hM, isM_14 hM, isM_15 hM, isM_16 hM, isM_17 hM, isM_20 hM, isM_21 hM, isM_22 hM, isM_23 hM, isM_24 hM, isM_25 hM, isM_26 hM, isM_27 hM, isM_28 hM, isM_29 hM]
      · refine P_throw hI 2 2 (by omega) rfl ?_ (fun y hM _ _ => ?_)
        · unfold f_CaseLayout_thing
          simp (disch := omega) only [gI_p, gA_p, p_l0, p_l1, p_l2, p_l3, p_l4, p_l5, p_l6, p_l7, p_l8, p_l9, p_l99, p_l20000, p_add, p_sub, p_mul, p_neg, p_eq, p_lt, p_le, e_needWithin, bd_s, bx_0, bx_1, bI_zp, cif_if, cif_n, c_forget, e_cellOf, e_pairOf, e_sightOf, vI_I, vI_In, vI_A, vA_I, vA_An, pI_ti, ck_p, tn_p, Int.toNat_natCast, l10, l20, l30, eq_self, cif_tt, cif_ff, cif_t h7, cif_t ha, cif_f hb]
        · unfold f_CaseLayoutModel_thing j_CaseLayoutModel_thing_15 j_CaseLayoutModel_thing_42 j_CaseLayoutModel_thing_47
          simp (disch := omega) only [gI_p, gA_p, p_l0, p_l1, p_l2, p_l3, p_l4, p_l5, p_l6, p_l7, p_l8, p_l9, p_l99, p_l20000, p_add, p_sub, p_mul, p_neg, p_eq, p_lt, p_le, r_in, bd_s, bI_zp, cif_if, cif_n, t_0, t_1, t_2, t_3, m_forget, vI_I, vI_In, vI_A, vA_I, vA_An, pI_ti, ck_p, tn_p, Int.toNat_natCast, cv7, l10, l20, l30, eq_self, cif_tt, cif_ff, cif_f h7', cif_t ha, cif_f hb, isM_12 hM, isM_13 hM, isM_14 hM, isM_15 hM, isM_16 hM, isM_17 hM, isM_20 hM, isM_21 hM, isM_22 hM, isM_23 hM, isM_24 hM, isM_25 hM, isM_26 hM, isM_27 hM, isM_28 hM, isM_29 hM]
    · refine P_throw hI 2 2 (by omega) rfl ?_ (fun y hM _ _ => ?_)
      · unfold f_CaseLayout_thing
        simp (disch := omega) only [gI_p, gA_p, p_l0, p_l1, p_l2, p_l3, p_l4, p_l5, p_l6, p_l7, p_l8, p_l9, p_l99, p_l20000, p_add, p_sub, p_mul, p_neg, p_eq, p_lt, p_le, e_needWithin, bd_s, bx_0, bx_1, bI_zp, cif_if, cif_n, c_forget, e_cellOf, e_pairOf, e_sightOf, vI_I, vI_In, vI_A, vA_I, vA_An, pI_ti, ck_p, tn_p, Int.toNat_natCast, l10, l20, l30, eq_self, cif_tt, cif_ff, cif_t h7, cif_f ha]
      · unfold f_CaseLayoutModel_thing j_CaseLayoutModel_thing_15 j_CaseLayoutModel_thing_42 j_CaseLayoutModel_thing_47
        simp (disch := omega) only [gI_p, gA_p, p_l0, p_l1, p_l2, p_l3, p_l4, p_l5, p_l6, p_l7, p_l8, p_l9, p_l99, p_l20000, p_add, p_sub, p_mul, p_neg, p_eq, p_lt, p_le, r_in, bd_s, bI_zp, cif_if, cif_n, t_0, t_1, t_2, t_3, m_forget, vI_I, vI_In, vI_A, vA_I, vA_An, pI_ti, ck_p, tn_p, Int.toNat_natCast, cv7, l10, l20, l30, eq_self, cif_tt, cif_ff, cif_f h7', cif_f ha, isM_12 hM, isM_13 hM, isM_14 hM, isM_15 hM, isM_16 hM, isM_17 hM, isM_20 hM, isM_21 hM, isM_22 hM, isM_23 hM, isM_24 hM, isM_25 hM, isM_26 hM, isM_27 hM, isM_28 hM, isM_29 hM]
  · have h7' : vI x 3 = 7 := by omega
    refine P_throw hI 1 1 (by omega) rfl ?_ (fun y hM _ _ => ?_)
    · unfold f_CaseLayout_thing
      simp (disch := omega) only [gI_p, gA_p, p_l0, p_l1, p_l2, p_l3, p_l4, p_l5, p_l6, p_l7, p_l8, p_l9, p_l99, p_l20000, p_add, p_sub, p_mul, p_neg, p_eq, p_lt, p_le, e_needWithin, bd_s, bx_0, bx_1, bI_zp, cif_if, cif_n, c_forget, e_cellOf, e_pairOf, e_sightOf, vI_I, vI_In, vI_A, vA_I, vA_An, pI_ti, ck_p, tn_p, Int.toNat_natCast, l10, l20, l30, eq_self, cif_tt, cif_ff, cif_f h7]
    · unfold f_CaseLayoutModel_thing j_CaseLayoutModel_thing_15 j_CaseLayoutModel_thing_42 j_CaseLayoutModel_thing_47
      simp (disch := omega) only [gI_p, gA_p, p_l0, p_l1, p_l2, p_l3, p_l4, p_l5, p_l6, p_l7, p_l8, p_l9, p_l99, p_l20000, p_add, p_sub, p_mul, p_neg, p_eq, p_lt, p_le, r_in, bd_s, bI_zp, cif_if, cif_n, t_0, t_1, t_2, t_3, m_forget, vI_I, vI_In, vI_A, vA_I, vA_An, pI_ti, ck_p, tn_p, Int.toNat_natCast, cv7, l10, l20, l30, eq_self, cif_tt, cif_ff, cif_t h7', isM_12 hM, isM_13 hM, isM_14 hM, isM_15 hM, isM_16 hM, isM_17 hM, isM_20 hM, isM_21 hM, isM_22 hM, isM_23 hM, isM_24 hM, isM_25 hM, isM_26 hM, isM_27 hM, isM_28 hM, isM_29 hM]
