/-! exit, wall -/
theorem e_standE {D x : gx_S} (hD : isD D x) (hg : goodG D) {c : Int} (a0 : -2147483648 ≤ c) (a1 : c ≤ 2147483647) : f_Exits_standOn (pI c) x = some (bI (∃ j : Nat, j < (vI D 5).toNat ∧ vA D 10 j = c), x) := by
  unfold f_Exits_standOn
  have g := hg
  unfold goodG at g
  refine lp_fin (lp_ex 0 (vI D 5).toNat (fun j : Nat => vA D 10 j = c) (by omega) (fun i hi => ?_) ?_)
  · have l0 := vA_lo D 10 i
    have l1 := vA_hi D 10 i
    unfold s_Exits_standOn_2
    simp (disch := omega) only [gI_p, gA_p, p_l0, p_l1, p_l2, p_l3, p_l4, p_l5, p_l6, p_l7, p_l8, p_l9, p_l15, p_l81, p_l99, p_l1000, p_l20000, p_add, p_sub, p_mul, p_neg, p_lt, p_le, p_eq, p_div, ck_p, nz_p, tn_p, bd_s, bl_s, bx_0, m9, m7, m81, Int.toNat_natCast, hD.1, hD.2, Int.zero_add]
    rw [if_neg (by omega), cif_if]
    by_cases e : vA D 10 i = c
    · rw [cif_t e, cif_t e]
    · rw [cif_f e, cif_f e]
  · unfold s_Exits_standOn_2
    simp (disch := omega) only [gI_p, gA_p, p_l0, p_l1, p_l2, p_l3, p_l4, p_l5, p_l6, p_l7, p_l8, p_l9, p_l15, p_l81, p_l99, p_l1000, p_l20000, p_add, p_sub, p_mul, p_neg, p_lt, p_le, p_eq, p_div, ck_p, nz_p, tn_p, bd_s, bl_s, bx_0, m9, m7, m81, Int.toNat_natCast, hD.1, hD.2, Int.zero_add]
    rw [if_pos (by omega)]
theorem P_exit {x : gx_S} (hI : INV x) (a1 a2 : Int32) : PAIR (f_CaseLayout_exit a1 a2) (f_CaseLayoutModel_exit a1 a2) cd123 x := by
  obtain ⟨a, rfl, a0, a1⟩ := a_pI a1
  obtain ⟨b, rfl, b0, b1⟩ := a_pI a2
  have hg := hI.2.1
  have g := hg.1
  unfold goodG at g
  have hD := isD_rf x
  have nc := e_needCell hD a0 a1 b0 b1
  by_cases hin : inG x a b
  · have hin' := hin
    unfold inG at hin'
    have wl := hg.2.1 (9 * b + a).toNat
    have se := e_standE hD hg.1 (c := 9 * b + a) (by omega) (by omega)
    by_cases h8 : vI x 5 < 6
    · have h8' : ¬ vI x 5 = 6 := by omega
      by_cases hw : vA x 0 (9 * b + a).toNat = 0
      · by_cases hx : ∃ j : Nat, j < (vI x 5).toNat ∧ vA x 10 j = 9 * b + a
        · refine P_throw hI 2 3 (by omega) rfl ?_ (fun y hM _ _ => ?_)
          · unfold f_CaseLayout_exit j_CaseLayout_exit_57
            simp (disch := omega) only [gI_p, gA_p, p_l0, p_l1, p_l2, p_l3, p_l4, p_l5, p_l6, p_l7, p_l8, p_l9, p_l99, p_l20000, p_add, p_sub, p_mul, p_neg, p_eq, p_lt, p_le, e_needWithin, bd_s, bx_0, bx_1, bI_zp, cif_if, cif_n, c_forget, e_cellOf, e_pairOf, e_sightOf, vI_I, vI_In, vI_A, vA_I, vA_An, pI_ti, ck_p, tn_p, Int.toNat_natCast, l10, l20, l30, eq_self, cif_tt, cif_ff, nc, cif_t hin, cif_t h8, cif_t hw, se, cif_t hx]
          · have ic := r_isCell hM hg.1 a0 a1 b0 b1
            have ie := r_isExit hM hg hin
            unfold f_CaseLayoutModel_exit j_CaseLayoutModel_exit_14 j_CaseLayoutModel_exit_31 j_CaseLayoutModel_exit_62 j_CaseLayoutModel_exit_58 j_CaseLayoutModel_exit_63
            simp (disch := omega) only [gI_p, gA_p, p_l0, p_l1, p_l2, p_l3, p_l4, p_l5, p_l6, p_l7, p_l8, p_l9, p_l99, p_l20000, p_add, p_sub, p_mul, p_neg, p_eq, p_lt, p_le, r_in, bd_s, bI_zp, cif_if, cif_n, t_0, t_1, t_2, t_3, m_forget, vI_I, vI_In, vI_A, vA_I, vA_An, pI_ti, ck_p, tn_p, Int.toNat_natCast, cv7, l10, l20, l30, eq_self, cif_tt, cif_ff, ic, cif_t hin, cif_f h8', cif_t hw, ie, cif_t hx, isM_12 hM, isM_13 hM, isM_14 hM, isM_15 hM, isM_16 hM, isM_17 hM, isM_20 hM, isM_21 hM, isM_22 hM, isM_23 hM, isM_24 hM, isM_25 hM, isM_26 hM, isM_27 hM, isM_28 hM, isM_29 hM]
        · refine ⟨0, pI (vI x 5 + 1), gx_sI (gx_sA (gx_sI (gx_sI x 9 (pI 0)) 10 (pI (-1))) 10 (vI x 5).toNat (pI (9 * b + a))) 5 (pI (vI x 5 + 1)), ?_, fun y hy => ?_⟩
          · unfold f_CaseLayout_exit f_Exits_add
            simp (disch := omega) only [gI_p, gA_p, p_l0, p_l1, p_l2, p_l3, p_l4, p_l5, p_l6, p_l7, p_l8, p_l9, p_l99, p_l20000, p_add, p_sub, p_mul, p_neg, p_eq, p_lt, p_le, e_needWithin, bd_s, bx_0, bx_1, bI_zp, cif_if, cif_n, c_forget, e_cellOf, e_pairOf, e_sightOf, vI_I, vI_In, vI_A, vA_I, vA_An, pI_ti, ck_p, tn_p, Int.toNat_natCast, l10, l20, l30, eq_self, cif_tt, cif_ff, nc, cif_t hin, cif_t h8, cif_t hw, se, cif_f hx]
          · have hyf : fw [] [] _ y := y_fw hy
            have hM : isM x y := fw_M (fw_mo hyf (S' := [5, 9, 10]) (T' := [10]) (by decide) (by decide)) (fw_M (x := x) (S := [5, 9, 10]) (T := [10]) (by repeat (first | exact fw_rf | refine fw_tr ?_ (fw_sI _ (by decide)) | refine fw_tr ?_ (fw_sA _ _ (by decide)))) hI.1 (by decide) (by decide)) (by decide) (by decide)
            have ic := r_isCell hM hg.1 a0 a1 b0 b1
            have ie := r_isExit hM hg hin
            refine ⟨pI (vI x 5 + 1), gx_sI (gx_sI (gx_sI (gx_sA (gx_sA (gx_sI y 11 (pI 0)) 30 (vI x 5).toNat (pI a)) 31 (vI x 5).toNat (pI b)) 16 (pI (vI x 5 + 1))) 18 (pI 0)) 20 (pI 0), ?_, rfl, ?_, ⟨fun _ => rfl, fun h => absurd rfl h⟩, ?_⟩
            · unfold f_CaseLayoutModel_exit j_CaseLayoutModel_exit_14 j_CaseLayoutModel_exit_31 j_CaseLayoutModel_exit_62 j_CaseLayoutModel_exit_58 j_CaseLayoutModel_exit_63
              simp (disch := omega) only [gI_p, gA_p, p_l0, p_l1, p_l2, p_l3, p_l4, p_l5, p_l6, p_l7, p_l8, p_l9, p_l99, p_l20000, p_add, p_sub, p_mul, p_neg, p_eq, p_lt, p_le, r_in, bd_s, bI_zp, cif_if, cif_n, t_0, t_1, t_2, t_3, m_forget, vI_I, vI_In, vI_A, vA_I, vA_An, pI_ti, ck_p, tn_p, Int.toNat_natCast, cv7, l10, l20, l30, eq_self, cif_tt, cif_ff, ic, cif_t hin, cif_f h8', cif_t hw, ie, cif_f hx, isM_12 hM, isM_13 hM, isM_14 hM, isM_15 hM, isM_16 hM, isM_17 hM, isM_20 hM, isM_21 hM, isM_22 hM, isM_23 hM, isM_24 hM, isM_25 hM, isM_26 hM, isM_27 hM, isM_28 hM, isM_29 hM]
            · simp (disch := omega) only [vI_I, vI_In, vI_A, pI_ti]; rfl
            · have hf : fw [5, 9, 10, 11, 16, 18, 20] [10, 30, 31] x (gx_sI (gx_sI (gx_sI (gx_sA (gx_sA (gx_sI y 11 (pI 0)) 30 (vI x 5).toNat (pI a)) 31 (vI x 5).toNat (pI b)) 16 (pI (vI x 5 + 1))) 18 (pI 0)) 20 (pI 0)) := by
                refine fw_tr (y := y) (fw_tr ?_ (fw_mo hyf (by decide) (by decide))) ?_ <;> repeat (first | exact fw_rf | refine fw_tr ?_ (fw_sI _ (by decide)) | refine fw_tr ?_ (fw_sA _ _ (by decide)))
              generalize hy2 : gx_sI (gx_sI (gx_sI (gx_sA (gx_sA (gx_sI y 11 (pI 0)) 30 (vI x 5).toNat (pI a)) 31 (vI x 5).toNat (pI b)) 16 (pI (vI x 5 + 1))) 18 (pI 0)) 20 (pI 0) = y2 at *
              have v5 : vI y2 5 = vI x 5 + 1 := by
                subst hy2
                simp (disch := omega) only [vI_I, vI_In, vI_A, fw_I hyf 5 (by decide), pI_ti]
              have v16 : vI y2 16 = vI y2 5 := by
                rw [v5]
                subst hy2
                simp (disch := omega) only [vI_I, vI_In, vI_A, pI_ti]
              have w10 : ∀ i, vA y2 10 i = if i = (vI x 5).toNat then 9 * b + a else vA x 10 i := by
                subst hy2
                intro i
                simp (disch := omega) only [vA_I, vA_An, vA_A, fw_A hyf 10 (by decide), pI_ti]
              have w30 : ∀ i, vA y2 30 i = if i = (vI x 5).toNat then a else vA x 30 i := by
                subst hy2
                intro i
                simp (disch := omega) only [vA_I, vA_An, vA_A, fw_A hyf 30 (by decide), pI_ti]
              have w31 : ∀ i, vA y2 31 i = if i = (vI x 5).toNat then b else vA x 31 i := by
                subst hy2
                intro i
                simp (disch := omega) only [vA_I, vA_An, vA_A, fw_A hyf 31 (by decide), pI_ti]
              have eE : ∀ e : Nat, (e : Int) < vI y2 5 → vA y2 30 e = vA y2 10 e % 9 ∧ vA y2 31 e = vA y2 10 e / 9 := by
                intro e he
                rw [w10, w30, w31]
                by_cases q : e = (vI x 5).toNat
                · rw [if_pos q, if_pos q, if_pos q]; omega
                · rw [if_neg q, if_neg q, if_neg q]; exact hI.1.2.2 e (by omega)
              refine ⟨⟨⟨(fw_I hf 12 (by decide)).trans ((isM_12 hI.1).trans (fw_I hf 0 (by decide)).symm), (fw_I hf 13 (by decide)).trans ((isM_13 hI.1).trans (fw_I hf 1 (by decide)).symm), (fw_I hf 14 (by decide)).trans ((isM_14 hI.1).trans (fw_I hf 3 (by decide)).symm), (fw_I hf 15 (by decide)).trans ((isM_15 hI.1).trans (fw_I hf 4 (by decide)).symm), v16, (fw_I hf 17 (by decide)).trans ((isM_17 hI.1).trans (fw_I hf 6 (by decide)).symm)⟩, ⟨fun i => (congrFun (fw_A hf 20 (by decide)) i).trans ((isM_20 hI.1 i).trans (congrFun (fw_A hf 0 (by decide)) i).symm), fun i => (congrFun (fw_A hf 21 (by decide)) i).trans ((isM_21 hI.1 i).trans (congrFun (fw_A hf 1 (by decide)) i).symm), fun i => (congrFun (fw_A hf 22 (by decide)) i).trans ((isM_22 hI.1 i).trans (congrFun (fw_A hf 2 (by decide)) i).symm), fun i => (congrFun (fw_A hf 23 (by decide)) i).trans ((isM_23 hI.1 i).trans (congrFun (fw_A hf 3 (by decide)) i).symm), fun i => (congrFun (fw_A hf 24 (by decide)) i).trans ((isM_24 hI.1 i).trans (congrFun (fw_A hf 4 (by decide)) i).symm), fun i => (congrFun (fw_A hf 25 (by decide)) i).trans ((isM_25 hI.1 i).trans (congrFun (fw_A hf 5 (by decide)) i).symm), fun i => (congrFun (fw_A hf 26 (by decide)) i).trans ((isM_26 hI.1 i).trans (congrFun (fw_A hf 6 (by decide)) i).symm), fun i => (congrFun (fw_A hf 27 (by decide)) i).trans ((isM_27 hI.1 i).trans (congrFun (fw_A hf 7 (by decide)) i).symm), fun i => (congrFun (fw_A hf 28 (by decide)) i).trans ((isM_28 hI.1 i).trans (congrFun (fw_A hf 8 (by decide)) i).symm), fun i => (congrFun (fw_A hf 29 (by decide)) i).trans ((isM_29 hI.1 i).trans (congrFun (fw_A hf 9 (by decide)) i).symm)⟩, eE⟩, ?_, ?_, SGM_0 ?_ ?_ ?_ ?_⟩
              · obtain ⟨-, k1, k2, k3, k4, k5, k6, k7, k8, k9⟩ := hg
                unfold goodD goodG goodA
                rw [fw_I hf 0 (by decide), fw_I hf 1 (by decide), fw_I hf 3 (by decide), fw_I hf 4 (by decide), fw_I hf 6 (by decide), fw_A hf 0 (by decide), fw_A hf 2 (by decide), fw_A hf 3 (by decide), fw_A hf 5 (by decide), fw_A hf 6 (by decide), fw_A hf 7 (by decide), fw_A hf 8 (by decide), fw_A hf 9 (by decide), v5]
                refine ⟨by omega, k1, k2, k3, k4, k5, k6, k7, fun e he => ?_, k9⟩
                rw [w10]
                by_cases q : e = (vI x 5).toNat
                · rw [if_pos q]; omega
                · rw [if_neg q]; exact k8 e (by omega)
              · rw [fw_I hf 2 (by decide), fw_A hf 0 (by decide)]; exact hI.2.2.1
              · subst hy2
                simp (disch := omega) only [vI_I, vI_In, vI_A, fw_I hyf 9 (by decide), pI_ti]
              · subst hy2
                simp (disch := omega) only [vI_I, vI_In, vI_A, fw_I hyf 10 (by decide), pI_ti]
              · subst hy2
                simp (disch := omega) only [vI_I, vI_In, vI_A, pI_ti]
              · subst hy2
                simp (disch := omega) only [vI_I, vI_In, vI_A, pI_ti]
      · refine P_throw hI 2 3 (by omega) rfl ?_ (fun y hM _ _ => ?_)
        · unfold f_CaseLayout_exit j_CaseLayout_exit_57
          simp (disch := omega) only [gI_p, gA_p, p_l0, p_l1, p_l2, p_l3, p_l4, p_l5, p_l6, p_l7, p_l8, p_l9, p_l99, p_l20000, p_add, p_sub, p_mul, p_neg, p_eq, p_lt, p_le, e_needWithin, bd_s, bx_0, bx_1, bI_zp, cif_if, cif_n, c_forget, e_cellOf, e_pairOf, e_sightOf, vI_I, vI_In, vI_A, vA_I, vA_An, pI_ti, ck_p, tn_p, Int.toNat_natCast, l10, l20, l30, eq_self, cif_tt, cif_ff, nc, cif_t hin, cif_t h8, cif_f hw]
        · have ic := r_isCell hM hg.1 a0 a1 b0 b1
          unfold f_CaseLayoutModel_exit j_CaseLayoutModel_exit_14 j_CaseLayoutModel_exit_31 j_CaseLayoutModel_exit_62 j_CaseLayoutModel_exit_58 j_CaseLayoutModel_exit_63
          simp (disch := omega) only [gI_p, gA_p, p_l0, p_l1, p_l2, p_l3, p_l4, p_l5, p_l6, p_l7, p_l8, p_l9, p_l99, p_l20000, p_add, p_sub, p_mul, p_neg, p_eq, p_lt, p_le, r_in, bd_s, bI_zp, cif_if, cif_n, t_0, t_1, t_2, t_3, m_forget, vI_I, vI_In, vI_A, vA_I, vA_An, pI_ti, ck_p, tn_p, Int.toNat_natCast, cv7, l10, l20, l30, eq_self, cif_tt, cif_ff, ic, cif_t hin, cif_f h8', cif_f hw, isM_12 hM, isM_13 hM, isM_14 hM, isM_15 hM, isM_16 hM, isM_17 hM, isM_20 hM, isM_21 hM, isM_22 hM, isM_23 hM, isM_24 hM, isM_25 hM, isM_26 hM, isM_27 hM, isM_28 hM, isM_29 hM]
    · have h8' : vI x 5 = 6 := by omega
      refine P_throw hI 1 2 (by omega) rfl ?_ (fun y hM _ _ => ?_)
      · unfold f_CaseLayout_exit
        simp (disch := omega) only [gI_p, gA_p, p_l0, p_l1, p_l2, p_l3, p_l4, p_l5, p_l6, p_l7, p_l8, p_l9, p_l99, p_l20000, p_add, p_sub, p_mul, p_neg, p_eq, p_lt, p_le, e_needWithin, bd_s, bx_0, bx_1, bI_zp, cif_if, cif_n, c_forget, e_cellOf, e_pairOf, e_sightOf, vI_I, vI_In, vI_A, vA_I, vA_An, pI_ti, ck_p, tn_p, Int.toNat_natCast, l10, l20, l30, eq_self, cif_tt, cif_ff, nc, cif_t hin, cif_f h8]
      · have ic := r_isCell hM hg.1 a0 a1 b0 b1
        have ie := r_isExit hM hg hin
        unfold f_CaseLayoutModel_exit j_CaseLayoutModel_exit_14 j_CaseLayoutModel_exit_31 j_CaseLayoutModel_exit_62 j_CaseLayoutModel_exit_58 j_CaseLayoutModel_exit_63
        simp (disch := omega) only [gI_p, gA_p, p_l0, p_l1, p_l2, p_l3, p_l4, p_l5, p_l6, p_l7, p_l8, p_l9, p_l99, p_l20000, p_add, p_sub, p_mul, p_neg, p_eq, p_lt, p_le, r_in, bd_s, bI_zp, cif_if, cif_n, t_0, t_1, t_2, t_3, m_forget, vI_I, vI_In, vI_A, vA_I, vA_An, pI_ti, ck_p, tn_p, Int.toNat_natCast, cv7, l10, l20, l30, eq_self, cif_tt, cif_ff, ic, cif_t hin, cif_t h8', ie, isM_12 hM, isM_13 hM, isM_14 hM, isM_15 hM, isM_16 hM, isM_17 hM, isM_20 hM, isM_21 hM, isM_22 hM, isM_23 hM, isM_24 hM, isM_25 hM, isM_26 hM, isM_27 hM, isM_28 hM, isM_29 hM]
  · refine P_throw hI 0 1 (by omega) rfl ?_ (fun y hM _ _ => ?_)
    · unfold f_CaseLayout_exit
      simp (disch := omega) only [gI_p, gA_p, p_l0, p_l1, p_l2, p_l3, p_l4, p_l5, p_l6, p_l7, p_l8, p_l9, p_l99, p_l20000, p_add, p_sub, p_mul, p_neg, p_eq, p_lt, p_le, e_needWithin, bd_s, bx_0, bx_1, bI_zp, cif_if, cif_n, c_forget, e_cellOf, e_pairOf, e_sightOf, vI_I, vI_In, vI_A, vA_I, vA_An, pI_ti, ck_p, tn_p, Int.toNat_natCast, l10, l20, l30, eq_self, cif_tt, cif_ff, nc, cif_f hin]
    · have ic := r_isCell hM hg.1 a0 a1 b0 b1
      unfold f_CaseLayoutModel_exit j_CaseLayoutModel_exit_14 j_CaseLayoutModel_exit_31 j_CaseLayoutModel_exit_62 j_CaseLayoutModel_exit_58 j_CaseLayoutModel_exit_63
      simp (disch := omega) only [gI_p, gA_p, p_l0, p_l1, p_l2, p_l3, p_l4, p_l5, p_l6, p_l7, p_l8, p_l9, p_l99, p_l20000, p_add, p_sub, p_mul, p_neg, p_eq, p_lt, p_le, r_in, bd_s, bI_zp, cif_if, cif_n, t_0, t_1, t_2, t_3, m_forget, vI_I, vI_In, vI_A, vA_I, vA_An, pI_ti, ck_p, tn_p, Int.toNat_natCast, cv7, l10, l20, l30, eq_self, cif_tt, cif_ff, ic, cif_f hin, isM_12 hM, isM_13 hM, isM_14 hM, isM_15 hM, isM_16 hM, isM_17 hM, isM_20 hM, isM_21 hM, isM_22 hM, isM_23 hM, isM_24 hM, isM_25 hM, isM_26 hM, isM_27 hM, isM_28 hM, isM_29 hM]
