/-! wall -/
theorem P_wall {x : gx_S} (hI : INV x) (a1 a2 : Int32) {m : Int} (hm : m = 0 ∨ m = 1) : PAIR (f_CaseLayout_wall a1 a2 (pI m)) (f_CaseLayoutModel_wall a1 a2 (pI m)) cd1 x := by
  obtain ⟨a, rfl, a0, a1⟩ := a_pI a1
  obtain ⟨b, rfl, b0, b1⟩ := a_pI a2
  have hg := hI.2.1
  have g := hg.1
  unfold goodG at g
  have hD := isD_rf x
  have nc := e_needCell hD a0 a1 b0 b1
  by_cases hin : inG x a b
  · have hin' := hin
    unfold inG at hin'
    have wl := hg.2.1 (9 * b + a).toNat
    have se := e_standE hD hg.1 (c := 9 * b + a) (by omega) (by omega)
    have sp := e_standP hD hg.1 (fun p hp => by have := hg.2.2.2.2.2.2.1 p hp; exact ⟨this.1, this.2.1, this.2.2.1, this.2.2.2.1⟩) (c := 9 * b + a) (by omega) (by omega)
    by_cases hq : vA x 0 (9 * b + a).toNat = m ∨ (∃ j : Nat, j < (vI x 4).toNat ∧ 9 * vA x 8 j + vA x 7 j = 9 * b + a) ∨ (∃ j : Nat, j < (vI x 5).toNat ∧ vA x 10 j = 9 * b + a)
    · refine ⟨0, pI 0, x, ?_, fun y hy => ?_⟩
      · unfold f_CaseLayout_wall
        simp (disch := omega) only [gI_p, gA_p, p_l0, p_l1, p_l2, p_l3, p_l4, p_l5, p_l6, p_l7, p_l8, p_l9, p_l99, p_l20000, p_add, p_sub, p_mul, p_neg, p_eq, p_lt, p_le, e_needWithin, bd_s, bx_0, bx_1, bI_zp, cif_if, cif_n, c_forget, e_cellOf, e_pairOf, e_sightOf, vI_I, vI_In, vI_A, vA_I, vA_An, pI_ti, ck_p, tn_p, Int.toNat_natCast, l10, l20, l30, eq_self, cif_tt, cif_ff, nc, cif_t hin, sp, se]
        by_cases q1 : vA x 0 (9 * b + a).toNat = m
        · rw [cif_t q1]
        · rw [cif_f q1]
          by_cases q2 : ∃ j : Nat, j < (vI x 4).toNat ∧ 9 * vA x 8 j + vA x 7 j = 9 * b + a
          · rw [cif_t q2]
          · rw [cif_f q2, cif_t ((hq.resolve_left q1).resolve_left q2)]
      · have hyf : fw [] [] x y := y_fw hy
        have hM : isM x y := fw_M hyf hI.1 (by decide) (by decide)
        have ic := r_isCell hM hg.1 a0 a1 b0 b1
        have hM0 : isM x (gx_sI y 11 (pI 0)) := fw_M (S := [11]) (T := []) (fw_sI _ (by decide)) hM (by decide) (by decide)
        have ie := r_isExit hM0 hg hin
        have ip := r_isPlace hM0 hg hin
        refine ⟨pI 0, gx_sI y 11 (pI 0), ?_, rfl, ?_, ⟨fun _ => rfl, fun h => absurd rfl h⟩, ?_⟩
        · unfold f_CaseLayoutModel_wall j_CaseLayoutModel_wall_15
          simp (disch := omega) only [gI_p, gA_p, p_l0, p_l1, p_l2, p_l3, p_l4, p_l5, p_l6, p_l7, p_l8, p_l9, p_l99, p_l20000, p_add, p_sub, p_mul, p_neg, p_eq, p_lt, p_le, r_in, bd_s, bI_zp, cif_if, cif_n, t_0, t_1, t_2, t_3, m_forget, vI_I, vI_In, vI_A, vA_I, vA_An, pI_ti, ck_p, tn_p, Int.toNat_natCast, cv7, l10, l20, l30, eq_self, cif_tt, cif_ff, ic, cif_t hin, ie, ip, isM_12 hM, isM_13 hM, isM_14 hM, isM_15 hM, isM_16 hM, isM_17 hM, isM_20 hM, isM_21 hM, isM_22 hM, isM_23 hM, isM_24 hM, isM_25 hM, isM_26 hM, isM_27 hM, isM_28 hM, isM_29 hM]
          by_cases q3 : ∃ j : Nat, j < (vI x 5).toNat ∧ vA x 10 j = 9 * b + a
          · rw [cif_t q3]
          · rw [cif_f q3]
            by_cases q2 : ∃ j : Nat, j < (vI x 4).toNat ∧ 9 * vA x 8 j + vA x 7 j = 9 * b + a
            · rw [cif_t q2]
            · rw [cif_f q2, cif_t (hq.resolve_right (fun z => z.elim q2 q3))]
        · simp (disch := omega) only [vI_I, pI_ti]; rfl
        · exact INV_f hI (fw_tr (fw_mo hyf (by decide) (by decide)) (fw_sI _ (by decide)))
    · have q1 : ¬ vA x 0 (9 * b + a).toNat = m := fun z => hq (Or.inl z)
      have q2 : ¬ ∃ j : Nat, j < (vI x 4).toNat ∧ 9 * vA x 8 j + vA x 7 j = 9 * b + a := fun z => hq (Or.inr (Or.inl z))
      have q3 : ¬ ∃ j : Nat, j < (vI x 5).toNat ∧ vA x 10 j = 9 * b + a := fun z => hq (Or.inr (Or.inr z))
      have cl := cn_le 0 (vA x 0) 81
      have cq := hI.2.2.1
      have cu : (cn 0 (updF (vA x 0) (9 * b + a).toNat m) 81 : Int) = vI x 2 + (2 * m - 1) := by
        rcases hm with rfl | rfl
        · have := cn_dn (z := 0) (v := 0) (f := vA x 0) (c := (9 * b + a).toNat) (n := 81) (by omega) q1 rfl
          omega
        · have := cn_up (z := 0) (v := 1) (f := vA x 0) (c := (9 * b + a).toNat) (n := 81) (by omega) (by omega) (by omega)
          omega
      have cl2 := cn_le 0 (updF (vA x 0) (9 * b + a).toNat m) 81
      refine ⟨0, pI 1, gx_sI (gx_sI (gx_sI (gx_sA x 0 (9 * b + a).toNat (pI m)) 2 (pI (vI x 2 + (2 * m - 1)))) 9 (pI 0)) 10 (pI (-1)), ?_, fun y hy => ?_⟩
      · unfold f_CaseLayout_wall f_Grid_setWall
        rcases hm with rfl | rfl
        · simp (disch := omega) only [gI_p, gA_p, p_l0, p_l1, p_l2, p_l3, p_l4, p_l5, p_l6, p_l7, p_l8, p_l9, p_l99, p_l20000, p_add, p_sub, p_mul, p_neg, p_eq, p_lt, p_le, e_needWithin, bd_s, bx_0, bx_1, bI_zp, cif_if, cif_n, c_forget, e_cellOf, e_pairOf, e_sightOf, vI_I, vI_In, vI_A, vA_I, vA_An, pI_ti, ck_p, tn_p, Int.toNat_natCast, l10, l20, l30, eq_self, cif_tt, cif_ff, nc, cif_t hin, sp, se, cif_f q1, cif_f q2, cif_f q3, nar_p]
          rfl
        · simp (disch := omega) only [gI_p, gA_p, p_l0, p_l1, p_l2, p_l3, p_l4, p_l5, p_l6, p_l7, p_l8, p_l9, p_l99, p_l20000, p_add, p_sub, p_mul, p_neg, p_eq, p_lt, p_le, e_needWithin, bd_s, bx_0, bx_1, bI_zp, cif_if, cif_n, c_forget, e_cellOf, e_pairOf, e_sightOf, vI_I, vI_In, vI_A, vA_I, vA_An, pI_ti, ck_p, tn_p, Int.toNat_natCast, l10, l20, l30, eq_self, cif_tt, cif_ff, nc, cif_t hin, sp, se, cif_f q1, cif_f q2, cif_f q3, nar_p]
          rfl
      · have hyf : fw [] [] _ y := y_fw hy
        have hM : isM x y := fw_M (fw_mo hyf (S' := [2, 9, 10]) (T' := [0]) (by decide) (by decide)) (fw_M (x := x) (S := [2, 9, 10]) (T := [0]) (by repeat (first | exact fw_rf | refine fw_tr ?_ (fw_sI _ (by decide)) | refine fw_tr ?_ (fw_sA _ _ (by decide)))) hI.1 (by decide) (by decide)) (by decide) (by decide)
        have ic := r_isCell hM hg.1 a0 a1 b0 b1
        have hM0 : isM x (gx_sI y 11 (pI 0)) := fw_M (S := [11]) (T := []) (fw_sI _ (by decide)) hM (by decide) (by decide)
        have ie := r_isExit hM0 hg hin
        have ip := r_isPlace hM0 hg hin
        refine ⟨pI 1, gx_sI (gx_sI (gx_sA (gx_sI y 11 (pI 0)) 20 (9 * b + a).toNat (pI m)) 18 (pI 0)) 20 (pI 0), ?_, rfl, ?_, ⟨fun _ => rfl, fun h => absurd rfl h⟩, ?_⟩
        · unfold f_CaseLayoutModel_wall j_CaseLayoutModel_wall_15
          simp (disch := omega) only [gI_p, gA_p, p_l0, p_l1, p_l2, p_l3, p_l4, p_l5, p_l6, p_l7, p_l8, p_l9, p_l99, p_l20000, p_add, p_sub, p_mul, p_neg, p_eq, p_lt, p_le, r_in, bd_s, bI_zp, cif_if, cif_n, t_0, t_1, t_2, t_3, m_forget, vI_I, vI_In, vI_A, vA_I, vA_An, pI_ti, ck_p, tn_p, Int.toNat_natCast, cv7, l10, l20, l30, eq_self, cif_tt, cif_ff, ic, cif_t hin, ie, ip, cif_f q1, cif_f q2, cif_f q3, nar_p, isM_12 hM, isM_13 hM, isM_14 hM, isM_15 hM, isM_16 hM, isM_17 hM, isM_20 hM, isM_21 hM, isM_22 hM, isM_23 hM, isM_24 hM, isM_25 hM, isM_26 hM, isM_27 hM, isM_28 hM, isM_29 hM]
        · simp (disch := omega) only [vI_I, vI_In, vI_A, pI_ti]; rfl
        · have hf : fw [2, 9, 10, 11, 18, 20] [0, 20] x (gx_sI (gx_sI (gx_sA (gx_sI y 11 (pI 0)) 20 (9 * b + a).toNat (pI m)) 18 (pI 0)) 20 (pI 0)) := by
            refine fw_tr (y := y) (fw_tr ?_ (fw_mo hyf (by decide) (by decide))) ?_ <;> repeat (first | exact fw_rf | refine fw_tr ?_ (fw_sI _ (by decide)) | refine fw_tr ?_ (fw_sA _ _ (by decide)))
          generalize hy2 : gx_sI (gx_sI (gx_sA (gx_sI y 11 (pI 0)) 20 (9 * b + a).toNat (pI m)) 18 (pI 0)) 20 (pI 0) = y2 at *
          have w0 : ∀ i, vA y2 0 i = if i = (9 * b + a).toNat then m else vA x 0 i := by
            subst hy2
            intro i
            simp (disch := omega) only [vA_I, vA_An, vA_A, fw_A hyf 0 (by decide), pI_ti]
          have e20 : vA y2 20 = vA y2 0 := by
            funext i
            rw [w0]
            subst hy2
            simp (disch := omega) only [vA_I, vA_An, vA_A, fw_A hyf 20 (by decide), isM_20 hI.1, pI_ti]
          refine ⟨⟨⟨(fw_I hf 12 (by decide)).trans ((isM_12 hI.1).trans (fw_I hf 0 (by decide)).symm), (fw_I hf 13 (by decide)).trans ((isM_13 hI.1).trans (fw_I hf 1 (by decide)).symm), (fw_I hf 14 (by decide)).trans ((isM_14 hI.1).trans (fw_I hf 3 (by decide)).symm), (fw_I hf 15 (by decide)).trans ((isM_15 hI.1).trans (fw_I hf 4 (by decide)).symm), (fw_I hf 16 (by decide)).trans ((isM_16 hI.1).trans (fw_I hf 5 (by decide)).symm), (fw_I hf 17 (by decide)).trans ((isM_17 hI.1).trans (fw_I hf 6 (by decide)).symm)⟩, ⟨fun i => congrFun e20 i, fun i => (congrFun (fw_A hf 21 (by decide)) i).trans ((isM_21 hI.1 i).trans (congrFun (fw_A hf 1 (by decide)) i).symm), fun i => (congrFun (fw_A hf 22 (by decide)) i).trans ((isM_22 hI.1 i).trans (congrFun (fw_A hf 2 (by decide)) i).symm), fun i => (congrFun (fw_A hf 23 (by decide)) i).trans ((isM_23 hI.1 i).trans (congrFun (fw_A hf 3 (by decide)) i).symm), fun i => (congrFun (fw_A hf 24 (by decide)) i).trans ((isM_24 hI.1 i).trans (congrFun (fw_A hf 4 (by decide)) i).symm), fun i => (congrFun (fw_A hf 25 (by decide)) i).trans ((isM_25 hI.1 i).trans (congrFun (fw_A hf 5 (by decide)) i).symm), fun i => (congrFun (fw_A hf 26 (by decide)) i).trans ((isM_26 hI.1 i).trans (congrFun (fw_A hf 6 (by decide)) i).symm), fun i => (congrFun (fw_A hf 27 (by decide)) i).trans ((isM_27 hI.1 i).trans (congrFun (fw_A hf 7 (by decide)) i).symm), fun i => (congrFun (fw_A hf 28 (by decide)) i).trans ((isM_28 hI.1 i).trans (congrFun (fw_A hf 8 (by decide)) i).symm), fun i => (congrFun (fw_A hf 29 (by decide)) i).trans ((isM_29 hI.1 i).trans (congrFun (fw_A hf 9 (by decide)) i).symm)⟩, fun e he => by rw [fw_A hf 30 (by decide), fw_A hf 31 (by decide), fw_A hf 10 (by decide)]; exact hI.1.2.2 e (by rw [← fw_I hf 5 (by decide)]; exact he)⟩, ?_, ?_, SGM_0 ?_ ?_ ?_ ?_⟩
          · obtain ⟨-, k1, k2, k3, k4, k5, k6, k7, k8, k9⟩ := hg
            unfold goodD goodG goodA
            rw [fw_I hf 0 (by decide), fw_I hf 1 (by decide), fw_I hf 3 (by decide), fw_I hf 4 (by decide), fw_I hf 5 (by decide), fw_I hf 6 (by decide), fw_A hf 2 (by decide), fw_A hf 3 (by decide), fw_A hf 5 (by decide), fw_A hf 6 (by decide), fw_A hf 7 (by decide), fw_A hf 8 (by decide), fw_A hf 9 (by decide), fw_A hf 10 (by decide)]
            refine ⟨by omega, fun i => ?_, k2, k3, k4, k5, fun p hp => ?_, k7, k8, k9⟩
            · rw [w0]
              by_cases e : i = (9 * b + a).toNat
              · rw [if_pos e]; exact hm
              · rw [if_neg e]; exact k1 i
            · have q := k6 p hp
              refine ⟨q.1, q.2.1, q.2.2.1, q.2.2.2.1, ?_⟩
              rw [w0, if_neg]
              · exact q.2.2.2.2
              · intro e
                exact q2 ⟨p, by omega, by omega⟩
          · have e0 : vA y2 0 = updF (vA x 0) (9 * b + a).toNat m := funext w0
            rw [e0, cu]
            subst hy2
            simp (disch := omega) only [vI_I, vI_In, vI_A, fw_I hyf 2 (by decide), pI_ti]
          · subst hy2
            simp (disch := omega) only [vI_I, vI_In, vI_A, fw_I hyf 9 (by decide), pI_ti]
          · subst hy2
            simp (disch := omega) only [vI_I, vI_In, vI_A, fw_I hyf 10 (by decide), pI_ti]
          · subst hy2
            simp (disch := omega) only [vI_I, vI_In, vI_A, pI_ti]
          · subst hy2
            simp (disch := omega) only [vI_I, vI_In, vI_A, pI_ti]
  · refine P_throw hI 0 1 (by omega) rfl ?_ (fun y hM _ _ => ?_)
    · unfold f_CaseLayout_wall
      simp (disch := omega) only [gI_p, gA_p, p_l0, p_l1, p_l2, p_l3, p_l4, p_l5, p_l6, p_l7, p_l8, p_l9, p_l99, p_l20000, p_add, p_sub, p_mul, p_neg, p_eq, p_lt, p_le, e_needWithin, bd_s, bx_0, bx_1, bI_zp, cif_if, cif_n, c_forget, e_cellOf, e_pairOf, e_sightOf, vI_I, vI_In, vI_A, vA_I, vA_An, pI_ti, ck_p, tn_p, Int.toNat_natCast, l10, l20, l30, eq_self, cif_tt, cif_ff, nc, cif_f hin]
    · have ic := r_isCell hM hg.1 a0 a1 b0 b1
      unfold f_CaseLayoutModel_wall j_CaseLayoutModel_wall_15
      simp (disch := omega) only [gI_p, gA_p, p_l0, p_l1, p_l2, p_l3, p_l4, p_l5, p_l6, p_l7, p_l8, p_l9, p_l99, p_l20000, p_add, p_sub, p_mul, p_neg, p_eq, p_lt, p_le, r_in, bd_s, bI_zp, cif_if, cif_n, t_0, t_1, t_2, t_3, m_forget, vI_I, vI_In, vI_A, vA_I, vA_An, pI_ti, ck_p, tn_p, Int.toNat_natCast, cv7, l10, l20, l30, eq_self, cif_tt, cif_ff, ic, cif_f hin, isM_12 hM, isM_13 hM, isM_14 hM, isM_15 hM, isM_16 hM, isM_17 hM, isM_20 hM, isM_21 hM, isM_22 hM, isM_23 hM, isM_24 hM, isM_25 hM, isM_26 hM, isM_27 hM, isM_28 hM, isM_29 hM]
