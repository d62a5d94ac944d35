/-! reading rows of the reference -/
theorem r_in {x : gx_S} {a b c : Int} (a0 : -2147483648 ≤ a) (a1 : a ≤ 2147483647) (b0 : -2147483648 ≤ b) (b1 : b ≤ 2147483647) (c0 : -2147483648 ≤ c) (c1 : c ≤ 2147483647) : f_CaseLayoutModel_in (pI a) (pI b) (pI c) x = some (bI (b ≤ a ∧ a ≤ c), x) := by
  unfold f_CaseLayoutModel_in
  simp (disch := omega) only [gI_p, gA_p, p_l0, p_l1, p_l2, p_l3, p_l4, p_l5, p_l6, p_l7, p_l8, p_l9, p_l15, p_l81, p_l99, p_l1000, p_l20000, p_add, p_sub, p_mul, p_neg, p_lt, p_le, p_eq, p_div, ck_p, nz_p, tn_p, bd_s, bl_s, bx_0, m9, m7, m81, Int.toNat_natCast, cif_if, bI_zp, cif_n, cif_tt, cif_ff, cb, cl, cv0, cv1, cv2, cv3, cv4, cv5, cv6, cv7, nb_b]
  rw [bI_c]
  omega
theorem r_isCell {D x : gx_S} (hM : isM D x) (hg : goodG D) {a b : Int} (a0 : -2147483648 ≤ a) (a1 : a ≤ 2147483647) (b0 : -2147483648 ≤ b) (b1 : b ≤ 2147483647) : f_CaseLayoutModel_isCell (pI a) (pI b) x = some (bI (inG D a b), x) := by
  have g := hg
  unfold goodG at g
  unfold f_CaseLayoutModel_isCell
  simp (disch := omega) only [gI_p, gA_p, p_l0, p_l1, p_l2, p_l3, p_l4, p_l5, p_l6, p_l7, p_l8, p_l9, p_l15, p_l81, p_l99, p_l1000, p_l20000, p_add, p_sub, p_mul, p_neg, p_lt, p_le, p_eq, p_div, ck_p, nz_p, tn_p, bd_s, bl_s, bx_0, m9, m7, m81, Int.toNat_natCast, isM_12 hM, isM_13 hM, isM_14 hM, isM_15 hM, isM_16 hM, isM_17 hM, isM_20 hM, isM_21 hM, isM_22 hM, isM_23 hM, isM_24 hM, isM_25 hM, isM_26 hM, isM_27 hM, isM_28 hM, isM_29 hM, cif_if, bI_zp, cif_n, cif_tt, cif_ff, cb, cl, cv0, cv1, cv2, cv3, cv4, cv5, cv6, cv7, nb_b, r_in]
  unfold inG
  rw [bI_c]
  omega
theorem r_isThing {D x : gx_S} (hM : isM D x) (hg : goodG D) {a : Int} (a0 : -2147483648 ≤ a) (a1 : a ≤ 2147483647) : f_CaseLayoutModel_isThing (pI a) x = some (bI (0 ≤ a ∧ a < vI D 3), x) := by
  have g := hg
  unfold goodG at g
  unfold f_CaseLayoutModel_isThing
  simp (disch := omega) only [gI_p, gA_p, p_l0, p_l1, p_l2, p_l3, p_l4, p_l5, p_l6, p_l7, p_l8, p_l9, p_l15, p_l81, p_l99, p_l1000, p_l20000, p_add, p_sub, p_mul, p_neg, p_lt, p_le, p_eq, p_div, ck_p, nz_p, tn_p, bd_s, bl_s, bx_0, m9, m7, m81, Int.toNat_natCast, isM_12 hM, isM_13 hM, isM_14 hM, isM_15 hM, isM_16 hM, isM_17 hM, isM_20 hM, isM_21 hM, isM_22 hM, isM_23 hM, isM_24 hM, isM_25 hM, isM_26 hM, isM_27 hM, isM_28 hM, isM_29 hM, cif_if, bI_zp, cif_n, cif_tt, cif_ff, cb, cl, cv0, cv1, cv2, cv3, cv4, cv5, cv6, cv7, nb_b, r_in]
  rw [bI_c]
  omega
theorem r_isExit {D x : gx_S} (hM : isM D x) (hg : goodD D) {a b : Int} (h : inG D a b) : f_CaseLayoutModel_isExit (pI a) (pI b) x = some (bI (∃ j : Nat, j < (vI D 5).toNat ∧ vA D 10 j = 9 * b + a), x) := by
  have g := hg.1
  unfold goodG at g
  unfold inG at h
  unfold f_CaseLayoutModel_isExit
  simp only [p_l0]
  rw [lp_any0 (s := s_CaseLayoutModel_isExit_5 (pI a) (pI b)) (x := x) (vI D 5).toNat (fun j : Nat => vA D 10 j = 9 * b + a) (by omega) (fun i q hi => ?_) (fun q => ?_)]
  · rw [bl_s, nb_b]
  · unfold s_CaseLayoutModel_isExit_5
    have e := hM.2.2 i (by omega)
    have e2 := hg.2.2.2.2.2.2.2.2.1 i (by omega)
    simp (disch := omega) only [gI_p, gA_p, p_l0, p_l1, p_l2, p_l3, p_l4, p_l5, p_l6, p_l7, p_l8, p_l9, p_l15, p_l81, p_l99, p_l1000, p_l20000, p_add, p_sub, p_mul, p_neg, p_lt, p_le, p_eq, p_div, ck_p, nz_p, tn_p, bd_s, bl_s, bx_0, m9, m7, m81, Int.toNat_natCast, isM_12 hM, isM_13 hM, isM_14 hM, isM_15 hM, isM_16 hM, isM_17 hM, isM_20 hM, isM_21 hM, isM_22 hM, isM_23 hM, isM_24 hM, isM_25 hM, isM_26 hM, isM_27 hM, isM_28 hM, isM_29 hM, cif_if, bI_zp, cif_n, cif_tt, cif_ff, cb, cl, cv0, cv1, cv2, cv3, cv4, cv5, cv6, cv7, nb_b, e.1, e.2]
    rw [cif_f (by omega), bI_c]
    by_cases hq : q <;> simp only [hq, true_or, false_or, or_true, or_false, true_and, false_and, and_true, and_false, not_true, not_false_iff, true_iff, iff_true, false_iff, iff_false] <;> omega
  · unfold s_CaseLayoutModel_isExit_5
    simp (disch := omega) only [gI_p, gA_p, p_l0, p_l1, p_l2, p_l3, p_l4, p_l5, p_l6, p_l7, p_l8, p_l9, p_l15, p_l81, p_l99, p_l1000, p_l20000, p_add, p_sub, p_mul, p_neg, p_lt, p_le, p_eq, p_div, ck_p, nz_p, tn_p, bd_s, bl_s, bx_0, m9, m7, m81, Int.toNat_natCast, isM_12 hM, isM_13 hM, isM_14 hM, isM_15 hM, isM_16 hM, isM_17 hM, isM_20 hM, isM_21 hM, isM_22 hM, isM_23 hM, isM_24 hM, isM_25 hM, isM_26 hM, isM_27 hM, isM_28 hM, isM_29 hM, cif_if, bI_zp, cif_n, cif_tt, cif_ff, cb, cl, cv0, cv1, cv2, cv3, cv4, cv5, cv6, cv7, nb_b]
    rw [cif_t (by omega)]
theorem r_isPlace {D x : gx_S} (hM : isM D x) (hg : goodD D) {a b : Int} (h : inG D a b) : f_CaseLayoutModel_isPlace (pI a) (pI b) x = some (bI (∃ j : Nat, j < (vI D 4).toNat ∧ 9 * vA D 8 j + vA D 7 j = 9 * b + a), x) := by
  have g := hg.1
  unfold goodG at g
  unfold inG at h
  unfold f_CaseLayoutModel_isPlace
  simp only [p_l0]
  rw [lp_any0 (s := s_CaseLayoutModel_isPlace_5 (pI a) (pI b)) (x := x) (vI D 4).toNat (fun j : Nat => 9 * vA D 8 j + vA D 7 j = 9 * b + a) (by omega) (fun i q hi => ?_) (fun q => ?_)]
  · rw [bl_s, nb_b]
  · unfold s_CaseLayoutModel_isPlace_5
    have e2 := hg.2.2.2.2.2.2.1 i (by omega)
    simp (disch := omega) only [gI_p, gA_p, p_l0, p_l1, p_l2, p_l3, p_l4, p_l5, p_l6, p_l7, p_l8, p_l9, p_l15, p_l81, p_l99, p_l1000, p_l20000, p_add, p_sub, p_mul, p_neg, p_lt, p_le, p_eq, p_div, ck_p, nz_p, tn_p, bd_s, bl_s, bx_0, m9, m7, m81, Int.toNat_natCast, isM_12 hM, isM_13 hM, isM_14 hM, isM_15 hM, isM_16 hM, isM_17 hM, isM_20 hM, isM_21 hM, isM_22 hM, isM_23 hM, isM_24 hM, isM_25 hM, isM_26 hM, isM_27 hM, isM_28 hM, isM_29 hM, cif_if, bI_zp, cif_n, cif_tt, cif_ff, cb, cl, cv0, cv1, cv2, cv3, cv4, cv5, cv6, cv7, nb_b]
    rw [cif_f (by omega), bI_c]
    by_cases hq : q <;> simp only [hq, true_or, false_or, or_true, or_false, true_and, false_and, and_true, and_false, not_true, not_false_iff, true_iff, iff_true, false_iff, iff_false] <;> omega
  · unfold s_CaseLayoutModel_isPlace_5
    simp (disch := omega) only [gI_p, gA_p, p_l0, p_l1, p_l2, p_l3, p_l4, p_l5, p_l6, p_l7, p_l8, p_l9, p_l15, p_l81, p_l99, p_l1000, p_l20000, p_add, p_sub, p_mul, p_neg, p_lt, p_le, p_eq, p_div, ck_p, nz_p, tn_p, bd_s, bl_s, bx_0, m9, m7, m81, Int.toNat_natCast, isM_12 hM, isM_13 hM, isM_14 hM, isM_15 hM, isM_16 hM, isM_17 hM, isM_20 hM, isM_21 hM, isM_22 hM, isM_23 hM, isM_24 hM, isM_25 hM, isM_26 hM, isM_27 hM, isM_28 hM, isM_29 hM, cif_if, bI_zp, cif_n, cif_tt, cif_ff, cb, cl, cv0, cv1, cv2, cv3, cv4, cv5, cv6, cv7, nb_b]
    rw [cif_t (by omega)]
