/-! what the reference sees -/
theorem w2b {z : Int} (h : z = 0 ∨ z = 1) : pI z = bI (z ≠ 0) := by
  rcases h with rfl | rfl
  · rw [bI_f (fun q => q rfl)]; rfl
  · rw [bI_t (by decide)]; rfl
theorem r_isSeen {D x : gx_S} (hM : isM D x) (hg : goodD D) {X Y : Nat → Int} (hX : ∀ i, i < (vI D 3).toNat → vA x 32 i = X i ∧ vA x 33 i = Y i) (hv : val D X Y (vI D 3).toNat) {p t : Nat} (hp : (p : Int) < vI D 4) (ht : t < (vI D 3).toNat) : f_CaseLayoutModel_isSeen (pI p) (pI t) x = some (bI (seen D X Y (vI D 3).toNat t (vA D 7 p) (vA D 8 p)), x) := by
  have g := hg.1
  unfold goodG at g
  have gp' := hg.2.2.2.2.2.2.1 p hp
  have z := hg.2.2.1 t (by omega)
  have hi := val_in hg (by omega) hv ht
  have hpl := val_plc hg (by omega) hv
  have m1 := mb (w := vI D 0) (h := vI D 1) (by omega) (by omega)
  unfold f_CaseLayoutModel_isSeen
  simp (disch := omega) only [gI_p, gA_p, p_l0, p_l1, p_l2, p_l3, p_l4, p_l5, p_l6, p_l7, p_l8, p_l9, p_l15, p_l81, p_l99, p_l1000, p_l20000, p_add, p_sub, p_mul, p_neg, p_lt, p_le, p_eq, p_div, ck_p, nz_p, tn_p, bd_s, bl_s, bx_0, m9, m7, m81, Int.toNat_natCast, isM_12 hM, isM_13 hM, isM_14 hM, isM_15 hM, isM_16 hM, isM_17 hM, isM_20 hM, isM_21 hM, isM_22 hM, isM_23 hM, isM_24 hM, isM_25 hM, isM_26 hM, isM_27 hM, isM_28 hM, isM_29 hM, (hX t ht).1, (hX t ht).2]
  obtain ⟨w, key⟩ := lp_stop' (s := s_CaseLayoutModel_isSeen_53 (pI t) (pI (2 * vA D 7 p + 1)) (pI (2 * vA D 8 p + 1)) (pI (2 * X t + 1)) (pI (2 * Y t + 1))) (x := x) (vI D 0 * vI D 1).toNat (fun k : Nat => ¬ (closed D X Y (vI D 3).toNat t ((k : Int) - k / vI D 0 * vI D 0) ((k : Int) / vI D 0) ∧ thr (vA D 7 p) (vA D 8 p) (X t) (Y t) ((k : Int) - k / vI D 0 * vI D 0) ((k : Int) / vI D 0))) (by omega) (fun k hk => by
      have d := dm (k := k) (w := vI D 0) (h := vI D 1) (by omega) (by omega) (by omega)
      have wl := hg.2.1 (9 * ((k : Int) / vI D 0) + ((k : Int) - k / vI D 0 * vI D 0)).toNat
      have th := r_through (x := x) (px := vA D 7 p) (py := vA D 8 p) (qx := X t) (qy := Y t) (a := (k : Int) - k / vI D 0 * vI D 0) (b := (k : Int) / vI D 0) (by omega) (by omega) (by omega) (by omega) (by omega) (by omega)
      generalize hu : (k : Int) - k / vI D 0 * vI D 0 = u at *
      generalize hw : (k : Int) / vI D 0 = w at *
      have inn := lp_any (s := s_CaseLayoutModel_isSeen_108 (pI t) (pI (2 * vA D 7 p + 1)) (pI (2 * vA D 8 p + 1)) (pI (2 * X t + 1)) (pI (2 * Y t + 1)) (bI True) (pI k) (pI u) (pI w)) (x := x) (vI D 3).toNat (fun s => s ≠ t ∧ cov D X Y s u w) (vA D 0 (9 * w + u).toNat ≠ 0) (by omega) (fun s q hs => by
        have c := r_covers hM hg (n := (vI D 3).toNat) (t := s) (by omega) hs hX hpl (a := u) (b := w) (by omega)
        unfold s_CaseLayoutModel_isSeen_108
        simp (disch := omega) only [gI_p, gA_p, p_l0, p_l1, p_l2, p_l3, p_l4, p_l5, p_l6, p_l7, p_l8, p_l9, p_l15, p_l81, p_l99, p_l1000, p_l20000, p_add, p_sub, p_mul, p_neg, p_lt, p_le, p_eq, p_div, ck_p, nz_p, tn_p, bd_s, bl_s, bx_0, m9, m7, m81, Int.toNat_natCast, isM_12 hM, isM_13 hM, isM_14 hM, isM_15 hM, isM_16 hM, isM_17 hM, isM_20 hM, isM_21 hM, isM_22 hM, isM_23 hM, isM_24 hM, isM_25 hM, isM_26 hM, isM_27 hM, isM_28 hM, isM_29 hM, c, cif_if, bI_zp, cif_n, cif_tt, cif_ff, cb, cl, cv0, cv1, cv2, cv3, cv4, cv5, cv6, cv7, nb_b]
        rw [cif_f (by omega), bI_c]
        generalize cov D X Y s u w = C
        by_cases hq : q <;> by_cases hC : C <;> simp only [hq, hC, true_or, false_or, or_true, or_false, true_and, false_and, and_true, and_false, not_true, not_false_iff] <;> omega) (fun q => by
        unfold s_CaseLayoutModel_isSeen_108
        simp (disch := omega) only [gI_p, gA_p, p_l0, p_l1, p_l2, p_l3, p_l4, p_l5, p_l6, p_l7, p_l8, p_l9, p_l15, p_l81, p_l99, p_l1000, p_l20000, p_add, p_sub, p_mul, p_neg, p_lt, p_le, p_eq, p_div, ck_p, nz_p, tn_p, bd_s, bl_s, bx_0, m9, m7, m81, Int.toNat_natCast, isM_12 hM, isM_13 hM, isM_14 hM, isM_15 hM, isM_16 hM, isM_17 hM, isM_20 hM, isM_21 hM, isM_22 hM, isM_23 hM, isM_24 hM, isM_25 hM, isM_26 hM, isM_27 hM, isM_28 hM, isM_29 hM, cif_if, bI_zp, cif_n, cif_tt, cif_ff, cb, cl, cv0, cv1, cv2, cv3, cv4, cv5, cv6, cv7, nb_b]
        rw [cif_t (by omega)])
      have wb := w2b wl
      unfold s_CaseLayoutModel_isSeen_53
      simp (disch := omega) only [gI_p, gA_p, p_l0, p_l1, p_l2, p_l3, p_l4, p_l5, p_l6, p_l7, p_l8, p_l9, p_l15, p_l81, p_l99, p_l1000, p_l20000, p_add, p_sub, p_mul, p_neg, p_lt, p_le, p_eq, p_div, ck_p, nz_p, tn_p, bd_s, bl_s, bx_0, m9, m7, m81, Int.toNat_natCast, isM_12 hM, isM_13 hM, isM_14 hM, isM_15 hM, isM_16 hM, isM_17 hM, isM_20 hM, isM_21 hM, isM_22 hM, isM_23 hM, isM_24 hM, isM_25 hM, isM_26 hM, isM_27 hM, isM_28 hM, isM_29 hM, hu, hw, wb, inn, th, cif_if, bI_zp, cif_n, cif_tt, cif_ff, cb, cl, cv0, cv1, cv2, cv3, cv4, cv5, cv6, cv7, nb_b]
      rw [cif_f (by omega), bI_c]
      unfold closed
      generalize thr (vA D 7 p) (vA D 8 p) (X t) (Y t) u w = C
      generalize (vA D 0 (9 * w + u).toNat ≠ 0 ∨ ∃ s, s < (vI D 3).toNat ∧ s ≠ t ∧ cov D X Y s u w) = B
      by_cases hB : B <;> by_cases hC : C <;> simp only [hB, hC, true_or, false_or, or_true, or_false, true_and, false_and, and_true, and_false, not_true, not_false_iff]) (fun k hk => by
      unfold s_CaseLayoutModel_isSeen_53
      simp (disch := omega) only [gI_p, gA_p, p_l0, p_l1, p_l2, p_l3, p_l4, p_l5, p_l6, p_l7, p_l8, p_l9, p_l15, p_l81, p_l99, p_l1000, p_l20000, p_add, p_sub, p_mul, p_neg, p_lt, p_le, p_eq, p_div, ck_p, nz_p, tn_p, bd_s, bl_s, bx_0, m9, m7, m81, Int.toNat_natCast, isM_12 hM, isM_13 hM, isM_14 hM, isM_15 hM, isM_16 hM, isM_17 hM, isM_20 hM, isM_21 hM, isM_22 hM, isM_23 hM, isM_24 hM, isM_25 hM, isM_26 hM, isM_27 hM, isM_28 hM, isM_29 hM, cif_if, bI_zp, cif_n, cif_tt, cif_ff, cb, cl, cv0, cv1, cv2, cv3, cv4, cv5, cv6, cv7, nb_b]) (fun q => by
      unfold s_CaseLayoutModel_isSeen_53
      simp (disch := omega) only [gI_p, gA_p, p_l0, p_l1, p_l2, p_l3, p_l4, p_l5, p_l6, p_l7, p_l8, p_l9, p_l15, p_l81, p_l99, p_l1000, p_l20000, p_add, p_sub, p_mul, p_neg, p_lt, p_le, p_eq, p_div, ck_p, nz_p, tn_p, bd_s, bl_s, bx_0, m9, m7, m81, Int.toNat_natCast, isM_12 hM, isM_13 hM, isM_14 hM, isM_15 hM, isM_16 hM, isM_17 hM, isM_20 hM, isM_21 hM, isM_22 hM, isM_23 hM, isM_24 hM, isM_25 hM, isM_26 hM, isM_27 hM, isM_28 hM, isM_29 hM, cif_if, bI_zp, cif_n, cif_tt, cif_ff, cb, cl, cv0, cv1, cv2, cv3, cv4, cv5, cv6, cv7, nb_b]
      rw [cif_t (by omega)])
  rw [key, bl_s, nb_b, bI_c]
  unfold seen
  constructor
  · intro h a b h1 h2 h3 h4 h5
    have d := mlt (i := b) (j := a) (w := vI D 0) (h := vI D 1) (by omega) (by omega) (by omega)
    have d2 := dmi (i := b) (j := a) (w := vI D 0) (by omega) (by omega)
    have := h (b * vI D 0 + a).toNat (by omega)
    rw [Int.toNat_of_nonneg d.1, d2.2, d2.1] at this
    exact this ⟨h5.1, ⟨by omega, by omega, by omega, by omega⟩, Or.inr h5.2⟩
  · rintro h k hk ⟨h1, ⟨h2, h3, h4, h5⟩, h6⟩
    have d := dm (k := k) (w := vI D 0) (h := vI D 1) (by omega) (by omega) (by omega)
    generalize (k : Int) - k / vI D 0 * vI D 0 = u at *
    generalize (k : Int) / vI D 0 = w at *
    rcases h6 with ⟨e1, e2⟩ | h6
    · have e3 : u = X t := by omega
      have e4 : w = Y t := by omega
      subst e3 e4
      exact val_open hg (by omega) hv ht (by unfold cov; omega) h1
    · exact h u w (by omega) (by omega) (by omega) (by omega) ⟨h1, h6⟩
def allS (D : gx_S) (X Y : Nat → Int) : Prop := ∀ p t : Nat, (p : Int) < vI D 4 → (t : Int) < vI D 3 → vA D 9 (7 * (p : Int) + t).toNat ≠ 0 → seen D X Y (vI D 3).toNat t (vA D 7 p) (vA D 8 p)
theorem e_allSeen {D x : gx_S} (hD : isD D x) (hg : goodD D) {X Y : Nat → Int} (hO : ∀ a b, inG D a b → vA x 11 (9 * b + a).toNat = own D X Y (vI D 3).toNat a b) (hv : val D X Y (vI D 3).toNat) (hX : ∀ i, i < (vI D 3).toNat → vA x 14 i = X i ∧ vA x 15 i = Y i) : f_Search_allSeen x = some (bI (allS D X Y), x) := by
  have g := hg.1
  unfold goodG at g
  unfold f_Search_allSeen
  simp only [p_l0]
  refine (lp_fin (lp_ex 0 (vI D 4).toNat (fun p : Nat => ∃ t : Nat, t < (vI D 3).toNat ∧ vA D 9 (7 * (p : Int) + t).toNat ≠ 0 ∧ ¬ seen D X Y (vI D 3).toNat t (vA D 7 p) (vA D 8 p)) (by omega) (fun p hp => ?_) ?_)).trans ?_
  · have gp' := hg.2.2.2.2.2.2.1 p (by omega)
    obtain ⟨w, key⟩ := lp_ex (s := s_Search_allSeen_15 (pI p)) (x := x) (k0 := 0) (k1 := 1) 0 (vI D 3).toNat (fun t : Nat => vA D 9 (7 * (p : Int) + t).toNat ≠ 0 ∧ ¬ seen D X Y (vI D 3).toNat t (vA D 7 p) (vA D 8 p)) (by omega) (fun t ht => by
      have k := e_isSeen hD hg hO hv ht (hX t ht) (px := vA D 7 p) (py := vA D 8 p) (by unfold inG; omega)
      have b9 := hg.2.2.2.2.2.2.2.2.2 (7 * (p : Int) + t).toNat
      unfold s_Search_allSeen_15
      simp (disch := omega) only [gI_p, gA_p, p_l0, p_l1, p_l2, p_l3, p_l4, p_l5, p_l6, p_l7, p_l8, p_l9, p_l15, p_l81, p_l99, p_l1000, p_l20000, p_add, p_sub, p_mul, p_neg, p_lt, p_le, p_eq, p_div, ck_p, nz_p, tn_p, bd_s, bl_s, bx_0, m9, m7, m81, Int.toNat_natCast, hD.1, hD.2, Int.zero_add, e_sightOf, k, cif_if, bI_zp, cif_n]
      rw [cif_f (by omega)]
      by_cases q1 : vA D 9 (7 * (p : Int) + t).toNat = 0
      · rw [cif_t q1, cif_f (fun z => z.1 q1)]
      · rw [cif_f q1]
        by_cases q2 : seen D X Y (vI D 3).toNat t (vA D 7 p) (vA D 8 p)
        · rw [cif_t q2, cif_f (fun z => z.2 q2)]
        · rw [cif_f q2, cif_t ⟨q1, q2⟩]) (by
      unfold s_Search_allSeen_15
      simp (disch := omega) only [gI_p, gA_p, p_l0, p_l1, p_l2, p_l3, p_l4, p_l5, p_l6, p_l7, p_l8, p_l9, p_l15, p_l81, p_l99, p_l1000, p_l20000, p_add, p_sub, p_mul, p_neg, p_lt, p_le, p_eq, p_div, ck_p, nz_p, tn_p, bd_s, bl_s, bx_0, m9, m7, m81, Int.toNat_natCast, hD.1, Int.zero_add, cif_if]
      rw [cif_t (by omega)])
    unfold s_Search_allSeen_2
    simp (disch := omega) only [gI_p, gA_p, p_l0, p_l1, p_l2, p_l3, p_l4, p_l5, p_l6, p_l7, p_l8, p_l9, p_l15, p_l81, p_l99, p_l1000, p_l20000, p_add, p_sub, p_mul, p_neg, p_lt, p_le, p_eq, p_div, ck_p, nz_p, tn_p, bd_s, bl_s, bx_0, m9, m7, m81, Int.toNat_natCast, hD.1, Int.zero_add, cif_if, key, cif_0]
    rw [cif_f (by omega)]
    by_cases r : ∃ t : Nat, t < (vI D 3).toNat ∧ vA D 9 (7 * (p : Int) + t).toNat ≠ 0 ∧ ¬ seen D X Y (vI D 3).toNat t (vA D 7 p) (vA D 8 p)
    · rw [cif_t r, cif_t r]
    · rw [cif_f r, cif_f r]
  · unfold s_Search_allSeen_2
    simp (disch := omega) only [gI_p, gA_p, p_l0, p_l1, p_l2, p_l3, p_l4, p_l5, p_l6, p_l7, p_l8, p_l9, p_l15, p_l81, p_l99, p_l1000, p_l20000, p_add, p_sub, p_mul, p_neg, p_lt, p_le, p_eq, p_div, ck_p, nz_p, tn_p, bd_s, bl_s, bx_0, m9, m7, m81, Int.toNat_natCast, hD.1, Int.zero_add, cif_if]
    rw [cif_t (by omega)]
  · rw [p_l1, cv0, bI_c]
    unfold allS
    constructor
    · intro n p t hp ht h
      exact Classical.byContradiction fun q => n ⟨p, by omega, t, by omega, h, q⟩
    · rintro n ⟨p, hp, t, ht, h1, h2⟩
      exact h2 (n p t (by omega) (by omega) h1)
theorem r_allSeen {D x : gx_S} (hM : isM D x) (hg : goodD D) {X Y : Nat → Int} (hX : ∀ i, i < (vI D 3).toNat → vA x 32 i = X i ∧ vA x 33 i = Y i) (hv : val D X Y (vI D 3).toNat) : ∃ z, gx_it s_CaseLayoutModel_isLayout_4 gx_fuel (pI 1, pI 0, x) = some (0, bI (allS D X Y), z, x) := by
  have g := hg.1
  unfold goodG at g
  obtain ⟨w, key⟩ := lp_stop' (s := s_CaseLayoutModel_isLayout_4) (x := x) (7 * vI D 4).toNat (fun k : Nat => vA D 9 k = 0 ∨ seen D X Y (vI D 3).toNat ((k : Int) - k / 7 * 7).toNat (vA D 7 ((k : Int) / 7).toNat) (vA D 8 ((k : Int) / 7).toNat)) (by omega) (fun k hk => by
      have b9 := hg.2.2.2.2.2.2.2.2.2 k
      unfold s_CaseLayoutModel_isLayout_4
      simp (disch := omega) only [gI_p, gA_p, p_l0, p_l1, p_l2, p_l3, p_l4, p_l5, p_l6, p_l7, p_l8, p_l9, p_l15, p_l81, p_l99, p_l1000, p_l20000, p_add, p_sub, p_mul, p_neg, p_lt, p_le, p_eq, p_div, ck_p, nz_p, tn_p, bd_s, bl_s, bx_0, m9, m7, m81, Int.toNat_natCast, isM_12 hM, isM_13 hM, isM_14 hM, isM_15 hM, isM_16 hM, isM_17 hM, isM_20 hM, isM_21 hM, isM_22 hM, isM_23 hM, isM_24 hM, isM_25 hM, isM_26 hM, isM_27 hM, isM_28 hM, isM_29 hM, cif_if, bI_zp, cif_n, cif_tt]
      rw [cif_f (by omega)]
      by_cases q : vA D 9 k = 0
      · rw [cif_t q, bI_t (Or.inl q)]; rfl
      · rw [cif_f q]
        have ix : (7 * ((((k : Int) / 7).toNat : Nat) : Int) + ((((k : Int) - k / 7 * 7).toNat : Nat) : Int)).toNat = k := by omega
        have lt := hg.2.2.2.2.2.2.2.1 ((k : Int) / 7).toNat ((k : Int) - k / 7 * 7).toNat (by omega) (by rw [ix]; exact q)
        have s := r_isSeen hM hg hX hv (p := ((k : Int) / 7).toNat) (t := ((k : Int) - k / 7 * 7).toNat) (by omega) (by omega)
        rw [Int.toNat_of_nonneg (by omega), Int.toNat_of_nonneg (by omega)] at s
        simp only [m7] at s ⊢
        rw [s]
        simp only [bd_s, bI_zp, cif_n, cl, cv1]
        rw [bI_c]
        exact ⟨Or.inr, fun z => z.elim (fun w => absurd w q) id⟩) (fun k hk => by
      unfold s_CaseLayoutModel_isLayout_4
      simp (disch := omega) only [gI_p, gA_p, p_l0, p_l1, p_l2, p_l3, p_l4, p_l5, p_l6, p_l7, p_l8, p_l9, p_l15, p_l81, p_l99, p_l1000, p_l20000, p_add, p_sub, p_mul, p_neg, p_lt, p_le, p_eq, p_div, ck_p, nz_p, tn_p, bd_s, bl_s, bx_0, m9, m7, m81, Int.toNat_natCast, isM_12 hM, isM_13 hM, isM_14 hM, isM_15 hM, isM_16 hM, isM_17 hM, isM_20 hM, isM_21 hM, isM_22 hM, isM_23 hM, isM_24 hM, isM_25 hM, isM_26 hM, isM_27 hM, isM_28 hM, isM_29 hM, cif_if, bI_zp, cif_n, cif_tt, cif_ff, cb, cl, cv0, cv1, cv2, cv3, cv4, cv5, cv6, cv7, nb_b]) (fun q => by
      unfold s_CaseLayoutModel_isLayout_4
      simp (disch := omega) only [gI_p, gA_p, p_l0, p_l1, p_l2, p_l3, p_l4, p_l5, p_l6, p_l7, p_l8, p_l9, p_l15, p_l81, p_l99, p_l1000, p_l20000, p_add, p_sub, p_mul, p_neg, p_lt, p_le, p_eq, p_div, ck_p, nz_p, tn_p, bd_s, bl_s, bx_0, m9, m7, m81, Int.toNat_natCast, isM_12 hM, isM_13 hM, isM_14 hM, isM_15 hM, isM_16 hM, isM_17 hM, isM_20 hM, isM_21 hM, isM_22 hM, isM_23 hM, isM_24 hM, isM_25 hM, isM_26 hM, isM_27 hM, isM_28 hM, isM_29 hM, cif_if, bI_zp, cif_n, cif_tt, cif_ff, cb, cl, cv0, cv1, cv2, cv3, cv4, cv5, cv6, cv7, nb_b]
      rw [cif_t (by omega)])
  refine ⟨w, ?_⟩
  rw [key, bI_c]
  unfold allS
  constructor
  · intro h p t hp ht h1
    have := h (7 * (p : Int) + t).toNat (by omega)
    rcases this with z | z
    · exact absurd z h1
    · rw [show ((((7 * (p : Int) + t).toNat : Nat) : Int) - ((7 * (p : Int) + t).toNat : Nat) / 7 * 7).toNat = t by omega, show ((((7 * (p : Int) + t).toNat : Nat) : Int) / 7).toNat = p by omega] at z
      exact z
  · intro h k hk
    by_cases q : vA D 9 k = 0
    · exact Or.inl q
    · refine Or.inr ?_
      have ix : (7 * ((((k : Int) / 7).toNat : Nat) : Int) + ((((k : Int) - k / 7 * 7).toNat : Nat) : Int)).toNat = k := by omega
      have lt := hg.2.2.2.2.2.2.2.1 ((k : Int) / 7).toNat ((k : Int) - k / 7 * 7).toNat (by omega) (by rw [ix]; exact q)
      exact h _ _ (by omega) lt (by rw [ix]; exact q)
