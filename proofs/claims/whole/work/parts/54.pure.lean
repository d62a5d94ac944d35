/-! the reference: gaps, lies, worth -/
theorem dm {k w h : Int} (hk : 0 ≤ k) (hw : 1 ≤ w ∧ w ≤ 9) (hh : k < w * h) : 0 ≤ k / w ∧ k / w < h ∧ 0 ≤ k - k / w * w ∧ k - k / w * w < w := by
  have : w = 1 ∨ w = 2 ∨ w = 3 ∨ w = 4 ∨ w = 5 ∨ w = 6 ∨ w = 7 ∨ w = 8 ∨ w = 9 := by omega
  rcases this with rfl | rfl | rfl | rfl | rfl | rfl | rfl | rfl | rfl <;> omega
theorem dmi {i j w : Int} (hw : 1 ≤ w ∧ w ≤ 9) (hj : 0 ≤ j ∧ j < w) : (i * w + j) / w = i ∧ (i * w + j) - (i * w + j) / w * w = j := by
  have : w = 1 ∨ w = 2 ∨ w = 3 ∨ w = 4 ∨ w = 5 ∨ w = 6 ∨ w = 7 ∨ w = 8 ∨ w = 9 := by omega
  rcases this with rfl | rfl | rfl | rfl | rfl | rfl | rfl | rfl | rfl <;> omega
theorem mb {w h : Int} (hw : 1 ≤ w ∧ w ≤ 9) (hh : 1 ≤ h ∧ h ≤ 9) : 1 ≤ w * h ∧ w * h ≤ 81 := by
  have : w = 1 ∨ w = 2 ∨ w = 3 ∨ w = 4 ∨ w = 5 ∨ w = 6 ∨ w = 7 ∨ w = 8 ∨ w = 9 := by omega
  rcases this with rfl | rfl | rfl | rfl | rfl | rfl | rfl | rfl | rfl <;> omega
theorem mlt {i j w h : Int} (hw : 1 ≤ w ∧ w ≤ 9) (hi : 0 ≤ i ∧ i < h) (hj : 0 ≤ j ∧ j < w) : 0 ≤ i * w + j ∧ i * w + j < w * h := by
  have : w = 1 ∨ w = 2 ∨ w = 3 ∨ w = 4 ∨ w = 5 ∨ w = 6 ∨ w = 7 ∨ w = 8 ∨ w = 9 := by omega
  rcases this with rfl | rfl | rfl | rfl | rfl | rfl | rfl | rfl | rfl <;> omega
theorem gp_comm (D : gx_S) (X Y : Nat → Int) (a b : Nat) : gp D X Y a b = gp D X Y b a := by unfold gp; omega
theorem r_between {x : gx_S} {a m b n : Int} (h : 0 ≤ a ∧ a ≤ 100 ∧ 0 ≤ m ∧ m ≤ 100 ∧ 0 ≤ b ∧ b ≤ 100 ∧ 0 ≤ n ∧ n ≤ 100) : f_CaseLayoutModel_between (pI a) (pI m) (pI b) (pI n) x = some (pI (max 0 (max (b - a - m) (a - b - n))), x) := by
  unfold f_CaseLayoutModel_between
  simp (disch := omega) only [gI_p, gA_p, p_l0, p_l1, p_l2, p_l3, p_l4, p_l5, p_l6, p_l7, p_l8, p_l9, p_l15, p_l81, p_l99, p_l1000, p_l20000, p_add, p_sub, p_mul, p_neg, p_lt, p_le, p_eq, p_div, ck_p, nz_p, tn_p, bd_s, bl_s, bx_0, m9, m7, m81, Int.toNat_natCast, cif_if]
  by_cases h1 : b < a + m
  · rw [cif_t h1]
    by_cases h2 : a < b + n
    · rw [cif_t h2, show max 0 (max (b - a - m) (a - b - n)) = 0 by omega]
    · rw [cif_f h2, show max 0 (max (b - a - m) (a - b - n)) = a - b - n by omega]
  · rw [cif_f h1, show max 0 (max (b - a - m) (a - b - n)) = b - a - m by omega]
theorem r_gap {D x : gx_S} (hM : isM D x) (hg : goodD D) {X Y : Nat → Int} {n a b : Nat} (hn : (n : Int) ≤ vI D 3) (ha : a < n) (hb : b < n) (hX : ∀ i, i < n → vA x 32 i = X i ∧ vA x 33 i = Y i) (hp : plc X Y n) : f_CaseLayoutModel_gap (pI a) (pI b) x = some (pI (max 0 (gp D X Y a b)), x) := by
  have g := hg.1
  unfold goodG at g
  have p1 := hp a ha
  have p2 := hp b hb
  have z1 := hg.2.2.1 a (by omega)
  have z2 := hg.2.2.1 b (by omega)
  have e1 := r_between (x := x) (a := X a) (m := vA D 2 a) (b := X b) (n := vA D 2 b) (by omega)
  have e2 := r_between (x := x) (a := Y a) (m := vA D 3 a) (b := Y b) (n := vA D 3 b) (by omega)
  have b1 : -100 ≤ max (X b - X a - vA D 2 a) (X a - X b - vA D 2 b) ∧ max (X b - X a - vA D 2 a) (X a - X b - vA D 2 b) ≤ 100 := by omega
  have b2 : -100 ≤ max (Y b - Y a - vA D 3 a) (Y a - Y b - vA D 3 b) ∧ max (Y b - Y a - vA D 3 a) (Y a - Y b - vA D 3 b) ≤ 100 := by omega
  unfold gp
  generalize max (X b - X a - vA D 2 a) (X a - X b - vA D 2 b) = c1 at *
  generalize max (Y b - Y a - vA D 3 a) (Y a - Y b - vA D 3 b) = c2 at *
  unfold f_CaseLayoutModel_gap
  simp (disch := omega) only [gI_p, gA_p, p_l0, p_l1, p_l2, p_l3, p_l4, p_l5, p_l6, p_l7, p_l8, p_l9, p_l15, p_l81, p_l99, p_l1000, p_l20000, p_add, p_sub, p_mul, p_neg, p_lt, p_le, p_eq, p_div, ck_p, nz_p, tn_p, bd_s, bl_s, bx_0, m9, m7, m81, Int.toNat_natCast, isM_12 hM, isM_13 hM, isM_14 hM, isM_15 hM, isM_16 hM, isM_17 hM, isM_20 hM, isM_21 hM, isM_22 hM, isM_23 hM, isM_24 hM, isM_25 hM, isM_26 hM, isM_27 hM, isM_28 hM, isM_29 hM, (hX a ha).1, (hX a ha).2, (hX b hb).1, (hX b hb).2, e1, e2, cif_if, cb, cvp]
  by_cases q : max 0 c1 ≤ max 0 c2
  · rw [cif_t q, show max 0 (max c1 c2) = max 0 c2 by omega]
  · rw [cif_f q, show max 0 (max c1 c2) = max 0 c1 by omega]
theorem r_meets {D x : gx_S} (hM : isM D x) (hg : goodD D) {X Y : Nat → Int} {n a b : Nat} (hn : (n : Int) ≤ vI D 3) (ha : a < n) (hb : b < n) (hX : ∀ i, i < n → vA x 32 i = X i ∧ vA x 33 i = Y i) (hp : plc X Y n) : f_CaseLayoutModel_meets (pI a) (pI b) x = some (bI (gp D X Y a b < 0), x) := by
  have g := hg.1
  unfold goodG at g
  have p1 := hp a ha
  have p2 := hp b hb
  have z1 := hg.2.2.1 a (by omega)
  have z2 := hg.2.2.1 b (by omega)
  unfold f_CaseLayoutModel_meets
  simp (disch := omega) only [gI_p, gA_p, p_l0, p_l1, p_l2, p_l3, p_l4, p_l5, p_l6, p_l7, p_l8, p_l9, p_l15, p_l81, p_l99, p_l1000, p_l20000, p_add, p_sub, p_mul, p_neg, p_lt, p_le, p_eq, p_div, ck_p, nz_p, tn_p, bd_s, bl_s, bx_0, m9, m7, m81, Int.toNat_natCast, isM_12 hM, isM_13 hM, isM_14 hM, isM_15 hM, isM_16 hM, isM_17 hM, isM_20 hM, isM_21 hM, isM_22 hM, isM_23 hM, isM_24 hM, isM_25 hM, isM_26 hM, isM_27 hM, isM_28 hM, isM_29 hM, (hX a ha).1, (hX a ha).2, (hX b hb).1, (hX b hb).2, cif_if, bI_zp, cif_n, cif_tt, cif_ff, cb, cl, cv0, cv1, cv2, cv3, cv4, cv5, cv6, cv7, nb_b]
  rw [bI_c]
  unfold gp
  omega
theorem r_covers {D x : gx_S} (hM : isM D x) (hg : goodD D) {X Y : Nat → Int} {n t : Nat} (hn : (n : Int) ≤ vI D 3) (ht : t < n) (hX : ∀ i, i < n → vA x 32 i = X i ∧ vA x 33 i = Y i) (hp : plc X Y n) {a b : Int} (h : -100 ≤ a ∧ a ≤ 100 ∧ -100 ≤ b ∧ b ≤ 100) : f_CaseLayoutModel_covers (pI t) (pI a) (pI b) x = some (bI (cov D X Y t a b), x) := by
  have g := hg.1
  unfold goodG at g
  have p1 := hp t ht
  have z1 := hg.2.2.1 t (by omega)
  unfold f_CaseLayoutModel_covers
  simp (disch := omega) only [gI_p, gA_p, p_l0, p_l1, p_l2, p_l3, p_l4, p_l5, p_l6, p_l7, p_l8, p_l9, p_l15, p_l81, p_l99, p_l1000, p_l20000, p_add, p_sub, p_mul, p_neg, p_lt, p_le, p_eq, p_div, ck_p, nz_p, tn_p, bd_s, bl_s, bx_0, m9, m7, m81, Int.toNat_natCast, isM_12 hM, isM_13 hM, isM_14 hM, isM_15 hM, isM_16 hM, isM_17 hM, isM_20 hM, isM_21 hM, isM_22 hM, isM_23 hM, isM_24 hM, isM_25 hM, isM_26 hM, isM_27 hM, isM_28 hM, isM_29 hM, (hX t ht).1, (hX t ht).2, r_in, cif_if, bI_zp, cif_n, cif_tt, cif_ff, cb, cl, cv0, cv1, cv2, cv3, cv4, cv5, cv6, cv7, nb_b]
  rw [bI_c]
  unfold cov
  omega
def lies (D : gx_S) (X Y : Nat → Int) (t : Nat) : Prop := fits D t (X t) (Y t) ∧ ∀ a, a < t → apt D X Y a t
theorem r_lies {D x : gx_S} (hM : isM D x) (hg : goodD D) {X Y : Nat → Int} {t : Nat} (hn : (t : Int) < vI D 3) (hX : ∀ i, i < t + 1 → vA x 32 i = X i ∧ vA x 33 i = Y i) (hp : plc X Y (t + 1)) : f_CaseLayoutModel_lies (pI t) x = some (bI (lies D X Y t), x) := by
  have g := hg.1
  unfold goodG at g
  have p1 := hp t (by omega)
  have z1 := hg.2.2.1 t (by omega)
  have m1 := mb (w := vA D 2 t) (h := vA D 3 t) (by omega) (by omega)
  unfold f_CaseLayoutModel_lies
  simp (disch := omega) only [gI_p, gA_p, p_l0, p_l1, p_l2, p_l3, p_l4, p_l5, p_l6, p_l7, p_l8, p_l9, p_l15, p_l81, p_l99, p_l1000, p_l20000, p_add, p_sub, p_mul, p_neg, p_lt, p_le, p_eq, p_div, ck_p, nz_p, tn_p, bd_s, bl_s, bx_0, m9, m7, m81, Int.toNat_natCast, isM_12 hM, isM_13 hM, isM_14 hM, isM_15 hM, isM_16 hM, isM_17 hM, isM_20 hM, isM_21 hM, isM_22 hM, isM_23 hM, isM_24 hM, isM_25 hM, isM_26 hM, isM_27 hM, isM_28 hM, isM_29 hM, (hX t (by omega)).1, (hX t (by omega)).2, cif_if]
  by_cases q1 : X t + vA D 2 t ≤ vI D 0
  · rw [cif_f (by omega)]
    by_cases q2 : Y t + vA D 3 t ≤ vI D 1
    · rw [cif_t q2]
      have k1 := lp_all1 (s := s_CaseLayoutModel_lies_46 (pI t)) (x := x) (vA D 2 t * vA D 3 t).toNat (fun k : Nat => cellOk D (vA D 4 t) (X t + ((k : Int) - k / vA D 2 t * vA D 2 t)) (Y t + k / vA D 2 t)) (by omega) (fun k q hk => by
        have d := dm (k := k) (w := vA D 2 t) (h := vA D 3 t) (by omega) (by omega) (by omega)
        have ei : 9 * (Y t + (k : Int) / vA D 2 t) + X t + ((k : Int) - k / vA D 2 t * vA D 2 t) = 9 * (Y t + (k : Int) / vA D 2 t) + (X t + ((k : Int) - k / vA D 2 t * vA D 2 t)) := Int.add_assoc _ _ _
        have c0 := vA_lo D 4 t
        have c1 := vA_hi D 4 t
        have c2 := vA_lo D 1 (9 * (Y t + (k : Int) / vA D 2 t) + (X t + ((k : Int) - k / vA D 2 t * vA D 2 t))).toNat
        have c3 := vA_hi D 1 (9 * (Y t + (k : Int) / vA D 2 t) + (X t + ((k : Int) - k / vA D 2 t * vA D 2 t))).toNat
        have c4 := hg.2.1 (9 * (Y t + (k : Int) / vA D 2 t) + (X t + ((k : Int) - k / vA D 2 t * vA D 2 t))).toNat
        unfold s_CaseLayoutModel_lies_46
        simp (disch := omega) only [gI_p, gA_p, p_l0, p_l1, p_l2, p_l3, p_l4, p_l5, p_l6, p_l7, p_l8, p_l9, p_l15, p_l81, p_l99, p_l1000, p_l20000, p_add, p_sub, p_mul, p_neg, p_lt, p_le, p_eq, p_div, ck_p, nz_p, tn_p, bd_s, bl_s, bx_0, m9, m7, m81, Int.toNat_natCast, isM_12 hM, isM_13 hM, isM_14 hM, isM_15 hM, isM_16 hM, isM_17 hM, isM_20 hM, isM_21 hM, isM_22 hM, isM_23 hM, isM_24 hM, isM_25 hM, isM_26 hM, isM_27 hM, isM_28 hM, isM_29 hM, (hX t (by omega)).1, (hX t (by omega)).2, ei, cif_if, bI_zp, cif_n, cif_tt, cif_ff, cb, cl, cv0, cv1, cv2, cv3, cv4, cv5, cv6, cv7, nb_b]
        rw [cif_f (by omega), bI_c]
        unfold cellOk
        by_cases hq : q <;> simp only [hq, true_or, false_or, or_true, or_false, true_and, false_and, and_true, and_false, not_true, not_false_iff, true_iff, iff_true, false_iff, iff_false] <;> omega) (fun q => by
        unfold s_CaseLayoutModel_lies_46
        simp (disch := omega) only [gI_p, gA_p, p_l0, p_l1, p_l2, p_l3, p_l4, p_l5, p_l6, p_l7, p_l8, p_l9, p_l15, p_l81, p_l99, p_l1000, p_l20000, p_add, p_sub, p_mul, p_neg, p_lt, p_le, p_eq, p_div, ck_p, nz_p, tn_p, bd_s, bl_s, bx_0, m9, m7, m81, Int.toNat_natCast, isM_12 hM, isM_13 hM, isM_14 hM, isM_15 hM, isM_16 hM, isM_17 hM, isM_20 hM, isM_21 hM, isM_22 hM, isM_23 hM, isM_24 hM, isM_25 hM, isM_26 hM, isM_27 hM, isM_28 hM, isM_29 hM, cif_if, bI_zp, cif_n, cif_tt, cif_ff, cb, cl, cv0, cv1, cv2, cv3, cv4, cv5, cv6, cv7, nb_b]
        rw [cif_t (by omega)])
      have k2 := lp_all (s := s_CaseLayoutModel_lies_152 (pI t)) (x := x) t (fun a => apt D X Y a t) (∀ k : Nat, k < (vA D 2 t * vA D 3 t).toNat → cellOk D (vA D 4 t) (X t + ((k : Int) - k / vA D 2 t * vA D 2 t)) (Y t + k / vA D 2 t)) (by omega) (fun a q ha => by
        have e1 := r_meets hM hg (a := a) (b := t) (n := t + 1) (by omega) (by omega) (by omega) hX hp
        have e2 := r_gap hM hg (a := a) (b := t) (n := t + 1) (by omega) (by omega) (by omega) hX hp
        have z := hg.2.2.2.1 (7 * (t : Int) + a).toNat
        have zs := hg.2.2.2.2.1 a t (by omega) (by omega)
        have p2 := hp a (by omega)
        have z2 := hg.2.2.1 a (by omega)
        have hgp : -100 ≤ gp D X Y a t ∧ gp D X Y a t ≤ 100 := by unfold gp; omega
        unfold s_CaseLayoutModel_lies_152
        unfold apt
        rw [gp_comm D X Y t a]
        generalize gp D X Y a t = c at *
        simp (disch := omega) only [gI_p, gA_p, p_l0, p_l1, p_l2, p_l3, p_l4, p_l5, p_l6, p_l7, p_l8, p_l9, p_l15, p_l81, p_l99, p_l1000, p_l20000, p_add, p_sub, p_mul, p_neg, p_lt, p_le, p_eq, p_div, ck_p, nz_p, tn_p, bd_s, bl_s, bx_0, m9, m7, m81, Int.toNat_natCast, isM_12 hM, isM_13 hM, isM_14 hM, isM_15 hM, isM_16 hM, isM_17 hM, isM_20 hM, isM_21 hM, isM_22 hM, isM_23 hM, isM_24 hM, isM_25 hM, isM_26 hM, isM_27 hM, isM_28 hM, isM_29 hM, e1, e2, zs, cif_if, bI_zp, cif_n, cif_tt, cif_ff, cb, cl, cv0, cv1, cv2, cv3, cv4, cv5, cv6, cv7, nb_b]
        rw [cif_f (by omega), bI_c]
        by_cases hq : q <;> simp only [hq, true_or, false_or, or_true, or_false, true_and, false_and, and_true, and_false, not_true, not_false_iff, true_iff, iff_true, false_iff, iff_false] <;> omega) (fun q => by
        unfold s_CaseLayoutModel_lies_152
        simp (disch := omega) only [gI_p, gA_p, p_l0, p_l1, p_l2, p_l3, p_l4, p_l5, p_l6, p_l7, p_l8, p_l9, p_l15, p_l81, p_l99, p_l1000, p_l20000, p_add, p_sub, p_mul, p_neg, p_lt, p_le, p_eq, p_div, ck_p, nz_p, tn_p, bd_s, bl_s, bx_0, m9, m7, m81, Int.toNat_natCast, isM_12 hM, isM_13 hM, isM_14 hM, isM_15 hM, isM_16 hM, isM_17 hM, isM_20 hM, isM_21 hM, isM_22 hM, isM_23 hM, isM_24 hM, isM_25 hM, isM_26 hM, isM_27 hM, isM_28 hM, isM_29 hM, cif_if, bI_zp, cif_n, cif_tt, cif_ff, cb, cl, cv0, cv1, cv2, cv3, cv4, cv5, cv6, cv7, nb_b]
        rw [cif_t (by omega)])
      rw [k1, bl_s]
      simp only []
      rw [k2, bl_s, nb_b, bI_c]
      unfold lies fits
      constructor
      · rintro ⟨h1, h2⟩
        refine ⟨⟨q1, q2, fun i hi j hj => ?_⟩, h2⟩
        have d := mlt (i := i) (j := j) (w := vA D 2 t) (h := vA D 3 t) (by omega) (by omega) (by omega)
        have d2 := dmi (i := i) (j := j) (w := vA D 2 t) (by omega) (by omega)
        have := h1 (i * vA D 2 t + j : Int).toNat (by omega)
        rw [Int.toNat_of_nonneg d.1, d2.2, d2.1] at this
        exact this
      · rintro ⟨⟨-, -, h1⟩, h2⟩
        refine ⟨fun k hk => ?_, h2⟩
        have d := dm (k := k) (w := vA D 2 t) (h := vA D 3 t) (by omega) (by omega) (by omega)
        have := h1 ((k : Int) / vA D 2 t).toNat (by omega) ((k : Int) - k / vA D 2 t * vA D 2 t).toNat (by omega)
        rw [Int.toNat_of_nonneg d.1, Int.toNat_of_nonneg d.2.2.1] at this
        exact this
    · rw [cif_f q2, bI_f (fun w => q2 w.1.2.1)]; rfl
  · rw [cif_t (by omega), bI_f (fun w => q1 w.1.1)]; rfl
