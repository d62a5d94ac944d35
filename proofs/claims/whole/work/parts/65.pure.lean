/-! escapes -/
theorem tag_0 {p : Prop} : (cif p (0 : Nat) 1 = 0) ↔ p := by
  by_cases h : p
  · rw [cif_t h]; exact ⟨fun _ => h, fun _ => rfl⟩
  · rw [cif_f h]; exact ⟨fun z => absurd z (by decide), fun z => absurd z h⟩
def nr (D : gx_S) (F : Int → Int → Prop) (a b : Int) : Prop := ∃ k : Nat, (k : Int) ≤ vI D 6 ∧ near F (isEX D) k a b
def esc (D : gx_S) (F : Int → Int → Prop) (X Y : Nat → Int) (t : Nat) : Prop := (∃ i : Nat, (i : Int) < vA D 3 t ∧ (nr D F (X t - 1) (Y t + i) ∨ nr D F (X t + vA D 2 t) (Y t + i))) ∨ (∃ j : Nat, (j : Int) < vA D 2 t ∧ (nr D F (X t + j) (Y t - 1) ∨ nr D F (X t + j) (Y t + vA D 3 t)))
theorem e_isNear {D y : gx_S} (hD : isD D y) (hg : goodD D) {F : Int → Int → Prop} (hFi : ∀ a b, F a b → inG D a b) (hS : SD D F (isEX D) (vA y 12)) {a b : Int} (ha : -100 ≤ a ∧ a ≤ 100) (hb : -100 ≤ b ∧ b ≤ 100) : f_Floor_isNear (pI a) (pI b) (pI (vI D 6)) y = some (bI (nr D F a b), y) := by
  have g := hg.1
  unfold goodG at g
  unfold f_Floor_isNear
  rw [e_holds hD (by omega) (by omega) (by omega) (by omega), bd_s]
  simp only [p_l0, bI_zp, cif_if, cif_n]
  by_cases hin : inG D a b
  · have hi := hin
    unfold inG at hi
    have l2 := vA_lo y 12 (9 * b + a).toNat
    have l3 := vA_hi y 12 (9 * b + a).toNat
    rw [cif_t hin]
    simp (disch := omega) only [gI_p, gA_p, p_l0, p_l1, p_l2, p_l3, p_l4, p_l5, p_l6, p_l7, p_l8, p_l9, p_l15, p_l81, p_l99, p_l1000, p_l20000, p_add, p_sub, p_mul, p_neg, p_lt, p_le, p_eq, p_div, ck_p, nz_p, tn_p, bd_s, bl_s, bx_0, m9, m7, m81, Int.toNat_natCast, e_cellOf, cif_if, cif_if, bI_zp, cif_n, cif_tt, cif_ff, cb, cl, cv0, cv1, cv2, cv3, cv4, cv5, cv6, cv7, nb_b]
    rw [bI_c]
    unfold nr
    rcases hS a b hin with ⟨k1, k2⟩ | ⟨k1, k2, k3, k4⟩
    · refine ⟨fun z => absurd k1 z.1, ?_⟩
      rintro ⟨k, -, h⟩
      exact absurd h (k2 k)
    · constructor
      · intro z
        exact ⟨_, by omega, k3⟩
      · rintro ⟨k, h1, h2⟩
        have := k4 k h2
        omega
  · rw [cif_f hin, bI_f]
    · rfl
    · rintro ⟨k, -, h⟩
      exact hin (hFi a b (near_F h))
theorem e_hasEscape {D y : gx_S} (hD : isD D y) (hg : goodD D) {F : Int → Int → Prop} (hFi : ∀ a b, F a b → inG D a b) (hS : SD D F (isEX D) (vA y 12)) {X Y : Nat → Int} {t : Nat} (ht : t < (vI D 3).toNat) (hX : vA y 14 t = X t ∧ vA y 15 t = Y t) (hp : 0 ≤ X t ∧ X t ≤ 8 ∧ 0 ≤ Y t ∧ Y t ≤ 8) : f_Floor_hasEscape (pI t) (pI (vI D 6)) y = some (bI (esc D F X Y t), y) := by
  have g := hg.1
  unfold goodG at g
  have z1 := hg.2.2.1 t (by omega)
  have nn : ∀ a b : Int, -100 ≤ a → a ≤ 100 → -100 ≤ b → b ≤ 100 → f_Floor_isNear (pI a) (pI b) (pI (vI D 6)) y = some (bI (nr D F a b), y) := fun a b h1 h2 h3 h4 => e_isNear hD hg hFi hS ⟨h1, h2⟩ ⟨h3, h4⟩
  obtain ⟨w1, k1⟩ := lp_ex (s := s_Floor_hasEscape_42 (pI (vI D 6)) (pI (X t)) (pI (Y t)) (pI (vA D 2 t)) (pI (vA D 3 t))) (x := y) (k0 := 0) (k1 := 1) (Y t) (vA D 3 t).toNat (fun i : Nat => nr D F (X t - 1) (Y t + i) ∨ nr D F (X t + vA D 2 t) (Y t + i)) (by omega) (fun i hi => by
    unfold s_Floor_hasEscape_42
    simp (disch := omega) only [gI_p, gA_p, p_l0, p_l1, p_l2, p_l3, p_l4, p_l5, p_l6, p_l7, p_l8, p_l9, p_l15, p_l81, p_l99, p_l1000, p_l20000, p_add, p_sub, p_mul, p_neg, p_lt, p_le, p_eq, p_div, ck_p, nz_p, tn_p, bd_s, bl_s, bx_0, m9, m7, m81, Int.toNat_natCast, cif_if, nn, bI_zp, cif_n]
    rw [cif_f (by omega)]
    by_cases q1 : nr D F (X t - 1) (Y t + i)
    · rw [cif_t q1, cif_t (Or.inl q1)]
    · rw [cif_f q1]
      by_cases q2 : nr D F (X t + vA D 2 t) (Y t + i)
      · rw [cif_t q2, cif_t (Or.inr q2)]
      · rw [cif_f q2, cif_f (fun z => z.elim q1 q2)]) (by
    unfold s_Floor_hasEscape_42
    simp (disch := omega) only [gI_p, gA_p, p_l0, p_l1, p_l2, p_l3, p_l4, p_l5, p_l6, p_l7, p_l8, p_l9, p_l15, p_l81, p_l99, p_l1000, p_l20000, p_add, p_sub, p_mul, p_neg, p_lt, p_le, p_eq, p_div, ck_p, nz_p, tn_p, bd_s, bl_s, bx_0, m9, m7, m81, Int.toNat_natCast, cif_if]
    rw [cif_t (by omega)])
  obtain ⟨w2, k2⟩ := lp_ex (s := s_Floor_hasEscape_93 (pI (vI D 6)) (pI (X t)) (pI (Y t)) (pI (vA D 2 t)) (pI (vA D 3 t))) (x := y) (k0 := 0) (k1 := 1) (X t) (vA D 2 t).toNat (fun i : Nat => nr D F (X t + i) (Y t - 1) ∨ nr D F (X t + i) (Y t + vA D 3 t)) (by omega) (fun i hi => by
    unfold s_Floor_hasEscape_93
    simp (disch := omega) only [gI_p, gA_p, p_l0, p_l1, p_l2, p_l3, p_l4, p_l5, p_l6, p_l7, p_l8, p_l9, p_l15, p_l81, p_l99, p_l1000, p_l20000, p_add, p_sub, p_mul, p_neg, p_lt, p_le, p_eq, p_div, ck_p, nz_p, tn_p, bd_s, bl_s, bx_0, m9, m7, m81, Int.toNat_natCast, cif_if, nn, bI_zp, cif_n]
    rw [cif_f (by omega)]
    by_cases q1 : nr D F (X t + i) (Y t - 1)
    · rw [cif_t q1, cif_t (Or.inl q1)]
    · rw [cif_f q1]
      by_cases q2 : nr D F (X t + i) (Y t + vA D 3 t)
      · rw [cif_t q2, cif_t (Or.inr q2)]
      · rw [cif_f q2, cif_f (fun z => z.elim q1 q2)]) (by
    unfold s_Floor_hasEscape_93
    simp (disch := omega) only [gI_p, gA_p, p_l0, p_l1, p_l2, p_l3, p_l4, p_l5, p_l6, p_l7, p_l8, p_l9, p_l15, p_l81, p_l99, p_l1000, p_l20000, p_add, p_sub, p_mul, p_neg, p_lt, p_le, p_eq, p_div, ck_p, nz_p, tn_p, bd_s, bl_s, bx_0, m9, m7, m81, Int.toNat_natCast, cif_if]
    rw [cif_t (by omega)])
  unfold f_Floor_hasEscape
  simp (disch := omega) only [gI_p, gA_p, p_l0, p_l1, p_l2, p_l3, p_l4, p_l5, p_l6, p_l7, p_l8, p_l9, p_l15, p_l81, p_l99, p_l1000, p_l20000, p_add, p_sub, p_mul, p_neg, p_lt, p_le, p_eq, p_div, ck_p, nz_p, tn_p, bd_s, bl_s, bx_0, m9, m7, m81, Int.toNat_natCast, hD.2, hX.1, hX.2, k1, k2, cif_if, tag_0, cif_if, bI_zp, cif_n, cif_tt, cif_ff, cb, cl, cv0, cv1, cv2, cv3, cv4, cv5, cv6, cv7, nb_b]
  rw [bI_c]
  unfold esc
  refine or_congr ?_ ?_
  · exact ⟨fun ⟨i, h, q⟩ => ⟨i, by omega, q⟩, fun ⟨i, h, q⟩ => ⟨i, by omega, q⟩⟩
  · exact ⟨fun ⟨i, h, q⟩ => ⟨i, by omega, q⟩, fun ⟨i, h, q⟩ => ⟨i, by omega, q⟩⟩
def allE (D : gx_S) (F : Int → Int → Prop) (X Y : Nat → Int) : Prop := vI D 5 = 0 ∨ ∀ t, t < (vI D 3).toNat → esc D F X Y t
theorem e_allEscape {D x : gx_S} (hD : isD D x) (hg : goodD D) {F : Int → Int → Prop} (hFi : ∀ a b, F a b → inG D a b) (hF : ∀ a b, inG D a b → (vA x 11 (9 * b + a).toNat = -1 ↔ F a b)) {X Y : Nat → Int} (hX : ∀ i, i < (vI D 3).toNat → vA x 14 i = X i ∧ vA x 15 i = Y i) (hp : plc X Y (vI D 3).toNat) : ∃ y, f_Search_allEscape x = some (bI (allE D F X Y), y) ∧ fr [7] [12, 13] x y := by
  have g := hg.1
  unfold goodG at g
  unfold f_Search_allEscape
  simp (disch := omega) only [gI_p, gA_p, p_l0, p_l1, p_l2, p_l3, p_l4, p_l5, p_l6, p_l7, p_l8, p_l9, p_l15, p_l81, p_l99, p_l1000, p_l20000, p_add, p_sub, p_mul, p_neg, p_lt, p_le, p_eq, p_div, ck_p, nz_p, tn_p, bd_s, bl_s, bx_0, m9, m7, m81, Int.toNat_natCast, hD.1, cif_if]
  by_cases q : vI D 5 = 0
  · rw [cif_t q, bI_t (p := allE D F X Y) (Or.inl q)]
    exact ⟨x, rfl, fr_rf⟩
  · rw [cif_f q]
    obtain ⟨y, k1, k2, k3⟩ := e_measure hD hg hFi hF
    have hD' := fr_D k2 hD (by decide) (by decide)
    refine ⟨y, ?_, k2⟩
    rw [k1, bd_s]
    refine (lp_finc (lp_ex 0 (vI D 3).toNat (fun t => ¬ esc D F X Y t) (by omega) (fun t ht => ?_) ?_)).trans ?_
    · have e := e_hasEscape hD' hg hFi k3 (t := t) ht (by rw [k2.2.1 14 (by decide), k2.2.1 15 (by decide)]; exact hX t ht) (hp t ht)
      unfold s_Search_allEscape_25
      simp (disch := omega) only [gI_p, gA_p, p_l0, p_l1, p_l2, p_l3, p_l4, p_l5, p_l6, p_l7, p_l8, p_l9, p_l15, p_l81, p_l99, p_l1000, p_l20000, p_add, p_sub, p_mul, p_neg, p_lt, p_le, p_eq, p_div, ck_p, nz_p, tn_p, bd_s, bl_s, bx_0, m9, m7, m81, Int.toNat_natCast, hD'.1, Int.zero_add, e, cif_if, bI_zp, cif_n]
      rw [cif_f (by omega)]
      by_cases r : esc D F X Y t
      · rw [cif_t r, cif_t r]
      · rw [cif_f r, cif_f r]
    · unfold s_Search_allEscape_25
      simp (disch := omega) only [gI_p, gA_p, p_l0, p_l1, p_l2, p_l3, p_l4, p_l5, p_l6, p_l7, p_l8, p_l9, p_l15, p_l81, p_l99, p_l1000, p_l20000, p_add, p_sub, p_mul, p_neg, p_lt, p_le, p_eq, p_div, ck_p, nz_p, tn_p, bd_s, bl_s, bx_0, m9, m7, m81, Int.toNat_natCast, hD'.1, Int.zero_add, cif_if]
      rw [cif_t (by omega)]
    · rw [cv0, bI_c]
      unfold allE
      constructor
      · intro n
        exact Or.inr fun t ht => Classical.byContradiction fun z => n ⟨t, ht, z⟩
      · rintro (n | n) ⟨t, ht, z⟩
        · exact q n
        · exact z (n t ht)
theorem r_near {D y : gx_S} (hg : goodD D) {F : Int → Int → Prop} (hFi : ∀ a b, F a b → inG D a b) (hS : SR D F (isEX D) (vA y 37)) (a b : Int) : stp D y a b ≤ vI D 6 ↔ nr D F a b := by
  have g := hg.1
  unfold goodG at g
  unfold nr
  by_cases hin : inG D a b
  · obtain ⟨q0, q1, q2, q3⟩ := hS a b hin
    rw [stp_in hin]
    constructor
    · intro h
      exact ⟨_, by omega, q2 (by omega)⟩
    · rintro ⟨k, h1, h2⟩
      have := q3 k h2
      omega
  · constructor
    · intro h
      exact absurd (stp_lt (D := D) (y := y) (by omega)) hin
    · rintro ⟨k, -, h⟩
      exact absurd (hFi a b (near_F h)) hin
theorem r_escapes {D y : gx_S} (hM : isM D y) (hg : goodD D) {F : Int → Int → Prop} (hFi : ∀ a b, F a b → inG D a b) (hS : SR D F (isEX D) (vA y 37)) {X Y : Nat → Int} {t : Nat} (ht : t < (vI D 3).toNat) (hX : vA y 32 t = X t ∧ vA y 33 t = Y t) (hp : 0 ≤ X t ∧ X t ≤ 8 ∧ 0 ≤ Y t ∧ Y t ≤ 8) : f_CaseLayoutModel_escapes (pI t) y = some (bI (esc D F X Y t), y) := by
  have g := hg.1
  unfold goodG at g
  have z1 := hg.2.2.1 t (by omega)
  have sf : ∀ a b : Int, -100 ≤ a → a ≤ 100 → -100 ≤ b → b ≤ 100 → f_CaseLayoutModel_stepsFrom (pI a) (pI b) y = some (pI (stp D y a b), y) := fun a b h1 h2 h3 h4 => r_stepsFrom hM hg.1 ⟨h1, h2⟩ ⟨h3, h4⟩
  have sb : ∀ a b : Int, 0 ≤ stp D y a b ∧ stp D y a b ≤ 1000 := fun a b => by
    unfold stp
    by_cases q : inG D a b
    · rw [cif_t q]
      obtain ⟨q0, q1, -⟩ := hS a b q
      omega
    · rw [cif_f q]; omega
  have rn := r_near (y := y) hg hFi hS
  have k1 := lp_any0 (s := s_CaseLayoutModel_escapes_4 (pI t)) (x := y) (vA D 2 t).toNat (fun j : Nat => nr D F (X t + j) (Y t - 1) ∨ nr D F (X t + j) (Y t + vA D 3 t)) (by omega) (fun j q hj => by
    have s1 := sb (X t + j) (Y t - 1)
    have s2 := sb (X t + j) (Y t + vA D 3 t)
    rw [← rn, ← rn]
    unfold s_CaseLayoutModel_escapes_4
    simp (disch := omega) only [gI_p, gA_p, p_l0, p_l1, p_l2, p_l3, p_l4, p_l5, p_l6, p_l7, p_l8, p_l9, p_l15, p_l81, p_l99, p_l1000, p_l20000, p_add, p_sub, p_mul, p_neg, p_lt, p_le, p_eq, p_div, ck_p, nz_p, tn_p, bd_s, bl_s, bx_0, m9, m7, m81, Int.toNat_natCast, isM_12 hM, isM_13 hM, isM_14 hM, isM_15 hM, isM_16 hM, isM_17 hM, isM_20 hM, isM_21 hM, isM_22 hM, isM_23 hM, isM_24 hM, isM_25 hM, isM_26 hM, isM_27 hM, isM_28 hM, isM_29 hM, hX.1, hX.2, sf, cif_if, bI_zp, cif_n, cif_tt, cif_ff, cb, cl, cv0, cv1, cv2, cv3, cv4, cv5, cv6, cv7, nb_b]
    rw [cif_f (by omega), bI_c]
    by_cases hq : q <;> simp only [hq, true_or, false_or, or_true, or_false, true_and, false_and, and_true, and_false, not_true, not_false_iff, true_iff, iff_true, false_iff, iff_false] <;> omega) (fun q => by
    unfold s_CaseLayoutModel_escapes_4
    simp (disch := omega) only [gI_p, gA_p, p_l0, p_l1, p_l2, p_l3, p_l4, p_l5, p_l6, p_l7, p_l8, p_l9, p_l15, p_l81, p_l99, p_l1000, p_l20000, p_add, p_sub, p_mul, p_neg, p_lt, p_le, p_eq, p_div, ck_p, nz_p, tn_p, bd_s, bl_s, bx_0, m9, m7, m81, Int.toNat_natCast, isM_12 hM, isM_13 hM, isM_14 hM, isM_15 hM, isM_16 hM, isM_17 hM, isM_20 hM, isM_21 hM, isM_22 hM, isM_23 hM, isM_24 hM, isM_25 hM, isM_26 hM, isM_27 hM, isM_28 hM, isM_29 hM, cif_if, bI_zp, cif_n, cif_tt, cif_ff, cb, cl, cv0, cv1, cv2, cv3, cv4, cv5, cv6, cv7, nb_b]
    rw [cif_t (by omega)])
  have k2 := lp_any (s := s_CaseLayoutModel_escapes_91 (pI t)) (x := y) (vA D 3 t).toNat (fun j : Nat => nr D F (X t - 1) (Y t + j) ∨ nr D F (X t + vA D 2 t) (Y t + j)) (∃ j : Nat, j < (vA D 2 t).toNat ∧ (nr D F (X t + j) (Y t - 1) ∨ nr D F (X t + j) (Y t + vA D 3 t))) (by omega) (fun j q hj => by
    have s1 := sb (X t - 1) (Y t + j)
    have s2 := sb (X t + vA D 2 t) (Y t + j)
    rw [← rn, ← rn]
    unfold s_CaseLayoutModel_escapes_91
    simp (disch := omega) only [gI_p, gA_p, p_l0, p_l1, p_l2, p_l3, p_l4, p_l5, p_l6, p_l7, p_l8, p_l9, p_l15, p_l81, p_l99, p_l1000, p_l20000, p_add, p_sub, p_mul, p_neg, p_lt, p_le, p_eq, p_div, ck_p, nz_p, tn_p, bd_s, bl_s, bx_0, m9, m7, m81, Int.toNat_natCast, isM_12 hM, isM_13 hM, isM_14 hM, isM_15 hM, isM_16 hM, isM_17 hM, isM_20 hM, isM_21 hM, isM_22 hM, isM_23 hM, isM_24 hM, isM_25 hM, isM_26 hM, isM_27 hM, isM_28 hM, isM_29 hM, hX.1, hX.2, sf, cif_if, bI_zp, cif_n, cif_tt, cif_ff, cb, cl, cv0, cv1, cv2, cv3, cv4, cv5, cv6, cv7, nb_b]
    rw [cif_f (by omega), bI_c]
    by_cases hq : q <;> simp only [hq, true_or, false_or, or_true, or_false, true_and, false_and, and_true, and_false, not_true, not_false_iff, true_iff, iff_true, false_iff, iff_false] <;> omega) (fun q => by
    unfold s_CaseLayoutModel_escapes_91
    simp (disch := omega) only [gI_p, gA_p, p_l0, p_l1, p_l2, p_l3, p_l4, p_l5, p_l6, p_l7, p_l8, p_l9, p_l15, p_l81, p_l99, p_l1000, p_l20000, p_add, p_sub, p_mul, p_neg, p_lt, p_le, p_eq, p_div, ck_p, nz_p, tn_p, bd_s, bl_s, bx_0, m9, m7, m81, Int.toNat_natCast, isM_12 hM, isM_13 hM, isM_14 hM, isM_15 hM, isM_16 hM, isM_17 hM, isM_20 hM, isM_21 hM, isM_22 hM, isM_23 hM, isM_24 hM, isM_25 hM, isM_26 hM, isM_27 hM, isM_28 hM, isM_29 hM, cif_if, bI_zp, cif_n, cif_tt, cif_ff, cb, cl, cv0, cv1, cv2, cv3, cv4, cv5, cv6, cv7, nb_b]
    rw [cif_t (by omega)])
  unfold f_CaseLayoutModel_escapes
  simp only [p_l0]
  rw [k1, bl_s]
  simp only []
  rw [k2, bl_s, nb_b, bI_c]
  unfold esc
  rw [or_comm]
  refine or_congr ?_ ?_
  · exact ⟨fun ⟨i, h, q⟩ => ⟨i, by omega, q⟩, fun ⟨i, h, q⟩ => ⟨i, by omega, q⟩⟩
  · exact ⟨fun ⟨i, h, q⟩ => ⟨i, by omega, q⟩, fun ⟨i, h, q⟩ => ⟨i, by omega, q⟩⟩
def okL (D : gx_S) (X Y : Nat → Int) : Prop := allS D X Y ∧ allE D (FR D X Y) X Y
theorem r_isLayout {D x : gx_S} (hM : isM D x) (hg : goodD D) {X Y : Nat → Int} (hX : ∀ i, i < (vI D 3).toNat → vA x 32 i = X i ∧ vA x 33 i = Y i) (hv : val D X Y (vI D 3).toNat) : ∃ y, f_CaseLayoutModel_isLayout x = some (bI (okL D X Y), y) ∧ fr [] [37] x y := by
  have g := hg.1
  unfold goodG at g
  have hp := val_plc hg (by omega) hv
  obtain ⟨w, k⟩ := r_allSeen hM hg hX hv
  unfold f_CaseLayoutModel_isLayout
  simp only [p_l0, p_l1]
  rw [k, bl_s]
  unfold j_CaseLayoutModel_isLayout_55
  simp only [p_l0, bI_zp, cif_if, cif_n, nb_b]
  unfold okL
  by_cases q : allS D X Y
  · rw [cif_t q]
    simp (disch := omega) only [gI_p, gA_p, p_l0, p_l1, p_l2, p_l3, p_l4, p_l5, p_l6, p_l7, p_l8, p_l9, p_l15, p_l81, p_l99, p_l1000, p_l20000, p_add, p_sub, p_mul, p_neg, p_lt, p_le, p_eq, p_div, ck_p, nz_p, tn_p, bd_s, bl_s, bx_0, m9, m7, m81, Int.toNat_natCast, isM_12 hM, isM_13 hM, isM_14 hM, isM_15 hM, isM_16 hM, isM_17 hM, isM_20 hM, isM_21 hM, isM_22 hM, isM_23 hM, isM_24 hM, isM_25 hM, isM_26 hM, isM_27 hM, isM_28 hM, isM_29 hM]
    by_cases q2 : vI D 5 = 0
    · rw [cif_t q2]
      refine ⟨x, ?_, fr_rf⟩
      rw [bI_t q, bI_t ⟨q, Or.inl q2⟩]
    · rw [cif_f q2]
      obtain ⟨y, m1, m2, m3⟩ := r_measure hM hg hX hp
      have hM' := fr_M m2 hM (by decide) (by decide)
      have kk := lp_all (s := s_CaseLayoutModel_isLayout_74) (x := y) (vI D 3).toNat (fun t => esc D (FR D X Y) X Y t) (allS D X Y) (by omega) (fun t p ht => by
        have e := r_escapes hM' hg (fun a b h => h.1) m3 (X := X) (Y := Y) (t := t) ht (by rw [m2.2.1 32 (by decide), m2.2.1 33 (by decide)]; exact hX t ht) (hp t ht)
        unfold s_CaseLayoutModel_isLayout_74
        simp (disch := omega) only [gI_p, gA_p, p_l0, p_l1, p_l2, p_l3, p_l4, p_l5, p_l6, p_l7, p_l8, p_l9, p_l15, p_l81, p_l99, p_l1000, p_l20000, p_add, p_sub, p_mul, p_neg, p_lt, p_le, p_eq, p_div, ck_p, nz_p, tn_p, bd_s, bl_s, bx_0, m9, m7, m81, Int.toNat_natCast, isM_14 hM', e, cif_if, bI_zp, cif_n, cif_tt, cif_ff, cb, cl, cv0, cv1, cv2, cv3, cv4, cv5, cv6, cv7, nb_b, Classical.not_not]
        rw [cif_f (by omega)]) (fun p => by
        unfold s_CaseLayoutModel_isLayout_74
        simp (disch := omega) only [gI_p, gA_p, p_l0, p_l1, p_l2, p_l3, p_l4, p_l5, p_l6, p_l7, p_l8, p_l9, p_l15, p_l81, p_l99, p_l1000, p_l20000, p_add, p_sub, p_mul, p_neg, p_lt, p_le, p_eq, p_div, ck_p, nz_p, tn_p, bd_s, bl_s, bx_0, m9, m7, m81, Int.toNat_natCast, isM_14 hM', cif_if, bI_zp, cif_n, cif_tt, cif_ff, cb, cl, cv0, cv1, cv2, cv3, cv4, cv5, cv6, cv7, nb_b]
        rw [cif_t (by omega)])
      refine ⟨y, ?_, m2⟩
      rw [m1, bd_s, kk, bl_s]
      simp only [nb_b]
      rw [bI_c]
      unfold allE
      exact ⟨fun z => ⟨z.1, Or.inr z.2⟩, fun z => ⟨z.1, z.2.elim (fun h => absurd h q2) id⟩⟩
  · rw [cif_f q]
    refine ⟨x, ?_, fr_rf⟩
    rw [bI_f q, bI_f (fun z => q z.1)]
