/-! the reference measures the ways -/
def FR (D : gx_S) (X Y : Nat → Int) (a b : Int) : Prop := inG D a b ∧ vA D 0 (9 * b + a).toNat = 0 ∧ ∀ s, s < (vI D 3).toNat → ¬ cov D X Y s a b
theorem r_isFree {D x : gx_S} (hM : isM D x) (hg : goodD D) {X Y : Nat → Int} (hX : ∀ i, i < (vI D 3).toNat → vA x 32 i = X i ∧ vA x 33 i = Y i) (hp : plc X Y (vI D 3).toNat) {a b : Int} (ha : -100 ≤ a ∧ a ≤ 100) (hb : -100 ≤ b ∧ b ≤ 100) : f_CaseLayoutModel_isFree (pI a) (pI b) x = some (bI (FR D X Y a b), x) := by
  have g := hg.1
  unfold goodG at g
  have lp : ∀ p : Prop, j_CaseLayoutModel_isFree_28 (pI a) (pI b) (bI p) x = some (bI (p ∧ ∀ s, s < (vI D 3).toNat → ¬ cov D X Y s a b), x) := by
    intro p
    have k := lp_all (s := s_CaseLayoutModel_isFree_32 (pI a) (pI b)) (x := x) (vI D 3).toNat (fun s => ¬ cov D X Y s a b) p (by omega) (fun s q hs => by
        have c := r_covers hM hg (n := (vI D 3).toNat) (t := s) (by omega) hs hX hp (a := a) (b := b) (by omega)
        unfold s_CaseLayoutModel_isFree_32
        simp (disch := omega) only [gI_p, gA_p, p_l0, p_l1, p_l2, p_l3, p_l4, p_l5, p_l6, p_l7, p_l8, p_l9, p_l15, p_l81, p_l99, p_l1000, p_l20000, p_add, p_sub, p_mul, p_neg, p_lt, p_le, p_eq, p_div, ck_p, nz_p, tn_p, bd_s, bl_s, bx_0, m9, m7, m81, Int.toNat_natCast, isM_12 hM, isM_13 hM, isM_14 hM, isM_15 hM, isM_16 hM, isM_17 hM, isM_20 hM, isM_21 hM, isM_22 hM, isM_23 hM, isM_24 hM, isM_25 hM, isM_26 hM, isM_27 hM, isM_28 hM, isM_29 hM, c, cif_if, bI_zp, cif_n, cif_tt, cif_ff, cb, cl, cv0, cv1, cv2, cv3, cv4, cv5, cv6, cv7, nb_b]
        rw [cif_f (by omega)]) (fun q => by
        unfold s_CaseLayoutModel_isFree_32
        simp (disch := omega) only [gI_p, gA_p, p_l0, p_l1, p_l2, p_l3, p_l4, p_l5, p_l6, p_l7, p_l8, p_l9, p_l15, p_l81, p_l99, p_l1000, p_l20000, p_add, p_sub, p_mul, p_neg, p_lt, p_le, p_eq, p_div, ck_p, nz_p, tn_p, bd_s, bl_s, bx_0, m9, m7, m81, Int.toNat_natCast, isM_12 hM, isM_13 hM, isM_14 hM, isM_15 hM, isM_16 hM, isM_17 hM, isM_20 hM, isM_21 hM, isM_22 hM, isM_23 hM, isM_24 hM, isM_25 hM, isM_26 hM, isM_27 hM, isM_28 hM, isM_29 hM, cif_if, bI_zp, cif_n, cif_tt, cif_ff, cb, cl, cv0, cv1, cv2, cv3, cv4, cv5, cv6, cv7, nb_b]
        rw [cif_t (by omega)])
    unfold j_CaseLayoutModel_isFree_28
    simp only [p_l0]
    rw [k, bl_s, nb_b]
  have lpF := lp False
  have lpT := lp True
  rw [bI_F] at lpF
  rw [bI_T] at lpT
  unfold f_CaseLayoutModel_isFree j_CaseLayoutModel_isFree_27
  rw [r_isCell hM hg.1 (by omega) (by omega) (by omega) (by omega), bd_s]
  simp only [p_l0, p_l1, p_l9, p_mul, p_add, cif_if, bI_zp, cif_n, lpF, lpT]
  unfold FR
  by_cases hin : inG D a b
  · have hin' := hin
    unfold inG at hin'
    have w := hg.2.1 (9 * b + a).toNat
    rw [cif_t hin]
    simp (disch := omega) only [gI_p, gA_p, p_l0, p_l1, p_l2, p_l3, p_l4, p_l5, p_l6, p_l7, p_l8, p_l9, p_l15, p_l81, p_l99, p_l1000, p_l20000, p_add, p_sub, p_mul, p_neg, p_lt, p_le, p_eq, p_div, ck_p, nz_p, tn_p, bd_s, bl_s, bx_0, m9, m7, m81, Int.toNat_natCast, isM_12 hM, isM_13 hM, isM_14 hM, isM_15 hM, isM_16 hM, isM_17 hM, isM_20 hM, isM_21 hM, isM_22 hM, isM_23 hM, isM_24 hM, isM_25 hM, isM_26 hM, isM_27 hM, isM_28 hM, isM_29 hM, cb, cv6]
    rw [bI_c]
    generalize (∀ s, s < (vI D 3).toNat → ¬ cov D X Y s a b) = C
    by_cases q : vA D 0 (9 * b + a).toNat = 0 <;> by_cases hC : C <;> simp only [q, hC, hin, true_and, false_and, and_true, and_false, or_true, or_false, true_or, false_or, not_true, not_false_iff]
  · rw [cif_f hin, bI_f (p := False ∧ _) (fun z => z.1), bI_f (fun z => hin z.1)]
noncomputable def stp (D : gx_S) (y : gx_S) (a b : Int) : Int := cif (inG D a b) (vA y 37 (9 * b + a).toNat) 1000
theorem r_stepsFrom {D x : gx_S} (hM : isM D x) (hg : goodG D) {a b : Int} (ha : -100 ≤ a ∧ a ≤ 100) (hb : -100 ≤ b ∧ b ≤ 100) : f_CaseLayoutModel_stepsFrom (pI a) (pI b) x = some (pI (stp D x a b), x) := by
  have g := hg
  unfold goodG at g
  unfold f_CaseLayoutModel_stepsFrom
  rw [r_isCell hM hg (by omega) (by omega) (by omega) (by omega), bd_s]
  simp only [p_l0, p_l9, p_l1000, p_mul, p_add, cif_if, bI_zp, cif_n]
  unfold stp
  by_cases hin : inG D a b
  · have hin' := hin
    unfold inG at hin'
    rw [cif_t hin, cif_t hin]
    simp (disch := omega) only [gI_p, gA_p, p_l0, p_l1, p_l2, p_l3, p_l4, p_l5, p_l6, p_l7, p_l8, p_l9, p_l15, p_l81, p_l99, p_l1000, p_l20000, p_add, p_sub, p_mul, p_neg, p_lt, p_le, p_eq, p_div, ck_p, nz_p, tn_p, bd_s, bl_s, bx_0, m9, m7, m81, Int.toNat_natCast]
  · rw [cif_f hin, cif_f hin]
theorem cmin {α : Type} {w c : Int} (G : Int32 → α) : cif (w ≤ c + 1) (G (pI w)) (G (pI (c + 1))) = G (pI (min w (c + 1))) := by
  by_cases h : w ≤ c + 1
  · rw [cif_t h, show min w (c + 1) = w by omega]
  · rw [cif_f h, show min w (c + 1) = c + 1 by omega]
/-- all written steps stay small -/
def smS (y : gx_S) : Prop := ∀ c, c < 81 → 0 ≤ vA y 37 c ∧ vA y 37 c ≤ 1000
theorem stp_bd {D y : gx_S} (hg : goodG D) (h : smS y) (a b : Int) : 0 ≤ stp D y a b ∧ stp D y a b ≤ 1000 := by
  have g := hg
  unfold goodG at g
  unfold stp
  by_cases q : inG D a b
  · rw [cif_t q]
    unfold inG at q
    exact h _ (by omega)
  · rw [cif_f q]; omega
theorem r_j261 {D x : gx_S} (hM : isM D x) (hg : goodD D) {X Y : Nat → Int} (hX : ∀ i, i < (vI D 3).toNat → vA x 32 i = X i ∧ vA x 33 i = Y i) (hp : plc X Y (vI D 3).toNat) (hs : smS x) {a b w k : Int} (hin : inG D a b) (hw : 0 ≤ w ∧ w ≤ 1000) (v1 : Int32) : j_CaseLayoutModel_measure_261L90 v1 (pI k) (pI a) (pI b) (pI w) x = some (.inl (cif (w = stp D x a b ∨ ¬ FR D X Y a b) (v1, pI (k + 1), x) (pI 1, pI (k + 1), gx_sA x 37 (9 * b + a).toNat (pI w)))) := by
  have g := hg.1
  unfold goodG at g
  have hin' := hin
  unfold inG at hin'
  have sb := stp_bd hg.1 hs a b
  unfold j_CaseLayoutModel_measure_261L90
  rw [r_stepsFrom hM hg.1 (by omega) (by omega), bd_s]
  simp only [p_l1, p_add, p_l9, p_mul, cif_if]
  simp (disch := omega) only [p_eq]
  by_cases q : w = stp D x a b
  · rw [cif_t q, cif_t (Or.inl q)]
  · rw [cif_f q, r_isFree hM hg hX hp (by omega) (by omega), bd_s]
    simp only [p_l0, bI_zp, cif_n]
    by_cases q2 : FR D X Y a b
    · rw [cif_t q2, cif_f (fun z => z.elim q (fun z => z q2)), ck_p (by omega) (by omega) (by omega), tn_p (by omega) (by omega)]
    · rw [cif_f q2, cif_t (Or.inr q2)]
theorem r_j227 {D x : gx_S} (hM : isM D x) (hg : goodD D) (hs : smS x) {a b w k : Int} (hin : inG D a b) (hw : 0 ≤ w ∧ w ≤ 1000) (v1 : Int32) : j_CaseLayoutModel_measure_227L90 v1 (pI k) (pI a) (pI b) (pI w) x = j_CaseLayoutModel_measure_261L90 v1 (pI k) (pI a) (pI b) (pI (min w (stp D x a (b + 1) + 1))) x := by
  have g := hg.1
  unfold goodG at g
  unfold inG at hin
  have sb := stp_bd hg.1 hs a (b + 1)
  unfold j_CaseLayoutModel_measure_227L90
  simp only [p_l1, p_add]
  have sf := r_stepsFrom hM hg.1 (a := a) (b := b + 1) (by omega) (by omega)
  simp only [sf, bd_s, p_add, cif_if]
  simp (disch := omega) only [p_le]
  exact cmin (fun z => j_CaseLayoutModel_measure_261L90 v1 (pI k) (pI a) (pI b) z x)
theorem r_j193 {D x : gx_S} (hM : isM D x) (hg : goodD D) (hs : smS x) {a b w k : Int} (hin : inG D a b) (hw : 0 ≤ w ∧ w ≤ 1000) (v1 : Int32) : j_CaseLayoutModel_measure_193L90 v1 (pI k) (pI a) (pI b) (pI w) x = j_CaseLayoutModel_measure_227L90 v1 (pI k) (pI a) (pI b) (pI (min w (stp D x a (b - 1) + 1))) x := by
  have g := hg.1
  unfold goodG at g
  unfold inG at hin
  have sb := stp_bd hg.1 hs a (b - 1)
  unfold j_CaseLayoutModel_measure_193L90
  simp only [p_l1, p_sub]
  have sf := r_stepsFrom hM hg.1 (a := a) (b := b - 1) (by omega) (by omega)
  simp only [sf, bd_s, p_add, cif_if]
  simp (disch := omega) only [p_le]
  exact cmin (fun z => j_CaseLayoutModel_measure_227L90 v1 (pI k) (pI a) (pI b) z x)
theorem r_j159 {D x : gx_S} (hM : isM D x) (hg : goodD D) (hs : smS x) {a b w k : Int} (hin : inG D a b) (hw : 0 ≤ w ∧ w ≤ 1000) (v1 : Int32) : j_CaseLayoutModel_measure_159L90 v1 (pI k) (pI a) (pI b) (pI w) x = j_CaseLayoutModel_measure_193L90 v1 (pI k) (pI a) (pI b) (pI (min w (stp D x (a + 1) b + 1))) x := by
  have g := hg.1
  unfold goodG at g
  unfold inG at hin
  have sb := stp_bd hg.1 hs (a + 1) b
  unfold j_CaseLayoutModel_measure_159L90
  simp only [p_l1, p_add]
  have sf := r_stepsFrom hM hg.1 (a := a + 1) (b := b) (by omega) (by omega)
  simp only [sf, bd_s, p_add, cif_if]
  simp (disch := omega) only [p_le]
  exact cmin (fun z => j_CaseLayoutModel_measure_193L90 v1 (pI k) (pI a) (pI b) z x)
noncomputable def bes (D y : gx_S) (a b : Int) : Int := min (min (min (min (stp D y a b) (stp D y (a - 1) b + 1)) (stp D y (a + 1) b + 1)) (stp D y a (b - 1) + 1)) (stp D y a (b + 1) + 1)
theorem r_s90 {D x : gx_S} (hM : isM D x) (hg : goodD D) {X Y : Nat → Int} (hX : ∀ i, i < (vI D 3).toNat → vA x 32 i = X i ∧ vA x 33 i = Y i) (hp : plc X Y (vI D 3).toNat) (hs : smS x) {a b : Int} {k : Nat} (hin : inG D a b) (hk : (k : Int) < vI D 0 * vI D 1) (ka : (k : Int) - k / vI D 0 * vI D 0 = a) (kb : (k : Int) / vI D 0 = b) (v1 : Int32) : s_CaseLayoutModel_measure_90 (v1, pI k, x) = some (.inl (cif (bes D x a b = stp D x a b ∨ ¬ FR D X Y a b) (v1, pI (k + 1), x) (pI 1, pI (k + 1), gx_sA x 37 (9 * b + a).toNat (pI (bes D x a b))))) := by
  have g := hg.1
  unfold goodG at g
  have hin' := hin
  unfold inG at hin'
  have m1 := mb (w := vI D 0) (h := vI D 1) (by omega) (by omega)
  have s0 := stp_bd hg.1 hs a b
  have s1 := stp_bd hg.1 hs (a - 1) b
  have s2 := stp_bd hg.1 hs (a + 1) b
  have s3 := stp_bd hg.1 hs a (b - 1)
  have s4 := stp_bd hg.1 hs a (b + 1)
  have e : s_CaseLayoutModel_measure_90 (v1, pI k, x) = j_CaseLayoutModel_measure_159L90 v1 (pI k) (pI a) (pI b) (pI (min (stp D x a b) (stp D x (a - 1) b + 1))) x := by
    have ka' := ka
    rw [kb] at ka'
    unfold s_CaseLayoutModel_measure_90
    simp (disch := omega) only [gI_p, isM_12 hM, isM_13 hM, isM_14 hM, isM_15 hM, isM_16 hM, isM_17 hM, isM_20 hM, isM_21 hM, isM_22 hM, isM_23 hM, isM_24 hM, isM_25 hM, isM_26 hM, isM_27 hM, isM_28 hM, isM_29 hM, p_mul, p_le, nz_p, p_div, p_sub, ka', kb, p_l1, cif_if]
    have sf := r_stepsFrom hM hg.1 (a := a) (b := b) (by omega) (by omega)
    have sf2 := r_stepsFrom hM hg.1 (a := a - 1) (b := b) (by omega) (by omega)
    rw [cif_f (by omega)]
    simp only [sf, sf2, bd_s, p_add, cif_if]
    simp (disch := omega) only [p_le]
    exact cmin (fun z => j_CaseLayoutModel_measure_159L90 v1 (pI k) (pI a) (pI b) z x)
  rw [e, r_j159 hM hg hs hin (by omega), r_j193 hM hg hs hin (by omega), r_j227 hM hg hs hin (by omega), r_j261 hM hg hX hp hs hin (by omega)]
  rfl
