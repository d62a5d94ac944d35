/-! the data that both sides keep, and what is asked of it -/
def isD (D x : gx_S) : Prop := (∀ k, k ≤ 6 → vI x k = vI D k) ∧ (∀ k, k ≤ 10 → ∀ i, vA x k i = vA D k i)
def isM (D x : gx_S) : Prop := (vI x 12 = vI D 0 ∧ vI x 13 = vI D 1 ∧ vI x 14 = vI D 3 ∧ vI x 15 = vI D 4 ∧ vI x 16 = vI D 5 ∧ vI x 17 = vI D 6) ∧ ((∀ i, vA x 20 i = vA D 0 i) ∧ (∀ i, vA x 21 i = vA D 1 i) ∧ (∀ i, vA x 22 i = vA D 2 i) ∧ (∀ i, vA x 23 i = vA D 3 i) ∧ (∀ i, vA x 24 i = vA D 4 i) ∧ (∀ i, vA x 25 i = vA D 5 i) ∧ (∀ i, vA x 26 i = vA D 6 i) ∧ (∀ i, vA x 27 i = vA D 7 i) ∧ (∀ i, vA x 28 i = vA D 8 i) ∧ (∀ i, vA x 29 i = vA D 9 i)) ∧ (∀ e : Nat, (e : Int) < vI D 5 → vA x 30 e = vA D 10 e % 9 ∧ vA x 31 e = vA D 10 e / 9)
theorem isM_12 {D x : gx_S} (h : isM D x) : vI x 12 = vI D 0 := h.1.1
theorem isM_13 {D x : gx_S} (h : isM D x) : vI x 13 = vI D 1 := h.1.2.1
theorem isM_14 {D x : gx_S} (h : isM D x) : vI x 14 = vI D 3 := h.1.2.2.1
theorem isM_15 {D x : gx_S} (h : isM D x) : vI x 15 = vI D 4 := h.1.2.2.2.1
theorem isM_16 {D x : gx_S} (h : isM D x) : vI x 16 = vI D 5 := h.1.2.2.2.2.1
theorem isM_17 {D x : gx_S} (h : isM D x) : vI x 17 = vI D 6 := h.1.2.2.2.2.2
theorem isM_20 {D x : gx_S} (h : isM D x) (i : Nat) : vA x 20 i = vA D 0 i := h.2.1.1 i
theorem isM_21 {D x : gx_S} (h : isM D x) (i : Nat) : vA x 21 i = vA D 1 i := h.2.1.2.1 i
theorem isM_22 {D x : gx_S} (h : isM D x) (i : Nat) : vA x 22 i = vA D 2 i := h.2.1.2.2.1 i
theorem isM_23 {D x : gx_S} (h : isM D x) (i : Nat) : vA x 23 i = vA D 3 i := h.2.1.2.2.2.1 i
theorem isM_24 {D x : gx_S} (h : isM D x) (i : Nat) : vA x 24 i = vA D 4 i := h.2.1.2.2.2.2.1 i
theorem isM_25 {D x : gx_S} (h : isM D x) (i : Nat) : vA x 25 i = vA D 5 i := h.2.1.2.2.2.2.2.1 i
theorem isM_26 {D x : gx_S} (h : isM D x) (i : Nat) : vA x 26 i = vA D 6 i := h.2.1.2.2.2.2.2.2.1 i
theorem isM_27 {D x : gx_S} (h : isM D x) (i : Nat) : vA x 27 i = vA D 7 i := h.2.1.2.2.2.2.2.2.2.1 i
theorem isM_28 {D x : gx_S} (h : isM D x) (i : Nat) : vA x 28 i = vA D 8 i := h.2.1.2.2.2.2.2.2.2.2.1 i
theorem isM_29 {D x : gx_S} (h : isM D x) (i : Nat) : vA x 29 i = vA D 9 i := h.2.1.2.2.2.2.2.2.2.2.2 i
def goodG (D : gx_S) : Prop := 1 ≤ vI D 0 ∧ vI D 0 ≤ 9 ∧ 1 ≤ vI D 1 ∧ vI D 1 ≤ 9 ∧ 0 ≤ vI D 3 ∧ vI D 3 ≤ 7 ∧ 0 ≤ vI D 4 ∧ vI D 4 ≤ 8 ∧ 0 ≤ vI D 5 ∧ vI D 5 ≤ 6 ∧ 0 ≤ vI D 6 ∧ vI D 6 ≤ 99
def goodA (D : gx_S) : Prop := (∀ i, vA D 0 i = 0 ∨ vA D 0 i = 1) ∧ (∀ t : Nat, (t : Int) < vI D 3 → 1 ≤ vA D 2 t ∧ vA D 2 t ≤ 4 ∧ 1 ≤ vA D 3 t ∧ vA D 3 t ≤ 4) ∧ (∀ i, 0 ≤ vA D 5 i ∧ vA D 5 i ≤ 5) ∧ (∀ a b : Nat, a < 7 → b < 7 → vA D 5 (7 * (a : Int) + b).toNat = vA D 5 (7 * (b : Int) + a).toNat) ∧ (∀ i, 0 ≤ vA D 6 i ∧ vA D 6 i ≤ 99) ∧ (∀ p : Nat, (p : Int) < vI D 4 → 0 ≤ vA D 7 p ∧ vA D 7 p < vI D 0 ∧ 0 ≤ vA D 8 p ∧ vA D 8 p < vI D 1 ∧ vA D 0 (9 * vA D 8 p + vA D 7 p).toNat = 0) ∧ (∀ p t : Nat, t < 7 → vA D 9 (7 * (p : Int) + t).toNat ≠ 0 → (t : Int) < vI D 3) ∧ (∀ e : Nat, (e : Int) < vI D 5 → 0 ≤ vA D 10 e ∧ vA D 10 e % 9 < vI D 0 ∧ vA D 10 e / 9 < vI D 1) ∧ (∀ i, vA D 9 i = 0 ∨ vA D 9 i = 1)
def goodD (D : gx_S) : Prop := goodG D ∧ goodA D
def inG (D : gx_S) (a b : Int) : Prop := 0 ≤ a ∧ a < vI D 0 ∧ 0 ≤ b ∧ b < vI D 1
section CLS
variable {D x : gx_S} (hD : isD D x) (hg : goodG D)
theorem e_holds {D x : gx_S} (hD : isD D x) {a b : Int} (a0 : -2147483648 ≤ a) (a1 : a ≤ 2147483647) (b0 : -2147483648 ≤ b) (b1 : b ≤ 2147483647) : f_Grid_holds (pI a) (pI b) x = some (bI (inG D a b), x) := by
  have q0 := vI_lo D 0
  have q1 := vI_hi D 0
  have q2 := vI_lo D 1
  have q3 := vI_hi D 1
  unfold f_Grid_holds
  simp (disch := omega) only [gI_p, gA_p, p_l0, p_l1, p_l2, p_l3, p_l4, p_l5, p_l6, p_l7, p_l8, p_l9, p_l15, p_l81, p_l99, p_l1000, p_l20000, p_add, p_sub, p_mul, p_neg, p_lt, p_le, p_eq, p_div, ck_p, nz_p, tn_p, bd_s, bl_s, bx_0, m9, m7, m81, Int.toNat_natCast, hD.1]
  unfold inG
  split
  · rw [bI_f (by omega)]; rfl
  split
  · rw [bI_f (by omega)]; rfl
  split
  · rw [bI_f (by omega)]; rfl
  split
  · rw [bI_f (by omega)]; rfl
  · rw [bI_t (by omega)]; rfl
theorem e_cellOf (a b : Int) (x : gx_S) : f_CaseLayout_cellOf (pI a) (pI b) x = some (pI (9 * b + a), x) := by
  unfold f_CaseLayout_cellOf
  simp only [gI_p, gA_p, p_l0, p_l1, p_l2, p_l3, p_l4, p_l5, p_l6, p_l7, p_l8, p_l9, p_l15, p_l81, p_l99, p_l1000, p_l20000, p_add, p_sub, p_mul, p_neg, p_lt, p_le, p_eq, p_div, ck_p, nz_p, tn_p, bd_s, bl_s, bx_0, m9, m7, m81, Int.toNat_natCast]
theorem e_pairOf (a b : Int) (x : gx_S) : f_CaseLayout_pairOf (pI a) (pI b) x = some (pI (7 * a + b), x) := by
  unfold f_CaseLayout_pairOf
  simp only [gI_p, gA_p, p_l0, p_l1, p_l2, p_l3, p_l4, p_l5, p_l6, p_l7, p_l8, p_l9, p_l15, p_l81, p_l99, p_l1000, p_l20000, p_add, p_sub, p_mul, p_neg, p_lt, p_le, p_eq, p_div, ck_p, nz_p, tn_p, bd_s, bl_s, bx_0, m9, m7, m81, Int.toNat_natCast]
theorem e_sightOf (a b : Int) (x : gx_S) : f_CaseLayout_sightOf (pI a) (pI b) x = some (pI (7 * a + b), x) := by
  unfold f_CaseLayout_sightOf
  simp only [gI_p, gA_p, p_l0, p_l1, p_l2, p_l3, p_l4, p_l5, p_l6, p_l7, p_l8, p_l9, p_l15, p_l81, p_l99, p_l1000, p_l20000, p_add, p_sub, p_mul, p_neg, p_lt, p_le, p_eq, p_div, ck_p, nz_p, tn_p, bd_s, bl_s, bx_0, m9, m7, m81, Int.toNat_natCast]
theorem e_standP {D x : gx_S} (hD : isD D x) (hg : goodG D) (hp : ∀ p : Nat, (p : Int) < vI D 4 → 0 ≤ vA D 7 p ∧ vA D 7 p < vI D 0 ∧ 0 ≤ vA D 8 p ∧ vA D 8 p < vI D 1) {c : Int} (a0 : -2147483648 ≤ c) (a1 : c ≤ 2147483647) : f_Places_standOn (pI c) x = some (bI (∃ j : Nat, j < (vI D 4).toNat ∧ 9 * vA D 8 j + vA D 7 j = c), x) := by
  unfold f_Places_standOn
  have g := hg
  unfold goodG at g
  refine lp_fin (lp_ex 0 (vI D 4).toNat (fun j : Nat => 9 * vA D 8 j + vA D 7 j = c) (by omega) (fun i hi => ?_) ?_)
  · have h := hp i (by omega)
    unfold s_Places_standOn_2
    simp (disch := omega) only [gI_p, gA_p, p_l0, p_l1, p_l2, p_l3, p_l4, p_l5, p_l6, p_l7, p_l8, p_l9, p_l15, p_l81, p_l99, p_l1000, p_l20000, p_add, p_sub, p_mul, p_neg, p_lt, p_le, p_eq, p_div, ck_p, nz_p, tn_p, bd_s, bl_s, bx_0, m9, m7, m81, Int.toNat_natCast, hD.1, hD.2, Int.zero_add, e_cellOf]
    rw [if_neg (by omega), cif_if]
    by_cases e : 9 * vA D 8 i + vA D 7 i = c
    · rw [cif_t e, cif_t e]
    · rw [cif_f e, cif_f e]
  · unfold s_Places_standOn_2
    simp (disch := omega) only [gI_p, gA_p, p_l0, p_l1, p_l2, p_l3, p_l4, p_l5, p_l6, p_l7, p_l8, p_l9, p_l15, p_l81, p_l99, p_l1000, p_l20000, p_add, p_sub, p_mul, p_neg, p_lt, p_le, p_eq, p_div, ck_p, nz_p, tn_p, bd_s, bl_s, bx_0, m9, m7, m81, Int.toNat_natCast, hD.1, hD.2, Int.zero_add]
    rw [if_pos (by omega)]
end CLS
