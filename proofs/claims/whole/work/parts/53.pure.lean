/-! gaps, fits, gains -/
theorem cvp {p : Prop} {a b : Int} : cif p (pI a) (pI b) = pI (cif p a b) := by
  by_cases h : p
  · rw [cif_t h, cif_t h]
  · rw [cif_f h, cif_f h]
theorem cmx {a b : Int} : cif (a < b) b a = max a b := by
  by_cases h : a < b
  · rw [cif_t h]; omega
  · rw [cif_f h]; omega
theorem cmn {a b : Int} : cif (a < b) a b = min a b := by
  by_cases h : a < b
  · rw [cif_t h]; omega
  · rw [cif_f h]; omega
def gp (D : gx_S) (X Y : Nat → Int) (a b : Nat) : Int := max (max (X b - X a - vA D 2 a) (X a - X b - vA D 2 b)) (max (Y b - Y a - vA D 3 a) (Y a - Y b - vA D 3 b))
def apt (D : gx_S) (X Y : Nat → Int) (a t : Nat) : Prop := vA D 5 (7 * (t : Int) + a).toNat ≤ gp D X Y t a
def cov (D : gx_S) (X Y : Nat → Int) (t : Nat) (a b : Int) : Prop := X t ≤ a ∧ a < X t + vA D 2 t ∧ Y t ≤ b ∧ b < Y t + vA D 3 t
def cellOk (D : gx_S) (c a b : Int) : Prop := vA D 0 (9 * b + a).toNat = 0 ∧ (c = 0 ∨ vA D 1 (9 * b + a).toNat = c)
def fits (D : gx_S) (t : Nat) (a b : Int) : Prop := a + vA D 2 t ≤ vI D 0 ∧ b + vA D 3 t ≤ vI D 1 ∧ ∀ i : Nat, (i : Int) < vA D 3 t → ∀ j : Nat, (j : Int) < vA D 2 t → cellOk D (vA D 4 t) (a + j) (b + i)
def sumTo (f : Nat → Int) : Nat → Int
  | 0 => 0
  | n + 1 => sumTo f n + f n
noncomputable def wsh (D : gx_S) (X Y : Nat → Int) (t a : Nat) : Int := cif (gp D X Y t a = 0) (vA D 6 (7 * (t : Int) + a).toNat) 0
noncomputable def gain (D : gx_S) (X Y : Nat → Int) (t : Nat) : Int := sumTo (wsh D X Y t) t
noncomputable def gainAll (D : gx_S) (X Y : Nat → Int) (n : Nat) : Int := sumTo (gain D X Y) n
theorem sumTo_bd {f : Nat → Int} {c : Int} (hc : 0 ≤ c) (h : ∀ i, 0 ≤ f i ∧ f i ≤ c) (n : Nat) : 0 ≤ sumTo f n ∧ sumTo f n ≤ c * n := by
  induction n with
  | zero => exact ⟨Int.le_refl _, by show (0 : Int) ≤ c * ((0 : Nat) : Int); simp⟩
  | succ n ih =>
    have e : c * ((n + 1 : Nat) : Int) = c * n + c := by rw [Int.natCast_add, Int.mul_add]; simp
    have := h n
    show 0 ≤ sumTo f n + f n ∧ sumTo f n + f n ≤ c * ((n + 1 : Nat) : Int)
    rw [e]
    omega
theorem wsh_bd {D : gx_S} (hg : goodA D) (X Y : Nat → Int) (t a : Nat) : 0 ≤ wsh D X Y t a ∧ wsh D X Y t a ≤ 99 := by
  have := hg.2.2.2.2.1 (7 * (t : Int) + a).toNat
  unfold wsh
  by_cases h : gp D X Y t a = 0
  · rw [cif_t h]; exact this
  · rw [cif_f h]; omega
theorem gain_bd {D : gx_S} (hg : goodA D) (X Y : Nat → Int) (t : Nat) : 0 ≤ gain D X Y t ∧ gain D X Y t ≤ 99 * t := sumTo_bd (by omega) (wsh_bd hg X Y t) t
/-- where the things below n may lie at all -/
def plc (X Y : Nat → Int) (n : Nat) : Prop := ∀ i, i < n → 0 ≤ X i ∧ X i ≤ 8 ∧ 0 ≤ Y i ∧ Y i ≤ 8
theorem e_between {x : gx_S} {a m b n : Int} (h : 0 ≤ a ∧ a ≤ 100 ∧ 0 ≤ m ∧ m ≤ 100 ∧ 0 ≤ b ∧ b ≤ 100 ∧ 0 ≤ n ∧ n ≤ 100) : f_Layout_between (pI a) (pI m) (pI b) (pI n) x = some (pI (max (b - a - m) (a - b - n)), x) := by
  unfold f_Layout_between
  simp (disch := omega) only [gI_p, gA_p, p_l0, p_l1, p_l2, p_l3, p_l4, p_l5, p_l6, p_l7, p_l8, p_l9, p_l15, p_l81, p_l99, p_l1000, p_l20000, p_add, p_sub, p_mul, p_neg, p_lt, p_le, p_eq, p_div, ck_p, nz_p, tn_p, bd_s, bl_s, bx_0, m9, m7, m81, Int.toNat_natCast, cif_if, cvp, cmx]
theorem e_gapOf {D x : gx_S} (hD : isD D x) (hg : goodD D) {X Y : Nat → Int} {n a b : Nat} (hn : (n : Int) ≤ vI D 3) (ha : a < n) (hb : b < n) (hX : ∀ i, i < n → vA x 14 i = X i ∧ vA x 15 i = Y i) (hp : plc X Y n) : f_Layout_gapOf (pI a) (pI b) x = some (pI (gp D X Y a b), x) := by
  have g := hg.1
  unfold goodG at g
  have p1 := hp a ha
  have p2 := hp b hb
  have z1 := hg.2.2.1 a (by omega)
  have z2 := hg.2.2.1 b (by omega)
  have e1 := e_between (x := x) (a := X a) (m := vA D 2 a) (b := X b) (n := vA D 2 b) (by omega)
  have e2 := e_between (x := x) (a := Y a) (m := vA D 3 a) (b := Y b) (n := vA D 3 b) (by omega)
  have b1 : -100 ≤ max (X b - X a - vA D 2 a) (X a - X b - vA D 2 b) ∧ max (X b - X a - vA D 2 a) (X a - X b - vA D 2 b) ≤ 100 := by omega
  have b2 : -100 ≤ max (Y b - Y a - vA D 3 a) (Y a - Y b - vA D 3 b) ∧ max (Y b - Y a - vA D 3 a) (Y a - Y b - vA D 3 b) ≤ 100 := by omega
  unfold gp
  generalize max (X b - X a - vA D 2 a) (X a - X b - vA D 2 b) = c1 at *
  generalize max (Y b - Y a - vA D 3 a) (Y a - Y b - vA D 3 b) = c2 at *
  unfold f_Layout_gapOf
  simp (disch := omega) only [gI_p, gA_p, p_l0, p_l1, p_l2, p_l3, p_l4, p_l5, p_l6, p_l7, p_l8, p_l9, p_l15, p_l81, p_l99, p_l1000, p_l20000, p_add, p_sub, p_mul, p_neg, p_lt, p_le, p_eq, p_div, ck_p, nz_p, tn_p, bd_s, bl_s, bx_0, m9, m7, m81, Int.toNat_natCast, hD.2, (hX a ha).1, (hX a ha).2, (hX b hb).1, (hX b hb).2, e1, e2, cif_if, cvp, cmx]
theorem e_keeps {D x : gx_S} (hD : isD D x) (hg : goodD D) {X Y : Nat → Int} {t : Nat} (hn : (t : Int) < vI D 3) (hX : ∀ i, i < t + 1 → vA x 14 i = X i ∧ vA x 15 i = Y i) (hp : plc X Y (t + 1)) : f_Search_keepsApart (pI t) x = some (bI (∀ a, a < t → apt D X Y a t), x) := by
  have g := hg.1
  unfold goodG at g
  unfold f_Search_keepsApart
  simp only [p_l0]
  refine (lp_fin (lp_ex 0 t (fun a => ¬ apt D X Y a t) (by omega) (fun i hi => ?_) ?_)).trans ?_
  · unfold s_Search_keepsApart_2
    have z := hg.2.2.2.1 (7 * (t : Int) + i).toNat
    have e := e_gapOf hD hg (a := t) (b := i) (n := t + 1) (by omega) (by omega) (by omega) hX hp
    have p1 := hp t (by omega)
    have p2 := hp i (by omega)
    have z1 := hg.2.2.1 t (by omega)
    have z2 := hg.2.2.1 i (by omega)
    have hgp : -100 ≤ gp D X Y t i ∧ gp D X Y t i ≤ 100 := by unfold gp; omega
    simp (disch := omega) only [gI_p, gA_p, p_l0, p_l1, p_l2, p_l3, p_l4, p_l5, p_l6, p_l7, p_l8, p_l9, p_l15, p_l81, p_l99, p_l1000, p_l20000, p_add, p_sub, p_mul, p_neg, p_lt, p_le, p_eq, p_div, ck_p, nz_p, tn_p, bd_s, bl_s, bx_0, m9, m7, m81, Int.toNat_natCast, hD.1, hD.2, Int.zero_add, e, e_pairOf, cif_if]
    rw [cif_f (by omega), cif_n]
    unfold apt
    by_cases q : vA D 5 (7 * (t : Int) + i).toNat ≤ gp D X Y t i
    · rw [cif_t q, cif_t q]
    · rw [cif_f q, cif_f q]
  · unfold s_Search_keepsApart_2
    simp (disch := omega) only [gI_p, gA_p, p_l0, p_l1, p_l2, p_l3, p_l4, p_l5, p_l6, p_l7, p_l8, p_l9, p_l15, p_l81, p_l99, p_l1000, p_l20000, p_add, p_sub, p_mul, p_neg, p_lt, p_le, p_eq, p_div, ck_p, nz_p, tn_p, bd_s, bl_s, bx_0, m9, m7, m81, Int.toNat_natCast, hD.1, hD.2, Int.zero_add, cif_if]
    rw [cif_t (by omega)]
  · rw [p_l1, cv0, bI_c]
    constructor
    · intro h a ha
      exact Classical.byContradiction fun q => h ⟨a, ha, q⟩
    · rintro h ⟨a, ha, q⟩
      exact q (h a ha)
theorem e_gain {D x : gx_S} (hD : isD D x) (hg : goodD D) {X Y : Nat → Int} {t : Nat} (hn : (t : Int) < vI D 3) (hX : ∀ i, i < t + 1 → vA x 14 i = X i ∧ vA x 15 i = Y i) (hp : plc X Y (t + 1)) : f_Search_gainOf (pI t) x = some (pI (gain D X Y t), x) := by
  have g := hg.1
  unfold goodG at g
  unfold f_Search_gainOf
  simp only [p_l0]
  have key := lp_acc (s := s_Search_gainOf_4 (pI t)) (x := x) t (fun i => pI (sumTo (wsh D X Y t) i)) (fun i hi => ?_) ?_ t 0 (by omega) gx_fuel (by unfold gx_fuel; omega)
  · have key' : gx_it (s_Search_gainOf_4 (pI t)) gx_fuel (pI 0, pI 0, x) = some (0, pI (sumTo (wsh D X Y t) t), pI t, x) := key
    rw [key']
    rfl
  · have z := hg.2.2.2.2.2.1 (7 * (t : Int) + i).toNat
    have e := e_gapOf hD hg (a := t) (b := i) (n := t + 1) (by omega) (by omega) (by omega) hX hp
    have p1 := hp t (by omega)
    have p2 := hp i (by omega)
    have z1 := hg.2.2.1 t (by omega)
    have z2 := hg.2.2.1 i (by omega)
    have hgp : -100 ≤ gp D X Y t i ∧ gp D X Y t i ≤ 100 := by unfold gp; omega
    show s_Search_gainOf_4 (pI t) (pI (sumTo (wsh D X Y t) i), pI i, x) = some (.inl (pI (sumTo (wsh D X Y t) i + wsh D X Y t i), pI (i + 1), x))
    unfold s_Search_gainOf_4
    simp (disch := omega) only [gI_p, gA_p, p_l0, p_l1, p_l2, p_l3, p_l4, p_l5, p_l6, p_l7, p_l8, p_l9, p_l15, p_l81, p_l99, p_l1000, p_l20000, p_add, p_sub, p_mul, p_neg, p_lt, p_le, p_eq, p_div, ck_p, nz_p, tn_p, bd_s, bl_s, bx_0, m9, m7, m81, Int.toNat_natCast, hD.1, hD.2, e, e_pairOf, cif_if]
    rw [cif_f (by omega)]
    unfold wsh
    by_cases q : vA D 6 (7 * (t : Int) + i).toNat = 0
    · rw [cif_t q, q, cv7, Int.add_zero]
    · rw [cif_f q]
      by_cases q2 : gp D X Y t i = 0
      · rw [cif_t q2, cif_t q2]
      · rw [cif_f q2, cif_f q2, Int.add_zero]
  · show s_Search_gainOf_4 (pI t) (pI (sumTo (wsh D X Y t) t), pI t, x) = _
    unfold s_Search_gainOf_4
    simp (disch := omega) only [gI_p, gA_p, p_l0, p_l1, p_l2, p_l3, p_l4, p_l5, p_l6, p_l7, p_l8, p_l9, p_l15, p_l81, p_l99, p_l1000, p_l20000, p_add, p_sub, p_mul, p_neg, p_lt, p_le, p_eq, p_div, ck_p, nz_p, tn_p, bd_s, bl_s, bx_0, m9, m7, m81, Int.toNat_natCast, cif_if]
    rw [cif_t (by omega)]
/-! does it carry the thing -/
theorem e_carries {D x : gx_S} (hD : isD D x) (hg : goodD D) {t : Nat} (ht : (t : Int) < vI D 3) {a b : Int} (h : inG D a b) : f_Grid_carries (pI a) (pI b) (pI (vA D 2 t)) (pI (vA D 3 t)) (pI (vA D 4 t)) x = some (bI (fits D t a b), x) := by
  have g := hg.1
  unfold goodG at g
  have z := hg.2.2.1 t ht
  have h' := h
  unfold inG at h'
  have c0 := vA_lo D 4 t
  have c1 := vA_hi D 4 t
  unfold f_Grid_carries
  simp (disch := omega) only [gI_p, gA_p, p_l0, p_l1, p_l2, p_l3, p_l4, p_l5, p_l6, p_l7, p_l8, p_l9, p_l15, p_l81, p_l99, p_l1000, p_l20000, p_add, p_sub, p_mul, p_neg, p_lt, p_le, p_eq, p_div, ck_p, nz_p, tn_p, bd_s, bl_s, bx_0, m9, m7, m81, Int.toNat_natCast, hD.1, e_holds hD, bI_zp, cif_if, cif_n]
  rw [cif_t h]
  unfold fits
  by_cases q1 : a + vA D 2 t ≤ vI D 0
  · rw [cif_f (by omega)]
    by_cases q2 : b + vA D 3 t ≤ vI D 1
    · rw [cif_t q2]
      refine (lp_finc (lp_ex b (vA D 3 t).toNat (fun i : Nat => ∃ j : Nat, j < (vA D 2 t).toNat ∧ ¬ cellOk D (vA D 4 t) (a + j) (b + i)) (by omega) (fun i hi => ?_) ?_)).trans ?_
      · unfold s_Grid_carries_35
        have key := lp_ex (s := s_Grid_carries_47 (pI a) (pI b) (pI (vA D 2 t)) (pI (vA D 3 t)) (pI (vA D 4 t)) (pI (b + i))) (x := x) (k0 := 0) (k1 := 1) a (vA D 2 t).toNat (fun j : Nat => ¬ cellOk D (vA D 4 t) (a + j) (b + i)) (by omega) (fun j hj => by
          have k0 := vA_lo D 1 (9 * (b + i) + (a + j)).toNat
          have k1 := vA_hi D 1 (9 * (b + i) + (a + j)).toNat
          have k2 := hg.2.1 (9 * (b + i) + (a + j)).toNat
          unfold s_Grid_carries_47
          simp (disch := omega) only [gI_p, gA_p, p_l0, p_l1, p_l2, p_l3, p_l4, p_l5, p_l6, p_l7, p_l8, p_l9, p_l15, p_l81, p_l99, p_l1000, p_l20000, p_add, p_sub, p_mul, p_neg, p_lt, p_le, p_eq, p_div, ck_p, nz_p, tn_p, bd_s, bl_s, bx_0, m9, m7, m81, Int.toNat_natCast, hD.1, hD.2, cif_if, e_cellOf]
          rw [cif_f (by omega)]
          unfold cellOk
          by_cases r1 : vA D 0 (9 * (b + i) + (a + j)).toNat = 0
          · rw [cif_t r1]
            by_cases r2 : vA D 4 t = 0
            · rw [cif_t r2, cif_f (by omega)]
            · rw [cif_f r2]
              by_cases r3 : vA D 1 (9 * (b + i) + (a + j)).toNat = vA D 4 t
              · rw [cif_t r3, cif_f (by omega)]
              · rw [cif_f r3, cif_t (by omega)]
          · rw [cif_f r1, cif_t (by omega)]) (by
          unfold s_Grid_carries_47
          simp (disch := omega) only [gI_p, gA_p, p_l0, p_l1, p_l2, p_l3, p_l4, p_l5, p_l6, p_l7, p_l8, p_l9, p_l15, p_l81, p_l99, p_l1000, p_l20000, p_add, p_sub, p_mul, p_neg, p_lt, p_le, p_eq, p_div, ck_p, nz_p, tn_p, bd_s, bl_s, bx_0, m9, m7, m81, Int.toNat_natCast, hD.1, hD.2, cif_if]
          rw [cif_t (by omega)])
        obtain ⟨z, key⟩ := key
        simp (disch := omega) only [gI_p, gA_p, p_l0, p_l1, p_l2, p_l3, p_l4, p_l5, p_l6, p_l7, p_l8, p_l9, p_l15, p_l81, p_l99, p_l1000, p_l20000, p_add, p_sub, p_mul, p_neg, p_lt, p_le, p_eq, p_div, ck_p, nz_p, tn_p, bd_s, bl_s, bx_0, m9, m7, m81, Int.toNat_natCast, hD.1, hD.2, cif_if, key]
        rw [cif_f (by omega), cif_0]
        by_cases r : ∃ j : Nat, j < (vA D 2 t).toNat ∧ ¬ cellOk D (vA D 4 t) (a + j) (b + i)
        · rw [cif_t r, cif_t r]
        · rw [cif_f r, cif_f r]
      · unfold s_Grid_carries_35
        simp (disch := omega) only [gI_p, gA_p, p_l0, p_l1, p_l2, p_l3, p_l4, p_l5, p_l6, p_l7, p_l8, p_l9, p_l15, p_l81, p_l99, p_l1000, p_l20000, p_add, p_sub, p_mul, p_neg, p_lt, p_le, p_eq, p_div, ck_p, nz_p, tn_p, bd_s, bl_s, bx_0, m9, m7, m81, Int.toNat_natCast, hD.1, hD.2, cif_if]
        rw [cif_t (by omega)]
      · rw [cv0, bI_c]
        constructor
        · intro n
          refine ⟨q1, q2, fun i hi j hj => Classical.byContradiction fun w => n ⟨i, by omega, j, by omega, w⟩⟩
        · rintro ⟨-, -, n⟩ ⟨i, hi, j, hj, w⟩
          exact w (n i (by omega) j (by omega))
    · rw [cif_f q2, bI_f (fun w => q2 w.2.1)]; rfl
  · rw [cif_t (by omega), bI_f (fun w => q1 w.1)]; rfl
