/-! lines of sight -/
theorem pb {a b : Int} (ha : -20 ≤ a ∧ a ≤ 20) (hb : -20 ≤ b ∧ b ≤ 20) : -400 ≤ a * b ∧ a * b ≤ 400 := by
  have h : (a * b).natAbs = a.natAbs * b.natAbs := Int.natAbs_mul a b
  have h2 : a.natAbs * b.natAbs ≤ 20 * 20 := Nat.mul_le_mul (by omega) (by omega)
  omega
theorem cab {z : Int} : cif (0 ≤ z) z (0 - z) = (z.natAbs : Int) := by
  by_cases h : 0 ≤ z
  · rw [cif_t h]; omega
  · rw [cif_f h]; omega
def crs (dx dy ux uy : Int) : Prop := 2 * ((dx * uy - dy * ux).natAbs : Int) < (dx.natAbs : Int) + (dy.natAbs : Int)
theorem e_isCrossed {x : gx_S} {ux uy dx dy : Int} (h1 : -20 ≤ ux ∧ ux ≤ 20) (h2 : -20 ≤ uy ∧ uy ≤ 20) (h3 : -20 ≤ dx ∧ dx ≤ 20) (h4 : -20 ≤ dy ∧ dy ≤ 20) : f_Floor_isCrossed (pI ux) (pI uy) (pI dx) (pI dy) x = some (bI (crs dx dy ux uy), x) := by
  have p1 := pb h3 h2
  have p2 := pb h4 h1
  unfold f_Floor_isCrossed crs
  have e : ∀ z : Int, -1000 ≤ z → z ≤ 1000 → (if (0 : Int32) ≤ pI z then pI z else 0 - pI z) = pI (z.natAbs : Int) := by
    intro z z0 z1
    simp (disch := omega) only [gI_p, gA_p, p_l0, p_l1, p_l2, p_l3, p_l4, p_l5, p_l6, p_l7, p_l8, p_l9, p_l15, p_l81, p_l99, p_l1000, p_l20000, p_add, p_sub, p_mul, p_neg, p_lt, p_le, p_eq, p_div, ck_p, nz_p, tn_p, bd_s, bl_s, bx_0, m9, m7, m81, Int.toNat_natCast, cif_if, cvp, cab]
  simp only [p_mul, p_sub, p_l2]
  rw [e dx (by omega) (by omega), e dy (by omega) (by omega), e _ (by omega) (by omega), p_mul, p_add, cif_if, p_le (by omega) (by omega) (by omega) (by omega)]
  simp only [p_l0, p_l1, cb, cv0]
  rw [bI_c]
  omega
theorem lp_stop {s : Int32 × Int32 × gx_S → Option ((Int32 × Int32 × gx_S) ⊕ (Nat × Int32 × Int32 × gx_S))} {x : gx_S} (n : Nat) (P : Nat → Prop) (hl : n < 1000) (hi : ∀ (i : Nat) (q : Prop), i < n → s (bI q, pI i, x) = some (cif q (.inl (bI (P i), pI (i + 1), x)) (.inr (0, bI q, pI i, x)))) (he : ∀ q : Prop, s (bI q, pI n, x) = some (.inr (0, bI q, pI n, x))) : ∃ z, gx_it s gx_fuel (pI 1, pI 0, x) = some (0, bI (∀ j, j < n → P j), z, x) := by
  obtain ⟨b, h1, h2, h3, h4⟩ := it_for (f := s) (a := (pI 1, pI 0, x)) (fun i a => a = (bI (∀ j, j < i → P j), pI i, x)) (fun b => b.1 = 0 ∧ b.2.1 = bI (∀ j, j < n → P j) ∧ b.2.2.2 = x) n hl (by rw [bI_t (fun j h => absurd h (Nat.not_lt_zero j))]; rfl) (fun i a hin ha => by
      subst ha
      have h := hi i (∀ j, j < i → P j) hin
      by_cases q : ∀ j, j < i → P j
      · rw [cif_t q] at h
        refine Or.inl ⟨_, h, ?_⟩
        have e : (∀ j, j < i + 1 → P j) ↔ P i := ⟨fun z => z i (by omega), fun z j hj => by
          by_cases w : j = i
          · subst w; exact z
          · exact q j (by omega)⟩
        rw [bI_c e]
        rfl
      · rw [cif_f q] at h
        refine Or.inr ⟨_, h, rfl, ?_, rfl⟩
        show bI (∀ j, j < i → P j) = _
        rw [bI_f q, bI_f (fun z => q (fun j hj => z j (by omega)))]) (fun a ha => by
      subst ha
      exact ⟨_, he _, rfl, rfl, rfl⟩)
  exact ⟨b.2.2.1, by rw [h1, ← h2, ← h3, ← h4]⟩
theorem lp_stop' {s : Int32 × Int32 × gx_S → Option ((Int32 × Int32 × gx_S) ⊕ (Nat × Int32 × Int32 × gx_S))} {x : gx_S} (n : Nat) (P : Nat → Prop) (hl : n < 1000) (hi : ∀ (i : Nat), i < n → s (bI True, pI i, x) = some (.inl (bI (P i), pI (i + 1), x))) (hi2 : ∀ (i : Nat), i < n → s (bI False, pI i, x) = some (.inr (0, bI False, pI i, x))) (he : ∀ q : Prop, s (bI q, pI n, x) = some (.inr (0, bI q, pI n, x))) : ∃ z, gx_it s gx_fuel (pI 1, pI 0, x) = some (0, bI (∀ j, j < n → P j), z, x) := by
  refine lp_stop n P hl (fun i q hin => ?_) he
  by_cases h : q
  · rw [cif_t h, show q = True from propext ⟨fun _ => trivial, fun _ => h⟩]
    exact hi i hin
  · rw [cif_f h, show q = False from propext ⟨h, False.elim⟩]
    exact hi2 i hin
def thr (px py qx qy a b : Int) : Prop := (min px qx ≤ a ∧ a ≤ max px qx ∧ min py qy ≤ b ∧ b ≤ max py qy) ∧ ((px = qx ∧ py = qy) ∨ crs (qx - px) (qy - py) (a - px) (b - py))
theorem c_ex {px py qx qy a b I J : Int} : (2 * qx + 1 - (2 * px + 1)) * (2 * b + 2 * J - (2 * py + 1)) - (2 * qy + 1 - (2 * py + 1)) * (2 * a + 2 * I - (2 * px + 1)) = 4 * ((qx - px) * (b - py) - (qy - py) * (a - px)) + (2 * J - 1) * (2 * (qx - px)) - (2 * I - 1) * (2 * (qy - py)) := by
  grind
def cj (E dx dy : Int) (i : Nat) : Int := 4 * E + (2 * ((i : Int) / 2) - 1) * (2 * dx) - (2 * ((i : Int) - (i : Int) / 2 * 2) - 1) * (2 * dy)
theorem cj_0 (E dx dy : Int) : cj E dx dy 0 = 4 * E - 2 * dx + 2 * dy := by
  unfold cj
  rw [show (((0 : Nat) : Int)) / 2 = 0 from rfl]
  omega
theorem cj_1 (E dx dy : Int) : cj E dx dy 1 = 4 * E - 2 * dx - 2 * dy := by
  unfold cj
  rw [show (((1 : Nat) : Int)) / 2 = 0 from rfl]
  omega
theorem cj_2 (E dx dy : Int) : cj E dx dy 2 = 4 * E + 2 * dx + 2 * dy := by
  unfold cj
  rw [show (((2 : Nat) : Int)) / 2 = 1 from rfl]
  omega
theorem cj_3 (E dx dy : Int) : cj E dx dy 3 = 4 * E + 2 * dx - 2 * dy := by
  unfold cj
  rw [show (((3 : Nat) : Int)) / 2 = 1 from rfl]
  omega
theorem bI_T : bI True = pI 1 := bI_t trivial
theorem bI_F : bI False = pI 0 := bI_f id
theorem r_through1 {x : gx_S} {px py qx qy a b : Int} (hpx : 0 ≤ px ∧ px ≤ 8) (hpy : 0 ≤ py ∧ py ≤ 8) (hqx : 0 ≤ qx ∧ qx ≤ 8) (hqy : 0 ≤ qy ∧ qy ≤ 8) (ha : 0 ≤ a ∧ a ≤ 8) (hb : 0 ≤ b ∧ b ≤ 8) : j_CaseLayoutModel_goesThrough_102 (pI (2 * px + 1)) (pI (2 * py + 1)) (pI (2 * qx + 1)) (pI (2 * qy + 1)) (pI a) (pI b) x = some (bI (crs (qx - px) (qy - py) (a - px) (b - py)), x) := by
  have b1 := pb (a := qx - px) (b := b - py) (by omega) (by omega)
  have b2 := pb (a := qy - py) (b := a - px) (by omega) (by omega)
  have ce : ∀ i : Nat, i < 4 → f_CaseLayoutModel_cross (pI (2 * qx + 1) - pI (2 * px + 1)) (pI (2 * qy + 1) - pI (2 * py + 1)) (((pI 2 * pI a) + (pI 2 * (pI i - pI i / pI 2 * pI 2))) - pI (2 * px + 1)) (((pI 2 * pI b) + (pI 2 * (pI i / pI 2))) - pI (2 * py + 1)) x = some (pI (cj ((qx - px) * (b - py) - (qy - py) * (a - px)) (qx - px) (qy - py) i), x) := by
    intro i hi
    unfold f_CaseLayoutModel_cross cj
    simp (disch := omega) only [p_add, p_sub, p_mul, p_div, c_ex]
  generalize hE : (qx - px) * (b - py) - (qy - py) * (a - px) = E at *
  have hE' : -800 ≤ E ∧ E ≤ 800 := by omega
  obtain ⟨r, h1, h2⟩ := it_for (f := s_CaseLayoutModel_goesThrough_111 (pI (2 * px + 1)) (pI (2 * py + 1)) (pI (2 * qx + 1)) (pI (2 * qy + 1)) (pI a) (pI b)) (a := (pI 0, pI 0, pI 0, x)) (fun i s => s = (bI (∃ j : Nat, j < i ∧ 0 < cj E (qx - px) (qy - py) j), bI (∃ j : Nat, j < i ∧ cj E (qx - px) (qy - py) j < 0), pI i, x)) (fun r => r = (0, bI (∃ j : Nat, j < 4 ∧ 0 < cj E (qx - px) (qy - py) j), bI (∃ j : Nat, j < 4 ∧ cj E (qx - px) (qy - py) j < 0), pI 4, x)) 4 (by omega) (by
      rw [bI_f (by rintro ⟨j, h, -⟩; omega), bI_f (by rintro ⟨j, h, -⟩; omega)]; rfl) (fun i s hi hs => by
      subst hs
      refine Or.inl ⟨_, ?_, rfl⟩
      have c := ce i hi
      have hc : -5000 ≤ cj E (qx - px) (qy - py) i ∧ cj E (qx - px) (qy - py) i ≤ 5000 := by
        have : i = 0 ∨ i = 1 ∨ i = 2 ∨ i = 3 := by omega
        rcases this with rfl | rfl | rfl | rfl <;> simp only [cj_0, cj_1, cj_2, cj_3] <;> omega
      unfold s_CaseLayoutModel_goesThrough_111 j_CaseLayoutModel_goesThrough_164L111 j_CaseLayoutModel_goesThrough_169L111
      simp only [p_l2]
      rw [c]
      have s1 : (∃ j : Nat, j < i + 1 ∧ 0 < cj E (qx - px) (qy - py) j) ↔ (∃ j : Nat, j < i ∧ 0 < cj E (qx - px) (qy - py) j) ∨ 0 < cj E (qx - px) (qy - py) i := by
        constructor
        · rintro ⟨j, h1, h2⟩
          by_cases e : j = i
          · subst e; exact Or.inr h2
          · exact Or.inl ⟨j, by omega, h2⟩
        · rintro (⟨j, h1, h2⟩ | h)
          · exact ⟨j, by omega, h2⟩
          · exact ⟨i, by omega, h⟩
      have s2 : (∃ j : Nat, j < i + 1 ∧ cj E (qx - px) (qy - py) j < 0) ↔ (∃ j : Nat, j < i ∧ cj E (qx - px) (qy - py) j < 0) ∨ cj E (qx - px) (qy - py) i < 0 := by
        constructor
        · rintro ⟨j, h1, h2⟩
          by_cases e : j = i
          · subst e; exact Or.inr h2
          · exact Or.inl ⟨j, by omega, h2⟩
        · rintro (⟨j, h1, h2⟩ | h)
          · exact ⟨j, by omega, h2⟩
          · exact ⟨i, by omega, h⟩
      rw [bI_c s1, bI_c s2]
      generalize (∃ j : Nat, j < i ∧ 0 < cj E (qx - px) (qy - py) j) = u
      generalize (∃ j : Nat, j < i ∧ cj E (qx - px) (qy - py) j < 0) = v
      generalize cj E (qx - px) (qy - py) i = c0 at *
      simp (disch := omega) only [p_l0, p_l1, p_l4, p_add, p_le, bd_s, bI_zp, cif_if, cif_n]
      rw [cif_f (by omega)]
      have n1 : (0 < c0) ↔ ¬ (c0 ≤ 0) := by omega
      have n2 : (c0 < 0) ↔ ¬ (0 ≤ c0) := by omega
      by_cases hu : u <;> by_cases hv : v <;> by_cases hc1 : c0 ≤ 0 <;> by_cases hc2 : 0 ≤ c0 <;> simp only [n1, n2, hu, hv, hc1, hc2, cif_tt, cif_ff, true_or, false_or, or_true, or_false, not_true, not_false_iff, bI_T, bI_F] <;> rfl) (fun s hs => by
      subst hs
      refine ⟨_, ?_, rfl⟩
      unfold s_CaseLayoutModel_goesThrough_111
      simp (disch := omega) only [gI_p, gA_p, p_l0, p_l1, p_l2, p_l3, p_l4, p_l5, p_l6, p_l7, p_l8, p_l9, p_l15, p_l81, p_l99, p_l1000, p_l20000, p_add, p_sub, p_mul, p_neg, p_lt, p_le, p_eq, p_div, ck_p, nz_p, tn_p, bd_s, bl_s, bx_0, m9, m7, m81, Int.toNat_natCast, cif_if]
      rw [cif_t (by omega)]
      rfl)
  unfold j_CaseLayoutModel_goesThrough_102
  simp only [p_l0]
  rw [h1, h2, bl_s]
  simp only [p_l1, cif_if, bI_zp, cif_n, cif_tt, cif_ff, cb, cl, cv0, cv1, cv2, cv3, cv4, cv5, cv6, cv7, nb_b]
  rw [bI_c]
  unfold crs
  rw [hE]
  constructor
  · rintro ⟨⟨i, hi, h3⟩, ⟨j, hj, h4⟩⟩
    have e1 : i = 0 ∨ i = 1 ∨ i = 2 ∨ i = 3 := by omega
    have e2 : j = 0 ∨ j = 1 ∨ j = 2 ∨ j = 3 := by omega
    rcases e1 with rfl | rfl | rfl | rfl <;> rcases e2 with rfl | rfl | rfl | rfl <;> simp only [cj_0, cj_1, cj_2, cj_3] at h3 h4 <;> omega
  · intro h
    refine ⟨Classical.byContradiction fun n => ?_, Classical.byContradiction fun n => ?_⟩
    · have n0 : ¬ 0 < cj E (qx - px) (qy - py) 0 := fun q => n ⟨0, by omega, q⟩
      have n1 : ¬ 0 < cj E (qx - px) (qy - py) 1 := fun q => n ⟨1, by omega, q⟩
      have n2 : ¬ 0 < cj E (qx - px) (qy - py) 2 := fun q => n ⟨2, by omega, q⟩
      have n3 : ¬ 0 < cj E (qx - px) (qy - py) 3 := fun q => n ⟨3, by omega, q⟩
      simp only [cj_0, cj_1, cj_2, cj_3] at n0 n1 n2 n3
      omega
    · have n0 : ¬ cj E (qx - px) (qy - py) 0 < 0 := fun q => n ⟨0, by omega, q⟩
      have n1 : ¬ cj E (qx - px) (qy - py) 1 < 0 := fun q => n ⟨1, by omega, q⟩
      have n2 : ¬ cj E (qx - px) (qy - py) 2 < 0 := fun q => n ⟨2, by omega, q⟩
      have n3 : ¬ cj E (qx - px) (qy - py) 3 < 0 := fun q => n ⟨3, by omega, q⟩
      simp only [cj_0, cj_1, cj_2, cj_3] at n0 n1 n2 n3
      omega
theorem r_through {x : gx_S} {px py qx qy a b : Int} (hpx : 0 ≤ px ∧ px ≤ 8) (hpy : 0 ≤ py ∧ py ≤ 8) (hqx : 0 ≤ qx ∧ qx ≤ 8) (hqy : 0 ≤ qy ∧ qy ≤ 8) (ha : 0 ≤ a ∧ a ≤ 8) (hb : 0 ≤ b ∧ b ≤ 8) : f_CaseLayoutModel_goesThrough (pI (2 * px + 1)) (pI (2 * py + 1)) (pI (2 * qx + 1)) (pI (2 * qy + 1)) (pI a) (pI b) x = some (bI (thr px py qx qy a b), x) := by
  have k := r_through1 (x := x) hpx hpy hqx hqy ha hb
  unfold thr
  generalize crs (qx - px) (qy - py) (a - px) (b - py) = C at *
  unfold f_CaseLayoutModel_goesThrough j_CaseLayoutModel_goesThrough_10 j_CaseLayoutModel_goesThrough_22 j_CaseLayoutModel_goesThrough_34 j_CaseLayoutModel_goesThrough_46
  simp (disch := omega) only [gI_p, gA_p, p_l0, p_l1, p_l2, p_l3, p_l4, p_l5, p_l6, p_l7, p_l8, p_l9, p_l15, p_l81, p_l99, p_l1000, p_l20000, p_add, p_sub, p_mul, p_neg, p_lt, p_le, p_eq, p_div, ck_p, nz_p, tn_p, bd_s, bl_s, bx_0, m9, m7, m81, Int.toNat_natCast, cif_if, bI_zp, cif_n, cif_tt, cif_ff, cb, cl, cv0, cv1, cv2, cv3, cv4, cv5, cv6, cv7, nb_b, k]
  rw [bI_c]
  by_cases q1 : 2 * qx + 1 ≤ 2 * px + 1 <;> by_cases q2 : 2 * qy + 1 ≤ 2 * py + 1 <;> by_cases hC : C <;> simp only [q1, q2, hC, true_or, false_or, or_true, or_false, true_and, false_and, and_true, and_false, not_true, not_false_iff] <;> omega
