/-! the component's measure, whole -/
theorem e_meas1 {D x : gx_S} (hD : isD D x) (hg : goodD D) {F : Int → Int → Prop} (hF : ∀ a b, inG D a b → (vA x 11 (9 * b + a).toNat = -1 ↔ F a b)) (hB : BS D F (isEX D) x 0) : ∃ z y, gx_it s_Floor_measure_15 gx_fuel (pI 0, x) = some (0, z, y) ∧ fr [7] [12, 13] x y ∧ BS D F (isEX D) y 0 ∧ EXok D F y (vI D 5).toNat := by
  have g := hg.1
  unfold goodG at g
  obtain ⟨b, h1, h2, h3, h4, h5⟩ := it_for (f := s_Floor_measure_15) (a := (pI 0, x)) (fun i a => a.1 = pI i ∧ fr [7] [12, 13] x a.2 ∧ BS D F (isEX D) a.2 0 ∧ EXok D F a.2 i) (fun b => b.1 = 0 ∧ fr [7] [12, 13] x b.2.2 ∧ BS D F (isEX D) b.2.2 0 ∧ EXok D F b.2.2 (vI D 5).toNat) (vI D 5).toNat (by omega) ⟨rfl, fr_rf, hB, fun e h => by omega⟩ (fun i a hi ha => by
      obtain ⟨i0, y⟩ := a
      obtain ⟨rfl, hf, hb, he⟩ := ha
      have hD' := fr_D hf hD (by decide) (by decide)
      have ge := hg.2.2.2.2.2.2.2.2.1 i (by omega)
      have hF' : ∀ a b, inG D a b → (vA y 11 (9 * b + a).toNat = -1 ↔ F a b) := fun a b hin => by
        have := hf.2.1 11 (by decide) (9 * b + a).toNat
        simp only [] at this
        rw [this]; exact hF a b hin
      obtain ⟨y', k1, k2, k3, k4, k5⟩ := e_reach hD' hg.1 hF' (a := vA D 10 i - 9 * (vA D 10 i / 9)) (b := vA D 10 i / 9) (m := 0) (by omega) (by omega) (by omega) hb hb.1 (fun _ hq => ⟨hq, i, by omega, by omega⟩)
      refine Or.inl ⟨(pI (i + 1), y'), ?_, rfl, fr_tr hf k2, k3, ?_⟩
      · unfold s_Floor_measure_15
        simp (disch := omega) only [gI_p, gA_p, p_l0, p_l1, p_l2, p_l3, p_l4, p_l5, p_l6, p_l7, p_l8, p_l9, p_l15, p_l81, p_l99, p_l1000, p_l20000, p_add, p_sub, p_mul, p_neg, p_lt, p_le, p_eq, p_div, ck_p, nz_p, tn_p, bd_s, bl_s, bx_0, m9, m7, m81, Int.toNat_natCast, hD'.1, hD'.2, cif_if, k1]
        rw [cif_f (by omega)]
      · intro e hel a b hin hc hq
        by_cases ee : e = i
        · subst ee
          have hin' := hin
          unfold inG at hin'
          have e1 : vA D 10 e - 9 * (vA D 10 e / 9) = a := by omega
          have e2 : vA D 10 e / 9 = b := by omega
          rw [e1, e2] at k5
          have := BS_le k3 hin (k5 hin hq)
          show vA y' 12 (9 * b + a).toNat = 0
          omega
        · exact EX_g he k4 e (by omega) a b hin hc hq) (fun a ha => by
      obtain ⟨i0, y⟩ := a
      obtain ⟨rfl, hf, hb, he⟩ := ha
      have hD' := fr_D hf hD (by decide) (by decide)
      refine ⟨(0, pI (vI D 5).toNat, y), ?_, rfl, hf, hb, he⟩
      unfold s_Floor_measure_15
      simp (disch := omega) only [gI_p, gA_p, p_l0, p_l1, p_l2, p_l3, p_l4, p_l5, p_l6, p_l7, p_l8, p_l9, p_l15, p_l81, p_l99, p_l1000, p_l20000, p_add, p_sub, p_mul, p_neg, p_lt, p_le, p_eq, p_div, ck_p, nz_p, tn_p, bd_s, bl_s, bx_0, m9, m7, m81, Int.toNat_natCast, hD'.1, cif_if]
      rw [cif_t (by omega)])
  exact ⟨b.2.1, b.2.2, by rw [h1, ← h2], h3, h4, h5⟩
theorem e_meas2 {D x : gx_S} (hD : isD D x) (hg : goodD D) {F : Int → Int → Prop} (hFi : ∀ a b, F a b → inG D a b) (hF : ∀ a b, inG D a b → (vA x 11 (9 * b + a).toNat = -1 ↔ F a b)) (hB : BS D F (isEX D) x 0) (hE : EXok D F x (vI D 5).toNat) : ∃ z y, gx_it s_Floor_measure_51 gx_fuel (pI 0, x) = some (0, z, y) ∧ fr [7] [12, 13] x y ∧ SD D F (isEX D) (vA y 12) := by
  have g := hg.1
  unfold goodG at g
  obtain ⟨b, h1, h2, h3, h4⟩ := it_for (f := s_Floor_measure_51) (a := (pI 0, x)) (fun i a => a.1 = pI i ∧ fr [7] [12, 13] x a.2 ∧ (i : Int) ≤ vI a.2 7 ∧ (∃ m, BS D F (isEX D) a.2 m) ∧ ((i : Int) < vI a.2 7 → BS D F (isEX D) a.2 (vA a.2 12 (vA a.2 13 i).toNat + 1)) ∧ EXok D F a.2 (vI D 5).toNat ∧ PR D F a.2 i) (fun b => b.1 = 0 ∧ fr [7] [12, 13] x b.2.2 ∧ SD D F (isEX D) (vA b.2.2 12)) 81 (by omega) ⟨rfl, fr_rf, hB.1, ⟨0, hB⟩, fun h => ⟨hB.1, JJ_mo hB.2 (fun j hj => by
        have hj : j < (vI x 7).toNat := hj
        show vA x 12 (vA x 13 j).toNat ≤ vA x 12 (vA x 13 0).toNat + 1
        have := hB.2.2.2.2.2 j hj
        have := JJ_q hB.2 (j := 0) (by omega)
        omega)⟩, hE, fun j hj => by omega⟩ (fun i a hi ha => by
      obtain ⟨i0, y⟩ := a
      obtain ⟨rfl, hf, hc, ⟨m0, hb0⟩, hb, he, hp⟩ := ha
      have hf : fr [7] [12, 13] x y := hf
      have hc : (i : Int) ≤ vI y 7 := hc
      have hb0 : BS D F (isEX D) y m0 := hb0
      have hb : (i : Int) < vI y 7 → BS D F (isEX D) y (vA y 12 (vA y 13 i).toNat + 1) := hb
      have he : EXok D F y (vI D 5).toNat := he
      have hp : PR D F y i := hp
      have l5 := vI_hi y 7
      by_cases q : vI y 7 ≤ i
      · refine Or.inr ⟨(0, pI i, y), ?_, rfl, hf, ?_⟩
        · unfold s_Floor_measure_51
          simp (disch := omega) only [gI_p, gA_p, p_l0, p_l1, p_l2, p_l3, p_l4, p_l5, p_l6, p_l7, p_l8, p_l9, p_l15, p_l81, p_l99, p_l1000, p_l20000, p_add, p_sub, p_mul, p_neg, p_lt, p_le, p_eq, p_div, ck_p, nz_p, tn_p, bd_s, bl_s, bx_0, m9, m7, m81, Int.toNat_natCast, cif_if]
          rw [cif_t (by omega)]
        · have e : (vI y 7).toNat = i := by omega
          exact SD_of hg.1 hFi hb0 (by rw [e]; exact hp) he
      · have hB1 := hb (by omega)
        have hD' := fr_D hf hD (by decide) (by decide)
        have hFq : ∀ w, fr [7] [12, 13] x w → ∀ a b, inG D a b → (vA w 11 (9 * b + a).toNat = -1 ↔ F a b) := fun w hw a b hin => by
          have := hw.2.1 11 (by decide) (9 * b + a).toNat
          rw [this]; exact hF a b hin
        obtain ⟨a, b, k1, k2, k3, k4, k5⟩ := hB1.2.2.1 i (by omega)
        have k1' := k1
        unfold inG at k1'
        rw [k2] at hB1
        generalize hs : vA y 12 (9 * b + a).toNat = s at *
        have hm : (s + 1).toNat = s.toNat + 1 := by omega
        have nn : ∀ a' b', nb a b a' b' → inG D a' b' → F a' b' → near F (isEX D) (s + 1).toNat a' b' := fun a' b' h1 _ h3 => by
          rw [hm]; exact near_nb k5 h1 h3
        obtain ⟨y1, r1, f1, B1, G1, p1⟩ := e_reach hD' hg.1 (hFq y hf) (a := a - 1) (b := b) (m := s + 1) (by omega) (by omega) (by omega) hB1 (by omega) (nn _ _ (Or.inl ⟨rfl, rfl⟩))
        have hf1 := fr_tr hf f1
        have n1 : vI y 7 ≤ vI y1 7 := by have := G1.1; have := B1.1; omega
        obtain ⟨y2, r2, f2, B2, G2, p2⟩ := e_reach (fr_D hf1 hD (by decide) (by decide)) hg.1 (hFq y1 hf1) (a := a + 1) (b := b) (m := s + 1) (by omega) (by omega) (by omega) B1 (by omega) (nn _ _ (Or.inr (Or.inl ⟨rfl, rfl⟩)))
        have hf2 := fr_tr hf1 f2
        have n2 : vI y1 7 ≤ vI y2 7 := by have := G2.1; have := B2.1; omega
        obtain ⟨y3, r3, f3, B3, G3, p3⟩ := e_reach (fr_D hf2 hD (by decide) (by decide)) hg.1 (hFq y2 hf2) (a := a) (b := b - 1) (m := s + 1) (by omega) (by omega) (by omega) B2 (by omega) (nn _ _ (Or.inr (Or.inr (Or.inl ⟨rfl, rfl⟩))))
        have hf3 := fr_tr hf2 f3
        have n3 : vI y2 7 ≤ vI y3 7 := by have := G3.1; have := B3.1; omega
        obtain ⟨y4, r4, f4, B4, G4, p4⟩ := e_reach (fr_D hf3 hD (by decide) (by decide)) hg.1 (hFq y3 hf3) (a := a) (b := b + 1) (m := s + 1) (by omega) (by omega) (by omega) B3 (by omega) (nn _ _ (Or.inr (Or.inr (Or.inr ⟨rfl, rfl⟩))))
        have hf4 := fr_tr hf3 f4
        have n4 : vI y3 7 ≤ vI y4 7 := by have := G4.1; have := B4.1; omega
        have G34 : BG y2 y4 := GG_tr G3 G4
        have G24 : BG y1 y4 := GG_tr G2 G34
        have G14 : BG y y4 := GG_tr G1 G24
        have d1 : (9 * b + a) / 9 = b := by omega
        have d2 : 9 * b + a - 9 * b = a := by omega
        have l0 := vA_lo y 12 (9 * b + a).toNat
        refine Or.inl ⟨(pI (i + 1), y4), ?_, rfl, hf4, ?_, ⟨_, B4⟩, ?_, EX_g he G14, ?_⟩
        · unfold s_Floor_measure_51
          simp (disch := omega) only [gI_p, gA_p, p_l0, p_l1, p_l2, p_l3, p_l4, p_l5, p_l6, p_l7, p_l8, p_l9, p_l15, p_l81, p_l99, p_l1000, p_l20000, p_add, p_sub, p_mul, p_neg, p_lt, p_le, p_eq, p_div, ck_p, nz_p, tn_p, bd_s, bl_s, bx_0, m9, m7, m81, Int.toNat_natCast, cif_if, k2, d1, d2, hs, r1, r2, r3, r4]
          rw [cif_f (by omega), cif_f (by omega)]
        · show ((i + 1 : Nat) : Int) ≤ vI y4 7
          omega
        · intro hlt
          have hlt : ((i + 1 : Nat) : Int) < vI y4 7 := hlt
          refine ⟨B4.1, JJ_mo B4.2 (fun j hj => ?_)⟩
          have q1 := B4.2.2.2.2.2 j hj
          have q2 := B4.2.2.2.2.1 i (i + 1) (by omega) (by omega)
          have q3 : vA y4 13 i = vA y 13 i := G14.2.2 i (by omega)
          rw [q3, k2, G14.2.1 (9 * b + a).toNat (by omega), hs] at q2
          show vA y4 12 (vA y4 13 j).toNat ≤ vA y4 12 (vA y4 13 (i + 1)).toNat + 1
          omega
        · intro j hj a1 b1 hin1 hq1 a' b' hnb hin' hF'
          by_cases ej : j = i
          · subst ej
            have hq1 : vA y4 13 j = 9 * b1 + a1 := hq1
            rw [G14.2.2 j (by omega), k2] at hq1
            unfold inG at hin1
            have e1 : a1 = a := by omega
            have e2 : b1 = b := by omega
            subst e1 e2
            show vA y4 12 (9 * b' + a').toNat ≠ -1 ∧ vA y4 12 (9 * b' + a').toNat ≤ vA y4 12 (9 * b1 + a1).toNat + 1
            have ne : vA y4 12 (9 * b' + a').toNat ≠ -1 := by
              rcases hnb with ⟨rfl, rfl⟩ | ⟨rfl, rfl⟩ | ⟨rfl, rfl⟩ | ⟨rfl, rfl⟩
              · have := p1 hin' hF'; rw [G24.2.1 _ this]; exact this
              · have := p2 hin' hF'; rw [G34.2.1 _ this]; exact this
              · have := p3 hin' hF'; rw [G4.2.1 _ this]; exact this
              · exact p4 hin' hF'
            have := BS_le B4 hin' ne
            rw [G14.2.1 (9 * b1 + a1).toNat (by omega), hs]
            exact ⟨ne, this.1⟩
          · exact PR_g hp hb0 (by omega) G14 j (by omega) a1 b1 hin1 hq1 a' b' hnb hin' hF') (fun a ha => by
      obtain ⟨i0, y⟩ := a
      obtain ⟨rfl, hf, hc, ⟨m0, hb0⟩, hb, he, hp⟩ := ha
      have hc : ((81 : Nat) : Int) ≤ vI y 7 := hc
      have hb0 : BS D F (isEX D) y m0 := hb0
      have hn81 : (vI y 7).toNat ≤ 81 := by rw [hb0.2.1]; exact cn_le _ _ _
      refine ⟨(0, pI 81, y), ?_, rfl, hf, ?_⟩
      · unfold s_Floor_measure_51
        simp (disch := omega) only [gI_p, gA_p, p_l0, p_l1, p_l2, p_l3, p_l4, p_l5, p_l6, p_l7, p_l8, p_l9, p_l15, p_l81, p_l99, p_l1000, p_l20000, p_add, p_sub, p_mul, p_neg, p_lt, p_le, p_eq, p_div, ck_p, nz_p, tn_p, bd_s, bl_s, bx_0, m9, m7, m81, Int.toNat_natCast, cif_if]
        rw [cif_t (by omega)]
        rfl
      · have e : (vI y 7).toNat = 81 := by omega
        exact SD_of hg.1 hFi hb0 (by rw [e]; exact hp) he)
  exact ⟨b.2.1, b.2.2, by rw [h1, ← h2], h3, h4⟩
theorem e_measure {D x : gx_S} (hD : isD D x) (hg : goodD D) {F : Int → Int → Prop} (hFi : ∀ a b, F a b → inG D a b) (hF : ∀ a b, inG D a b → (vA x 11 (9 * b + a).toNat = -1 ↔ F a b)) : ∃ y, f_Floor_measure x = some (pI 0, y) ∧ fr [7] [12, 13] x y ∧ SD D F (isEX D) (vA y 12) := by
  have g := hg.1
  unfold goodG at g
  obtain ⟨x1, h1, h2, h3⟩ := e_fill (x := x)
  have f2 : fr [7] [12, 13] x (gx_sI x1 7 (pI 0)) := fr_tr (fr_mo h2 (by decide) (by decide)) (fr_sI _ (by decide))
  have v7 : vI (gx_sI x1 7 (pI 0)) 7 = 0 := by rw [vI_I, pI_ti (by omega) (by omega)]
  have B0 : BS D F (isEX D) (gx_sI x1 7 (pI 0)) 0 := by
    refine ⟨by omega, ?_⟩
    rw [v7]
    refine ⟨?_, fun j hj => absurd hj (Nat.not_lt_zero j), fun a b hin hs => ?_, fun j k _ hk => absurd hk (Nat.not_lt_zero k), fun j hj => absurd hj (Nat.not_lt_zero j)⟩
    · exact (cn_zero (fun j hj => h3 j hj)).symm
    · unfold inG at hin
      exact absurd (h3 _ (by omega)) hs
  have hFq : ∀ w, fr [7] [12, 13] x w → ∀ a b, inG D a b → (vA w 11 (9 * b + a).toNat = -1 ↔ F a b) := fun w hw a b hin => by
    have := hw.2.1 11 (by decide) (9 * b + a).toNat
    rw [this]; exact hF a b hin
  obtain ⟨z1, y1, k1, k2, k3, k4⟩ := e_meas1 (fr_D f2 hD (by decide) (by decide)) hg (hFq _ f2) B0
  have f3 := fr_tr f2 k2
  obtain ⟨z2, y2, m1, m2, m3⟩ := e_meas2 (fr_D f3 hD (by decide) (by decide)) hg hFi (hFq _ f3) k3 k4
  refine ⟨y2, ?_, fr_tr f3 m2, m3⟩
  unfold f_Floor_measure
  simp only [p_l0, p_l1, p_neg, h1, bd_s, k1, bl_s, m1]
