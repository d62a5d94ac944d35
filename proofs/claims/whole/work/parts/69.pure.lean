/-! the spots are listed -/
def LSp (D : gx_S) (t : Nat) (x : gx_S) (k : Nat) (y : gx_S) : Prop := fr [] [18] x y ∧ (∀ k', k' < k → fitk D t k' → vA y 18 (81 * (t : Int) + (cf D t k' : Nat)).toNat = 9 * kbD D k' + kaD D k') ∧ (∀ j : Nat, (j < 81 * t ∨ 81 * t + 81 ≤ j) → vA y 18 j = vA x 18 j)
theorem e_list18 {D x : gx_S} (hD : isD D x) (hg : goodD D) {t : Nat} (ht : (t : Int) < vI D 3) {b : Nat} (hb : (b : Int) < vI D 1) {y0 : gx_S} (hL : LSp D t x (b * (vI D 0).toNat) y0) : ∃ z y, gx_it (s_Search_listSpots_18 (pI t) (pI b)) gx_fuel (pI (cf D t (b * (vI D 0).toNat) : Nat), pI 0, y0) = some (0, pI (cf D t ((b + 1) * (vI D 0).toNat) : Nat), z, y) ∧ LSp D t x ((b + 1) * (vI D 0).toNat) y := by
  have g := hg.1
  unfold goodG at g
  obtain ⟨r, h1, h2⟩ := it_for (f := s_Search_listSpots_18 (pI t) (pI b)) (a := (pI (cf D t (b * (vI D 0).toNat) : Nat), pI 0, y0)) (fun a s => ∃ y, s = (pI (cf D t (b * (vI D 0).toNat + a) : Nat), pI a, y) ∧ LSp D t x (b * (vI D 0).toNat + a) y) (fun r => ∃ y, r = (0, pI (cf D t ((b + 1) * (vI D 0).toNat) : Nat), pI (vI D 0).toNat, y) ∧ LSp D t x ((b + 1) * (vI D 0).toNat) y) (vI D 0).toNat (by omega) ⟨y0, rfl, hL⟩ (fun a s ha hs => by
      obtain ⟨y, rfl, hl⟩ := hs
      refine Or.inl ?_
      have hD' := fr_D hl.1 hD (by decide) (by decide)
      have kk : ((b * (vI D 0).toNat + a : Nat) : Int) = (b : Int) * vI D 0 + a := by
        rw [Int.natCast_add, Int.natCast_mul, Int.toNat_of_nonneg (by omega)]
      have d := dmi (i := b) (j := a) (w := vI D 0) (by omega) (by omega)
      have ka : kaD D (b * (vI D 0).toNat + a) = a := by unfold kaD; rw [kk]; exact d.2
      have kb : kbD D (b * (vI D 0).toNat + a) = b := by unfold kbD; rw [kk]; exact d.1
      have lt := mlt (i := b) (j := a) (w := vI D 0) (h := vI D 1) (by omega) (by omega) (by omega)
      have m1 := mb (w := vI D 0) (h := vI D 1) (by omega) (by omega)
      rw [← kk] at lt
      have cl := cf_le D t (b * (vI D 0).toNat + a)
      have hin : inG D a b := by unfold inG; omega
      have e := e_carries hD' hg ht hin
      have hfk : fitk D t (b * (vI D 0).toNat + a) ↔ fits D t a b := by unfold fitk; rw [ka, kb]
      have c1 : cf D t (b * (vI D 0).toNat + (a + 1)) = cf D t (b * (vI D 0).toNat + a) + cif (fitk D t (b * (vI D 0).toNat + a)) 1 0 := rfl
      rw [cif_c hfk] at c1
      generalize hK : b * (vI D 0).toNat + a = K at *
      have hK1 : b * (vI D 0).toNat + (a + 1) = K + 1 := by omega
      rw [hK1] at c1 ⊢
      unfold s_Search_listSpots_18
      simp (disch := omega) only [gI_p, gA_p, hD'.1, hD'.2, p_le, ck_p, tn_p, Int.toNat_natCast, e, bd_s, p_l0, bI_zp, cif_if, cif_n, e_cellOf, p_l81, p_mul, p_add, m81, p_l1]
      rw [cif_f (by omega)]
      by_cases q : fits D t a b
      · rw [cif_t q] at c1
        rw [cif_t q]
        refine ⟨_, rfl, gx_sA y 18 (81 * (t : Int) + (cf D t K : Nat)).toNat (pI (9 * b + a)), ?_, fr_tr hl.1 (fr_sA _ _ (by decide)), fun k' hk' hF => ?_, fun j hj => ?_⟩
        · rw [c1]; rfl
        · by_cases e2 : k' = K
          · subst e2
            rw [vA_Ae, pI_ti (by omega) (by omega), ka, kb]
          · have c2 := cf_mo D t (k' + 1) (K - (k' + 1))
            rw [show k' + 1 + (K - (k' + 1)) = K by omega] at c2
            have c3 : cf D t (k' + 1) = cf D t k' + 1 := by
              show cf D t k' + cif (fitk D t k') 1 0 = _
              rw [cif_t hF]
            rw [vA_Ai _ _ _ (by omega)]
            exact hl.2.1 k' (by omega) hF
        · rw [vA_Ai _ _ _ (by omega)]
          exact hl.2.2 j hj
      · rw [cif_f q] at c1
        rw [cif_f q]
        refine ⟨_, rfl, y, ?_, hl.1, fun k' hk' hF => ?_, hl.2.2⟩
        · rw [c1]; rfl
        · by_cases e2 : k' = K
          · subst e2; exact absurd (hfk.mp hF) q
          · exact hl.2.1 k' (by omega) hF) (fun s hs => by
      obtain ⟨y, rfl, hl⟩ := hs
      have hD' := fr_D hl.1 hD (by decide) (by decide)
      have e : (b + 1) * (vI D 0).toNat = b * (vI D 0).toNat + (vI D 0).toNat := by rw [Nat.add_mul, Nat.one_mul]
      rw [e]
      refine ⟨_, ?_, y, rfl, hl⟩
      unfold s_Search_listSpots_18
      simp (disch := omega) only [gI_p, hD'.1, p_le, cif_if]
      rw [cif_t (by omega)])
  obtain ⟨y, e, hl⟩ := h2
  exact ⟨pI (vI D 0).toNat, y, by rw [h1, e], hl⟩
theorem e_list {D x : gx_S} (hD : isD D x) (hg : goodD D) {t : Nat} (ht : (t : Int) < vI D 3) : ∃ y, f_Search_listSpots (pI t) x = some (pI 0, y) ∧ fr [] [18, 19] x y ∧ vA y 19 t = (cf D t (vI D 0 * vI D 1).toNat : Nat) ∧ (∀ k', k' < (vI D 0 * vI D 1).toNat → fitk D t k' → vA y 18 (81 * (t : Int) + (cf D t k' : Nat)).toNat = 9 * kbD D k' + kaD D k') ∧ (∀ j : Nat, (j < 81 * t ∨ 81 * t + 81 ≤ j) → vA y 18 j = vA x 18 j) ∧ (∀ j, j ≠ t → vA y 19 j = vA x 19 j) := by
  have g := hg.1
  unfold goodG at g
  have m1 := mb (w := vI D 0) (h := vI D 1) (by omega) (by omega)
  have hwh : (vI D 1).toNat * (vI D 0).toNat = (vI D 0 * vI D 1).toNat := by
    have : (((vI D 1).toNat * (vI D 0).toNat : Nat) : Int) = vI D 0 * vI D 1 := by
      rw [Int.natCast_mul, Int.toNat_of_nonneg (by omega), Int.toNat_of_nonneg (by omega), Int.mul_comm]
    omega
  obtain ⟨r, h1, h2⟩ := it_for (f := s_Search_listSpots_4 (pI t)) (a := (pI 0, pI 0, x)) (fun b s => ∃ y, s = (pI (cf D t (b * (vI D 0).toNat) : Nat), pI b, y) ∧ LSp D t x (b * (vI D 0).toNat) y) (fun r => ∃ y, r = (0, pI (cf D t (vI D 0 * vI D 1).toNat : Nat), pI (vI D 1).toNat, y) ∧ LSp D t x (vI D 0 * vI D 1).toNat y) (vI D 1).toNat (by omega) ⟨x, by rw [Nat.zero_mul]; rfl, fr_rf, fun k' hk' => by rw [Nat.zero_mul] at hk'; omega, fun _ _ => rfl⟩ (fun b s hb hs => by
      obtain ⟨y, rfl, hl⟩ := hs
      have hD' := fr_D hl.1 hD (by decide) (by decide)
      obtain ⟨z, y', k1, k2⟩ := e_list18 hD hg ht (b := b) (by omega) hl
      refine Or.inl ⟨_, ?_, y', rfl, k2⟩
      unfold s_Search_listSpots_4
      simp (disch := omega) only [gI_p, hD'.1, p_le, p_l0, cif_if, k1, bl_s, p_l1, p_add]
      rw [cif_f (by omega)]
      rfl) (fun s hs => by
      obtain ⟨y, rfl, hl⟩ := hs
      have hD' := fr_D hl.1 hD (by decide) (by decide)
      rw [hwh] at hl ⊢
      refine ⟨_, ?_, y, rfl, hl⟩
      unfold s_Search_listSpots_4
      simp (disch := omega) only [gI_p, hD'.1, p_le, cif_if]
      rw [cif_t (by omega)])
  obtain ⟨y, e, hl⟩ := h2
  have cl := cf_le D t (vI D 0 * vI D 1).toNat
  refine ⟨gx_sA y 19 t (pI (cf D t (vI D 0 * vI D 1).toNat : Nat)), ?_, fr_tr (fr_mo hl.1 (by decide) (by decide)) (fr_sA _ _ (by decide)), ?_, ?_, ?_, ?_⟩
  · unfold f_Search_listSpots
    simp only [p_l0, h1, e, bl_s]
    rw [ck_p (by omega) (by omega) (by omega), tn_p (by omega) (by omega), Int.toNat_natCast]
  · rw [vA_Ae, pI_ti (by omega) (by omega)]
  · intro k' hk' hF
    rw [vA_An _ _ _ _ (by decide)]
    exact hl.2.1 k' hk' hF
  · intro j hj
    rw [vA_An _ _ _ _ (by decide)]
    exact hl.2.2 j hj
  · intro j hj
    rw [vA_Ai _ _ _ hj]
    exact hl.1.2.1 19 (by decide) j
theorem e_begin {D x : gx_S} (hD : isD D x) (hg : goodD D) {lim : Int} (hl : 0 ≤ lim ∧ lim ≤ 20000) : ∃ y, f_Search_begin (pI lim) x = some (pI 0, y) ∧ fr [8, 9, 10] [18, 19] x y ∧ vI y 8 = lim ∧ vI y 9 = 0 ∧ vI y 10 = -1 ∧ SP D y := by
  have g := hg.1
  unfold goodG at g
  have f0 : fr [8, 9, 10] [18, 19] x (gx_sI (gx_sI (gx_sI x 9 (pI 0)) 10 (pI (-1))) 8 (pI lim)) := fr_tr (fr_tr (fr_sI _ (by decide)) (fr_sI _ (by decide))) (fr_sI _ (by decide))
  obtain ⟨r, h1, h2, h3, h4, h5, h6⟩ := it_for (f := s_Search_begin_11) (a := (pI 0, gx_sI (gx_sI (gx_sI x 9 (pI 0)) 10 (pI (-1))) 8 (pI lim))) (fun t a => a.1 = pI t ∧ fr [8, 9, 10] [18, 19] x a.2 ∧ vI a.2 8 = lim ∧ vI a.2 9 = 0 ∧ vI a.2 10 = -1 ∧ ∀ t' : Nat, t' < t → vA a.2 19 t' = (cf D t' (vI D 0 * vI D 1).toNat : Nat) ∧ ∀ k, k < (vI D 0 * vI D 1).toNat → fitk D t' k → vA a.2 18 (81 * (t' : Int) + (cf D t' k : Nat)).toNat = 9 * kbD D k + kaD D k) (fun r => fr [8, 9, 10] [18, 19] x r.2.2 ∧ vI r.2.2 8 = lim ∧ vI r.2.2 9 = 0 ∧ vI r.2.2 10 = -1 ∧ SP D r.2.2) (vI D 3).toNat (by omega) ⟨rfl, f0, by
        show vI (gx_sI (gx_sI (gx_sI x 9 (pI 0)) 10 (pI (-1))) 8 (pI lim)) 8 = lim
        rw [vI_I, pI_ti (by omega) (by omega)], by
        show vI (gx_sI (gx_sI (gx_sI x 9 (pI 0)) 10 (pI (-1))) 8 (pI lim)) 9 = 0
        rw [vI_In _ _ (by decide), vI_In _ _ (by decide), vI_I, pI_ti (by omega) (by omega)], by
        show vI (gx_sI (gx_sI (gx_sI x 9 (pI 0)) 10 (pI (-1))) 8 (pI lim)) 10 = -1
        rw [vI_In _ _ (by decide), vI_I, pI_ti (by omega) (by omega)], fun t' h => absurd h (Nat.not_lt_zero t')⟩ (fun t a ht ha => by
      obtain ⟨i0, y⟩ := a
      obtain ⟨rfl, hf, v8, v9, v10, hs⟩ := ha
      have hf : fr [8, 9, 10] [18, 19] x y := hf
      have hs : ∀ t' : Nat, t' < t → vA y 19 t' = (cf D t' (vI D 0 * vI D 1).toNat : Nat) ∧ ∀ k, k < (vI D 0 * vI D 1).toNat → fitk D t' k → vA y 18 (81 * (t' : Int) + (cf D t' k : Nat)).toNat = 9 * kbD D k + kaD D k := hs
      have hD' := fr_D hf hD (by decide) (by decide)
      obtain ⟨y', k1, k2, k3, k4, k5, k6⟩ := e_list hD' hg (t := t) (by omega)
      have m1 := mb (w := vI D 0) (h := vI D 1) (by omega) (by omega)
      refine Or.inl ⟨(pI (t + 1), y'), ?_, rfl, fr_tr hf (fr_mo k2 (by decide) (by decide)), (k2.1 8 (by decide)).trans v8, (k2.1 9 (by decide)).trans v9, (k2.1 10 (by decide)).trans v10, fun t' ht' => ?_⟩
      · unfold s_Search_begin_11
        simp (disch := omega) only [gI_p, hD'.1, p_le, cif_if, k1, bd_s, p_l1, p_add]
        rw [cif_f (by omega)]
      · show vA y' 19 t' = (cf D t' (vI D 0 * vI D 1).toNat : Nat) ∧ ∀ k, k < (vI D 0 * vI D 1).toNat → fitk D t' k → vA y' 18 (81 * (t' : Int) + (cf D t' k : Nat)).toNat = 9 * kbD D k + kaD D k
        by_cases e : t' = t
        · subst e; exact ⟨k3, k4⟩
        · have q := hs t' (by omega)
          refine ⟨by rw [k6 t' e]; exact q.1, fun k hk hF => ?_⟩
          have cl := cf_le D t' k
          rw [k5 _ (by omega)]
          exact q.2 k hk hF) (fun a ha => by
      obtain ⟨i0, y⟩ := a
      obtain ⟨rfl, hf, v8, v9, v10, hs⟩ := ha
      have hf : fr [8, 9, 10] [18, 19] x y := hf
      have hD' := fr_D hf hD (by decide) (by decide)
      refine ⟨(0, pI (vI D 3).toNat, y), ?_, hf, v8, v9, v10, hs⟩
      unfold s_Search_begin_11
      simp (disch := omega) only [gI_p, hD'.1, p_le, cif_if]
      rw [cif_t (by omega)])
  refine ⟨r.2.2, ?_, h2, h3, h4, h5, h6⟩
  unfold f_Search_begin f_Search_forget
  simp only [p_l0, p_l1, p_neg, bd_s, h1, bl_s]
