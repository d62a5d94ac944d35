/-! laying the things -/
theorem e_cov1 {D x : gx_S} (hD : isD D x) (hg : goodD D) {X Y : Nat → Int} {t : Nat} (ht : (t : Int) < vI D 3) (hp : 0 ≤ X t ∧ X t ≤ 8 ∧ 0 ≤ Y t ∧ Y t ≤ 8) {r : Int} (hr : 0 ≤ r ∧ r ≤ 20) : ∃ z x', gx_it (s_Floor_cover_39 (pI t) (pI (X t)) (pI (Y t)) (pI r)) gx_fuel (pI (X t), x) = some (0, z, x') ∧ fr [] [11] x x' ∧ ∀ a b, inG D a b → vA x' 11 (9 * b + a).toNat = cif (b = r ∧ X t ≤ a ∧ a < X t + vA D 2 t) (t : Int) (vA x 11 (9 * b + a).toNat) := by
  have g := hg.1
  unfold goodG at g
  have z1 := hg.2.2.1 t ht
  obtain ⟨b, h1, h2, h3, h4⟩ := it_for (f := s_Floor_cover_39 (pI t) (pI (X t)) (pI (Y t)) (pI r)) (a := (pI (X t), x)) (fun i a => a.1 = pI (X t + i) ∧ fr [] [11] x a.2 ∧ ∀ c b, inG D c b → vA a.2 11 (9 * b + c).toNat = cif (b = r ∧ X t ≤ c ∧ c < X t + i) (t : Int) (vA x 11 (9 * b + c).toNat)) (fun q => q.1 = 0 ∧ fr [] [11] x q.2.2 ∧ ∀ c b, inG D c b → vA q.2.2 11 (9 * b + c).toNat = cif (b = r ∧ X t ≤ c ∧ c < X t + vA D 2 t) (t : Int) (vA x 11 (9 * b + c).toNat)) (vA D 2 t).toNat (by omega) ⟨by show pI (X t) = pI (X t + ((0 : Nat) : Int)); rw [show X t + ((0 : Nat) : Int) = X t by omega], fr_rf, fun c b hc => by rw [cif_f (by omega)]⟩ (fun i a hi ha => by
      obtain ⟨i0, y⟩ := a
      obtain ⟨rfl, hf, hj⟩ := ha
      have hD' := fr_D hf hD (by decide) (by decide)
      refine Or.inl ?_
      unfold s_Floor_cover_39
      simp (disch := omega) only [gI_p, gA_p, p_l0, p_l1, p_l2, p_l3, p_l4, p_l5, p_l6, p_l7, p_l8, p_l9, p_l15, p_l81, p_l99, p_l1000, p_l20000, p_add, p_sub, p_mul, p_neg, p_lt, p_le, p_eq, p_div, ck_p, nz_p, tn_p, bd_s, bl_s, bx_0, m9, m7, m81, Int.toNat_natCast, hD'.2, e_holds hD', e_cellOf, bI_zp, cif_if, cif_n]
      rw [cif_f (by omega)]
      have e1 : X t + ((i + 1 : Nat) : Int) = X t + i + 1 := by omega
      by_cases q : inG D (X t + i) r
      · have q' := q
        unfold inG at q'
        refine ⟨(pI (X t + i + 1), gx_sA y 11 (9 * r + (X t + i)).toNat (pI t)), ?_, by rw [e1], fr_tr hf (fr_sA _ _ (by decide)), fun c b h => ?_⟩
        · rw [cif_t q, ck_p (by omega) (by omega) (by omega)]
        · have h' := h
          unfold inG at h'
          rw [e1]
          by_cases e : b = r ∧ c = X t + i
          · obtain ⟨rfl, rfl⟩ := e
            rw [vA_Ae, pI_ti (by omega) (by omega), cif_t (by omega)]
          · have := hj c b h
            rw [vA_Ai _ _ _ (by omega)]
            refine this.trans (cif_c ?_)
            omega
      · refine ⟨(pI (X t + i + 1), y), by rw [cif_f q], by rw [e1], hf, fun c b h => ?_⟩
        unfold inG at q
        have h' := h
        unfold inG at h'
        rw [e1]
        refine (hj c b h).trans (cif_c ?_)
        omega) (fun a ha => by
      obtain ⟨i0, y⟩ := a
      obtain ⟨rfl, hf, hj⟩ := ha
      have hD' := fr_D hf hD (by decide) (by decide)
      have e2 : (((vA D 2 t).toNat : Nat) : Int) = vA D 2 t := by omega
      rw [e2] at hj
      refine ⟨(0, pI (X t + vA D 2 t), y), ?_, rfl, hf, hj⟩
      unfold s_Floor_cover_39
      rw [e2]
      simp (disch := omega) only [gI_p, gA_p, p_l0, p_l1, p_l2, p_l3, p_l4, p_l5, p_l6, p_l7, p_l8, p_l9, p_l15, p_l81, p_l99, p_l1000, p_l20000, p_add, p_sub, p_mul, p_neg, p_lt, p_le, p_eq, p_div, ck_p, nz_p, tn_p, bd_s, bl_s, bx_0, m9, m7, m81, Int.toNat_natCast, hD'.2, cif_if]
      rw [cif_t (by omega)])
  exact ⟨b.2.1, b.2.2, by rw [h1, ← h2], h3, h4⟩
theorem e_cover {D x : gx_S} (hD : isD D x) (hg : goodD D) {X Y : Nat → Int} {t : Nat} (ht : (t : Int) < vI D 3) (hX : vA x 14 t = X t ∧ vA x 15 t = Y t) (hp : 0 ≤ X t ∧ X t ≤ 8 ∧ 0 ≤ Y t ∧ Y t ≤ 8) : ∃ x', f_Floor_cover (pI t) x = some (pI 0, x') ∧ fr [] [11] x x' ∧ ∀ a b, inG D a b → vA x' 11 (9 * b + a).toNat = cif (cov D X Y t a b) (t : Int) (vA x 11 (9 * b + a).toNat) := by
  have g := hg.1
  unfold goodG at g
  have z1 := hg.2.2.1 t ht
  obtain ⟨b, h1, h2, h3, h4⟩ := it_for (f := s_Floor_cover_19 (pI t) (pI (X t)) (pI (Y t))) (a := (pI (Y t), x)) (fun i a => a.1 = pI (Y t + i) ∧ fr [] [11] x a.2 ∧ ∀ c b, inG D c b → vA a.2 11 (9 * b + c).toNat = cif ((Y t ≤ b ∧ b < Y t + i) ∧ X t ≤ c ∧ c < X t + vA D 2 t) (t : Int) (vA x 11 (9 * b + c).toNat)) (fun q => q.1 = 0 ∧ fr [] [11] x q.2.2 ∧ ∀ c b, inG D c b → vA q.2.2 11 (9 * b + c).toNat = cif ((Y t ≤ b ∧ b < Y t + vA D 3 t) ∧ X t ≤ c ∧ c < X t + vA D 2 t) (t : Int) (vA x 11 (9 * b + c).toNat)) (vA D 3 t).toNat (by omega) ⟨by show pI (Y t) = pI (Y t + ((0 : Nat) : Int)); rw [show Y t + ((0 : Nat) : Int) = Y t by omega], fr_rf, fun c b hc => by rw [cif_f (by omega)]⟩ (fun i a hi ha => by
      obtain ⟨i0, y⟩ := a
      obtain ⟨rfl, hf, hj⟩ := ha
      have hD' := fr_D hf hD (by decide) (by decide)
      refine Or.inl ?_
      obtain ⟨z, y', k1, k2, k3⟩ := e_cov1 hD' hg ht hp (r := Y t + i) (by omega)
      unfold s_Floor_cover_19
      simp (disch := omega) only [gI_p, gA_p, p_l0, p_l1, p_l2, p_l3, p_l4, p_l5, p_l6, p_l7, p_l8, p_l9, p_l15, p_l81, p_l99, p_l1000, p_l20000, p_add, p_sub, p_mul, p_neg, p_lt, p_le, p_eq, p_div, ck_p, nz_p, tn_p, bd_s, bl_s, bx_0, m9, m7, m81, Int.toNat_natCast, hD'.2, cif_if, k1]
      rw [cif_f (by omega)]
      have e1 : Y t + ((i + 1 : Nat) : Int) = Y t + i + 1 := by omega
      refine ⟨(pI (Y t + i + 1), y'), rfl, by rw [e1], fr_tr hf k2, fun c b h => ?_⟩
      rw [e1]
      refine (k3 c b h).trans ?_
      rw [hj c b h]
      by_cases q : b = Y t + i ∧ X t ≤ c ∧ c < X t + vA D 2 t
      · rw [cif_t q, cif_t (by omega)]
      · rw [cif_f q]
        refine cif_c ?_
        omega) (fun a ha => by
      obtain ⟨i0, y⟩ := a
      obtain ⟨rfl, hf, hj⟩ := ha
      have hD' := fr_D hf hD (by decide) (by decide)
      have e2 : (((vA D 3 t).toNat : Nat) : Int) = vA D 3 t := by omega
      rw [e2] at hj
      refine ⟨(0, pI (Y t + vA D 3 t), y), ?_, rfl, hf, hj⟩
      unfold s_Floor_cover_19
      rw [e2]
      simp (disch := omega) only [gI_p, gA_p, p_l0, p_l1, p_l2, p_l3, p_l4, p_l5, p_l6, p_l7, p_l8, p_l9, p_l15, p_l81, p_l99, p_l1000, p_l20000, p_add, p_sub, p_mul, p_neg, p_lt, p_le, p_eq, p_div, ck_p, nz_p, tn_p, bd_s, bl_s, bx_0, m9, m7, m81, Int.toNat_natCast, hD'.2, cif_if]
      rw [cif_t (by omega)])
  refine ⟨b.2.2, ?_, h3, fun c q hc => (h4 c q hc).trans (cif_c ?_)⟩
  · unfold f_Floor_cover
    simp (disch := omega) only [gI_p, gA_p, p_l0, p_l1, p_l2, p_l3, p_l4, p_l5, p_l6, p_l7, p_l8, p_l9, p_l15, p_l81, p_l99, p_l1000, p_l20000, p_add, p_sub, p_mul, p_neg, p_lt, p_le, p_eq, p_div, ck_p, nz_p, tn_p, bd_s, bl_s, bx_0, m9, m7, m81, Int.toNat_natCast, hX.1, hX.2, h1]
  · unfold cov
    omega
theorem e_lay {D x : gx_S} (hD : isD D x) (hg : goodD D) {X Y : Nat → Int} (hX : ∀ i, i < (vI D 3).toNat → vA x 14 i = X i ∧ vA x 15 i = Y i) (hp : plc X Y (vI D 3).toNat) : ∃ x', f_Floor_lay x = some (pI 0, x') ∧ fr [] [11] x x' ∧ ∀ a b, inG D a b → vA x' 11 (9 * b + a).toNat = own D X Y (vI D 3).toNat a b := by
  have g := hg.1
  unfold goodG at g
  obtain ⟨z, y, h1, h2, h3⟩ := e_lay1 hD
  obtain ⟨b, k1, k2, k3⟩ := it_for (f := s_Floor_lay_40) (a := (pI 0, y)) (fun i a => a.1 = pI i ∧ fr [] [11] x a.2 ∧ ∀ c b, inG D c b → vA a.2 11 (9 * b + c).toNat = own D X Y i c b) (fun q => fr [] [11] x q.2.2 ∧ ∀ c b, inG D c b → vA q.2.2 11 (9 * b + c).toNat = own D X Y (vI D 3).toNat c b) (vI D 3).toNat (by omega) ⟨rfl, h2, fun c b hc => by
      have hc' := hc
      unfold inG at hc'
      exact h3 _ (by omega)⟩ (fun i a hi ha => by
      obtain ⟨i0, w⟩ := a
      obtain ⟨rfl, hf, hj⟩ := ha
      have hD' := fr_D hf hD (by decide) (by decide)
      refine Or.inl ?_
      obtain ⟨y', m1, m2, m3⟩ := e_cover hD' hg (X := X) (Y := Y) (t := i) (by omega) (by
        have q1 := hf.2.1 14 (by decide) i
        have q2 := hf.2.1 15 (by decide) i
        rw [q1, q2]
        exact hX i hi) (hp i hi)
      unfold s_Floor_lay_40
      simp (disch := omega) only [gI_p, gA_p, p_l0, p_l1, p_l2, p_l3, p_l4, p_l5, p_l6, p_l7, p_l8, p_l9, p_l15, p_l81, p_l99, p_l1000, p_l20000, p_add, p_sub, p_mul, p_neg, p_lt, p_le, p_eq, p_div, ck_p, nz_p, tn_p, bd_s, bl_s, bx_0, m9, m7, m81, Int.toNat_natCast, hD'.1, cif_if, m1]
      rw [cif_f (by omega)]
      refine ⟨(pI (i + 1), y'), rfl, rfl, fr_tr hf m2, fun c b h => ?_⟩
      refine (m3 c b h).trans ?_
      rw [hj c b h]
      rfl) (fun a ha => by
      obtain ⟨i0, w⟩ := a
      obtain ⟨rfl, hf, hj⟩ := ha
      have hD' := fr_D hf hD (by decide) (by decide)
      refine ⟨(0, pI (vI D 3).toNat, w), ?_, hf, hj⟩
      unfold s_Floor_lay_40
      simp (disch := omega) only [gI_p, gA_p, p_l0, p_l1, p_l2, p_l3, p_l4, p_l5, p_l6, p_l7, p_l8, p_l9, p_l15, p_l81, p_l99, p_l1000, p_l20000, p_add, p_sub, p_mul, p_neg, p_lt, p_le, p_eq, p_div, ck_p, nz_p, tn_p, bd_s, bl_s, bx_0, m9, m7, m81, Int.toNat_natCast, hD'.1, cif_if]
      rw [cif_t (by omega)])
  refine ⟨b.2.2, ?_, k2, k3⟩
  unfold f_Floor_lay
  simp only [p_l0, h1, bl_s, k1]
theorem e_cov1_2 {D x : gx_S} (hD : isD D x) (hg : goodD D) {X Y : Nat → Int} {t : Nat} (ht : (t : Int) < vI D 3) (hp : 0 ≤ X t ∧ X t ≤ 8 ∧ 0 ≤ Y t ∧ Y t ≤ 8) {r : Int} (hr : 0 ≤ r ∧ r ≤ 20) : ∃ z x', gx_it (s_Floor_cover_2_39 (pI t) (pI (X t)) (pI (Y t)) (pI r)) gx_fuel (pI (X t), x) = some (0, z, x') ∧ fr [] [11] x x' ∧ ∀ a b, inG D a b → vA x' 11 (9 * b + a).toNat = cif (b = r ∧ X t ≤ a ∧ a < X t + vA D 2 t) (t : Int) (vA x 11 (9 * b + a).toNat) := by
  have g := hg.1
  unfold goodG at g
  have z1 := hg.2.2.1 t ht
  obtain ⟨b, h1, h2, h3, h4⟩ := it_for (f := s_Floor_cover_2_39 (pI t) (pI (X t)) (pI (Y t)) (pI r)) (a := (pI (X t), x)) (fun i a => a.1 = pI (X t + i) ∧ fr [] [11] x a.2 ∧ ∀ c b, inG D c b → vA a.2 11 (9 * b + c).toNat = cif (b = r ∧ X t ≤ c ∧ c < X t + i) (t : Int) (vA x 11 (9 * b + c).toNat)) (fun q => q.1 = 0 ∧ fr [] [11] x q.2.2 ∧ ∀ c b, inG D c b → vA q.2.2 11 (9 * b + c).toNat = cif (b = r ∧ X t ≤ c ∧ c < X t + vA D 2 t) (t : Int) (vA x 11 (9 * b + c).toNat)) (vA D 2 t).toNat (by omega) ⟨by show pI (X t) = pI (X t + ((0 : Nat) : Int)); rw [show X t + ((0 : Nat) : Int) = X t by omega], fr_rf, fun c b hc => by rw [cif_f (by omega)]⟩ (fun i a hi ha => by
      obtain ⟨i0, y⟩ := a
      obtain ⟨rfl, hf, hj⟩ := ha
      have hD' := fr_D hf hD (by decide) (by decide)
      refine Or.inl ?_
      unfold s_Floor_cover_2_39
      simp (disch := omega) only [gI_p, gA_p, p_l0, p_l1, p_l2, p_l3, p_l4, p_l5, p_l6, p_l7, p_l8, p_l9, p_l15, p_l81, p_l99, p_l1000, p_l20000, p_add, p_sub, p_mul, p_neg, p_lt, p_le, p_eq, p_div, ck_p, nz_p, tn_p, bd_s, bl_s, bx_0, m9, m7, m81, Int.toNat_natCast, hD'.2, e_holds hD', e_cellOf, bI_zp, cif_if, cif_n]
      rw [cif_f (by omega)]
      have e1 : X t + ((i + 1 : Nat) : Int) = X t + i + 1 := by omega
      by_cases q : inG D (X t + i) r
      · have q' := q
        unfold inG at q'
        refine ⟨(pI (X t + i + 1), gx_sA y 11 (9 * r + (X t + i)).toNat (pI t)), ?_, by rw [e1], fr_tr hf (fr_sA _ _ (by decide)), fun c b h => ?_⟩
        · rw [cif_t q, ck_p (by omega) (by omega) (by omega)]
        · have h' := h
          unfold inG at h'
          rw [e1]
          by_cases e : b = r ∧ c = X t + i
          · obtain ⟨rfl, rfl⟩ := e
            rw [vA_Ae, pI_ti (by omega) (by omega), cif_t (by omega)]
          · have := hj c b h
            rw [vA_Ai _ _ _ (by omega)]
            refine this.trans (cif_c ?_)
            omega
      · refine ⟨(pI (X t + i + 1), y), by rw [cif_f q], by rw [e1], hf, fun c b h => ?_⟩
        unfold inG at q
        have h' := h
        unfold inG at h'
        rw [e1]
        refine (hj c b h).trans (cif_c ?_)
        omega) (fun a ha => by
      obtain ⟨i0, y⟩ := a
      obtain ⟨rfl, hf, hj⟩ := ha
      have hD' := fr_D hf hD (by decide) (by decide)
      have e2 : (((vA D 2 t).toNat : Nat) : Int) = vA D 2 t := by omega
      rw [e2] at hj
      refine ⟨(0, pI (X t + vA D 2 t), y), ?_, rfl, hf, hj⟩
      unfold s_Floor_cover_2_39
      rw [e2]
      simp (disch := omega) only [gI_p, gA_p, p_l0, p_l1, p_l2, p_l3, p_l4, p_l5, p_l6, p_l7, p_l8, p_l9, p_l15, p_l81, p_l99, p_l1000, p_l20000, p_add, p_sub, p_mul, p_neg, p_lt, p_le, p_eq, p_div, ck_p, nz_p, tn_p, bd_s, bl_s, bx_0, m9, m7, m81, Int.toNat_natCast, hD'.2, cif_if]
      rw [cif_t (by omega)])
  exact ⟨b.2.1, b.2.2, by rw [h1, ← h2], h3, h4⟩
theorem e_cover_2 {D x : gx_S} (hD : isD D x) (hg : goodD D) {X Y : Nat → Int} {t : Nat} (ht : (t : Int) < vI D 3) (hX : vA x 16 t = X t ∧ vA x 17 t = Y t) (hp : 0 ≤ X t ∧ X t ≤ 8 ∧ 0 ≤ Y t ∧ Y t ≤ 8) : ∃ x', f_Floor_cover_2 (pI t) x = some (pI 0, x') ∧ fr [] [11] x x' ∧ ∀ a b, inG D a b → vA x' 11 (9 * b + a).toNat = cif (cov D X Y t a b) (t : Int) (vA x 11 (9 * b + a).toNat) := by
  have g := hg.1
  unfold goodG at g
  have z1 := hg.2.2.1 t ht
  obtain ⟨b, h1, h2, h3, h4⟩ := it_for (f := s_Floor_cover_2_19 (pI t) (pI (X t)) (pI (Y t))) (a := (pI (Y t), x)) (fun i a => a.1 = pI (Y t + i) ∧ fr [] [11] x a.2 ∧ ∀ c b, inG D c b → vA a.2 11 (9 * b + c).toNat = cif ((Y t ≤ b ∧ b < Y t + i) ∧ X t ≤ c ∧ c < X t + vA D 2 t) (t : Int) (vA x 11 (9 * b + c).toNat)) (fun q => q.1 = 0 ∧ fr [] [11] x q.2.2 ∧ ∀ c b, inG D c b → vA q.2.2 11 (9 * b + c).toNat = cif ((Y t ≤ b ∧ b < Y t + vA D 3 t) ∧ X t ≤ c ∧ c < X t + vA D 2 t) (t : Int) (vA x 11 (9 * b + c).toNat)) (vA D 3 t).toNat (by omega) ⟨by show pI (Y t) = pI (Y t + ((0 : Nat) : Int)); rw [show Y t + ((0 : Nat) : Int) = Y t by omega], fr_rf, fun c b hc => by rw [cif_f (by omega)]⟩ (fun i a hi ha => by
      obtain ⟨i0, y⟩ := a
      obtain ⟨rfl, hf, hj⟩ := ha
      have hD' := fr_D hf hD (by decide) (by decide)
      refine Or.inl ?_
      obtain ⟨z, y', k1, k2, k3⟩ := e_cov1_2 hD' hg ht hp (r := Y t + i) (by omega)
      unfold s_Floor_cover_2_19
      simp (disch := omega) only [gI_p, gA_p, p_l0, p_l1, p_l2, p_l3, p_l4, p_l5, p_l6, p_l7, p_l8, p_l9, p_l15, p_l81, p_l99, p_l1000, p_l20000, p_add, p_sub, p_mul, p_neg, p_lt, p_le, p_eq, p_div, ck_p, nz_p, tn_p, bd_s, bl_s, bx_0, m9, m7, m81, Int.toNat_natCast, hD'.2, cif_if, k1]
      rw [cif_f (by omega)]
      have e1 : Y t + ((i + 1 : Nat) : Int) = Y t + i + 1 := by omega
      refine ⟨(pI (Y t + i + 1), y'), rfl, by rw [e1], fr_tr hf k2, fun c b h => ?_⟩
      rw [e1]
      refine (k3 c b h).trans ?_
      rw [hj c b h]
      by_cases q : b = Y t + i ∧ X t ≤ c ∧ c < X t + vA D 2 t
      · rw [cif_t q, cif_t (by omega)]
      · rw [cif_f q]
        refine cif_c ?_
        omega) (fun a ha => by
      obtain ⟨i0, y⟩ := a
      obtain ⟨rfl, hf, hj⟩ := ha
      have hD' := fr_D hf hD (by decide) (by decide)
      have e2 : (((vA D 3 t).toNat : Nat) : Int) = vA D 3 t := by omega
      rw [e2] at hj
      refine ⟨(0, pI (Y t + vA D 3 t), y), ?_, rfl, hf, hj⟩
      unfold s_Floor_cover_2_19
      rw [e2]
      simp (disch := omega) only [gI_p, gA_p, p_l0, p_l1, p_l2, p_l3, p_l4, p_l5, p_l6, p_l7, p_l8, p_l9, p_l15, p_l81, p_l99, p_l1000, p_l20000, p_add, p_sub, p_mul, p_neg, p_lt, p_le, p_eq, p_div, ck_p, nz_p, tn_p, bd_s, bl_s, bx_0, m9, m7, m81, Int.toNat_natCast, hD'.2, cif_if]
      rw [cif_t (by omega)])
  refine ⟨b.2.2, ?_, h3, fun c q hc => (h4 c q hc).trans (cif_c ?_)⟩
  · unfold f_Floor_cover_2
    simp (disch := omega) only [gI_p, gA_p, p_l0, p_l1, p_l2, p_l3, p_l4, p_l5, p_l6, p_l7, p_l8, p_l9, p_l15, p_l81, p_l99, p_l1000, p_l20000, p_add, p_sub, p_mul, p_neg, p_lt, p_le, p_eq, p_div, ck_p, nz_p, tn_p, bd_s, bl_s, bx_0, m9, m7, m81, Int.toNat_natCast, hX.1, hX.2, h1]
  · unfold cov
    omega
theorem e_lay_2 {D x : gx_S} (hD : isD D x) (hg : goodD D) {X Y : Nat → Int} (hX : ∀ i, i < (vI D 3).toNat → vA x 16 i = X i ∧ vA x 17 i = Y i) (hp : plc X Y (vI D 3).toNat) : ∃ x', f_Floor_lay_2 x = some (pI 0, x') ∧ fr [] [11] x x' ∧ ∀ a b, inG D a b → vA x' 11 (9 * b + a).toNat = own D X Y (vI D 3).toNat a b := by
  have g := hg.1
  unfold goodG at g
  obtain ⟨z, y, h1, h2, h3⟩ := e_lay1_2 hD
  obtain ⟨b, k1, k2, k3⟩ := it_for (f := s_Floor_lay_2_40) (a := (pI 0, y)) (fun i a => a.1 = pI i ∧ fr [] [11] x a.2 ∧ ∀ c b, inG D c b → vA a.2 11 (9 * b + c).toNat = own D X Y i c b) (fun q => fr [] [11] x q.2.2 ∧ ∀ c b, inG D c b → vA q.2.2 11 (9 * b + c).toNat = own D X Y (vI D 3).toNat c b) (vI D 3).toNat (by omega) ⟨rfl, h2, fun c b hc => by
      have hc' := hc
      unfold inG at hc'
      exact h3 _ (by omega)⟩ (fun i a hi ha => by
      obtain ⟨i0, w⟩ := a
      obtain ⟨rfl, hf, hj⟩ := ha
      have hD' := fr_D hf hD (by decide) (by decide)
      refine Or.inl ?_
      obtain ⟨y', m1, m2, m3⟩ := e_cover_2 hD' hg (X := X) (Y := Y) (t := i) (by omega) (by
        have q1 := hf.2.1 16 (by decide) i
        have q2 := hf.2.1 17 (by decide) i
        rw [q1, q2]
        exact hX i hi) (hp i hi)
      unfold s_Floor_lay_2_40
      simp (disch := omega) only [gI_p, gA_p, p_l0, p_l1, p_l2, p_l3, p_l4, p_l5, p_l6, p_l7, p_l8, p_l9, p_l15, p_l81, p_l99, p_l1000, p_l20000, p_add, p_sub, p_mul, p_neg, p_lt, p_le, p_eq, p_div, ck_p, nz_p, tn_p, bd_s, bl_s, bx_0, m9, m7, m81, Int.toNat_natCast, hD'.1, cif_if, m1]
      rw [cif_f (by omega)]
      refine ⟨(pI (i + 1), y'), rfl, rfl, fr_tr hf m2, fun c b h => ?_⟩
      refine (m3 c b h).trans ?_
      rw [hj c b h]
      rfl) (fun a ha => by
      obtain ⟨i0, w⟩ := a
      obtain ⟨rfl, hf, hj⟩ := ha
      have hD' := fr_D hf hD (by decide) (by decide)
      refine ⟨(0, pI (vI D 3).toNat, w), ?_, hf, hj⟩
      unfold s_Floor_lay_2_40
      simp (disch := omega) only [gI_p, gA_p, p_l0, p_l1, p_l2, p_l3, p_l4, p_l5, p_l6, p_l7, p_l8, p_l9, p_l15, p_l81, p_l99, p_l1000, p_l20000, p_add, p_sub, p_mul, p_neg, p_lt, p_le, p_eq, p_div, ck_p, nz_p, tn_p, bd_s, bl_s, bx_0, m9, m7, m81, Int.toNat_natCast, hD'.1, cif_if]
      rw [cif_t (by omega)])
  refine ⟨b.2.2, ?_, k2, k3⟩
  unfold f_Floor_lay_2
  simp only [p_l0, h1, bl_s, k1]
