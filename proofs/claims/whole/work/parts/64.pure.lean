/-! the reference's measure, whole -/
def RI (D : gx_S) (X Y : Nat → Int) (n : Nat) (y : gx_S) : Prop := smS y ∧ (∀ a b, inG D a b → vA y 37 (9 * b + a).toNat < 1000 → near (FR D X Y) (isEX D) (vA y 37 (9 * b + a).toNat).toNat a b) ∧ (∀ e : Nat, e < n → ∀ a b, inG D a b → vA D 10 e = 9 * b + a → FR D X Y a b → vA y 37 (9 * b + a).toNat = 0)
theorem stp_in {D y : gx_S} {a b : Int} (h : inG D a b) : stp D y a b = vA y 37 (9 * b + a).toNat := cif_t h
theorem stp_lt {D y : gx_S} {a b : Int} (h : stp D y a b < 1000) : inG D a b := by
  refine Classical.byContradiction fun q => ?_
  unfold stp at h
  rw [cif_f q] at h
  omega
theorem RI_w {D : gx_S} (hg : goodG D) {X Y : Nat → Int} {n : Nat} {y : gx_S} (h : RI D X Y n y) {a b : Int} (hin : inG D a b) (hF : FR D X Y a b) (hne : bes D y a b ≠ stp D y a b) : RI D X Y n (gx_sA y 37 (9 * b + a).toNat (pI (bes D y a b))) ∧ bes D y a b < vA y 37 (9 * b + a).toNat ∧ 0 ≤ bes D y a b ∧ bes D y a b ≤ 1000 := by
  have g := hg
  unfold goodG at g
  have hin' := hin
  unfold inG at hin'
  have s0 := stp_bd hg h.1 a b
  have s1 := stp_bd hg h.1 (a - 1) b
  have s2 := stp_bd hg h.1 (a + 1) b
  have s3 := stp_bd hg h.1 a (b - 1)
  have s4 := stp_bd hg h.1 a (b + 1)
  have lt : bes D y a b < stp D y a b := by unfold bes at hne ⊢; omega
  have ge : 0 ≤ bes D y a b := by unfold bes; omega
  have or : bes D y a b = stp D y (a - 1) b + 1 ∨ bes D y a b = stp D y (a + 1) b + 1 ∨ bes D y a b = stp D y a (b - 1) + 1 ∨ bes D y a b = stp D y a (b + 1) + 1 := by unfold bes at lt ⊢; omega
  have nr : near (FR D X Y) (isEX D) (bes D y a b).toNat a b := by
    have go : ∀ a' b', bes D y a b = stp D y a' b' + 1 → nb a' b' a b → near (FR D X Y) (isEX D) (bes D y a b).toNat a b := by
      intro a' b' e hn
      have hi := stp_lt (D := D) (y := y) (a := a') (b := b') (by omega)
      have k := h.2.1 a' b' hi
      rw [← stp_in (y := y) hi] at k
      have k2 := near_nb (k (by omega)) hn hF
      have sb := stp_bd hg h.1 a' b'
      rw [show (bes D y a b).toNat = (stp D y a' b').toNat + 1 by omega]
      exact k2
    rcases or with e | e | e | e
    · exact go _ _ e (Or.inr (Or.inl (by omega)))
    · exact go _ _ e (Or.inl (by omega))
    · exact go _ _ e (Or.inr (Or.inr (Or.inr (by omega))))
    · exact go _ _ e (Or.inr (Or.inr (Or.inl (by omega))))
  have st := stp_in (y := y) hin
  refine ⟨⟨?_, ?_, ?_⟩, by omega, ge, by omega⟩
  · intro c hc
    by_cases e : c = (9 * b + a).toNat
    · subst e; rw [vA_Ae, pI_ti (by omega) (by omega)]; omega
    · rw [vA_Ai _ _ _ e]; exact h.1 c hc
  · intro a1 b1 hin1 hl
    have hin1' := hin1
    unfold inG at hin1'
    by_cases e : a1 = a ∧ b1 = b
    · obtain ⟨rfl, rfl⟩ := e
      rw [vA_Ae, pI_ti (by omega) (by omega)]; exact nr
    · rw [vA_Ai _ _ _ (by omega)] at hl ⊢
      exact h.2.1 a1 b1 hin1 hl
  · intro e he a1 b1 hin1 hc hF1
    have hin1' := hin1
    unfold inG at hin1'
    have k := h.2.2 e he a1 b1 hin1 hc hF1
    by_cases q : a1 = a ∧ b1 = b
    · obtain ⟨rfl, rfl⟩ := q
      omega
    · rw [vA_Ai _ _ _ (by omega)]; exact k
theorem sumTo_same {f g : Nat → Int} {n : Nat} (h : ∀ j, j < n → f j = g j) : sumTo f n = sumTo g n := by
  induction n with
  | zero => rfl
  | succ n ih =>
    show sumTo f n + f n = sumTo g n + g n
    rw [ih (fun j hj => h j (by omega)), h n (by omega)]
theorem sumTo_up {f g : Nat → Int} {c n : Nat} (hc : c < n) (h : ∀ j, j ≠ c → g j = f j) : sumTo g n = sumTo f n - f c + g c := by
  induction n with
  | zero => omega
  | succ n ih =>
    show sumTo g n + g n = sumTo f n + f n - f c + g c
    by_cases e : n = c
    · subst e
      rw [sumTo_same (g := f) (fun j hj => h j (by omega))]; omega
    · rw [ih (by omega), h n e]; omega
theorem sumTo_nn {f : Nat → Int} {n : Nat} (h : ∀ j, j < n → 0 ≤ f j ∧ f j ≤ 1000) : 0 ≤ sumTo f n ∧ sumTo f n ≤ 1000 * n := by
  induction n with
  | zero => exact ⟨Int.le_refl _, Int.le_refl _⟩
  | succ n ih =>
    have := ih (fun j hj => h j (by omega))
    have := h n (by omega)
    show 0 ≤ sumTo f n + f n ∧ sumTo f n + f n ≤ 1000 * ((n + 1 : Nat) : Int)
    omega
section RM
theorem r_pass {D x : gx_S} (hM : isM D x) (hg : goodD D) {X Y : Nat → Int} (hX : ∀ i, i < (vI D 3).toNat → vA x 32 i = X i ∧ vA x 33 i = Y i) (hp : plc X Y (vI D 3).toNat) {n : Nat} (hR : RI D X Y n x) : ∃ ch z y, gx_it s_CaseLayoutModel_measure_90 gx_fuel (pI 0, pI 0, x) = some (0, ch, z, y) ∧ fr [] [37] x y ∧ RI D X Y n y ∧ ((ch = pI 1 ∧ sumTo (vA y 37) 81 < sumTo (vA x 37) 81) ∨ (ch = pI 0 ∧ y = x ∧ ∀ a b, inG D a b → FR D X Y a b → bes D x a b = stp D x a b)) := by
  have g := hg.1
  unfold goodG at g
  have m1 := mb (w := vI D 0) (h := vI D 1) (by omega) (by omega)
  obtain ⟨r, h1, h2, h3, h4, h5⟩ := it_for (f := s_CaseLayoutModel_measure_90) (a := (pI 0, pI 0, x)) (fun k a => ∃ ch y, a = (ch, pI k, y) ∧ fr [] [37] x y ∧ RI D X Y n y ∧ ((ch = pI 1 ∧ sumTo (vA y 37) 81 < sumTo (vA x 37) 81) ∨ (ch = pI 0 ∧ y = x ∧ ∀ j : Nat, j < k → ∀ a b, (j : Int) - j / vI D 0 * vI D 0 = a → (j : Int) / vI D 0 = b → FR D X Y a b → bes D x a b = stp D x a b))) (fun r => r.1 = 0 ∧ fr [] [37] x r.2.2.2 ∧ RI D X Y n r.2.2.2 ∧ ((r.2.1 = pI 1 ∧ sumTo (vA r.2.2.2 37) 81 < sumTo (vA x 37) 81) ∨ (r.2.1 = pI 0 ∧ r.2.2.2 = x ∧ ∀ a b, inG D a b → FR D X Y a b → bes D x a b = stp D x a b))) (vI D 0 * vI D 1).toNat (by omega) ⟨pI 0, x, rfl, fr_rf, hR, Or.inr ⟨rfl, rfl, fun j hj => by omega⟩⟩ (fun k s hk hs => by
      obtain ⟨ch, y, rfl, hf, hr, hc⟩ := hs
      refine Or.inl ?_
      have d := dm (k := k) (w := vI D 0) (h := vI D 1) (by omega) (by omega) (by omega)
      have hM' := fr_M hf hM (by decide) (by decide)
      have hX' : ∀ i, i < (vI D 3).toNat → vA y 32 i = X i ∧ vA y 33 i = Y i := fun i hi => by
        rw [hf.2.1 32 (by decide) i, hf.2.1 33 (by decide) i]; exact hX i hi
      generalize ka : (k : Int) - k / vI D 0 * vI D 0 = a at *
      generalize kb : (k : Int) / vI D 0 = b at *
      have hin : inG D a b := by unfold inG; omega
      have e := r_s90 hM' hg hX' hp hr.1 (k := k) hin (by omega) (by rw [← ka, ← kb]) kb ch
      rw [e]
      by_cases q : bes D y a b = stp D y a b ∨ ¬ FR D X Y a b
      · rw [cif_t q]
        refine ⟨_, rfl, ch, y, rfl, hf, hr, hc.imp id ?_⟩
        rintro ⟨h1, rfl, h2⟩
        refine ⟨h1, rfl, fun j hj a' b' ja jb hF => ?_⟩
        by_cases ej : j = k
        · subst ej
          have ea : a' = a := by rw [← ja, ← ka, ← kb]
          have eb : b' = b := by rw [← jb, ← kb]
          subst ea eb
          exact q.elim id (fun z => absurd hF z)
        · exact h2 j (by omega) a' b' ja jb hF
      · rw [cif_f q]
        have q1 : bes D y a b ≠ stp D y a b := fun z => q (Or.inl z)
        have q2 : FR D X Y a b := Classical.byContradiction fun z => q (Or.inr z)
        obtain ⟨k1, k2, k3, k4⟩ := RI_w hg.1 hr hin q2 q1
        refine ⟨_, rfl, pI 1, gx_sA y 37 (9 * b + a).toNat (pI (bes D y a b)), rfl, fr_tr hf (fr_sA _ _ (by decide)), k1, Or.inl ⟨rfl, ?_⟩⟩
        have hin' := hin
        unfold inG at hin'
        have su := sumTo_up (f := vA y 37) (g := vA (gx_sA y 37 (9 * b + a).toNat (pI (bes D y a b))) 37) (c := (9 * b + a).toNat) (n := 81) (by omega) (fun j hj => vA_Ai _ _ _ hj)
        rw [vA_Ae, pI_ti (by omega) (by omega)] at su
        rcases hc with ⟨-, h⟩ | ⟨-, rfl, -⟩ <;> omega) (fun s hs => by
      obtain ⟨ch, y, rfl, hf, hr, hc⟩ := hs
      have hM' := fr_M hf hM (by decide) (by decide)
      refine ⟨(0, ch, pI (vI D 0 * vI D 1).toNat, y), ?_, rfl, hf, hr, hc.imp id ?_⟩
      · unfold s_CaseLayoutModel_measure_90
        simp (disch := omega) only [gI_p, isM_12 hM', isM_13 hM', p_mul, p_le, cif_if]
        rw [cif_t (by omega)]
      · rintro ⟨h1, h2, h3⟩
        refine ⟨h1, h2, fun a b hin hF => ?_⟩
        unfold inG at hin
        have d := mlt (i := b) (j := a) (w := vI D 0) (h := vI D 1) (by omega) (by omega) (by omega)
        have d2 := dmi (i := b) (j := a) (w := vI D 0) (by omega) (by omega)
        refine h3 (b * vI D 0 + a).toNat (by omega) a b ?_ ?_ hF
        · rw [Int.toNat_of_nonneg d.1]; exact d2.2
        · rw [Int.toNat_of_nonneg d.1]; exact d2.1)
  exact ⟨r.2.1, r.2.2.1, r.2.2.2, by rw [h1, ← h2], h3, h4, h5⟩
def SR (D : gx_S) (F EX : Int → Int → Prop) (st : Nat → Int) : Prop := ∀ a b, inG D a b → 0 ≤ st (9 * b + a).toNat ∧ st (9 * b + a).toNat ≤ 1000 ∧ (st (9 * b + a).toNat < 1000 → near F EX (st (9 * b + a).toNat).toNat a b) ∧ ∀ k : Nat, near F EX k a b → st (9 * b + a).toNat ≤ k
theorem SR_of {D y : gx_S} (hg : goodG D) {X Y : Nat → Int} (hR : RI D X Y (vI D 5).toNat y) (hx : ∀ a b, inG D a b → FR D X Y a b → bes D y a b = stp D y a b) : SR D (FR D X Y) (isEX D) (vA y 37) := by
  have g := hg
  unfold goodG at g
  have key : ∀ k a b, near (FR D X Y) (isEX D) k a b → vA y 37 (9 * b + a).toNat ≤ k := by
    intro k
    induction k with
    | zero =>
      rintro a b ⟨h1, e, h2, h3⟩
      have := hR.2.2 e (by omega) a b h1.1 h3 h1
      omega
    | succ k ih =>
      intro a b h
      rcases h with h | ⟨h1, h2⟩
      · have := ih a b h
        omega
      · have q := hx a b h1.1 h1
        have st := stp_in (y := y) h1.1
        have go : ∀ a' b', near (FR D X Y) (isEX D) k a' b' → stp D y a' b' ≤ k := by
          intro a' b' h3
          rw [stp_in (y := y) (near_F h3).1]; exact ih a' b' h3
        unfold bes at q
        rcases h2 with h2 | h2 | h2 | h2 <;> have := go _ _ h2 <;> omega
  intro a b hin
  have hin' := hin
  unfold inG at hin'
  have s := hR.1 (9 * b + a).toNat (by omega)
  exact ⟨s.1, s.2, hR.2.1 a b hin, fun k h => key k a b h⟩
theorem r_measure {D x : gx_S} (hM : isM D x) (hg : goodD D) {X Y : Nat → Int} (hX : ∀ i, i < (vI D 3).toNat → vA x 32 i = X i ∧ vA x 33 i = Y i) (hp : plc X Y (vI D 3).toNat) : ∃ y, f_CaseLayoutModel_measure x = some (pI 0, y) ∧ fr [] [37] x y ∧ SR D (FR D X Y) (isEX D) (vA y 37) := by
  have g := hg.1
  unfold goodG at g
  obtain ⟨r1, a1, a2, a3⟩ := it_for (f := s_CaseLayoutModel_measure_2) (a := (pI 0, x)) (fun i a => a.1 = pI i ∧ fr [] [37] x a.2 ∧ ∀ j, j < i → vA a.2 37 j = 1000) (fun b => fr [] [37] x b.2.2 ∧ ∀ j, j < 81 → vA b.2.2 37 j = 1000) 81 (by omega) ⟨rfl, fr_rf, fun j h => by omega⟩ (fun i a hi ha => by
      obtain ⟨i0, y⟩ := a
      obtain ⟨rfl, hf, hj⟩ := ha
      refine Or.inl ⟨(pI (i + 1), gx_sA y 37 i (pI 1000)), ?_, rfl, fr_tr hf (fr_sA _ _ (by decide)), fun j h => ?_⟩
      · unfold s_CaseLayoutModel_measure_2
        simp (disch := omega) only [gI_p, gA_p, p_l0, p_l1, p_l2, p_l3, p_l4, p_l5, p_l6, p_l7, p_l8, p_l9, p_l15, p_l81, p_l99, p_l1000, p_l20000, p_add, p_sub, p_mul, p_neg, p_lt, p_le, p_eq, p_div, ck_p, nz_p, tn_p, bd_s, bl_s, bx_0, m9, m7, m81, Int.toNat_natCast, cif_if]
        rw [cif_f (by omega)]
      · by_cases e : j = i
        · subst e; rw [vA_Ae, pI_ti (by omega) (by omega)]
        · rw [vA_Ai _ _ _ e]; exact hj j (by omega)) (fun a ha => by
      obtain ⟨i0, y⟩ := a
      obtain ⟨rfl, hf, hj⟩ := ha
      refine ⟨(0, pI 81, y), ?_, hf, hj⟩
      unfold s_CaseLayoutModel_measure_2
      simp (disch := omega) only [gI_p, gA_p, p_l0, p_l1, p_l2, p_l3, p_l4, p_l5, p_l6, p_l7, p_l8, p_l9, p_l15, p_l81, p_l99, p_l1000, p_l20000, p_add, p_sub, p_mul, p_neg, p_lt, p_le, p_eq, p_div, ck_p, nz_p, tn_p, bd_s, bl_s, bx_0, m9, m7, m81, Int.toNat_natCast, cif_if]
      rw [cif_t (by omega)]
      rfl)
  have R0 : RI D X Y 0 r1.2.2 := by
    refine ⟨fun c hc => by rw [a3 c hc]; omega, fun a b hin h => ?_, fun e he => by omega⟩
    unfold inG at hin
    rw [a3 _ (by omega)] at h
    omega
  obtain ⟨r2, b1, b2, b3⟩ := it_for (f := s_CaseLayoutModel_measure_25) (a := (pI 0, r1.2.2)) (fun i a => a.1 = pI i ∧ fr [] [37] x a.2 ∧ RI D X Y i a.2) (fun b => fr [] [37] x b.2.2 ∧ RI D X Y (vI D 5).toNat b.2.2) (vI D 5).toNat (by omega) ⟨rfl, a2, R0⟩ (fun i a hi ha => by
      obtain ⟨i0, y⟩ := a
      obtain ⟨rfl, hf, hr⟩ := ha
      have hf : fr [] [37] x y := hf
      have hr : RI D X Y i y := hr
      have hM' := fr_M hf hM (by decide) (by decide)
      have hX' : ∀ i, i < (vI D 3).toNat → vA y 32 i = X i ∧ vA y 33 i = Y i := fun i hi => by
        rw [hf.2.1 32 (by decide) i, hf.2.1 33 (by decide) i]; exact hX i hi
      have ge := hg.2.2.2.2.2.2.2.2.1 i (by omega)
      have me := hM'.2.2 i (by omega)
      have hin : inG D (vA D 10 i % 9) (vA D 10 i / 9) := by unfold inG; omega
      have fe := r_isFree hM' hg hX' hp (a := vA D 10 i % 9) (b := vA D 10 i / 9) (by omega) (by omega)
      refine Or.inl ?_
      unfold s_CaseLayoutModel_measure_25
      simp (disch := omega) only [gI_p, gA_p, isM_16 hM', p_le, tn_p, Int.toNat_natCast, ck_p, me.1, me.2, fe, bd_s, p_l0, bI_zp, cif_if, cif_n, p_l9, p_mul, p_add, p_l1]
      rw [cif_f (by omega)]
      by_cases q : FR D X Y (vA D 10 i % 9) (vA D 10 i / 9)
      · rw [cif_t q]
        refine ⟨_, rfl, rfl, fr_tr hf (fr_sA _ _ (by decide)), ?_, ?_, ?_⟩
        · intro c hc
          show 0 ≤ vA (gx_sA y 37 (9 * (vA D 10 i / 9) + vA D 10 i % 9).toNat (pI 0)) 37 c ∧ vA (gx_sA y 37 (9 * (vA D 10 i / 9) + vA D 10 i % 9).toNat (pI 0)) 37 c ≤ 1000
          by_cases e : c = (9 * (vA D 10 i / 9) + vA D 10 i % 9).toNat
          · rw [e, vA_Ae, pI_ti (by omega) (by omega)]; omega
          · rw [vA_Ai _ _ _ e]; exact hr.1 c hc
        · intro a b hab
          show vA (gx_sA y 37 (9 * (vA D 10 i / 9) + vA D 10 i % 9).toNat (pI 0)) 37 (9 * b + a).toNat < 1000 → near (FR D X Y) (isEX D) (vA (gx_sA y 37 (9 * (vA D 10 i / 9) + vA D 10 i % 9).toNat (pI 0)) 37 (9 * b + a).toNat).toNat a b
          have hab' := hab
          unfold inG at hab'
          by_cases e : a = vA D 10 i % 9 ∧ b = vA D 10 i / 9
          · obtain ⟨rfl, rfl⟩ := e
            rw [vA_Ae, pI_ti (by omega) (by omega)]
            intro _
            exact ⟨q, i, by omega, by omega⟩
          · rw [vA_Ai _ _ _ (by omega)]; exact hr.2.1 a b hab
        · intro e he a b hab hc hF
          show vA (gx_sA y 37 (9 * (vA D 10 i / 9) + vA D 10 i % 9).toNat (pI 0)) 37 (9 * b + a).toNat = 0
          have hab' := hab
          unfold inG at hab'
          by_cases q2 : (9 * b + a).toNat = (9 * (vA D 10 i / 9) + vA D 10 i % 9).toNat
          · rw [q2, vA_Ae, pI_ti (by omega) (by omega)]
          · rw [vA_Ai _ _ _ q2]
            by_cases ei : e = i
            · subst ei; omega
            · exact hr.2.2 e (by omega) a b hab hc hF
      · rw [cif_f q]
        refine ⟨_, rfl, rfl, hf, hr.1, hr.2.1, fun e he a b hab hc hF => ?_⟩
        have hab' := hab
        unfold inG at hab'
        by_cases ei : e = i
        · subst ei
          rw [show vA D 10 e % 9 = a by omega, show vA D 10 e / 9 = b by omega] at q
          exact absurd hF q
        · exact hr.2.2 e (by omega) a b hab hc hF) (fun a ha => by
      obtain ⟨i0, y⟩ := a
      obtain ⟨rfl, hf, hr⟩ := ha
      have hM' := fr_M hf hM (by decide) (by decide)
      refine ⟨(0, pI (vI D 5).toNat, y), ?_, hf, hr⟩
      unfold s_CaseLayoutModel_measure_25
      simp (disch := omega) only [gI_p, isM_16 hM', p_le, cif_if]
      rw [cif_t (by omega)])
  obtain ⟨r3, c1, c2, c3⟩ := it_inv (f := s_CaseLayoutModel_measure_82) (fun i a => fr [] [37] x a.2 ∧ RI D X Y (vI D 5).toNat a.2 ∧ ((a.1 = pI 1 ∧ sumTo (vA a.2 37) 81 ≤ 81000 - (i : Int)) ∨ (a.1 = pI 0 ∧ ∀ a1 b1, inG D a1 b1 → FR D X Y a1 b1 → bes D a.2 a1 b1 = stp D a.2 a1 b1))) (fun b => fr [] [37] x b.2.2 ∧ SR D (FR D X Y) (isEX D) (vA b.2.2 37)) 81002 (fun i a hi ha => by
      obtain ⟨i0, y⟩ := a
      obtain ⟨hf, hr, hc⟩ := ha
      have hf : fr [] [37] x y := hf
      have hr : RI D X Y (vI D 5).toNat y := hr
      rcases hc with ⟨h1, h2⟩ | ⟨h1, h2⟩
      · have h1 : i0 = pI 1 := h1
        have h2 : sumTo (vA y 37) 81 ≤ 81000 - (i : Int) := h2
        subst h1
        refine Or.inl ?_
        have hM' := fr_M hf hM (by decide) (by decide)
        have hX' : ∀ i, i < (vI D 3).toNat → vA y 32 i = X i ∧ vA y 33 i = Y i := fun i hi => by
          rw [hf.2.1 32 (by decide) i, hf.2.1 33 (by decide) i]; exact hX i hi
        obtain ⟨ch, z, y', k1, k2, k3, k4⟩ := r_pass hM' hg hX' hp hr
        refine ⟨(ch, y'), ?_, fr_tr hf k2, k3, ?_⟩
        · unfold s_CaseLayoutModel_measure_82
          simp (disch := omega) only [p_l0, p_eq, cif_if, k1, bl_s]
          rw [cif_f (by omega)]
        · rcases k4 with ⟨m1, m2⟩ | ⟨m1, rfl, m2⟩
          · refine Or.inl ⟨m1, ?_⟩
            show sumTo (vA y' 37) 81 ≤ 81000 - ((i + 1 : Nat) : Int)
            omega
          · exact Or.inr ⟨m1, m2⟩
      · have h1 : i0 = pI 0 := h1
        subst h1
        refine Or.inr ⟨(0, pI 0, y), ?_, hf, SR_of hg.1 hr h2⟩
        unfold s_CaseLayoutModel_measure_82
        simp only [p_l0, cif_if]
        rw [cif_tt]) (fun a ha => by
      obtain ⟨i0, y⟩ := a
      obtain ⟨hf, hr, hc⟩ := ha
      have hr : RI D X Y (vI D 5).toNat y := hr
      rcases hc with ⟨h1, h2⟩ | ⟨h1, h2⟩
      · have h2 : sumTo (vA y 37) 81 ≤ 81000 - ((81002 : Nat) : Int) := h2
        have := sumTo_nn (f := vA y 37) (n := 81) hr.1
        omega
      · have h1 : i0 = pI 0 := h1
        subst h1
        refine ⟨(0, pI 0, y), ?_, hf, SR_of hg.1 hr h2⟩
        unfold s_CaseLayoutModel_measure_82
        simp only [p_l0, cif_if]
        rw [cif_tt]) 81002 0 gx_fuel (pI 1, r2.2.2) (by omega) (by unfold gx_fuel; omega) ⟨b2, b3, Or.inl ⟨rfl, by
      have := sumTo_nn (f := vA r2.2.2 37) (n := 81) b3.1
      show sumTo (vA r2.2.2 37) 81 ≤ 81000 - ((0 : Nat) : Int)
      omega⟩⟩
  refine ⟨r3.2.2, ?_, c2, c3⟩
  unfold f_CaseLayoutModel_measure
  simp only [p_l0, p_l1, a1, b1, c1, bl_s]
end RM
/-- both measures say the same -/
theorem SD_SR {D : gx_S} {F EX : Int → Int → Prop} {s r : Nat → Int} (h1 : SD D F EX s) (h2 : SR D F EX r) {a b : Int} (hin : inG D a b) : (s (9 * b + a).toNat = -1 ∧ r (9 * b + a).toNat = 1000) ∨ (0 ≤ s (9 * b + a).toNat ∧ s (9 * b + a).toNat ≤ 80 ∧ r (9 * b + a).toNat = s (9 * b + a).toNat ∧ F a b) := by
  obtain ⟨q0, q1, q2, q3⟩ := h2 a b hin
  rcases h1 a b hin with ⟨k1, k2⟩ | ⟨k1, k2, k3, k4⟩
  · refine Or.inl ⟨k1, ?_⟩
    refine Classical.byContradiction fun z => k2 _ (q2 (by omega))
  · refine Or.inr ⟨k1, k2, ?_, near_F k3⟩
    have := q3 _ k3
    have := k4 _ (q2 (by omega))
    omega
