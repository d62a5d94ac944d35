/-! the component measures the ways -/
theorem cn_zero {z : Int} {f : Nat → Int} {n : Nat} (h : ∀ j, j < n → f j = z) : cn z f n = 0 := by
  induction n with
  | zero => rfl
  | succ n ih =>
    show cn z f n + (if f n = z then 0 else 1) = 0
    rw [ih (fun j hj => h j (by omega)), if_pos (h n (by omega))]
theorem e_fill {x : gx_S} : ∃ x', f_Arrays_fill (pI (-1)) x = some (pI 0, x') ∧ fr [] [12] x x' ∧ ∀ i, i < 81 → vA x' 12 i = -1 := by
  obtain ⟨b, h1, h2, h3⟩ := it_for (f := s_Arrays_fill_5 (pI (-1)) (pI 81)) (a := (pI 0, x)) (fun i a => a.1 = pI i ∧ fr [] [12] x a.2 ∧ ∀ j, j < i → vA a.2 12 j = -1) (fun b => fr [] [12] x b.2.2 ∧ ∀ j, j < 81 → vA b.2.2 12 j = -1) 81 (by omega) ⟨rfl, fr_rf, fun j h => by omega⟩ (fun i a hi ha => by
      obtain ⟨i0, y⟩ := a
      obtain ⟨rfl, hf, hj⟩ := ha
      refine Or.inl ⟨(pI (i + 1), gx_sA y 12 i (pI (-1))), ?_, rfl, fr_tr hf (fr_sA _ _ (by decide)), fun j h => ?_⟩
      · unfold s_Arrays_fill_5
        simp (disch := omega) only [gI_p, gA_p, p_l0, p_l1, p_l2, p_l3, p_l4, p_l5, p_l6, p_l7, p_l8, p_l9, p_l15, p_l81, p_l99, p_l1000, p_l20000, p_add, p_sub, p_mul, p_neg, p_lt, p_le, p_eq, p_div, ck_p, nz_p, tn_p, bd_s, bl_s, bx_0, m9, m7, m81, Int.toNat_natCast, cif_if]
        rw [cif_f (by omega)]
      · by_cases e : j = i
        · subst e; rw [vA_Ae, pI_ti (by omega) (by omega)]
        · rw [vA_Ai _ _ _ e]; exact hj j (by omega)) (fun a ha => by
      obtain ⟨i0, y⟩ := a
      obtain ⟨rfl, hf, hj⟩ := ha
      refine ⟨(0, pI 81, y), ?_, hf, hj⟩
      unfold s_Arrays_fill_5
      simp (disch := omega) only [gI_p, gA_p, p_l0, p_l1, p_l2, p_l3, p_l4, p_l5, p_l6, p_l7, p_l8, p_l9, p_l15, p_l81, p_l99, p_l1000, p_l20000, p_add, p_sub, p_mul, p_neg, p_lt, p_le, p_eq, p_div, ck_p, nz_p, tn_p, bd_s, bl_s, bx_0, m9, m7, m81, Int.toNat_natCast, cif_if]
      rw [cif_t (by omega)]
      rfl)
  refine ⟨b.2.2, ?_, h2, h3⟩
  unfold f_Arrays_fill
  simp only [p_l0, p_l81, h1, bl_s]
def nb (a b a' b' : Int) : Prop := (a' = a - 1 ∧ b' = b) ∨ (a' = a + 1 ∧ b' = b) ∨ (a' = a ∧ b' = b - 1) ∨ (a' = a ∧ b' = b + 1)
def isEX (D : gx_S) (a b : Int) : Prop := ∃ e : Nat, (e : Int) < vI D 5 ∧ vA D 10 e = 9 * b + a
def EXok (D : gx_S) (F : Int → Int → Prop) (y : gx_S) (n : Nat) : Prop := ∀ e : Nat, e < n → ∀ a b, inG D a b → vA D 10 e = 9 * b + a → F a b → vA y 12 (9 * b + a).toNat = 0
def PR (D : gx_S) (F : Int → Int → Prop) (y : gx_S) (i : Nat) : Prop := ∀ j, j < i → ∀ a b, inG D a b → vA y 13 j = 9 * b + a → ∀ a' b', nb a b a' b' → inG D a' b' → F a' b' → vA y 12 (9 * b' + a').toNat ≠ -1 ∧ vA y 12 (9 * b' + a').toNat ≤ vA y 12 (9 * b + a).toNat + 1
theorem BS_le {D : gx_S} {F EX : Int → Int → Prop} {y : gx_S} {m : Int} (h : BS D F EX y m) {a b : Int} (hin : inG D a b) (hs : vA y 12 (9 * b + a).toNat ≠ -1) : vA y 12 (9 * b + a).toNat ≤ m ∧ 0 ≤ vA y 12 (9 * b + a).toNat := by
  obtain ⟨j, hj, e⟩ := h.2.2.2.1 a b hin hs
  have := h.2.2.2.2.2 j hj
  have k := JJ_q h.2 hj
  rw [e] at this k
  exact ⟨this, k⟩
theorem EX_g {D : gx_S} {F : Int → Int → Prop} {y y' : gx_S} {n : Nat} (h : EXok D F y n) (hG : BG y y') : EXok D F y' n := by
  intro e he a b hin hc hF
  have := h e he a b hin hc hF
  rw [hG.2.1 _ (by omega)]
  exact this
theorem PR_g {D : gx_S} {F EX : Int → Int → Prop} {y y' : gx_S} {i : Nat} {m : Int} (h : PR D F y i) (hB : BS D F EX y m) (hi : i ≤ (vI y 7).toNat) (hG : BG y y') : PR D F y' i := by
  intro j hj a b hin hq a' b' hnb hin' hF
  rw [hG.2.2 j (by omega)] at hq
  have k := h j hj a b hin hq a' b' hnb hin' hF
  have k0 := JJ_q hB.2 (j := j) (by omega)
  rw [hq] at k0
  rw [hG.2.1 _ k.1, hG.2.1 (9 * b + a).toNat (by omega)]
  exact k
theorem near_nb {F EX : Int → Int → Prop} {k : Nat} {a b a' b' : Int} (h : near F EX k a b) (hn : nb a b a' b') (hF : F a' b') : near F EX (k + 1) a' b' := by
  refine Or.inr ⟨hF, ?_⟩
  rcases hn with ⟨rfl, rfl⟩ | ⟨rfl, rfl⟩ | ⟨rfl, rfl⟩ | ⟨rfl, rfl⟩
  · refine Or.inr (Or.inl ?_); rw [show a - 1 + 1 = a by omega]; exact h
  · refine Or.inl ?_; rw [show a + 1 - 1 = a by omega]; exact h
  · refine Or.inr (Or.inr (Or.inr ?_)); rw [show b - 1 + 1 = b by omega]; exact h
  · refine Or.inr (Or.inr (Or.inl ?_)); rw [show b + 1 - 1 = b by omega]; exact h
/-- what a measured state says -/
def SD (D : gx_S) (F EX : Int → Int → Prop) (st : Nat → Int) : Prop := ∀ a b, inG D a b → (st (9 * b + a).toNat = -1 ∧ ∀ k, ¬ near F EX k a b) ∨ (0 ≤ st (9 * b + a).toNat ∧ st (9 * b + a).toNat ≤ 80 ∧ near F EX (st (9 * b + a).toNat).toNat a b ∧ ∀ k : Nat, near F EX k a b → st (9 * b + a).toNat ≤ k)
theorem SD_of {D : gx_S} (hg : goodG D) {F : Int → Int → Prop} (hFi : ∀ a b, F a b → inG D a b) {y : gx_S} {m : Int} (hB : BS D F (isEX D) y m) (hP : PR D F y (vI y 7).toNat) (hE : EXok D F y (vI D 5).toNat) : SD D F (isEX D) (vA y 12) := by
  have key : ∀ k a b, near F (isEX D) k a b → vA y 12 (9 * b + a).toNat ≠ -1 ∧ vA y 12 (9 * b + a).toNat ≤ k := by
    intro k
    induction k with
    | zero =>
      rintro a b ⟨h1, e, h2, h3⟩
      have := hE e (by omega) a b (hFi a b h1) h3 h1
      omega
    | succ k ih =>
      intro a b h
      rcases h with h | ⟨h1, h2⟩
      · have := ih a b h
        omega
      · have go : ∀ a' b', near F (isEX D) k a' b' → nb a' b' a b → vA y 12 (9 * b + a).toNat ≠ -1 ∧ vA y 12 (9 * b + a).toNat ≤ (k + 1 : Nat) := by
          intro a' b' h3 h4
          have q := ih a' b' h3
          have hin' := hFi _ _ (near_F h3)
          obtain ⟨j, hj, e⟩ := hB.2.2.2.1 a' b' hin' q.1
          have := hP j hj a' b' hin' e a b h4 (hFi a b h1) h1
          omega
        rcases h2 with h2 | h2 | h2 | h2
        · exact go _ _ h2 (Or.inr (Or.inl (by omega)))
        · exact go _ _ h2 (Or.inl (by omega))
        · exact go _ _ h2 (Or.inr (Or.inr (Or.inr (by omega))))
        · exact go _ _ h2 (Or.inr (Or.inr (Or.inl (by omega))))
  intro a b hin
  by_cases q : vA y 12 (9 * b + a).toNat = -1
  · exact Or.inl ⟨q, fun k h => (key k a b h).1 q⟩
  · refine Or.inr ?_
    obtain ⟨j, hj, e⟩ := hB.2.2.2.1 a b hin q
    obtain ⟨a1, b1, k1, k2, k3, k4, k5⟩ := hB.2.2.1 j hj
    have hin' := hin
    have hn81 : (vI y 7).toNat ≤ 81 := by rw [hB.2.1]; exact cn_le _ _ _
    have g := hg
    unfold goodG at g
    unfold inG at hin' k1
    rw [e] at k2
    have e1 : a1 = a := by omega
    have e2 : b1 = b := by omega
    subst e1 e2
    exact ⟨k3, by omega, k5, fun k h => (key k a1 b1 h).2⟩
