/-! ways to the exits -/
def cn (z : Int) (f : Nat → Int) : Nat → Nat
  | 0 => 0
  | n + 1 => cn z f n + (if f n = z then 0 else 1)
def updF (f : Nat → Int) (c : Nat) (v : Int) : Nat → Int := fun j => if j = c then v else f j
theorem updF_e (f : Nat → Int) (c : Nat) (v : Int) : updF f c v c = v := if_pos rfl
theorem updF_n {f : Nat → Int} {c j : Nat} {v : Int} (h : j ≠ c) : updF f c v j = f j := if_neg h
theorem cn_le (z : Int) (f : Nat → Int) (n : Nat) : cn z f n ≤ n := by
  induction n with
  | zero => exact Nat.le_refl _
  | succ n ih =>
    show cn z f n + (if f n = z then 0 else 1) ≤ n + 1
    split <;> omega
theorem cn_same {z : Int} {f g : Nat → Int} {n : Nat} (h : ∀ j, j < n → f j = g j) : cn z f n = cn z g n := by
  induction n with
  | zero => rfl
  | succ n ih =>
    show cn z f n + (if f n = z then 0 else 1) = cn z g n + (if g n = z then 0 else 1)
    rw [ih (fun j hj => h j (by omega)), h n (by omega)]
theorem cn_up {z v : Int} {f : Nat → Int} {c n : Nat} (hc : c < n) (h0 : f c = z) (h1 : v ≠ z) : cn z (updF f c v) n = cn z f n + 1 := by
  induction n with
  | zero => omega
  | succ n ih =>
    show cn z (updF f c v) n + (if updF f c v n = z then 0 else 1) = cn z f n + (if f n = z then 0 else 1) + 1
    by_cases e : n = c
    · subst e
      rw [updF_e, if_neg h1, h0, if_pos rfl, cn_same (g := f) (fun j hj => updF_n (by omega))]
    · rw [updF_n e, ih (by omega)]
      omega
theorem cn_dn {z v : Int} {f : Nat → Int} {c n : Nat} (hc : c < n) (h0 : f c ≠ z) (h1 : v = z) : cn z (updF f c v) n + 1 = cn z f n := by
  induction n with
  | zero => omega
  | succ n ih =>
    show cn z (updF f c v) n + (if updF f c v n = z then 0 else 1) + 1 = cn z f n + (if f n = z then 0 else 1)
    by_cases e : n = c
    · subst e
      rw [updF_e, if_pos h1, if_neg h0, cn_same (g := f) (fun j hj => updF_n (by omega))]
    · rw [updF_n e]
      have := ih (by omega)
      omega
def near (F EX : Int → Int → Prop) : Nat → Int → Int → Prop
  | 0, a, b => F a b ∧ EX a b
  | k + 1, a, b => near F EX k a b ∨ (F a b ∧ (near F EX k (a - 1) b ∨ near F EX k (a + 1) b ∨ near F EX k a (b - 1) ∨ near F EX k a (b + 1)))
theorem near_F {F EX : Int → Int → Prop} {k : Nat} {a b : Int} (h : near F EX k a b) : F a b := by
  induction k with
  | zero => exact h.1
  | succ k ih => exact h.elim ih (fun z => z.1)
def JJ (D : gx_S) (F EX : Int → Int → Prop) (st q : Nat → Int) (n : Nat) (m : Int) : Prop := n = cn (-1) st 81 ∧ (∀ j, j < n → ∃ a b, inG D a b ∧ q j = 9 * b + a ∧ 0 ≤ st (9 * b + a).toNat ∧ st (9 * b + a).toNat ≤ j ∧ near F EX (st (9 * b + a).toNat).toNat a b) ∧ (∀ a b, inG D a b → st (9 * b + a).toNat ≠ -1 → ∃ j, j < n ∧ q j = 9 * b + a) ∧ (∀ j k, j ≤ k → k < n → st (q j).toNat ≤ st (q k).toNat) ∧ (∀ j, j < n → st (q j).toNat ≤ m)
def GG (st q : Nat → Int) (n : Nat) (st' q' : Nat → Int) (n' : Nat) : Prop := n ≤ n' ∧ (∀ c, st c ≠ -1 → st' c = st c) ∧ (∀ j, j < n → q' j = q j)
theorem GG_rf {st q : Nat → Int} {n : Nat} : GG st q n st q n := ⟨Nat.le_refl _, fun _ _ => rfl, fun _ _ => rfl⟩
theorem GG_tr {st q st' q' st'' q'' : Nat → Int} {n n' n'' : Nat} (h : GG st q n st' q' n') (h2 : GG st' q' n' st'' q'' n'') : GG st q n st'' q'' n'' :=
  ⟨Nat.le_trans h.1 h2.1, fun c hc => by rw [h2.2.1 c (by rw [h.2.1 c hc]; exact hc), h.2.1 c hc], fun j hj => by rw [h2.2.2 j (Nat.lt_of_lt_of_le hj h.1), h.2.2 j hj]⟩
theorem JJ_q {D : gx_S} {F EX : Int → Int → Prop} {st q : Nat → Int} {n : Nat} {m : Int} (h : JJ D F EX st q n m) {j : Nat} (hj : j < n) : 0 ≤ st (q j).toNat := by
  obtain ⟨a, b, -, e, h0, -⟩ := h.2.1 j hj
  rw [e]; exact h0
theorem JJ_add {D : gx_S} (hg : goodG D) {F EX : Int → Int → Prop} {st q : Nat → Int} {n : Nat} {m : Int} (h : JJ D F EX st q n m) {a b : Int} (hin : inG D a b) (hs : st (9 * b + a).toNat = -1) (hm : 0 ≤ m) (hmn : m ≤ n) (hn : near F EX m.toNat a b) : JJ D F EX (updF st (9 * b + a).toNat m) (updF q n (9 * b + a)) (n + 1) m ∧ GG st q n (updF st (9 * b + a).toNat m) (updF q n (9 * b + a)) (n + 1) := by
  have g := hg
  unfold goodG at g
  have hi := hin
  unfold inG at hi
  have hq : ∀ j, j < n → (q j).toNat ≠ (9 * b + a).toNat := by
    intro j hj e
    have := JJ_q h hj
    rw [e, hs] at this
    omega
  obtain ⟨h1, h2, h3, h4, h5⟩ := h
  refine ⟨⟨?_, ?_, ?_, ?_, ?_⟩, by omega, ?_, ?_⟩
  · rw [cn_up (by omega) hs (by omega), h1]
  · intro j hj
    by_cases e : j = n
    · subst e
      refine ⟨a, b, hin, updF_e _ _ _, ?_, ?_, ?_⟩
      · rw [updF_e]; exact hm
      · rw [updF_e]; exact hmn
      · rw [updF_e]; exact hn
    · obtain ⟨a1, b1, k1, k2, k3, k4, k5⟩ := h2 j (by omega)
      have ne : (9 * b1 + a1).toNat ≠ (9 * b + a).toNat := by
        have := hq j (by omega)
        rw [k2] at this
        exact this
      refine ⟨a1, b1, k1, ?_, ?_⟩
      · rw [updF_n e]; exact k2
      · rw [updF_n ne]; exact ⟨k3, k4, k5⟩
  · intro a1 b1 k1 k2
    have k1' := k1
    unfold inG at k1'
    by_cases e : (9 * b1 + a1).toNat = (9 * b + a).toNat
    · refine ⟨n, by omega, ?_⟩
      rw [updF_e]; omega
    · rw [updF_n e] at k2
      obtain ⟨j, k3, k4⟩ := h3 a1 b1 k1 k2
      exact ⟨j, by omega, by rw [updF_n (by omega)]; exact k4⟩
  · intro j k hjk hk
    by_cases e : k = n
    · subst e
      rw [updF_e, updF_e]
      by_cases e2 : j = k
      · subst e2; rw [updF_e, updF_e]; exact Int.le_refl _
      · rw [updF_n e2, updF_n (hq j (by omega))]; exact h5 j (by omega)
    · rw [updF_n e, updF_n (hq k (by omega)), updF_n (by omega : j ≠ n), updF_n (hq j (by omega))]
      exact h4 j k hjk (by omega)
  · intro j hj
    by_cases e : j = n
    · subst e
      rw [updF_e, updF_e]; exact Int.le_refl _
    · rw [updF_n e, updF_n (hq j (by omega))]; exact h5 j (by omega)
  · intro c hc
    by_cases e : c = (9 * b + a).toNat
    · subst e; exact absurd hs hc
    · exact updF_n e
  · intro j hj
    exact updF_n (by omega)
theorem JJ_mo {D : gx_S} {F EX : Int → Int → Prop} {st q : Nat → Int} {n : Nat} {m m' : Int} (h : JJ D F EX st q n m) (hm : ∀ j, j < n → st (q j).toNat ≤ m') : JJ D F EX st q n m' := ⟨h.1, h.2.1, h.2.2.1, h.2.2.2.1, hm⟩
theorem JJ_c {D : gx_S} {F EX : Int → Int → Prop} {st q st' q' : Nat → Int} {n : Nat} {m : Int} (h : JJ D F EX st q n m) (h1 : ∀ c, st' c = st c) (h2 : ∀ j, q' j = q j) : JJ D F EX st' q' n m := by
  have e1 : st' = st := funext h1
  have e2 : q' = q := funext h2
  rw [e1, e2]; exact h
/-- the arrays of the component as they stand -/
def BS (D : gx_S) (F EX : Int → Int → Prop) (y : gx_S) (m : Int) : Prop := 0 ≤ vI y 7 ∧ JJ D F EX (vA y 12) (vA y 13) (vI y 7).toNat m
def BG (y y' : gx_S) : Prop := GG (vA y 12) (vA y 13) (vI y 7).toNat (vA y' 12) (vA y' 13) (vI y' 7).toNat
theorem e_reach {D y : gx_S} (hD : isD D y) (hg : goodG D) {F EX : Int → Int → Prop} (hF : ∀ a b, inG D a b → (vA y 11 (9 * b + a).toNat = -1 ↔ F a b)) {a b m : Int} (ha : -100 ≤ a ∧ a ≤ 100) (hb : -100 ≤ b ∧ b ≤ 100) (hm : 0 ≤ m ∧ m ≤ 100) (hB : BS D F EX y m) (hmn : m ≤ vI y 7) (hn : inG D a b → F a b → near F EX m.toNat a b) : ∃ y', f_Floor_reach (pI a) (pI b) (pI m) y = some (pI 0, y') ∧ fr [7] [12, 13] y y' ∧ BS D F EX y' m ∧ BG y y' ∧ (inG D a b → F a b → vA y' 12 (9 * b + a).toNat ≠ -1) := by
  have g := hg
  unfold goodG at g
  unfold f_Floor_reach
  rw [e_holds hD (by omega) (by omega) (by omega) (by omega), bd_s]
  simp only [p_l0, bI_zp, cif_if, cif_n]
  by_cases hin : inG D a b
  · have hi := hin
    unfold inG at hi
    have l0 := vA_lo y 11 (9 * b + a).toNat
    have l1 := vA_hi y 11 (9 * b + a).toNat
    have l2 := vA_lo y 12 (9 * b + a).toNat
    have l3 := vA_hi y 12 (9 * b + a).toNat
    have l4 := vI_lo y 7
    have l5 := vI_hi y 7
    have hn81 : (vI y 7).toNat ≤ 81 := by rw [hB.2.1]; exact cn_le _ _ _
    rw [cif_t hin]
    simp (disch := omega) only [gI_p, gA_p, p_l0, p_l1, p_l2, p_l3, p_l4, p_l5, p_l6, p_l7, p_l8, p_l9, p_l15, p_l81, p_l99, p_l1000, p_l20000, p_add, p_sub, p_mul, p_neg, p_lt, p_le, p_eq, p_div, ck_p, nz_p, tn_p, bd_s, bl_s, bx_0, m9, m7, m81, Int.toNat_natCast, e_cellOf, vI_A, vA_An, cif_if]
    by_cases q1 : vA y 11 (9 * b + a).toNat = -1
    · rw [cif_t q1]
      by_cases q2 : vA y 12 (9 * b + a).toNat = -1
      · rw [cif_t q2]
        have lt : (vI y 7).toNat + 1 ≤ 81 := by
          rw [hB.2.1, ← cn_up (v := 0) (c := (9 * b + a).toNat) (by omega) q2 (by omega)]
          exact cn_le _ _ _
        rw [cif_t (by omega), ck_p (by omega) (by omega) (by omega)]
        have k := JJ_add hg hB.2 hin q2 hm.1 (by omega) (hn hin ((hF a b hin).mp q1))
        have c1 : ∀ c, vA (gx_sI (gx_sA (gx_sA y 12 (9 * b + a).toNat (pI m)) 13 (vI y 7).toNat (pI (9 * b + a))) 7 (pI (vI y 7 + 1))) 12 c = updF (vA y 12) (9 * b + a).toNat m c := by
          intro c
          rw [vA_I, vA_An _ _ _ _ (by decide)]
          by_cases e : c = (9 * b + a).toNat
          · subst e; rw [vA_Ae, updF_e, pI_ti (by omega) (by omega)]
          · rw [vA_Ai _ _ _ e, updF_n e]
        have c2 : ∀ j, vA (gx_sI (gx_sA (gx_sA y 12 (9 * b + a).toNat (pI m)) 13 (vI y 7).toNat (pI (9 * b + a))) 7 (pI (vI y 7 + 1))) 13 j = updF (vA y 13) (vI y 7).toNat (9 * b + a) j := by
          intro c
          rw [vA_I]
          by_cases e : c = (vI y 7).toNat
          · subst e; rw [vA_Ae, updF_e, pI_ti (by omega) (by omega)]
          · rw [vA_Ai _ _ _ e, updF_n e, vA_An _ _ _ _ (by decide)]
        have c3 : vI (gx_sI (gx_sA (gx_sA y 12 (9 * b + a).toNat (pI m)) 13 (vI y 7).toNat (pI (9 * b + a))) 7 (pI (vI y 7 + 1))) 7 = vI y 7 + 1 := by
          rw [vI_I, pI_ti (by omega) (by omega)]
        have c4 : (vI y 7 + 1).toNat = (vI y 7).toNat + 1 := by omega
        refine ⟨_, rfl, ?_, ⟨?_, ?_⟩, ?_, ?_⟩
        · exact fr_tr (fr_tr (fr_sA _ _ (by decide)) (fr_sA _ _ (by decide))) (fr_sI _ (by decide))
        · rw [c3]; omega
        · rw [c3, c4]; exact JJ_c k.1 c1 c2
        · unfold BG
          rw [c3, c4, funext c1, funext c2]; exact k.2
        · intro _ _
          rw [c1, updF_e]; omega
      · rw [cif_f q2]
        exact ⟨y, rfl, fr_rf, hB, GG_rf, fun _ _ => q2⟩
    · rw [cif_f q1]
      exact ⟨y, rfl, fr_rf, hB, GG_rf, fun _ z => absurd ((hF a b hin).mpr z) q1⟩
  · rw [cif_f hin]
    exact ⟨y, rfl, fr_rf, hB, GG_rf, fun z => absurd z hin⟩
