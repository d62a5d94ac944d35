/-! the reference searches as told -/
def frR (x y : gx_S) : Prop := fr [18, 19, 20] [32, 33, 34, 35, 36, 37] x y
def TR (D : gx_S) (lim : Int) (t : Nat) (X Y : Nat → Int) (s : sg) (y : gx_S) : Prop := isM D y ∧ (∀ i, i < t → vA y 32 i = X i ∧ vA y 33 i = Y i) ∧ val D X Y t ∧ RR D y s ∧ 0 ≤ s.1 ∧ s.1 ≤ lim
theorem r_pos {y : gx_S} {X Y : Nat → Int} {t : Nat} {a b : Int} (ha : 0 ≤ a ∧ a ≤ 100) (hb : 0 ≤ b ∧ b ≤ 100) (u : Int32) (hX : ∀ i, i < t → vA y 32 i = X i ∧ vA y 33 i = Y i) : ∀ i, i < t + 1 → vA (gx_sA (gx_sA (gx_sA y 32 t (pI a)) 33 t (pI b)) 34 t u) 32 i = updF X t a i ∧ vA (gx_sA (gx_sA (gx_sA y 32 t (pI a)) 33 t (pI b)) 34 t u) 33 i = updF Y t b i := by
  intro i hi
  have e1 : vA (gx_sA (gx_sA (gx_sA y 32 t (pI a)) 33 t (pI b)) 34 t u) 32 i = vA (gx_sA y 32 t (pI a)) 32 i := by rw [vA_An _ _ _ _ (by decide), vA_An _ _ _ _ (by decide)]
  have e2 : vA (gx_sA (gx_sA (gx_sA y 32 t (pI a)) 33 t (pI b)) 34 t u) 33 i = vA (gx_sA (gx_sA y 32 t (pI a)) 33 t (pI b)) 33 i := by rw [vA_An _ _ _ _ (by decide)]
  rw [e1, e2]
  by_cases e : i = t
  · subst e
    rw [vA_Ae, vA_Ae, updF_e, updF_e, pI_ti (by omega) (by omega), pI_ti (by omega) (by omega)]
    exact ⟨rfl, rfl⟩
  · rw [vA_Ai _ _ _ e, vA_Ai _ _ _ e, updF_n e, updF_n e, vA_An _ _ _ _ (by decide)]
    exact hX i (by omega)
theorem r_turn {D : gx_S} (hg : goodD D) {lim : Int} (hl : 0 ≤ lim ∧ lim ≤ 20000) {t : Nat} (ht : (t : Int) < vI D 3) {X Y : Nat → Int} {s : sg} {y : gx_S} (hT : TR D lim t X Y s y) {k : Nat} (hk : k < (vI D 0 * vI D 1).toNat) (hn : vA y 34 t = k) : s_CaseLayoutModel_search_9 (pI lim) (pI t, y) = cif (lies D (updF X t (kaD D k)) (updF Y t (kbD D k)) t) (cif (s.1 = lim) (some (.inr (0, pI t, gx_sA (gx_sA (gx_sA y 32 t (pI (kaD D k))) 33 t (pI (kbD D k))) 34 t (pI (k + 1 : Nat))))) (some (.inl (pI (t + 1 : Nat), gx_sA (gx_sI (gx_sA (gx_sA (gx_sA y 32 t (pI (kaD D k))) 33 t (pI (kbD D k))) 34 t (pI (k + 1 : Nat))) 20 (pI (s.1 + 1))) 34 (t + 1) (pI 0))))) (some (.inl (pI t, gx_sA (gx_sA (gx_sA y 32 t (pI (kaD D k))) 33 t (pI (kbD D k))) 34 t (pI (k + 1 : Nat))))) := by
  obtain ⟨hM, hX, hv, hR, h0, h1⟩ := hT
  have g := hg.1
  unfold goodG at g
  have m1 := mb (w := vI D 0) (h := vI D 1) (by omega) (by omega)
  have hin := k_in hg.1 hk
  have hin' := hin
  unfold inG at hin'
  have hX1 : ∀ i, i < t + 1 → vA (gx_sA (gx_sA (gx_sA y 32 t (pI (kaD D k))) 33 t (pI (kbD D k))) 34 t (pI (k + 1 : Nat))) 32 i = updF X t (kaD D k) i ∧ vA (gx_sA (gx_sA (gx_sA y 32 t (pI (kaD D k))) 33 t (pI (kbD D k))) 34 t (pI (k + 1 : Nat))) 33 i = updF Y t (kbD D k) i := r_pos (by omega) (by omega) _ hX
  have hp1 : plc (updF X t (kaD D k)) (updF Y t (kbD D k)) (t + 1) := by
    intro i hi
    by_cases e : i = t
    · subst e
      rw [updF_e, updF_e]; omega
    · rw [updF_n e, updF_n e]
      exact val_plc hg (by omega) hv i (by omega)
  have fr1 : fr [] [32, 33, 34] y (gx_sA (gx_sA (gx_sA y 32 t (pI (kaD D k))) 33 t (pI (kbD D k))) 34 t (pI (k + 1 : Nat))) := fr_tr (fr_tr (fr_sA _ _ (by decide)) (fr_sA _ _ (by decide))) (fr_sA _ _ (by decide))
  have hM1 := fr_M fr1 hM (by decide) (by decide)
  have li := r_lies hM1 hg ht hX1 hp1
  have z1 := hR.1
  have ka : (k : Int) - kbD D k * vI D 0 = kaD D k := rfl
  have kb : (k : Int) / vI D 0 = kbD D k := rfl
  have q2 : ((t + 1 : Nat) : Int) = (t : Int) + 1 := by omega
  have q3 : ((k + 1 : Nat) : Int) = (k : Int) + 1 := by omega
  rw [q3] at li ⊢
  rw [q2]
  have tt : (t + 1 : Nat) = ((t : Int) + 1).toNat := by omega
  rw [tt]
  have e34 : ∀ v w, vA (gx_sA (gx_sA y 32 t v) 33 t w) 34 t = k := fun v w => by rw [vA_An _ _ _ _ (by decide), vA_An _ _ _ _ (by decide)]; exact hn
  have e34' : ∀ v, vA (gx_sA y 32 t v) 34 t = k := fun v => by rw [vA_An _ _ _ _ (by decide)]; exact hn
  unfold s_CaseLayoutModel_search_9
  simp (disch := omega) only [gI_p, gA_p, isM_14 hM, isM_12 hM, isM_13 hM, vI_A, p_l0, p_lt, p_eq, p_mul, ck_p, nz_p, tn_p, Int.toNat_natCast, hn, e34, e34', p_div, kb, p_sub, ka, p_l1, p_add, li, bd_s, bI_zp, cif_if, cif_n, z1]
  rw [cif_f (by omega), cif_f (by omega), cif_f (by omega)]
theorem r_turnE {D : gx_S} (hg : goodD D) {lim : Int} {t : Nat} (ht : (t : Int) < vI D 3) {X Y : Nat → Int} {s : sg} {y : gx_S} (hT : TR D lim t X Y s y) (hn : vA y 34 t = ((vI D 0 * vI D 1).toNat : Nat)) : s_CaseLayoutModel_search_9 (pI lim) (pI t, y) = some (.inl (pI (t + -1), y)) := by
  obtain ⟨hM, -⟩ := hT
  have g := hg.1
  unfold goodG at g
  have m1 := mb (w := vI D 0) (h := vI D 1) (by omega) (by omega)
  unfold s_CaseLayoutModel_search_9
  simp (disch := omega) only [gI_p, gA_p, isM_14 hM, isM_12 hM, isM_13 hM, p_l0, p_lt, p_eq, p_mul, ck_p, tn_p, Int.toNat_natCast, hn, cif_if, p_l1, p_neg, p_add]
  rw [cif_f (by omega), cif_f (by omega), cif_t (by omega)]
theorem r_turnN {D : gx_S} (hg : goodD D) {lim : Int} {X Y : Nat → Int} {s : sg} {y : gx_S} (hT : TR D lim (vI D 3).toNat X Y s y) : ∃ y', s_CaseLayoutModel_search_9 (pI lim) (pI (vI D 3).toNat, y) = some (.inl (pI ((vI D 3).toNat + -1), y')) ∧ fr [18, 19] [35, 36, 37] y y' ∧ RR D y' (jd D X Y s) := by
  obtain ⟨hM, hX, hv, hR, h0, h1⟩ := hT
  have g := hg.1
  unfold goodG at g
  obtain ⟨y1, k1, k2⟩ := r_isLayout hM hg hX hv
  have R1 := RR_f hR k2 (by decide) (by decide) (by decide) (by decide) (by decide)
  have hM1 := fr_M k2 hM (by decide) (by decide)
  have hX1 : ∀ i, i < (vI D 3).toNat → vA y1 32 i = X i ∧ vA y1 33 i = Y i := fun i hi => by
    rw [k2.2.1 32 (by decide), k2.2.1 33 (by decide)]; exact hX i hi
  unfold s_CaseLayoutModel_search_9
  simp (disch := omega) only [gI_p, isM_14 hM, p_l0, p_lt, p_eq, cif_if, k1, bd_s, bI_zp, cif_n, p_l1, p_neg, p_add]
  rw [cif_f (by omega), cif_t (by omega)]
  by_cases q : okL D X Y
  · rw [cif_t q]
    obtain ⟨y2, m1, m2, m3⟩ := r_keep hM1 hg hX1 hv q R1
    refine ⟨y2, ?_, fr_tr (fr_mo k2 (by decide) (by decide)) (fr_mo m2 (by decide) (by decide)), m3⟩
    rw [m1, bd_s]
  · rw [cif_f q]
    refine ⟨y1, rfl, fr_mo k2 (by decide) (by decide), ?_⟩
    unfold jd
    rw [cif_f (fun z => q z.2)]
    exact R1
def STn (D : gx_S) (lim : Int) (t : Nat) (X Y : Nat → Int) (c : Int) (res : Bool × sg) (s : sg) (y : gx_S) : Prop := ∃ (m : Nat) (y' : gx_S), (m : Int) ≤ c + 82 * (res.2.1 - s.1) ∧ s.1 ≤ res.2.1 ∧ res.2.1 ≤ lim ∧ frR y y' ∧ (∀ i, i < t → vA y' 32 i = X i ∧ vA y' 33 i = Y i) ∧ (∀ i, i < t → vA y' 34 i = vA y 34 i) ∧ RR D y' res.2 ∧ ((res.1 = true ∧ ∀ n, gx_it (s_CaseLayoutModel_search_9 (pI lim)) (n + m) (pI t, y) = gx_it (s_CaseLayoutModel_search_9 (pI lim)) n (pI (t + -1), y')) ∨ (res.1 = false ∧ ∃ z, ∀ n, gx_it (s_CaseLayoutModel_search_9 (pI lim)) (n + m) (pI t, y) = some (0, z, y')))
theorem r_loop {D : gx_S} (hg : goodD D) {lim : Int} (hl : 0 ≤ lim ∧ lim ≤ 20000) {t : Nat} (ht : (t : Int) < vI D 3) {Q : (Nat → Int) → (Nat → Int) → sg → Bool × sg} (hQ : ∀ X Y s y, TR D lim (t + 1) X Y s y → vA y 34 (t + 1) = 0 → STn D lim (t + 1) X Y 82 (Q X Y s) s y) {X Y : Nat → Int} : ∀ (r k : Nat) (s : sg) (y : gx_S), k + r = (vI D 0 * vI D 1).toNat → TR D lim t X Y s y → vA y 34 t = k → STn D lim t X Y (r + 1) (srl D lim Q t X Y r k s) s y := by
  have g := hg.1
  unfold goodG at g
  have m1 := mb (w := vI D 0) (h := vI D 1) (by omega) (by omega)
  intro r
  induction r with
  | zero =>
    intro k s y hk hT hn
    have e := r_turnE hg ht hT (by rw [hn]; omega)
    refine ⟨1, y, ?_, Int.le_refl _, hT.2.2.2.2.2, fr_rf, hT.2.1, fun _ _ => rfl, hT.2.2.2.1, Or.inl ⟨rfl, fun n => it_s e⟩⟩
    show ((1 : Nat) : Int) ≤ ((0 : Nat) : Int) + 1 + 82 * (s.1 - s.1)
    omega
  | succ r ih =>
    intro k s y hk hT hn
    have hk' : k < (vI D 0 * vI D 1).toNat := by omega
    have hin := k_in hg.1 hk'
    unfold inG at hin
    have tn := r_turn hg hl ht hT hk' hn
    obtain ⟨hM, hX, hv, hR, h0, h1⟩ := id hT
    have f1 : fr [] [32, 33, 34] y (gx_sA (gx_sA (gx_sA y 32 t (pI (kaD D k))) 33 t (pI (kbD D k))) 34 t (pI (k + 1 : Nat))) := fr_tr (fr_tr (fr_sA _ _ (by decide)) (fr_sA _ _ (by decide))) (fr_sA _ _ (by decide))
    have F1 : frR y (gx_sA (gx_sA (gx_sA y 32 t (pI (kaD D k))) 33 t (pI (kbD D k))) 34 t (pI (k + 1 : Nat))) := fr_mo f1 (by decide) (by decide)
    have hX1 : ∀ i, i < t + 1 → vA (gx_sA (gx_sA (gx_sA y 32 t (pI (kaD D k))) 33 t (pI (kbD D k))) 34 t (pI (k + 1 : Nat))) 32 i = updF X t (kaD D k) i ∧ vA (gx_sA (gx_sA (gx_sA y 32 t (pI (kaD D k))) 33 t (pI (kbD D k))) 34 t (pI (k + 1 : Nat))) 33 i = updF Y t (kbD D k) i := r_pos (by omega) (by omega) _ hX
    have hX0 : ∀ i, i < t → vA (gx_sA (gx_sA (gx_sA y 32 t (pI (kaD D k))) 33 t (pI (kbD D k))) 34 t (pI (k + 1 : Nat))) 32 i = X i ∧ vA (gx_sA (gx_sA (gx_sA y 32 t (pI (kaD D k))) 33 t (pI (kbD D k))) 34 t (pI (k + 1 : Nat))) 33 i = Y i := by
      intro i hi
      have := hX1 i (by omega)
      rw [updF_n (by omega), updF_n (by omega)] at this
      exact this
    have n1 : vA (gx_sA (gx_sA (gx_sA y 32 t (pI (kaD D k))) 33 t (pI (kbD D k))) 34 t (pI (k + 1 : Nat))) 34 t = (k + 1 : Nat) := by
      rw [vA_Ae, pI_ti (by omega) (by omega)]
    have n0 : ∀ i, i < t → vA (gx_sA (gx_sA (gx_sA y 32 t (pI (kaD D k))) 33 t (pI (kbD D k))) 34 t (pI (k + 1 : Nat))) 34 i = vA y 34 i := by
      intro i hi
      rw [vA_Ai _ _ _ (by omega), vA_An _ _ _ _ (by decide), vA_An _ _ _ _ (by decide)]
    have M1 := fr_M f1 hM (by decide) (by decide)
    have R1 := RR_f hR f1 (by decide) (by decide) (by decide) (by decide) (by decide)
    generalize gx_sA (gx_sA (gx_sA y 32 t (pI (kaD D k))) 33 t (pI (kbD D k))) 34 t (pI (k + 1 : Nat)) = y1 at *
    have es : srl D lim Q t X Y (r + 1) k s = cif (lies D (updF X t (kaD D k)) (updF Y t (kbD D k)) t) (cif (s.1 < lim) (cif ((Q (updF X t (kaD D k)) (updF Y t (kbD D k)) (s.1 + 1, s.2)).1 = true) (srl D lim Q t X Y r (k + 1) (Q (updF X t (kaD D k)) (updF Y t (kbD D k)) (s.1 + 1, s.2)).2) (false, (Q (updF X t (kaD D k)) (updF Y t (kbD D k)) (s.1 + 1, s.2)).2)) (false, s)) (srl D lim Q t X Y r (k + 1) s) := rfl
    rw [es]
    by_cases q1 : lies D (updF X t (kaD D k)) (updF Y t (kbD D k)) t
    · rw [cif_t q1] at tn
      rw [cif_t q1]
      by_cases q2 : s.1 = lim
      · rw [cif_t q2] at tn
        rw [cif_f (by omega)]
        refine ⟨1, y1, ?_, Int.le_refl _, h1, F1, hX0, n0, R1, Or.inr ⟨rfl, _, fun n => it_e tn⟩⟩
        show ((1 : Nat) : Int) ≤ ((r + 1 : Nat) : Int) + 1 + 82 * (s.1 - s.1)
        omega
      · rw [cif_f q2] at tn
        rw [cif_t (by omega)]
        have f2 : fr [20] [34] y1 (gx_sA (gx_sI y1 20 (pI (s.1 + 1))) 34 (t + 1) (pI 0)) := fr_tr (fr_sI _ (by decide)) (fr_sA _ _ (by decide))
        have T2 : TR D lim (t + 1) (updF X t (kaD D k)) (updF Y t (kbD D k)) (s.1 + 1, s.2) (gx_sA (gx_sI y1 20 (pI (s.1 + 1))) 34 (t + 1) (pI 0)) := by
          refine ⟨fr_M f2 M1 (by decide) (by decide), fun i hi => ?_, val_add hv hin.1 hin.2.2.1 q1, ⟨?_, ?_⟩, ?_, ?_⟩
          · rw [f2.2.1 32 (by decide), f2.2.1 33 (by decide)]; exact hX1 i hi
          · rw [vI_A, vI_I, pI_ti (by omega) (by omega)]
          · have := R1.2
            rw [f2.1 18 (by decide), f2.1 19 (by decide)]
            refine this.imp id (fun ⟨a, b, c, d⟩ => ⟨a, b, c, fun i hi => ?_⟩)
            rw [f2.2.1 35 (by decide), f2.2.1 36 (by decide)]
            exact d i hi
          · show 0 ≤ s.1 + 1
            omega
          · show s.1 + 1 ≤ lim
            omega
        have w0 : vA (gx_sA (gx_sI y1 20 (pI (s.1 + 1))) 34 (t + 1) (pI 0)) 34 (t + 1) = 0 := by
          rw [vA_Ae, pI_ti (by omega) (by omega)]
        obtain ⟨m, y3, a1, a2, a3, a4, a5, a6, a7, a8⟩ := hQ _ _ _ _ T2 w0
        have F2 : frR y (gx_sA (gx_sI y1 20 (pI (s.1 + 1))) 34 (t + 1) (pI 0)) := fr_tr F1 (fr_mo f2 (by decide) (by decide))
        have F3 := fr_tr F2 a4
        have X3 : ∀ i, i < t → vA y3 32 i = X i ∧ vA y3 33 i = Y i := by
          intro i hi
          have := a5 i (by omega)
          rw [updF_n (by omega), updF_n (by omega)] at this
          exact this
        have N3 : ∀ i, i < t → vA y3 34 i = vA y 34 i := by
          intro i hi
          rw [a6 i (by omega), vA_Ai _ _ _ (by omega), vA_I]
          exact n0 i hi
        have N3t : vA y3 34 t = (k + 1 : Nat) := by
          rw [a6 t (by omega), vA_Ai _ _ _ (by omega), vA_I]
          exact n1
        generalize Q (updF X t (kaD D k)) (updF Y t (kbD D k)) (s.1 + 1, s.2) = res at *
        have a1 : (m : Int) ≤ 82 + 82 * (res.2.1 - (s.1 + 1)) := a1
        have a2 : s.1 + 1 ≤ res.2.1 := a2
        rcases a8 with ⟨b1, b2⟩ | ⟨b1, z, b2⟩
        · rw [cif_t b1]
          have T3 : TR D lim t X Y res.2 y3 := ⟨fr_M F3 hM (by decide) (by decide), X3, hv, a7, by omega, a3⟩
          obtain ⟨m', y4, c1, c2, c3, c4, c5, c6, c7, c8⟩ := ih (k + 1) res.2 y3 (by omega) T3 N3t
          have e2 : (((t + 1 : Nat) : Int) + -1) = (t : Int) := by omega
          rw [e2] at b2
          have st : ∀ n, gx_it (s_CaseLayoutModel_search_9 (pI lim)) (n + (m' + m + 1)) (pI t, y) = gx_it (s_CaseLayoutModel_search_9 (pI lim)) (n + m') (pI t, y3) := by
            intro n
            rw [show n + (m' + m + 1) = (n + m' + m) + 1 by omega, it_s tn, b2]
          refine ⟨m' + m + 1, y4, ?_, by omega, c3, fr_tr F3 c4, c5, fun i hi => by rw [c6 i hi, N3 i hi], c7, c8.imp (fun ⟨u, v⟩ => ⟨u, fun n => (st n).trans (v n)⟩) (fun ⟨u, z, v⟩ => ⟨u, z, fun n => (st n).trans (v n)⟩)⟩
          show ((m' + m + 1 : Nat) : Int) ≤ ((r + 1 : Nat) : Int) + 1 + 82 * ((srl D lim Q t X Y r (k + 1) res.2).2.1 - s.1)
          omega
        · rw [cif_f (by rw [b1]; decide)]
          refine ⟨m + 1, y3, ?_, ?_, a3, F3, X3, N3, a7, Or.inr ⟨rfl, z, fun n => ?_⟩⟩
          · show ((m + 1 : Nat) : Int) ≤ ((r + 1 : Nat) : Int) + 1 + 82 * (res.2.1 - s.1)
            omega
          · show s.1 ≤ res.2.1
            omega
          · rw [show n + (m + 1) = (n + m) + 1 by omega, it_s tn, b2]
    · rw [cif_f q1] at tn
      rw [cif_f q1]
      have T1 : TR D lim t X Y s y1 := ⟨M1, hX0, hv, R1, h0, h1⟩
      obtain ⟨m', y4, c1, c2, c3, c4, c5, c6, c7, c8⟩ := ih (k + 1) s y1 (by omega) T1 n1
      have st : ∀ n, gx_it (s_CaseLayoutModel_search_9 (pI lim)) (n + (m' + 1)) (pI t, y) = gx_it (s_CaseLayoutModel_search_9 (pI lim)) (n + m') (pI t, y1) := by
        intro n
        rw [show n + (m' + 1) = (n + m') + 1 by omega, it_s tn]
      refine ⟨m' + 1, y4, ?_, c2, c3, fr_tr F1 c4, c5, fun i hi => by rw [c6 i hi, n0 i hi], c7, c8.imp (fun ⟨u, v⟩ => ⟨u, fun n => (st n).trans (v n)⟩) (fun ⟨u, z, v⟩ => ⟨u, z, fun n => (st n).trans (v n)⟩)⟩
      show ((m' + 1 : Nat) : Int) ≤ ((r + 1 : Nat) : Int) + 1 + 82 * ((srl D lim Q t X Y r (k + 1) s).2.1 - s.1)
      omega
theorem r_sr {D : gx_S} (hg : goodD D) {lim : Int} (hl : 0 ≤ lim ∧ lim ≤ 20000) : ∀ (d t : Nat), t + d = (vI D 3).toNat → ∀ X Y s y, TR D lim t X Y s y → vA y 34 t = 0 → STn D lim t X Y 82 (sr D lim d X Y s) s y := by
  have g := hg.1
  unfold goodG at g
  have m1 := mb (w := vI D 0) (h := vI D 1) (by omega) (by omega)
  intro d
  induction d with
  | zero =>
    intro t ht X Y s y hT hn
    have e : t = (vI D 3).toNat := by omega
    rw [e] at hT
    obtain ⟨y', k1, k2, k3⟩ := r_turnN hg hT
    rw [e]
    have e1 : (sr D lim 0 X Y s).2.1 = s.1 := by
      show (jd D X Y s).1 = s.1
      unfold jd
      by_cases q : s.2.1 < gainAll D X Y (vI D 3).toNat ∧ okL D X Y
      · rw [cif_t q]
      · rw [cif_f q]
    have h1 := hT.2.2.2.2
    refine ⟨1, y', by rw [e1]; omega, by rw [e1]; omega, by rw [e1]; omega, fr_mo k2 (by decide) (by decide), fun i hi => ?_, fun i hi => k2.2.1 34 (by decide) i, k3, Or.inl ⟨rfl, fun n => it_s k1⟩⟩
    rw [k2.2.1 32 (by decide), k2.2.1 33 (by decide)]
    exact hT.2.1 i hi
  | succ d ih =>
    intro t ht X Y s y hT hn
    have es : sr D lim (d + 1) X Y s = srl D lim (sr D lim d) t X Y (vI D 0 * vI D 1).toNat 0 s := by
      show srl D lim (sr D lim d) ((vI D 3).toNat - (d + 1)) X Y (vI D 0 * vI D 1).toNat 0 s = _
      rw [show (vI D 3).toNat - (d + 1) = t by omega]
    rw [es]
    obtain ⟨m, y', a1, a2⟩ := r_loop hg hl (t := t) (by omega) (ih (t + 1) (by omega)) (vI D 0 * vI D 1).toNat 0 s y (by omega) hT hn
    exact ⟨m, y', by omega, a2⟩
