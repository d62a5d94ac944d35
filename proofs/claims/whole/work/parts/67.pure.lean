/-! the search, told once -/
def kaD (D : gx_S) (k : Nat) : Int := (k : Int) - k / vI D 0 * vI D 0
def kbD (D : gx_S) (k : Nat) : Int := (k : Int) / vI D 0
def fitk (D : gx_S) (t k : Nat) : Prop := fits D t (kaD D k) (kbD D k)
noncomputable def cf (D : gx_S) (t : Nat) : Nat → Nat
  | 0 => 0
  | k + 1 => cf D t k + cif (fitk D t k) 1 0
noncomputable def srl (D : gx_S) (lim : Int) (R : (Nat → Int) → (Nat → Int) → sg → Bool × sg) (t : Nat) (X Y : Nat → Int) : Nat → Nat → sg → Bool × sg
  | 0, _, s => (true, s)
  | r + 1, k, s => cif (lies D (updF X t (kaD D k)) (updF Y t (kbD D k)) t) (cif (s.1 < lim) (cif ((R (updF X t (kaD D k)) (updF Y t (kbD D k)) (s.1 + 1, s.2)).1 = true) (srl D lim R t X Y r (k + 1) (R (updF X t (kaD D k)) (updF Y t (kbD D k)) (s.1 + 1, s.2)).2) (false, (R (updF X t (kaD D k)) (updF Y t (kbD D k)) (s.1 + 1, s.2)).2)) (false, s)) (srl D lim R t X Y r (k + 1) s)
noncomputable def sr (D : gx_S) (lim : Int) : Nat → (Nat → Int) → (Nat → Int) → sg → Bool × sg
  | 0, X, Y, s => (true, jd D X Y s)
  | d + 1, X, Y, s => srl D lim (sr D lim d) ((vI D 3).toNat - (d + 1)) X Y (vI D 0 * vI D 1).toNat 0 s
theorem cf_le (D : gx_S) (t k : Nat) : cf D t k ≤ k := by
  induction k with
  | zero => exact Nat.le_refl _
  | succ k ih =>
    show cf D t k + cif (fitk D t k) 1 0 ≤ k + 1
    by_cases h : fitk D t k
    · rw [cif_t h]; omega
    · rw [cif_f h]; omega
theorem cf_mo (D : gx_S) (t k j : Nat) : cf D t k ≤ cf D t (k + j) := by
  induction j with
  | zero => exact Nat.le_refl _
  | succ j ih =>
    show _ ≤ cf D t (k + j) + _
    omega
theorem k_in {D : gx_S} (hg : goodG D) {k : Nat} (hk : k < (vI D 0 * vI D 1).toNat) : inG D (kaD D k) (kbD D k) := by
  have g := hg
  unfold goodG at g
  have m1 := mb (w := vI D 0) (h := vI D 1) (by omega) (by omega)
  have d := dm (k := k) (w := vI D 0) (h := vI D 1) (by omega) (by omega) (by omega)
  unfold inG kaD kbD
  omega
theorem gp_c {D : gx_S} {X Y X' Y' : Nat → Int} {a b : Nat} (h1 : X a = X' a ∧ Y a = Y' a) (h2 : X b = X' b ∧ Y b = Y' b) : gp D X Y a b = gp D X' Y' a b := by
  unfold gp
  rw [h1.1, h1.2, h2.1, h2.2]
theorem lies_c {D : gx_S} {X Y X' Y' : Nat → Int} {t : Nat} (h : ∀ i, i < t + 1 → X i = X' i ∧ Y i = Y' i) (hl : lies D X Y t) : lies D X' Y' t := by
  have e := h t (by omega)
  refine ⟨by rw [← e.1, ← e.2]; exact hl.1, fun a ha => ?_⟩
  have q := hl.2 a ha
  unfold apt at q ⊢
  rw [← gp_c e (h a (by omega))]
  exact q
theorem val_c {D : gx_S} {X Y X' Y' : Nat → Int} {n : Nat} (h : ∀ i, i < n → X i = X' i ∧ Y i = Y' i) (hv : val D X Y n) : val D X' Y' n := by
  intro t ht
  have q := hv t ht
  have e := h t ht
  exact ⟨by rw [← e.1]; exact q.1, by rw [← e.2]; exact q.2.1, lies_c (fun i hi => h i (by omega)) q.2.2⟩
theorem gainAll_c {D : gx_S} {X Y X' Y' : Nat → Int} {n : Nat} (h : ∀ i, i < n → X i = X' i ∧ Y i = Y' i) : gainAll D X Y n = gainAll D X' Y' n := by
  unfold gainAll
  refine sumTo_same (fun j hj => ?_)
  unfold gain
  refine sumTo_same (fun i hi => ?_)
  unfold wsh
  rw [gp_c (h j hj) (h i (by omega))]
theorem val_add {D : gx_S} {X Y : Nat → Int} {t : Nat} {a b : Int} (hv : val D X Y t) (ha : 0 ≤ a) (hb : 0 ≤ b) (hl : lies D (updF X t a) (updF Y t b) t) : val D (updF X t a) (updF Y t b) (t + 1) := by
  intro i hi
  by_cases e : i = t
  · subst e
    rw [updF_e, updF_e]
    exact ⟨ha, hb, hl⟩
  · have q := val_c (X' := updF X t a) (Y' := updF Y t b) (fun j hj => ⟨(updF_n (by omega)).symm, (updF_n (by omega)).symm⟩) hv
    exact q i (by omega)
/-- the spots of each thing, as begin lists them -/
def SP (D x : gx_S) : Prop := ∀ t : Nat, t < (vI D 3).toNat → vA x 19 t = (cf D t (vI D 0 * vI D 1).toNat : Nat) ∧ ∀ k, k < (vI D 0 * vI D 1).toNat → fitk D t k → vA x 18 (81 * (t : Int) + (cf D t k : Nat)).toNat = 9 * kbD D k + kaD D k
def TT (D : gx_S) (lim : Int) (t : Nat) (X Y : Nat → Int) (s : sg) (x : gx_S) : Prop := isD D x ∧ SP D x ∧ vI x 8 = lim ∧ (∀ i, i < t → vA x 14 i = X i ∧ vA x 15 i = Y i) ∧ val D X Y t ∧ CR D x s
def frT (x y : gx_S) : Prop := fr [7, 9, 10] [11, 12, 13, 14, 15, 16, 17] x y
theorem SP_f {D x y : gx_S} (h : SP D x) (hf : frT x y) : SP D y := by
  intro t ht
  have q := h t ht
  refine ⟨by rw [hf.2.1 19 (by decide)]; exact q.1, fun k hk hF => ?_⟩
  rw [hf.2.1 18 (by decide)]
  exact q.2 k hk hF
set_option maxHeartbeats 1000000 in
theorem e_turn {D : gx_S} (hg : goodD D) {lim : Int} (hl : 0 ≤ lim ∧ lim ≤ 20000) {t : Nat} (ht : (t : Int) < vI D 3) {R : Int32 → Int32 → gx_S → Option (Int32 × gx_S)} {X Y : Nat → Int} {s : sg} {y : gx_S} (hT : TT D lim t X Y s y) {k : Nat} (hk : k < (vI D 0 * vI D 1).toNat) (hF : fitk D t k) : s_Search_tryThing_26 R (pI t) (pI (gainAll D X Y t)) (pI (cf D t k : Nat), y) = cif (lies D (updF X t (kaD D k)) (updF Y t (kbD D k)) t) (cif (s.1 < lim) (gx_bd (R (pI (t + 1 : Nat)) (pI (gainAll D (updF X t (kaD D k)) (updF Y t (kbD D k)) (t + 1))) (gx_sI (gx_sA (gx_sA y 14 t (pI (kaD D k))) 15 t (pI (kbD D k))) 9 (pI (s.1 + 1)))) (fun r13 x13 => cif (r13 = pI 0) (some (.inr (1, pI (cf D t k : Nat), x13))) (some (.inl (pI (cf D t (k + 1) : Nat), x13))))) (some (.inr (0, pI (cf D t k : Nat), gx_sA (gx_sA y 14 t (pI (kaD D k))) 15 t (pI (kbD D k)))))) (some (.inl (pI (cf D t (k + 1) : Nat), gx_sA (gx_sA y 14 t (pI (kaD D k))) 15 t (pI (kbD D k))))) := by
  obtain ⟨hD, hS, h8, hX, hv, hC⟩ := hT
  have g := hg.1
  unfold goodG at g
  have m1 := mb (w := vI D 0) (h := vI D 1) (by omega) (by omega)
  have hin := k_in hg.1 hk
  have hin' := hin
  unfold inG at hin'
  have sp := hS t (by omega)
  have sp2 := sp.2 k hk hF
  have c1 : cf D t (k + 1) = cf D t k + 1 := by
    show cf D t k + cif (fitk D t k) 1 0 = _
    rw [cif_t hF]
  have c2 := cf_mo D t (k + 1) ((vI D 0 * vI D 1).toNat - (k + 1))
  rw [show k + 1 + ((vI D 0 * vI D 1).toNat - (k + 1)) = (vI D 0 * vI D 1).toNat by omega] at c2
  have c3 := cf_le D t k
  have c4 := cf_le D t (vI D 0 * vI D 1).toNat
  have hX1 : ∀ i, i < t + 1 → vA (gx_sA (gx_sA y 14 t (pI (kaD D k))) 15 t (pI (kbD D k))) 14 i = updF X t (kaD D k) i ∧ vA (gx_sA (gx_sA y 14 t (pI (kaD D k))) 15 t (pI (kbD D k))) 15 i = updF Y t (kbD D k) i := by
    intro i hi
    rw [vA_An _ _ _ _ (by decide)]
    by_cases e : i = t
    · subst e
      rw [vA_Ae, vA_Ae, updF_e, updF_e, pI_ti (by omega) (by omega), pI_ti (by omega) (by omega)]
      exact ⟨rfl, rfl⟩
    · rw [vA_Ai _ _ _ e, vA_Ai _ _ _ e, updF_n e, updF_n e, vA_An _ _ _ _ (by decide)]
      exact hX i (by omega)
  have hp1 : plc (updF X t (kaD D k)) (updF Y t (kbD D k)) (t + 1) := by
    intro i hi
    by_cases e : i = t
    · subst e
      rw [updF_e, updF_e]; omega
    · rw [updF_n e, updF_n e]
      exact val_plc hg (by omega) hv i (by omega)
  have fr1 : fr [] [14, 15] y (gx_sA (gx_sA y 14 t (pI (kaD D k))) 15 t (pI (kbD D k))) := fr_tr (fr_sA _ _ (by decide)) (fr_sA _ _ (by decide))
  have hD1 := fr_D fr1 hD (by decide) (by decide)
  have kp := e_keeps hD1 hg ht hX1 hp1
  have fr2 : fr [9] [] (gx_sA (gx_sA y 14 t (pI (kaD D k))) 15 t (pI (kbD D k))) (gx_sI (gx_sA (gx_sA y 14 t (pI (kaD D k))) 15 t (pI (kbD D k))) 9 (pI (s.1 + 1))) := fr_sI _ (by decide)
  have gn := e_gain (fr_D fr2 hD1 (by decide) (by decide)) hg ht (fun i hi => by rw [fr2.2.1 14 (by decide), fr2.2.1 15 (by decide)]; exact hX1 i hi) hp1
  have gc : gainAll D X Y t = gainAll D (updF X t (kaD D k)) (updF Y t (kbD D k)) t := gainAll_c (fun i hi => ⟨(updF_n (by omega)).symm, (updF_n (by omega)).symm⟩)
  have ga : gainAll D (updF X t (kaD D k)) (updF Y t (kbD D k)) (t + 1) = gainAll D X Y t + gain D (updF X t (kaD D k)) (updF Y t (kbD D k)) t := by
    rw [gc]; rfl
  have hls : lies D (updF X t (kaD D k)) (updF Y t (kbD D k)) t ↔ ∀ a, a < t → apt D (updF X t (kaD D k)) (updF Y t (kbD D k)) a t := by
    unfold lies
    rw [updF_e, updF_e]
    exact ⟨fun z => z.2, fun z => ⟨hF, z⟩⟩
  rw [ga, cif_c hls]
  generalize (∀ a, a < t → apt D (updF X t (kaD D k)) (updF Y t (kbD D k)) a t) = Q at *
  generalize gain D (updF X t (kaD D k)) (updF Y t (kbD D k)) t = gn0 at *
  generalize gainAll D X Y t = gA at *
  have l9 := vI_lo y 9
  have h9 := vI_hi y 9
  have d1 : (9 * kbD D k + kaD D k) / 9 = kbD D k := by omega
  have d2 : 9 * kbD D k + kaD D k - 9 * kbD D k = kaD D k := by omega
  have z1 := hC.1
  have q1 : (cf D t (k + 1) : Int) = (cf D t k : Int) + 1 := by omega
  have q2 : ((t + 1 : Nat) : Int) = (t : Int) + 1 := by omega
  rw [q1, q2]
  unfold s_Search_tryThing_26
  simp (disch := omega) only [gI_p, gA_p, ck_p, tn_p, Int.toNat_natCast, sp.1, p_le, p_l81, p_mul, p_add, m81, sp2, p_l9, p_div, d1, m9, p_sub, d2, kp, bd_s, p_l0, bI_zp, cif_if, cif_n, vI_A, z1, h8, p_lt, p_l1, gn]
  rw [cif_f (by omega)]
