/-! the component searches as told -/
theorem frT_rf {x : gx_S} : frT x x := fr_rf
theorem frT_tr {x y z : gx_S} (h : frT x y) (h2 : frT y z) : frT x z := fr_tr h h2
theorem TT_go {D : gx_S} {lim : Int} {t : Nat} {X Y : Nat → Int} {s s' : sg} {x y : gx_S} (h : TT D lim t X Y s x) (hf : frT x y) (hX : ∀ i, i < t → vA y 14 i = X i ∧ vA y 15 i = Y i) (hC : CR D y s') : TT D lim t X Y s' y :=
  ⟨fr_D hf h.1 (by decide) (by decide), SP_f h.2.1 hf, (hf.1 8 (by decide)).trans h.2.2.1, hX, h.2.2.2.2.1, hC⟩
def RecOk (D : gx_S) (lim : Int) (t : Nat) (R : Int32 → Int32 → gx_S → Option (Int32 × gx_S)) (Q : (Nat → Int) → (Nat → Int) → sg → Bool × sg) : Prop := ∀ X Y s x, TT D lim t X Y s x → ∃ y, R (pI t) (pI (gainAll D X Y t)) x = some (bI ((Q X Y s).1 = true), y) ∧ frT x y ∧ (∀ i, i < t → vA y 14 i = X i ∧ vA y 15 i = Y i) ∧ CR D y (Q X Y s).2
theorem e_loop {D : gx_S} (hg : goodD D) {lim : Int} (hl : 0 ≤ lim ∧ lim ≤ 20000) {t : Nat} (ht : (t : Int) < vI D 3) {R : Int32 → Int32 → gx_S → Option (Int32 × gx_S)} {Q : (Nat → Int) → (Nat → Int) → sg → Bool × sg} (hR : RecOk D lim (t + 1) R Q) {X Y : Nat → Int} (gA : Int) (hgA : gainAll D X Y t = gA) : ∀ (r k fuel : Nat) (s : sg) (y : gx_S), k + r = (vI D 0 * vI D 1).toNat → r < fuel → TT D lim t X Y s y → ∃ e, gx_it (s_Search_tryThing_26 R (pI t) (pI gA)) fuel (pI (cf D t k : Nat), y) = some e ∧ frT y e.2.2 ∧ (∀ i, i < t → vA e.2.2 14 i = X i ∧ vA e.2.2 15 i = Y i) ∧ CR D e.2.2 (srl D lim Q t X Y r k s).2 ∧ ((e.1 = 2 ∧ (srl D lim Q t X Y r k s).1 = true) ∨ ((e.1 = 0 ∨ e.1 = 1) ∧ (srl D lim Q t X Y r k s).1 = false)) := by
  have g := hg.1
  unfold goodG at g
  have m1 := mb (w := vI D 0) (h := vI D 1) (by omega) (by omega)
  intro r
  induction r with
  | zero =>
    intro k fuel s y hk hf hT
    obtain ⟨fuel, rfl⟩ : ∃ n, fuel = n + 1 := ⟨fuel - 1, by omega⟩
    have e : k = (vI D 0 * vI D 1).toNat := by omega
    have c4 := cf_le D t (vI D 0 * vI D 1).toNat
    have sp := hT.2.1 t (by omega)
    refine ⟨(2, pI (cf D t k : Nat), y), ?_, frT_rf, hT.2.2.2.1, hT.2.2.2.2.2, Or.inl ⟨rfl, rfl⟩⟩
    apply it_e
    rw [e]
    unfold s_Search_tryThing_26
    simp (disch := omega) only [gA_p, ck_p, tn_p, Int.toNat_natCast, sp.1, p_le, cif_if]
    rw [cif_t (by omega)]
  | succ r ih =>
    intro k fuel s y hk hf hT
    have hk' : k < (vI D 0 * vI D 1).toNat := by omega
    have hin := k_in hg.1 hk'
    unfold inG at hin
    by_cases hF : fitk D t k
    · obtain ⟨fuel, rfl⟩ : ∃ n, fuel = n + 1 := ⟨fuel - 1, by omega⟩
      have tn := e_turn hg hl ht (R := R) hT hk' hF
      rw [hgA] at tn
      have f1 : frT y (gx_sA (gx_sA y 14 t (pI (kaD D k))) 15 t (pI (kbD D k))) := fr_tr (fr_sA _ _ (by decide)) (fr_sA _ _ (by decide))
      have hX1 : ∀ i, i < t + 1 → vA (gx_sA (gx_sA y 14 t (pI (kaD D k))) 15 t (pI (kbD D k))) 14 i = updF X t (kaD D k) i ∧ vA (gx_sA (gx_sA y 14 t (pI (kaD D k))) 15 t (pI (kbD D k))) 15 i = updF Y t (kbD D k) i := by
        intro i hi
        rw [vA_An _ _ _ _ (by decide)]
        by_cases e : i = t
        · subst e
          rw [vA_Ae, vA_Ae, updF_e, updF_e, pI_ti (by omega) (by omega), pI_ti (by omega) (by omega)]
          exact ⟨rfl, rfl⟩
        · rw [vA_Ai _ _ _ e, vA_Ai _ _ _ e, updF_n e, updF_n e, vA_An _ _ _ _ (by decide)]
          exact hT.2.2.2.1 i (by omega)
      have hX0 : ∀ i, i < t → vA (gx_sA (gx_sA y 14 t (pI (kaD D k))) 15 t (pI (kbD D k))) 14 i = X i ∧ vA (gx_sA (gx_sA y 14 t (pI (kaD D k))) 15 t (pI (kbD D k))) 15 i = Y i := by
        intro i hi
        have := hX1 i (by omega)
        rw [updF_n (by omega), updF_n (by omega)] at this
        exact this
      have C1 : CR D (gx_sA (gx_sA y 14 t (pI (kaD D k))) 15 t (pI (kbD D k))) s := CR_f hT.2.2.2.2.2 (fr_tr (fr_sA (S := []) (T := [14, 15]) _ _ (by decide)) (fr_sA _ _ (by decide))) (by decide) (by decide) (by decide) (by decide)
      have T1 := TT_go hT f1 hX0 C1
      have es : srl D lim Q t X Y (r + 1) k s = cif (lies D (updF X t (kaD D k)) (updF Y t (kbD D k)) t) (cif (s.1 < lim) (cif ((Q (updF X t (kaD D k)) (updF Y t (kbD D k)) (s.1 + 1, s.2)).1 = true) (srl D lim Q t X Y r (k + 1) (Q (updF X t (kaD D k)) (updF Y t (kbD D k)) (s.1 + 1, s.2)).2) (false, (Q (updF X t (kaD D k)) (updF Y t (kbD D k)) (s.1 + 1, s.2)).2)) (false, s)) (srl D lim Q t X Y r (k + 1) s) := rfl
      rw [es]
      by_cases q1 : lies D (updF X t (kaD D k)) (updF Y t (kbD D k)) t
      · rw [cif_t q1] at tn
        rw [cif_t q1]
        by_cases q2 : s.1 < lim
        · rw [cif_t q2] at tn
          rw [cif_t q2]
          have l9 := vI_lo y 9
          have z1 := hT.2.2.2.2.2.1
          have f2 : frT y (gx_sI (gx_sA (gx_sA y 14 t (pI (kaD D k))) 15 t (pI (kbD D k))) 9 (pI (s.1 + 1))) := fr_tr f1 (fr_sI _ (by decide))
          have T2 : TT D lim (t + 1) (updF X t (kaD D k)) (updF Y t (kbD D k)) (s.1 + 1, s.2) (gx_sI (gx_sA (gx_sA y 14 t (pI (kaD D k))) 15 t (pI (kbD D k))) 9 (pI (s.1 + 1))) := by
            refine ⟨fr_D f2 hT.1 (by decide) (by decide), SP_f hT.2.1 f2, (f2.1 8 (by decide)).trans hT.2.2.1, hX1, val_add hT.2.2.2.2.1 hin.1 hin.2.2.1 q1, ?_, ?_, ?_⟩
            · rw [vI_I, pI_ti (by omega) (by omega)]
            · rw [vI_In _ _ (by decide)]; exact C1.2.1
            · exact C1.2.2
          obtain ⟨y3, k1, k2, k3, k4⟩ := hR _ _ _ _ T2
          rw [k1, bd_s] at tn
          simp only [bI_zp, cif_n] at tn
          have f3 := frT_tr f2 k2
          have hX3 : ∀ i, i < t → vA y3 14 i = X i ∧ vA y3 15 i = Y i := by
            intro i hi
            have := k3 i (by omega)
            rw [updF_n (by omega), updF_n (by omega)] at this
            exact this
          by_cases q3 : (Q (updF X t (kaD D k)) (updF Y t (kbD D k)) (s.1 + 1, s.2)).1 = true
          · rw [cif_t q3] at tn
            rw [cif_t q3]
            have T3 := TT_go hT f3 hX3 k4
            obtain ⟨e, e1, e2, e3, e4, e5⟩ := ih (k + 1) fuel _ y3 (by omega) (by omega) T3
            refine ⟨e, ?_, frT_tr f3 e2, e3, e4, e5⟩
            rw [it_s tn]
            exact e1
          · rw [cif_f q3] at tn
            rw [cif_f q3]
            exact ⟨_, it_e tn, f3, hX3, k4, Or.inr ⟨Or.inr rfl, rfl⟩⟩
        · rw [cif_f q2] at tn
          rw [cif_f q2]
          exact ⟨_, it_e tn, f1, hX0, C1, Or.inr ⟨Or.inl rfl, rfl⟩⟩
      · rw [cif_f q1] at tn
        rw [cif_f q1]
        obtain ⟨e, e1, e2, e3, e4, e5⟩ := ih (k + 1) fuel s _ (by omega) (by omega) T1
        refine ⟨e, ?_, frT_tr f1 e2, e3, e4, e5⟩
        rw [it_s tn]
        exact e1
    · have es : srl D lim Q t X Y (r + 1) k s = srl D lim Q t X Y r (k + 1) s := by
        show cif (lies D (updF X t (kaD D k)) (updF Y t (kbD D k)) t) _ _ = _
        rw [cif_f]
        intro z
        have := z.1
        rw [updF_e, updF_e] at this
        exact hF this
      have c1 : cf D t (k + 1) = cf D t k := by
        show cf D t k + cif (fitk D t k) 1 0 = _
        rw [cif_f hF]; rfl
      have := ih (k + 1) fuel s y (by omega) (by omega) hT
      rw [c1] at this
      rw [es]
      exact this
theorem e_try {D : gx_S} (hg : goodD D) {lim : Int} (hl : 0 ≤ lim ∧ lim ≤ 20000) : ∀ (d t n : Nat), t + d = (vI D 3).toNat → RecOk D lim t (f_Search_tryThing (d + 1 + n)) (sr D lim d) := by
  have g := hg.1
  unfold goodG at g
  have m1 := mb (w := vI D 0) (h := vI D 1) (by omega) (by omega)
  intro d
  induction d with
  | zero =>
    intro t n ht X Y s x hT
    have e : t = (vI D 3).toNat := by omega
    obtain ⟨hD, hS, h8, hX, hv, hC⟩ := hT
    rw [e] at hX hv
    obtain ⟨y, k1, k2, k3⟩ := e_judge hD hg hX hv hC
    rw [e]
    refine ⟨y, ?_, fr_mo k2 (by decide) (by decide), ?_, k3⟩
    · show f_Search_tryThing (0 + 1 + n) _ _ x = _
      rw [show 0 + 1 + n = n + 1 by omega]
      show F_Search_tryThing (f_Search_tryThing n) (pI ((vI D 3).toNat : Nat)) (pI (gainAll D X Y (vI D 3).toNat)) x = _
      unfold F_Search_tryThing j_Search_tryThing_17
      simp (disch := omega) only [gI_p, hD.1, p_le, cif_if, k1, bd_s]
      rw [cif_t (by omega), bI_t (show (sr D lim 0 X Y s).1 = true from rfl)]
    · intro i hi
      rw [k2.2.1 14 (by decide), k2.2.1 15 (by decide)]
      exact hX i hi
  | succ d ih =>
    intro t n ht X Y s x hT
    have hR := ih (t + 1) n (by omega)
    have hc0 : cf D t 0 = 0 := rfl
    obtain ⟨e, e1, e2, e3, e4, e5⟩ := e_loop hg hl (t := t) (by omega) hR (gainAll D X Y t) rfl (vI D 0 * vI D 1).toNat 0 gx_fuel s x (by omega) (by unfold gx_fuel; omega) hT
    have es : sr D lim (d + 1) X Y s = srl D lim (sr D lim d) t X Y (vI D 0 * vI D 1).toNat 0 s := by
      show srl D lim (sr D lim d) ((vI D 3).toNat - (d + 1)) X Y (vI D 0 * vI D 1).toNat 0 s = _
      rw [show (vI D 3).toNat - (d + 1) = t by omega]
    rw [es]
    refine ⟨e.2.2, ?_, e2, e3, e4⟩
    rw [show d + 1 + 1 + n = (d + 1 + n) + 1 by omega]
    show F_Search_tryThing (f_Search_tryThing (d + 1 + n)) (pI (t : Nat)) (pI (gainAll D X Y t)) x = _
    rw [hc0] at e1
    unfold F_Search_tryThing
    simp only [p_l0]
    have e1' : gx_it (s_Search_tryThing_26 (f_Search_tryThing (d + 1 + n)) (pI t) (pI (gainAll D X Y t))) gx_fuel (pI 0, x) = some e := e1
    simp (disch := omega) only [gI_p, hT.1.1, p_le, p_l7, p_lt, cif_if, e1', bl_s]
    rw [cif_f (by omega), cif_t (by omega)]
    rcases e5 with ⟨w1, w2⟩ | ⟨w1 | w1, w2⟩
    · rw [w1, w2, cif_f (by decide), cif_f (by decide), bI_t rfl]
    · rw [w1, w2, cif_t rfl, bI_f (by decide)]; rfl
    · rw [w1, w2, cif_f (by decide), cif_t rfl, bI_f (by decide)]; rfl
