/-! run, sight, escape -/
theorem srl_WF {D : gx_S} (hg : goodD D) {lim : Int} {t : Nat} {Q : (Nat → Int) → (Nat → Int) → sg → Bool × sg} {X Y : Nat → Int} (hv : val D X Y t) (hQ : ∀ X Y s, val D X Y (t + 1) → WF D s → WF D (Q X Y s).2) : ∀ (r k : Nat) (s : sg), k + r = (vI D 0 * vI D 1).toNat → WF D s → WF D (srl D lim Q t X Y r k s).2 := by
  intro r
  induction r with
  | zero => intro k s _ h; exact h
  | succ r ih =>
    intro k s hk h
    have hin := k_in hg.1 (k := k) (by omega)
    unfold inG at hin
    show WF D (cif (lies D (updF X t (kaD D k)) (updF Y t (kbD D k)) t) (cif (s.1 < lim) (cif ((Q (updF X t (kaD D k)) (updF Y t (kbD D k)) (s.1 + 1, s.2)).1 = true) (srl D lim Q t X Y r (k + 1) (Q (updF X t (kaD D k)) (updF Y t (kbD D k)) (s.1 + 1, s.2)).2) (false, (Q (updF X t (kaD D k)) (updF Y t (kbD D k)) (s.1 + 1, s.2)).2)) (false, s)) (srl D lim Q t X Y r (k + 1) s)).2
    by_cases q1 : lies D (updF X t (kaD D k)) (updF Y t (kbD D k)) t
    · rw [cif_t q1]
      by_cases q2 : s.1 < lim
      · rw [cif_t q2]
        have w := hQ _ _ (s.1 + 1, s.2) (val_add hv hin.1 hin.2.2.1 q1) h
        by_cases q3 : (Q (updF X t (kaD D k)) (updF Y t (kbD D k)) (s.1 + 1, s.2)).1 = true
        · rw [cif_t q3]; exact ih (k + 1) _ (by omega) w
        · rw [cif_f q3]; exact w
      · rw [cif_f q2]; exact h
    · rw [cif_f q1]; exact ih (k + 1) s (by omega) h
theorem sr_WF {D : gx_S} (hg : goodD D) {lim : Int} : ∀ (d t : Nat) (X Y : Nat → Int) (s : sg), t + d = (vI D 3).toNat → val D X Y t → WF D s → WF D (sr D lim d X Y s).2 := by
  have g := hg.1
  unfold goodG at g
  intro d
  induction d with
  | zero =>
    intro t X Y s ht hv h
    have e : t = (vI D 3).toNat := by omega
    rw [e] at hv
    have gb := gainAll_bd hg X Y (vI D 3).toNat (by omega)
    show WF D (jd D X Y s)
    unfold jd
    by_cases q : s.2.1 < gainAll D X Y (vI D 3).toNat ∧ okL D X Y
    · rw [cif_t q]; exact Or.inr ⟨gb.1, hv⟩
    · rw [cif_f q]; exact h
  | succ d ih =>
    intro t X Y s ht hv h
    have es : sr D lim (d + 1) X Y s = srl D lim (sr D lim d) t X Y (vI D 0 * vI D 1).toNat 0 s := by
      show srl D lim (sr D lim d) ((vI D 3).toNat - (d + 1)) X Y (vI D 0 * vI D 1).toNat 0 s = _
      rw [show (vI D 3).toNat - (d + 1) = t by omega]
    rw [es]
    exact srl_WF hg hv (fun X Y s h1 h2 => ih (t + 1) X Y s (by omega) h1 h2) _ _ _ (by omega) h
theorem P_run {x : gx_S} (hI : INV x) (a1 : Int32) : PAIR (f_CaseLayout_run a1) (f_CaseLayoutModel_run a1) cd3 x := by
  obtain ⟨a, rfl, a0, a1⟩ := a_pI a1
  have hg := hI.2.1
  have g := hg.1
  unfold goodG at g
  by_cases ha : 0 ≤ a ∧ a ≤ 20000
  · obtain ⟨y1, k1, k2, k3, k4, k5, k6⟩ := e_begin (isD_rf x) hg ha
    have T1 : TT x a 0 (fun _ => 0) (fun _ => 0) (0, -1, fun _ => 0, fun _ => 0) y1 := ⟨fr_D k2 (isD_rf x) (by decide) (by decide), k6, k3, fun i hi => absurd hi (Nat.not_lt_zero i), fun i hi => absurd hi (Nat.not_lt_zero i), k4, k5, fun q => absurd rfl q⟩
    obtain ⟨y2, m1, m2, -, m4⟩ := e_try hg ha (vI x 3).toNat 0 (8 - (vI x 3).toNat) (by omega) _ _ _ _ T1
    rw [show (vI x 3).toNat + 1 + (8 - (vI x 3).toNat) = 9 by omega] at m1
    have m1' : f_Search_tryThing 9 (pI 0) (pI 0) y1 = _ := m1
    have wf := sr_WF hg (lim := a) (vI x 3).toNat 0 (fun _ => 0) (fun _ => 0) (0, -1, fun _ => 0, fun _ => 0) (by omega) (fun i hi => absurd hi (Nat.not_lt_zero i)) (Or.inl rfl)
    have mr := r_sr hg ha (vI x 3).toNat 0 (by omega) (fun _ => 0) (fun _ => 0) (0, -1, fun _ => 0, fun _ => 0)
    have m4 : CR x y2 (sr x a (vI x 3).toNat (fun _ => 0) (fun _ => 0) (0, -1, fun _ => 0, fun _ => 0)).2 := m4
    generalize sr x a (vI x 3).toNat (fun _ => 0) (fun _ => 0) (0, -1, fun _ => 0, fun _ => 0) = res at *
    have l0 := vI_lo y2 10
    have l1 := vI_hi y2 10
    rw [m4.2.1] at l0 l1
    have f12 : fw [7, 8, 9, 10] [11, 12, 13, 14, 15, 16, 17, 18, 19] x y2 := fw_tr (fw_mo (fw_fr k2) (by decide) (by decide)) (fw_mo (fw_fr m2) (by decide) (by decide))
    refine ⟨0, cif (res.1 = true) (cif (res.2.2.1 = -1) (pI 2) (pI 0)) (pI 1), y2, ?_, fun y hy => ?_⟩
    · unfold f_CaseLayout_run f_Search_hasFound
      simp (disch := omega) only [gI_p, gA_p, p_l0, p_l1, p_l2, p_l3, p_l4, p_l5, p_l6, p_l7, p_l8, p_l9, p_l99, p_l20000, p_add, p_sub, p_mul, p_neg, p_eq, p_lt, p_le, e_needWithin, bd_s, bx_0, bx_1, bI_zp, cif_if, cif_n, c_forget, e_cellOf, e_pairOf, e_sightOf, vI_I, vI_In, vI_A, vA_I, vA_An, pI_ti, ck_p, tn_p, Int.toNat_natCast, l10, l20, l30, eq_self, cif_tt, cif_ff, cif_t ha, k1, m1', m4.2.1]
      by_cases q : res.1 = true
      · rw [cif_t q, cif_t q]
        by_cases q2 : res.2.2.1 = -1
        · rw [cif_t q2, cif_t q2]; simp (disch := omega) only [gI_p, gA_p, p_l0, p_l1, p_l2, p_l3, p_l4, p_l5, p_l6, p_l7, p_l8, p_l9, p_l99, p_l20000, p_add, p_sub, p_mul, p_neg, p_eq, p_lt, p_le, e_needWithin, bd_s, bx_0, bx_1, bI_zp, cif_if, cif_n, c_forget, e_cellOf, e_pairOf, e_sightOf, vI_I, vI_In, vI_A, vA_I, vA_An, pI_ti, ck_p, tn_p, Int.toNat_natCast, l10, l20, l30, eq_self, cif_tt, cif_ff]
        · rw [cif_f q2, cif_f q2]; simp (disch := omega) only [gI_p, gA_p, p_l0, p_l1, p_l2, p_l3, p_l4, p_l5, p_l6, p_l7, p_l8, p_l9, p_l99, p_l20000, p_add, p_sub, p_mul, p_neg, p_eq, p_lt, p_le, e_needWithin, bd_s, bx_0, bx_1, bI_zp, cif_if, cif_n, c_forget, e_cellOf, e_pairOf, e_sightOf, vI_I, vI_In, vI_A, vA_I, vA_An, pI_ti, ck_p, tn_p, Int.toNat_natCast, l10, l20, l30, eq_self, cif_tt, cif_ff]
      · rw [cif_f q, cif_f q]
    · have hyf : fw [] [] y2 y := y_fw hy
      have f13 : fw [7, 8, 9, 10] [11, 12, 13, 14, 15, 16, 17, 18, 19] x y := fw_tr f12 (fw_mo hyf (by decide) (by decide))
      have hM : isM x y := fw_M f13 hI.1 (by decide) (by decide)
      have f3 : fr [11, 18, 20] [34] y (gx_sA (gx_sI (gx_sI (gx_sI y 11 (pI 0)) 18 (pI 0)) 20 (pI 0)) 34 0 (pI 0)) := fr_tr (fr_tr (fr_tr (fr_sI _ (by decide)) (fr_sI _ (by decide))) (fr_sI _ (by decide))) (fr_sA _ _ (by decide))
      have T5 : TR x a 0 (fun _ => 0) (fun _ => 0) (0, -1, fun _ => 0, fun _ => 0) (gx_sA (gx_sI (gx_sI (gx_sI y 11 (pI 0)) 18 (pI 0)) 20 (pI 0)) 34 0 (pI 0)) := by
        refine ⟨fr_M f3 hM (by decide) (by decide), fun i hi => absurd hi (Nat.not_lt_zero i), fun i hi => absurd hi (Nat.not_lt_zero i), ⟨?_, Or.inl ⟨rfl, ?_⟩⟩, Int.le_refl _, ha.1⟩
        · simp (disch := omega) only [vI_A, vI_I, pI_ti]
        · simp (disch := omega) only [vI_A, vI_In, vI_I, pI_ti]
      obtain ⟨m, y6, c1, c2, c3, c4, -, -, c7, c8⟩ := mr _ T5 (by rw [vA_Ae, pI_ti (by omega) (by omega)])
      have c1 : (m : Int) ≤ 82 + 82 * (res.2.1 - 0) := c1
      obtain ⟨n, hn⟩ : ∃ n, gx_fuel = (n + 1) + m := ⟨gx_fuel - m - 1, by unfold gx_fuel; omega⟩
      have key : f_CaseLayoutModel_search (pI a) (gx_sI (gx_sI (gx_sI y 11 (pI 0)) 18 (pI 0)) 20 (pI 0)) = some (bI (res.1 = true), y6) := by
        unfold f_CaseLayoutModel_search
        simp (disch := omega) only [p_l0, ck_p, tn_p]
        have e0 : (0 : Int).toNat = 0 := rfl
        rw [e0, hn]
        rcases c8 with ⟨d1, d2⟩ | ⟨d1, z, d2⟩
        · have d3 := d2 (n + 1)
          have d3' : gx_it (s_CaseLayoutModel_search_9 (pI a)) (n + 1 + m) (pI 0, gx_sA (gx_sI (gx_sI (gx_sI y 11 (pI 0)) 18 (pI 0)) 20 (pI 0)) 34 0 (pI 0)) = gx_it (s_CaseLayoutModel_search_9 (pI a)) (n + 1) (pI (-1), y6) := d3
          have ex : s_CaseLayoutModel_search_9 (pI a) (pI (-1), y6) = some (.inr (1, pI (-1), y6)) := by
            unfold s_CaseLayoutModel_search_9
            simp (disch := omega) only [p_l0, p_lt, cif_if]
            rw [cif_t (by omega)]
          rw [d3', it_e ex, bl_s, d1, bI_t rfl]
          rfl
        · have d3 : gx_it (s_CaseLayoutModel_search_9 (pI a)) (n + 1 + m) (pI 0, gx_sA (gx_sI (gx_sI (gx_sI y 11 (pI 0)) 18 (pI 0)) 20 (pI 0)) 34 0 (pI 0)) = some (0, z, y6) := d2 (n + 1)
          rw [d3, bl_s, d1, bI_f (by decide)]
          rfl
      have f6 : fw [11, 18, 19, 20] [32, 33, 34, 35, 36, 37] y y6 := fw_tr (fw_mo (fw_fr f3) (by decide) (by decide)) (fw_mo (fw_fr c4) (by decide) (by decide))
      have fx : fw [7, 8, 9, 10, 11, 18, 19, 20] [11, 12, 13, 14, 15, 16, 17, 18, 19, 32, 33, 34, 35, 36, 37] x y6 := fw_tr (fw_mo f13 (by decide) (by decide)) (fw_mo f6 (by decide) (by decide))
      have v18 : (vI y6 18 = 0) ↔ (res.2.2.1 = -1) := by
        rcases c7.2 with ⟨z1, z2⟩ | ⟨z1, z2, -⟩ <;> omega
      have l2 := vI_lo y6 18
      have l3 := vI_hi y6 18
      refine ⟨cif (res.1 = true) (cif (res.2.2.1 = -1) (pI 2) (pI 0)) (pI 1), y6, ?_, ?_, ?_, ⟨fun _ => rfl, fun h => absurd rfl h⟩, ?_⟩
      · unfold f_CaseLayoutModel_run j_CaseLayoutModel_run_17
        simp (disch := omega) only [gI_p, gA_p, p_l0, p_l1, p_l2, p_l3, p_l4, p_l5, p_l6, p_l7, p_l8, p_l9, p_l99, p_l20000, p_add, p_sub, p_mul, p_neg, p_eq, p_lt, p_le, r_in, bd_s, bI_zp, cif_if, cif_n, t_0, t_1, t_2, t_3, m_forget, vI_I, vI_In, vI_A, vA_I, vA_An, pI_ti, ck_p, tn_p, Int.toNat_natCast, cv7, l10, l20, l30, eq_self, cif_tt, cif_ff, cif_t ha, key, v18]
        by_cases q : res.1 = true
        · rw [cif_t q, cif_t q]
          by_cases q2 : res.2.2.1 = -1
          · rw [cif_t q2, cif_t q2]
          · rw [cif_f q2, cif_f q2]
        · rw [cif_f q, cif_f q]
      · exact c4.2.2.trans f3.2.2
      · rw [c4.1 11 (by decide)]
        simp (disch := omega) only [vI_A, vI_In, vI_I, pI_ti]; rfl
      · refine ⟨isM_f hI.1 fx (by decide) (by decide) (by decide) (by decide), good_f hg fx (by decide) (by decide), ?_, res.2, ?_, ?_, ?_⟩
        · rw [fw_I fx 2 (by decide), fw_A fx 0 (by decide)]; exact hI.2.2.1
        · unfold CR at m4 ⊢
          have f26 : fw [11, 18, 19, 20] [32, 33, 34, 35, 36, 37] y2 y6 := fw_tr (fw_mo hyf (by decide) (by decide)) f6
          rw [fw_I f26 9 (by decide), fw_I f26 10 (by decide), fw_A f26 16 (by decide), fw_A f26 17 (by decide), fw_I fx 3 (by decide)]
          exact m4
        · unfold RR at c7 ⊢
          rw [fw_I fx 3 (by decide)]
          exact c7
        · unfold WF at wf ⊢
          rw [fw_I fx 3 (by decide)]
          exact wf.imp id (fun z => ⟨z.1, val_D (fw_I fx 0 (by decide)) (fw_I fx 1 (by decide)) (fw_A fx 0 (by decide)) (fw_A fx 1 (by decide)) (fw_A fx 2 (by decide)) (fw_A fx 3 (by decide)) (fw_A fx 4 (by decide)) (fw_A fx 5 (by decide)) z.2⟩)
  · refine P_throw hI 2 1 (by omega) rfl ?_ (fun y hM _ _ => ?_)
    · unfold f_CaseLayout_run
      simp (disch := omega) only [gI_p, gA_p, p_l0, p_l1, p_l2, p_l3, p_l4, p_l5, p_l6, p_l7, p_l8, p_l9, p_l99, p_l20000, p_add, p_sub, p_mul, p_neg, p_eq, p_lt, p_le, e_needWithin, bd_s, bx_0, bx_1, bI_zp, cif_if, cif_n, c_forget, e_cellOf, e_pairOf, e_sightOf, vI_I, vI_In, vI_A, vA_I, vA_An, pI_ti, ck_p, tn_p, Int.toNat_natCast, l10, l20, l30, eq_self, cif_tt, cif_ff, cif_f ha]
    · unfold f_CaseLayoutModel_run j_CaseLayoutModel_run_17
      simp (disch := omega) only [gI_p, gA_p, p_l0, p_l1, p_l2, p_l3, p_l4, p_l5, p_l6, p_l7, p_l8, p_l9, p_l99, p_l20000, p_add, p_sub, p_mul, p_neg, p_eq, p_lt, p_le, r_in, bd_s, bI_zp, cif_if, cif_n, t_0, t_1, t_2, t_3, m_forget, vI_I, vI_In, vI_A, vA_I, vA_An, pI_ti, ck_p, tn_p, Int.toNat_natCast, cv7, l10, l20, l30, eq_self, cif_tt, cif_ff, cif_f ha]
