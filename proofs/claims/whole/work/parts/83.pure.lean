/-! the law, whole -/
theorem lg_self (v : Int64) : lg_cmp v v = 0 := by
  unfold lg_cmp
  rw [if_neg (Int64.lt_irrefl), if_pos rfl]
theorem thrown_s (x : gx_S) : f_CaseLayoutModel_thrown x = some (gx_gI x 11, x) := rfl
theorem T_int {L M : gx_S → Option (Int32 × gx_S)} {y : gx_S} (h : OKC L M y) (i4 : Int32) (a c : Nat) (b d : Int32) : ∃ y', gx_bd (L y) (fun r x => gx_bd (M x) (fun r2 x2 => gx_bd (f_CaseLayoutModel_thrown x2) (fun r3 x3 => if r3 = r then (if r = 0 then (gx_ck 0 1 (if (lg_cmp (gx_gL x3 (0 : Int32).toNatClampNeg) (Int32.toInt64 r2)) = 0 then (some ((.inl (i4, x3)) : (Int32 × gx_S) ⊕ (Nat × Int32 × gx_S))) else (some (.inr (a, b, x3))))) else (some (.inl (i4, x3)))) else (some (.inr (c, d, x3)))))) = some (.inl (i4, y')) ∧ INV y' := by
  obtain ⟨k, x1, r, x2, h1, h2, h3, h4, h5⟩ := h
  refine ⟨x2, ?_, h5⟩
  rw [h1, bd_s, h2, bd_s, thrown_s, bd_s, if_pos h3]
  by_cases e : k = 0
  · rw [if_pos e, ck01, tn0, h4 e, lg_self, if_pos rfl]
  · rw [if_neg e]
theorem T_bool {L M : gx_S → Option (Int32 × gx_S)} {y : gx_S} (h : OKB L M y) (i4 : Int32) (a c : Nat) (b d : Int32) : ∃ y', gx_bd (L y) (fun r x => gx_bd (M x) (fun r2 x2 => gx_bd (f_CaseLayoutModel_thrown x2) (fun r3 x3 => if r3 = r then (if r = 0 then (gx_ck 0 1 (if r2 = 0 then (if (lg_cmp (gx_gL x3 (0 : Int32).toNatClampNeg) 0) = 0 then (some ((.inl (i4, x3)) : (Int32 × gx_S) ⊕ (Nat × Int32 × gx_S))) else (some (.inr (a, b, x3)))) else (if (lg_cmp (gx_gL x3 (0 : Int32).toNatClampNeg) 1) = 0 then (some (.inl (i4, x3))) else (some (.inr (a, b, x3)))))) else (some (.inl (i4, x3)))) else (some (.inr (c, d, x3)))))) = some (.inl (i4, y')) ∧ INV y' := by
  obtain ⟨k, x1, r, x2, h1, h2, h3, h4, h5⟩ := h
  refine ⟨x2, ?_, h5⟩
  rw [h1, bd_s, h2, bd_s, thrown_s, bd_s, if_pos h3]
  by_cases e : k = 0
  · rw [if_pos e, ck01, tn0, h4 e]
    by_cases e2 : r = 0
    · rw [if_pos e2, if_pos e2, lg_self, if_pos rfl]
    · rw [if_neg e2, if_neg e2, lg_self, if_pos rfl]
  · rw [if_neg e]
theorem O_wall0 {x : gx_S} (hI : INV x) (a b : Int32) : OKB (f_CaseLayoutLaw_wall a b 0) (f_CaseLayoutModel_wall a b 0) x := by
  have h := O_wall hI a b (m := 0) (Or.inl rfl)
  rw [← p_l0] at h
  exact h
theorem O_wall1 {x : gx_S} (hI : INV x) (a b : Int32) : OKB (f_CaseLayoutLaw_wall a b 1) (f_CaseLayoutModel_wall a b 1) x := by
  have h := O_wall hI a b (m := 1) (Or.inr rfl)
  rw [← p_l1] at h
  exact h
theorem O_sees0 {x : gx_S} (hI : INV x) (a b : Int32) : OKB (f_CaseLayoutLaw_sees a b 0) (f_CaseLayoutModel_sees a b 0) x := by
  have h := O_sees hI a b (m := 0) (Or.inl rfl)
  rw [← p_l0] at h
  exact h
theorem O_sees1 {x : gx_S} (hI : INV x) (a b : Int32) : OKB (f_CaseLayoutLaw_sees a b 1) (f_CaseLayoutModel_sees a b 1) x := by
  have h := O_sees hI a b (m := 1) (Or.inr rfl)
  rw [← p_l1] at h
  exact h
theorem law_turn {L : Nat} {xs : Nat → Int32} (hL : L ≤ 2050) {i : Nat} (hi : i + 4 ≤ L) {y : gx_S} (hI : INV y) : ∃ y', s_law_43 L xs (pI i, y) = some (.inl (pI (i + 4 : Nat), y')) ∧ INV y' := by
  have k0 : ∀ (o : Option ((Int32 × gx_S) ⊕ (Nat × Int32 × gx_S))), gx_ck (pI i) L o = o := fun o => ck_p (by omega) (by omega) (by omega)
  have k1 : ∀ (o : Option ((Int32 × gx_S) ⊕ (Nat × Int32 × gx_S))), gx_ck (pI i + 1) L o = o := fun o => by rw [p_l1, p_add]; exact ck_p (by omega) (by omega) (by omega)
  have k2 : ∀ (o : Option ((Int32 × gx_S) ⊕ (Nat × Int32 × gx_S))), gx_ck (pI i + 2) L o = o := fun o => by rw [p_l2, p_add]; exact ck_p (by omega) (by omega) (by omega)
  have k3 : ∀ (o : Option ((Int32 × gx_S) ⊕ (Nat × Int32 × gx_S))), gx_ck (pI i + 3) L o = o := fun o => by rw [p_l3, p_add]; exact ck_p (by omega) (by omega) (by omega)
  have k4 : pI i + 4 = pI (i + 4 : Nat) := by rw [p_l4, p_add]; rfl
  have kL : ¬ (Int32.ofNat L - 4 < pI i) := by
    have e : Int32.ofNat L = pI L := (Int32.ofInt_eq_ofNat).symm
    rw [e, p_l4, p_sub, p_lt (by omega) (by omega) (by omega) (by omega)]
    omega
  unfold s_law_43 j_law_163L43 j_law_196L43 j_law_230L43 j_law_654L43 j_law_687L43 j_law_721L43 j_law_1070L43
  simp only [k0, k1, k2, k3, k4]
  rw [if_neg kL]
  generalize xs (pI i).toNatClampNeg &&& 15 = v
  generalize xs (pI i + 1).toNatClampNeg = A1
  generalize xs (pI i + 2).toNatClampNeg = A2
  generalize xs (pI i + 3).toNatClampNeg = A3
  by_cases n0 : v < 0
  · rw [if_pos n0]; exact ⟨y, rfl, hI⟩
  rw [if_neg n0]
  by_cases n1 : 15 < v
  · rw [if_pos n1]; exact ⟨y, rfl, hI⟩
  rw [if_neg n1]
  by_cases c0 : v = 0
  · rw [if_pos c0]
    by_cases z : A3 = 0
    · simp only [if_pos z]; exact T_bool (O_wall0 hI A1 A2) _ _ _ _ _
    · simp only [if_neg z]; exact T_bool (O_wall1 hI A1 A2) _ _ _ _ _
  rw [if_neg c0]
  by_cases c1 : v = 1
  · rw [if_pos c1]
    exact T_int (O_zone hI A1 A2 A3) _ _ _ _ _
  rw [if_neg c1]
  by_cases c2 : v = 2
  · rw [if_pos c2]
    exact T_int (O_thing hI A1 A2 A3) _ _ _ _ _
  rw [if_neg c2]
  by_cases c3 : v = 3
  · rw [if_pos c3]
    exact T_int (O_apart hI A1 A2 A3) _ _ _ _ _
  rw [if_neg c3]
  by_cases c4 : v = 4
  · rw [if_pos c4]
    exact T_int (O_wish hI A1 A2 A3) _ _ _ _ _
  rw [if_neg c4]
  by_cases c5 : v = 5
  · rw [if_pos c5]
    exact T_int (O_place hI A1 A2) _ _ _ _ _
  rw [if_neg c5]
  by_cases c6 : v = 6
  · rw [if_pos c6]
    by_cases z : A3 = 0
    · simp only [if_pos z]; exact T_bool (O_sees0 hI A1 A2) _ _ _ _ _
    · simp only [if_neg z]; exact T_bool (O_sees1 hI A1 A2) _ _ _ _ _
  rw [if_neg c6]
  by_cases c7 : v = 7
  · rw [if_pos c7]
    exact T_int (O_exit hI A1 A2) _ _ _ _ _
  rw [if_neg c7]
  by_cases c8 : v = 8
  · rw [if_pos c8]
    exact T_int (O_most hI A1) _ _ _ _ _
  rw [if_neg c8]
  by_cases c9 : v = 9
  · rw [if_pos c9]
    exact T_int (O_run hI A1) _ _ _ _ _
  rw [if_neg c9]
  by_cases c10 : v = 10
  · rw [if_pos c10]
    obtain ⟨w, y2, e1, e2, e3⟩ := N_nodes hI
    refine ⟨y2, ?_, e3⟩
    rw [e1, bd_s, e2, bd_s, if_pos rfl]
  rw [if_neg c10]
  by_cases c11 : v = 11
  · rw [if_pos c11]
    exact T_int (O_at hI A1 A2) _ _ _ _ _
  rw [if_neg c11]
  by_cases c12 : v = 12
  · rw [if_pos c12]
    obtain ⟨w, y2, e1, e2, e3⟩ := N_worth hI
    refine ⟨y2, ?_, e3⟩
    rw [e1, bd_s, e2, bd_s, if_pos rfl]
  rw [if_neg c12]
  by_cases c13 : v = 13
  · rw [if_pos c13]
    exact T_bool (O_sight hI A1 A2) _ _ _ _ _
  rw [if_neg c13]
  by_cases c14 : v = 14
  · rw [if_pos c14]
    exact T_int (O_escape hI A1 A2) _ _ _ _ _
  rw [if_neg c14]
  exact T_int (O_count hI A1) _ _ _ _ _
theorem INV_0 (a b : Int32) : INV (x_0 a b) := by
  have hw : ∀ z : Int32, 1 ≤ (cs_w z 1 9).toInt ∧ (cs_w z 1 9).toInt ≤ 9 ∧ (cs_h z).toInt = (cs_w z 1 9).toInt := by
    intro z
    obtain ⟨w, rfl, w0, w1⟩ := a_pI z
    unfold cs_w cs_h
    simp (disch := omega) only [p_l1, p_l9, p_lt, p_le]
    by_cases q1 : w < 9
    · rw [if_pos q1]
      simp (disch := omega) only [p_lt]
      by_cases q2 : 1 < w
      · rw [if_pos q2, if_pos (by omega), if_pos (by omega), pI_ti (by omega) (by omega)]; omega
      · rw [if_neg q2]
        by_cases q3 : 1 ≤ w
        · rw [if_pos q3, if_pos (by omega), pI_ti (by omega) (by omega), pI_ti (by omega) (by omega)]; omega
        · rw [if_neg q3, pI_ti (by omega) (by omega)]; omega
    · rw [if_neg q1]
      simp (disch := omega) only [p_lt]
      rw [if_pos (by omega), if_pos (by omega)]
      by_cases q3 : w ≤ 9
      · rw [if_pos q3, pI_ti (by omega) (by omega), pI_ti (by omega) (by omega)]; omega
      · rw [if_neg q3, pI_ti (by omega) (by omega)]; omega
  have i0 : vI (x_0 a b) 0 = (cs_w a 1 9).toInt := rfl
  have i1 : vI (x_0 a b) 1 = (cs_w b 1 9).toInt := rfl
  have i2 : vI (x_0 a b) 2 = 0 := rfl
  have i3 : vI (x_0 a b) 3 = 0 := rfl
  have i4 : vI (x_0 a b) 4 = 0 := rfl
  have i5 : vI (x_0 a b) 5 = 0 := rfl
  have i6 : vI (x_0 a b) 6 = 99 := rfl
  have i12 : vI (x_0 a b) 12 = (cs_h a).toInt := rfl
  have i13 : vI (x_0 a b) 13 = (cs_h b).toInt := rfl
  have aa : ∀ k i, vA (x_0 a b) k i = 0 := fun _ _ => rfl
  have ha := hw a
  have hb := hw b
  refine ⟨⟨⟨?_, ?_, rfl, rfl, rfl, rfl⟩, ⟨fun _ => rfl, fun _ => rfl, fun _ => rfl, fun _ => rfl, fun _ => rfl, fun _ => rfl, fun _ => rfl, fun _ => rfl, fun _ => rfl, fun _ => rfl⟩, fun e he => ?_⟩, ⟨?_, fun i => Or.inl rfl, fun t ht => ?_, fun i => ?_, fun _ _ _ _ => rfl, fun i => ?_, fun p hp => ?_, fun p t ht h => absurd rfl h, fun e he => ?_, fun i => Or.inl rfl⟩, ?_, SGM_0 rfl rfl rfl rfl⟩
  · rw [i12, i0]; omega
  · rw [i13, i1]; omega
  · rw [i5] at he; omega
  · unfold goodG
    rw [i0, i1, i3, i4, i5, i6]; omega
  · rw [i3] at ht; omega
  · rw [aa]; omega
  · rw [aa]; omega
  · rw [i4] at hp; omega
  · rw [i5] at he; omega
  · rw [cn_zero (fun j _ => aa 0 j), i2]; rfl
theorem law_true_all {L : Nat} {xs : Nat → Int32} (hL : L ≤ 2050) : law_true L xs := by
  obtain ⟨b, h1, h2⟩ := it_inv (f := s_law_43 L xs) (fun k s => ∃ y, s = (pI (2 + 4 * k : Nat), y) ∧ INV y) (fun e => e.1 = 30) ((L - 2) / 4) (fun k s hk hs => by
      obtain ⟨y, rfl, hI⟩ := hs
      obtain ⟨y', e, hI'⟩ := law_turn (xs := xs) hL (i := 2 + 4 * k) (by omega) hI
      exact Or.inl ⟨_, e, y', by rw [show 2 + 4 * k + 4 = 2 + 4 * (k + 1) by omega], hI'⟩) (fun s hs => by
      obtain ⟨y, rfl, hI⟩ := hs
      refine ⟨(30, pI (2 + 4 * ((L - 2) / 4) : Nat), y), ?_, rfl⟩
      have e : Int32.ofNat L = pI L := (Int32.ofInt_eq_ofNat).symm
      unfold s_law_43
      rw [if_pos]
      show Int32.ofNat L - 4 < pI (2 + 4 * ((L - 2) / 4) : Nat)
      rw [e, p_l4, p_sub, p_lt (by omega) (by omega) (by omega) (by omega)]
      omega) ((L - 2) / 4) 0 600 (2, x_0 (cs_c L xs 0) (cs_c L xs 1)) (by omega) (by omega) ⟨_, rfl, INV_0 _ _⟩
  exact ⟨b, h1, h2⟩
