/-! a turn of the law -/
def OKC (L M : gx_S → Option (Int32 × gx_S)) (x : gx_S) : Prop := ∃ k x1 r x2, L x = some (k, x1) ∧ M x1 = some (r, x2) ∧ gx_gI x2 11 = k ∧ (k = 0 → gx_gL x2 0 = Int32.toInt64 r) ∧ INV x2
def OKB (L M : gx_S → Option (Int32 × gx_S)) (x : gx_S) : Prop := ∃ k x1 r x2, L x = some (k, x1) ∧ M x1 = some (r, x2) ∧ gx_gI x2 11 = k ∧ (k = 0 → gx_gL x2 0 = if r = 0 then 0 else 1) ∧ INV x2
theorem gI_v {x : gx_S} {k : Nat} {v : Int} (h : vI x k = v) : gx_gI x k = pI v := by rw [gI_p, h]
theorem tn0 : (0 : Int32).toNatClampNeg = 0 := by decide
theorem gL_sL (x : gx_S) (v : Int64) : gx_gL (gx_sL x 0 v) 0 = v := by
  show (if (0 : Nat) = 0 then v else x.2.2 0) = v
  rw [if_pos rfl]
theorem ck01 {α : Type} {o : Option α} : gx_ck 0 1 o = o := by
  rw [p_l0]; exact ck_p (by omega) (by omega) (by omega)
theorem H_int {C : gx_S → Option (Nat × Int32 × gx_S)} {M L : gx_S → Option (Int32 × gx_S)} {cd : Nat → Int} {x : gx_S} {H : Nat → gx_S → Option (Int32 × gx_S)} (h : PAIR C M cd x) (h0 : cd 0 = 0) (hcb : ∀ j, 0 ≤ cd j ∧ cd j ≤ 3) (hH : ∀ j y, cd j ≠ 0 → H j y = some (pI (cd j), y)) (hL : L x = gx_bh (C x) (fun r1 x1 => gx_ck 0 1 (some (0, gx_sL x1 (0 : Int32).toNatClampNeg (Int32.toInt64 r1)))) H) : OKC L M x := by
  obtain ⟨j, v, x1, hC, hM⟩ := h
  by_cases e : j = 0
  · subst e
    obtain ⟨r, y2, k1, k2, k3, k4, k5⟩ := hM (gx_sL x1 0 (Int32.toInt64 v)) (Or.inr ⟨_, rfl⟩)
    refine ⟨0, gx_sL x1 0 (Int32.toInt64 v), r, y2, ?_, k1, ?_, fun _ => ?_, k5⟩
    · rw [hL, hC]
      show gx_ck 0 1 (some (0, gx_sL x1 (0 : Int32).toNatClampNeg (Int32.toInt64 v))) = _
      rw [ck01, tn0]
    · rw [h0] at k3; rw [gI_v k3]; rfl
    · rw [k2, gL_sL, k4.1 rfl]
  · obtain ⟨r, y2, k1, k2, k3, k4, k5⟩ := hM x1 (Or.inl rfl)
    have c := k4.2 e
    have b := hcb j
    refine ⟨pI (cd j), x1, r, y2, ?_, k1, gI_v k3, fun z => ?_, k5⟩
    · rw [hL, hC]
      show (if j = 0 then _ else H j x1) = _
      rw [if_neg e, hH j x1 c]
    · rw [p_l0, p_eq (by omega) (by omega) (by omega) (by omega)] at z
      exact absurd z c
theorem H_bool {C : gx_S → Option (Nat × Int32 × gx_S)} {M L : gx_S → Option (Int32 × gx_S)} {cd : Nat → Int} {x : gx_S} {H : Nat → gx_S → Option (Int32 × gx_S)} (h : PAIR C M cd x) (h0 : cd 0 = 0) (hcb : ∀ j, 0 ≤ cd j ∧ cd j ≤ 3) (hH : ∀ j y, cd j ≠ 0 → H j y = some (pI (cd j), y)) (hL : L x = gx_bh (C x) (fun r1 x1 => if r1 = 0 then (gx_ck 0 1 (some (0, gx_sL x1 (0 : Int32).toNatClampNeg 0))) else (gx_ck 0 1 (some (0, gx_sL x1 (0 : Int32).toNatClampNeg 1)))) H) : OKB L M x := by
  obtain ⟨j, v, x1, hC, hM⟩ := h
  by_cases e : j = 0
  · subst e
    obtain ⟨r, y2, k1, k2, k3, k4, k5⟩ := hM (gx_sL x1 0 (if v = 0 then 0 else 1)) (Or.inr ⟨_, rfl⟩)
    refine ⟨0, gx_sL x1 0 (if v = 0 then 0 else 1), r, y2, ?_, k1, ?_, fun _ => ?_, k5⟩
    · rw [hL, hC]
      show (if v = 0 then (gx_ck 0 1 (some (0, gx_sL x1 (0 : Int32).toNatClampNeg 0))) else (gx_ck 0 1 (some (0, gx_sL x1 (0 : Int32).toNatClampNeg 1)))) = _
      rw [ck01, ck01, tn0]
      by_cases q : v = 0
      · rw [if_pos q, if_pos q]
      · rw [if_neg q, if_neg q]
    · rw [h0] at k3; rw [gI_v k3]; rfl
    · rw [k2, gL_sL, k4.1 rfl]
  · obtain ⟨r, y2, k1, k2, k3, k4, k5⟩ := hM x1 (Or.inl rfl)
    have c := k4.2 e
    have b := hcb j
    refine ⟨pI (cd j), x1, r, y2, ?_, k1, gI_v k3, fun z => ?_, k5⟩
    · rw [hL, hC]
      show (if j = 0 then _ else H j x1) = _
      rw [if_neg e, hH j x1 c]
    · rw [p_l0, p_eq (by omega) (by omega) (by omega) (by omega)] at z
      exact absurd z c
theorem b13 (j : Nat) : 0 ≤ cd13 j ∧ cd13 j ≤ 3 := by unfold cd13; split; omega; split <;> omega
theorem b23 (j : Nat) : 0 ≤ cd23 j ∧ cd23 j ≤ 3 := by unfold cd23; split; omega; split <;> omega
theorem b12 (j : Nat) : 0 ≤ cd12 j ∧ cd12 j ≤ 3 := by unfold cd12; split; omega; split <;> omega
theorem b1 (j : Nat) : 0 ≤ cd1 j ∧ cd1 j ≤ 3 := by unfold cd1; split <;> omega
theorem b3 (j : Nat) : 0 ≤ cd3 j ∧ cd3 j ≤ 3 := by unfold cd3; split <;> omega
theorem b123 (j : Nat) : 0 ≤ cd123 j ∧ cd123 j ≤ 3 := by unfold cd123; split; omega; split; omega; split <;> omega
theorem h13 (j : Nat) (y : gx_S) (h : cd13 j ≠ 0) : (if j = 1 then (some ((1 : Int32), y)) else (if j = 3 then (some (2, y)) else (none))) = some (pI (cd13 j), y) := by
  unfold cd13 at h ⊢
  by_cases e : j = 1
  · rw [if_pos e, if_pos e]; rfl
  · rw [if_neg e] at h
    rw [if_neg e, if_neg e]
    by_cases e2 : j = 3
    · rw [if_pos e2, if_pos e2]; rfl
    · rw [if_neg e2] at h; exact absurd rfl h
theorem h23 (j : Nat) (y : gx_S) (h : cd23 j ≠ 0) : (if j = 2 then (some ((1 : Int32), y)) else (if j = 3 then (some (2, y)) else (none))) = some (pI (cd23 j), y) := by
  unfold cd23 at h ⊢
  by_cases e : j = 2
  · rw [if_pos e, if_pos e]; rfl
  · rw [if_neg e] at h
    rw [if_neg e, if_neg e]
    by_cases e2 : j = 3
    · rw [if_pos e2, if_pos e2]; rfl
    · rw [if_neg e2] at h; exact absurd rfl h
theorem h12 (j : Nat) (y : gx_S) (h : cd12 j ≠ 0) : (if j = 1 then (some ((1 : Int32), y)) else (if j = 2 then (some (2, y)) else (none))) = some (pI (cd12 j), y) := by
  unfold cd12 at h ⊢
  by_cases e : j = 1
  · rw [if_pos e, if_pos e]; rfl
  · rw [if_neg e] at h
    rw [if_neg e, if_neg e]
    by_cases e2 : j = 2
    · rw [if_pos e2, if_pos e2]; rfl
    · rw [if_neg e2] at h; exact absurd rfl h
theorem h1 (j : Nat) (y : gx_S) (h : cd1 j ≠ 0) : (if j = 1 then (some ((1 : Int32), y)) else (none)) = some (pI (cd1 j), y) := by
  unfold cd1 at h ⊢
  by_cases e : j = 1
  · rw [if_pos e, if_pos e]; rfl
  · rw [if_neg e] at h; exact absurd rfl h
theorem h3 (j : Nat) (y : gx_S) (h : cd3 j ≠ 0) : (if j = 3 then (some ((1 : Int32), y)) else (none)) = some (pI (cd3 j), y) := by
  unfold cd3 at h ⊢
  by_cases e : j = 3
  · rw [if_pos e, if_pos e]; rfl
  · rw [if_neg e] at h; exact absurd rfl h
theorem h123 (j : Nat) (y : gx_S) (h : cd123 j ≠ 0) : (if j = 1 then (some ((1 : Int32), y)) else (if j = 2 then (some (2, y)) else (if j = 3 then (some (3, y)) else (none)))) = some (pI (cd123 j), y) := by
  unfold cd123 at h ⊢
  by_cases e : j = 1
  · rw [if_pos e, if_pos e]; rfl
  · rw [if_neg e] at h
    rw [if_neg e, if_neg e]
    by_cases e2 : j = 2
    · rw [if_pos e2, if_pos e2]; rfl
    · rw [if_neg e2] at h
      rw [if_neg e2, if_neg e2]
      by_cases e3 : j = 3
      · rw [if_pos e3, if_pos e3]; rfl
      · rw [if_neg e3] at h; exact absurd rfl h
theorem O_zone {x : gx_S} (hI : INV x) (a b c : Int32) : OKC (f_CaseLayoutLaw_zone a b c) (f_CaseLayoutModel_zone a b c) x := H_int (P_zone hI a b c) rfl b13 h13 rfl
theorem O_thing {x : gx_S} (hI : INV x) (a b c : Int32) : OKC (f_CaseLayoutLaw_thing a b c) (f_CaseLayoutModel_thing a b c) x := H_int (P_thing hI a b c) rfl b23 h23 rfl
theorem O_apart {x : gx_S} (hI : INV x) (a b c : Int32) : OKC (f_CaseLayoutLaw_apart a b c) (f_CaseLayoutModel_apart a b c) x := H_int (P_apart hI a b c) rfl b13 h13 rfl
theorem O_wish {x : gx_S} (hI : INV x) (a b c : Int32) : OKC (f_CaseLayoutLaw_wish a b c) (f_CaseLayoutModel_wish a b c) x := H_int (P_wish hI a b c) rfl b13 h13 rfl
theorem O_place {x : gx_S} (hI : INV x) (a b : Int32) : OKC (f_CaseLayoutLaw_place a b) (f_CaseLayoutModel_place a b) x := H_int (P_place hI a b) rfl b123 h123 rfl
theorem O_exit {x : gx_S} (hI : INV x) (a b : Int32) : OKC (f_CaseLayoutLaw_exit a b) (f_CaseLayoutModel_exit a b) x := H_int (P_exit hI a b) rfl b123 h123 rfl
theorem O_most {x : gx_S} (hI : INV x) (a : Int32) : OKC (f_CaseLayoutLaw_most a) (f_CaseLayoutModel_most a) x := H_int (P_most hI a) rfl b3 h3 rfl
theorem O_run {x : gx_S} (hI : INV x) (a : Int32) : OKC (f_CaseLayoutLaw_run a) (f_CaseLayoutModel_run a) x := H_int (P_run hI a) rfl b3 h3 rfl
theorem O_at {x : gx_S} (hI : INV x) (a b : Int32) : OKC (f_CaseLayoutLaw_at a b) (f_CaseLayoutModel_at a b) x := H_int (P_at hI a b) rfl b12 h12 rfl
theorem O_escape {x : gx_S} (hI : INV x) (a b : Int32) : OKC (f_CaseLayoutLaw_escape a b) (f_CaseLayoutModel_escape a b) x := H_int (P_escape hI a b) rfl b12 h12 rfl
theorem O_count {x : gx_S} (hI : INV x) (a : Int32) : OKC (f_CaseLayoutLaw_count a) (f_CaseLayoutModel_count a) x := H_int (P_count hI a) rfl b1 h1 rfl
theorem O_wall {x : gx_S} (hI : INV x) (a b : Int32) {m : Int} (hm : m = 0 ∨ m = 1) : OKB (f_CaseLayoutLaw_wall a b (pI m)) (f_CaseLayoutModel_wall a b (pI m)) x := H_bool (P_wall hI a b hm) rfl b1 h1 rfl
theorem O_sees {x : gx_S} (hI : INV x) (a b : Int32) {m : Int} (hm : m = 0 ∨ m = 1) : OKB (f_CaseLayoutLaw_sees a b (pI m)) (f_CaseLayoutModel_sees a b (pI m)) x := H_bool (P_sees hI a b hm) rfl b1 h1 rfl
theorem O_sight {x : gx_S} (hI : INV x) (a b : Int32) : OKB (f_CaseLayoutLaw_sight a b) (f_CaseLayoutModel_sight a b) x := H_bool (P_sight hI a b) rfl b12 h12 rfl
