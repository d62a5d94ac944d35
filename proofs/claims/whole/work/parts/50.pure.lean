/-! the functions alone: ints as integers, answers, loops -/
noncomputable def cif {α : Type} (p : Prop) (a b : α) : α := @ite α p (Classical.propDecidable p) a b
theorem cif_t {α : Type} {p : Prop} {a b : α} (h : p) : cif p a b = a := @if_pos p (Classical.propDecidable p) h α a b
theorem cif_f {α : Type} {p : Prop} {a b : α} (h : ¬ p) : cif p a b = b := @if_neg p (Classical.propDecidable p) h α a b
theorem cif_c {α : Type} {p q : Prop} {a b : α} (h : p ↔ q) : cif p a b = cif q a b := by rw [propext h]
theorem cif_if {α : Type} {p : Prop} {a b : α} (d : Decidable p) : @ite α p d a b = cif p a b := by
  by_cases h : p
  · rw [if_pos h, cif_t h]
  · rw [if_neg h, cif_f h]
def pI (z : Int) : Int32 := Int32.ofInt z
def vI (x : gx_S) (k : Nat) : Int := (gx_gI x k).toInt
def vA (x : gx_S) (k i : Nat) : Int := (gx_gA x k i).toInt
theorem pI_to (a : Int32) : pI a.toInt = a := Int32.ofInt_toInt a
theorem pI_ti {z : Int} (h0 : -2147483648 ≤ z) (h1 : z ≤ 2147483647) : (pI z).toInt = z := Int32.toInt_ofInt_of_le (by omega) (by omega)
theorem gI_p (x : gx_S) (k : Nat) : gx_gI x k = pI (vI x k) := (pI_to _).symm
theorem gA_p (x : gx_S) (k i : Nat) : gx_gA x k i = pI (vA x k i) := (pI_to _).symm
theorem vI_lo (x : gx_S) (k : Nat) : -2147483648 ≤ vI x k := by have := Int32.le_toInt (gx_gI x k); unfold vI; omega
theorem vI_hi (x : gx_S) (k : Nat) : vI x k ≤ 2147483647 := by have := Int32.toInt_lt (gx_gI x k); unfold vI; omega
theorem vA_lo (x : gx_S) (k i : Nat) : -2147483648 ≤ vA x k i := by have := Int32.le_toInt (gx_gA x k i); unfold vA; omega
theorem vA_hi (x : gx_S) (k i : Nat) : vA x k i ≤ 2147483647 := by have := Int32.toInt_lt (gx_gA x k i); unfold vA; omega
theorem p_add (a b : Int) : pI a + pI b = pI (a + b) := (Int32.ofInt_add a b).symm
theorem p_sub (a b : Int) : pI a - pI b = pI (a - b) := (Int32.ofInt_sub a b).symm
theorem p_mul (a b : Int) : pI a * pI b = pI (a * b) := (Int32.ofInt_mul a b).symm
theorem p_neg (a : Int) : -pI a = pI (-a) := Int32.neg_ofInt
theorem p_l0 : (0 : Int32) = pI 0 := by decide
theorem p_l1 : (1 : Int32) = pI 1 := by decide
theorem p_l2 : (2 : Int32) = pI 2 := by decide
theorem p_l3 : (3 : Int32) = pI 3 := by decide
theorem p_l4 : (4 : Int32) = pI 4 := by decide
theorem p_l5 : (5 : Int32) = pI 5 := by decide
theorem p_l6 : (6 : Int32) = pI 6 := by decide
theorem p_l7 : (7 : Int32) = pI 7 := by decide
theorem p_l8 : (8 : Int32) = pI 8 := by decide
theorem p_l9 : (9 : Int32) = pI 9 := by decide
theorem p_l15 : (15 : Int32) = pI 15 := by decide
theorem p_l81 : (81 : Int32) = pI 81 := by decide
theorem p_l99 : (99 : Int32) = pI 99 := by decide
theorem p_l1000 : (1000 : Int32) = pI 1000 := by decide
theorem p_l20000 : (20000 : Int32) = pI 20000 := by decide
theorem p_lt {a b : Int} (a0 : -2147483648 ≤ a) (a1 : a ≤ 2147483647) (b0 : -2147483648 ≤ b) (b1 : b ≤ 2147483647) : (pI a < pI b) ↔ a < b := by
  rw [Int32.lt_iff_toInt_lt, pI_ti a0 a1, pI_ti b0 b1]
theorem p_le {a b : Int} (a0 : -2147483648 ≤ a) (a1 : a ≤ 2147483647) (b0 : -2147483648 ≤ b) (b1 : b ≤ 2147483647) : (pI a ≤ pI b) ↔ a ≤ b := by
  rw [Int32.le_iff_toInt_le, pI_ti a0 a1, pI_ti b0 b1]
theorem p_eq {a b : Int} (a0 : -2147483648 ≤ a) (a1 : a ≤ 2147483647) (b0 : -2147483648 ≤ b) (b1 : b ≤ 2147483647) : (pI a = pI b) ↔ a = b := by
  rw [← Int32.toInt_inj, pI_ti a0 a1, pI_ti b0 b1]
theorem p_div {a b : Int} (a0 : 0 ≤ a) (a1 : a ≤ 2147483647) (b0 : 0 < b) (b1 : b ≤ 2147483647) : pI a / pI b = pI (a / b) := by
  have h := Int32.ofInt_tdiv (a := a) (b := b) (by have : Int32.minValue.toInt = -2147483648 := by decide
                                                   omega) (by have : Int32.maxValue.toInt = 2147483647 := by decide
                                                              omega) (by have : Int32.minValue.toInt = -2147483648 := by decide
                                                                         omega) (by have : Int32.maxValue.toInt = 2147483647 := by decide
                                                                                    omega)
  rw [Int.tdiv_eq_ediv_of_nonneg a0] at h
  exact h.symm
theorem tn_p {a : Int} (a0 : -2147483648 ≤ a) (a1 : a ≤ 2147483647) : (pI a).toNatClampNeg = a.toNat := Int32.toNatClampNeg_ofInt_of_le (by omega) (by omega)
theorem ck_p {α : Type} {a : Int} {N : Nat} {o : Option α} (h0 : 0 ≤ a) (h1 : a < N) (hN : N ≤ 2147483647) : gx_ck (pI a) N o = o := by
  unfold gx_ck
  have e : (0 : Int32) ≤ pI a := by
    rw [p_l0, p_le (by omega) (by omega) (by omega) (by omega)]; exact h0
  have e2 : (pI a).toNatClampNeg < N := by
    rw [tn_p (by omega) (by omega)]; omega
  rw [if_pos ⟨e, e2⟩]
theorem nz_p {α : Type} {a : Int} {o : Option α} (h : a ≠ 0) (a0 : -2147483648 ≤ a) (a1 : a ≤ 2147483647) : gx_nz (pI a) o = o := by
  unfold gx_nz
  rw [if_neg]
  rw [p_l0, p_eq a0 a1 (by omega) (by omega)]
  exact h
noncomputable def bI (p : Prop) : Int32 := cif p 1 0
theorem bI_t {p : Prop} (h : p) : bI p = 1 := cif_t h
theorem bI_f {p : Prop} (h : ¬ p) : bI p = 0 := cif_f h
theorem bI_c {p q : Prop} (h : p ↔ q) : bI p = bI q := cif_c h
theorem bI_1 : (1 : Int32) = bI True := (bI_t trivial).symm
theorem bI_0 : (0 : Int32) = bI False := (bI_f id).symm
theorem bI_z {p : Prop} : (bI p = 0) ↔ ¬ p := by
  by_cases h : p
  · rw [bI_t h]; exact ⟨fun q => absurd q (by decide), fun q => absurd h q⟩
  · rw [bI_f h]; exact ⟨fun _ => h, fun _ => rfl⟩
theorem ifb {α : Type} {p : Prop} {a b : α} (d : Decidable (bI p = 0)) : @ite α (bI p = 0) d a b = cif p b a := by
  by_cases h : p
  · rw [if_neg (by rw [bI_z]; exact not_not_intro h), cif_t h]
  · rw [if_pos (bI_z.mpr h), cif_f h]
theorem nar_0 : vp_nar .boolean 0 = 0 := by decide
theorem nar_1 : vp_nar .boolean 1 = 1 := by decide
theorem nar_b (p : Prop) : vp_nar .boolean (bI p) = bI p := by
  by_cases h : p
  · rw [bI_t h]; exact nar_1
  · rw [bI_f h]; exact nar_0
theorem nb_b {α : Type} {p : Prop} {o : Option α} : gx_nb (bI p) o = o := if_pos (nar_b p)
theorem bd_s {α β γ : Type} {a : α} {b : β} {g : α → β → Option γ} : gx_bd (some (a, b)) g = g a b := id rfl
theorem bl_s {α β : Type} {a : α} {g : α → Option β} : gx_bl (some a) g = g a := id rfl
theorem bx_0 {r : Int32} {x : gx_S} {g : Int32 → gx_S → Option (Nat × Int32 × gx_S)} : gx_bx (some (0, r, x)) g = g r x := id rfl
theorem bx_n {j : Nat} {r : Int32} {x : gx_S} {g : Int32 → gx_S → Option (Nat × Int32 × gx_S)} : gx_bx (some (j + 1, r, x)) g = some (j + 1, 0, x) := id rfl
theorem m9 (y : Int) : y * 9 = 9 * y := Int.mul_comm _ _
theorem m7 (y : Int) : y * 7 = 7 * y := Int.mul_comm _ _
theorem m81 (y : Int) : y * 81 = 81 * y := Int.mul_comm _ _
/-! reading what was written -/
theorem vI_I (x : gx_S) (k : Nat) (v : Int32) : vI (gx_sI x k v) k = v.toInt := by
  show ((if k = k then v else x.1 k) : Int32).toInt = _
  rw [if_pos rfl]
theorem vI_In {k j : Nat} (x : gx_S) (v : Int32) (h : j ≠ k) : vI (gx_sI x k v) j = vI x j := by
  show ((if j = k then v else x.1 j) : Int32).toInt = _
  rw [if_neg h]; rfl
theorem vI_A (x : gx_S) (k i : Nat) (v : Int32) (j : Nat) : vI (gx_sA x k i v) j = vI x j := id rfl
theorem vI_F (x : gx_S) (k : Nat) (f : Nat → Int32) (j : Nat) : vI (gx_sF x k f) j = vI x j := id rfl
theorem vI_L (x : gx_S) (i : Nat) (v : Int64) (j : Nat) : vI (gx_sL x i v) j = vI x j := id rfl
theorem vA_I (x : gx_S) (k : Nat) (v : Int32) (j i : Nat) : vA (gx_sI x k v) j i = vA x j i := id rfl
theorem vA_L (x : gx_S) (k : Nat) (v : Int64) (j i : Nat) : vA (gx_sL x k v) j i = vA x j i := id rfl
theorem vA_A (x : gx_S) (k i : Nat) (v : Int32) (j : Nat) : vA (gx_sA x k i v) k j = if j = i then v.toInt else vA x k j := by
  show ((if k = k then upd (x.2.1 k) i v else x.2.1 k) j : Int32).toInt = _
  rw [if_pos rfl]
  show ((if j = i then v else x.2.1 k j) : Int32).toInt = _
  by_cases h : j = i
  · rw [if_pos h, if_pos h]
  · rw [if_neg h, if_neg h]; rfl
theorem vA_Ae (x : gx_S) (k i : Nat) (v : Int32) : vA (gx_sA x k i v) k i = v.toInt := by rw [vA_A, if_pos rfl]
theorem vA_Ai {i j : Nat} (x : gx_S) (k : Nat) (v : Int32) (h : j ≠ i) : vA (gx_sA x k i v) k j = vA x k j := by rw [vA_A, if_neg h]
theorem vA_An {k j : Nat} (x : gx_S) (i : Nat) (v : Int32) (i' : Nat) (h : j ≠ k) : vA (gx_sA x k i v) j i' = vA x j i' := by
  show ((if j = k then upd (x.2.1 k) i v else x.2.1 j) i' : Int32).toInt = _
  rw [if_neg h]; rfl
theorem vA_F (x : gx_S) (k : Nat) (f : Nat → Int32) (i : Nat) : vA (gx_sF x k f) k i = (f i).toInt := by
  show ((if k = k then f else x.2.1 k) i : Int32).toInt = _
  rw [if_pos rfl]
theorem vA_Fn {k j : Nat} (x : gx_S) (f : Nat → Int32) (i : Nat) (h : j ≠ k) : vA (gx_sF x k f) j i = vA x j i := by
  show ((if j = k then f else x.2.1 j) i : Int32).toInt = _
  rw [if_neg h]; rfl
/-! loops -/
theorem it_s {α β : Type} {f : α → Option (α ⊕ β)} {n : Nat} {a a' : α} (h : f a = some (.inl a')) : gx_it f (n + 1) a = gx_it f n a' := by
  show (match f a with | none => none | some (.inl a') => gx_it f n a' | some (.inr b) => some b) = _
  rw [h]
theorem it_e {α β : Type} {f : α → Option (α ⊕ β)} {n : Nat} {a : α} {b : β} (h : f a = some (.inr b)) : gx_it f (n + 1) a = some b := by
  show (match f a with | none => none | some (.inl a') => gx_it f n a' | some (.inr b) => some b) = _
  rw [h]
theorem it_inv {α β : Type} {f : α → Option (α ⊕ β)} (P : Nat → α → Prop) (Q : β → Prop) (n : Nat) (h : ∀ i a, i < n → P i a → (∃ a', f a = some (.inl a') ∧ P (i + 1) a') ∨ (∃ b, f a = some (.inr b) ∧ Q b)) (hn : ∀ a, P n a → ∃ b, f a = some (.inr b) ∧ Q b) : ∀ (m i fuel : Nat) (a : α), i + m = n → m < fuel → P i a → ∃ b, gx_it f fuel a = some b ∧ Q b := by
  intro m
  induction m with
  | zero =>
    intro i fuel a hi hf hp
    obtain ⟨fuel, rfl⟩ : ∃ k, fuel = k + 1 := ⟨fuel - 1, by omega⟩
    have : i = n := by omega
    subst this
    obtain ⟨b, e, q⟩ := hn a hp
    exact ⟨b, it_e e, q⟩
  | succ m ih =>
    intro i fuel a hi hf hp
    obtain ⟨fuel, rfl⟩ : ∃ k, fuel = k + 1 := ⟨fuel - 1, by omega⟩
    rcases h i a (by omega) hp with ⟨a', e, q⟩ | ⟨b, e, q⟩
    · rw [it_s e]
      exact ih (i + 1) fuel a' (by omega) (by omega) q
    · exact ⟨b, it_e e, q⟩
theorem it_for {α β : Type} {f : α → Option (α ⊕ β)} (P : Nat → α → Prop) (Q : β → Prop) (n : Nat) {a : α} (hl : n < 1000) (h0 : P 0 a) (h : ∀ i a, i < n → P i a → (∃ a', f a = some (.inl a') ∧ P (i + 1) a') ∨ (∃ b, f a = some (.inr b) ∧ Q b)) (hn : ∀ a, P n a → ∃ b, f a = some (.inr b) ∧ Q b) : ∃ b, gx_it f gx_fuel a = some b ∧ Q b :=
  it_inv P Q n h hn n 0 gx_fuel a (by omega) (by unfold gx_fuel; omega) h0
theorem lp_ex' {s : Int32 × gx_S → Option ((Int32 × gx_S) ⊕ (Nat × Int32 × gx_S))} {x : gx_S} {a : Int} {n : Nat} {bad : Nat → Prop} {k0 k1 : Nat} (hi : ∀ i : Nat, i < n → s (pI (a + i), x) = some (cif (bad i) (.inr (k0, pI (a + i), x)) (.inl (pI (a + i + 1), x)))) (he : s (pI (a + n), x) = some (.inr (k1, pI (a + n), x))) : ∀ (m i : Nat), i + m = n → (∀ j, j < i → ¬ bad j) → ∀ fuel, m < fuel → ∃ z, gx_it s fuel (pI (a + i), x) = some (cif (∃ j, j < n ∧ bad j) k0 k1, z, x) := by
  intro m
  induction m with
  | zero =>
    intro i hin hb fuel hf
    obtain ⟨fuel, rfl⟩ : ∃ k, fuel = k + 1 := ⟨fuel - 1, by omega⟩
    have : i = n := by omega
    subst this
    refine ⟨pI (a + i), ?_⟩
    rw [it_e he, cif_f]
    rintro ⟨j, h1, h2⟩
    exact hb j h1 h2
  | succ m ih =>
    intro i hin hb fuel hf
    obtain ⟨fuel, rfl⟩ : ∃ k, fuel = k + 1 := ⟨fuel - 1, by omega⟩
    have e := hi i (by omega)
    by_cases h : bad i
    · rw [cif_t h] at e
      refine ⟨pI (a + i), ?_⟩
      rw [it_e e, cif_t ⟨i, by omega, h⟩]
    · rw [cif_f h] at e
      rw [it_s e]
      have := ih (i + 1) (by omega) (fun j hj => by
        by_cases q : j = i
        · subst q; exact h
        · exact hb j (by omega)) fuel (by omega)
      have e2 : a + ((i + 1 : Nat) : Int) = a + i + 1 := by omega
      rw [e2] at this
      exact this
theorem lp_ex {s : Int32 × gx_S → Option ((Int32 × gx_S) ⊕ (Nat × Int32 × gx_S))} {x : gx_S} {k0 k1 : Nat} (a : Int) (n : Nat) (bad : Nat → Prop) (hl : n < 1000) (hi : ∀ i : Nat, i < n → s (pI (a + i), x) = some (cif (bad i) (.inr (k0, pI (a + i), x)) (.inl (pI (a + i + 1), x)))) (he : s (pI (a + n), x) = some (.inr (k1, pI (a + n), x))) : ∃ z, gx_it s gx_fuel (pI a, x) = some (cif (∃ j, j < n ∧ bad j) k0 k1, z, x) := by
  have := lp_ex' hi he n 0 (by omega) (fun j hj => by omega) gx_fuel (by unfold gx_fuel; omega)
  have e : a + ((0 : Nat) : Int) = a := by omega
  rw [e] at this
  exact this
theorem lp_fin {o : Option (Nat × Int32 × gx_S)} {p : Prop} {x : gx_S} {r0 r1 : Int32} (h : ∃ z, o = some (cif p 0 1, z, x)) : gx_bl o (fun e => if e.1 = 0 then (some (r0, e.2.2)) else (some (r1, e.2.2))) = some (cif p r0 r1, x) := by
  obtain ⟨z, h⟩ := h
  rw [h]
  by_cases q : p
  · rw [cif_t q, cif_t q]; rfl
  · rw [cif_f q, cif_f q]; rfl
theorem lp_acc {s : Int32 × Int32 × gx_S → Option ((Int32 × Int32 × gx_S) ⊕ (Nat × Int32 × Int32 × gx_S))} {x : gx_S} (n : Nat) (acc : Nat → Int32) (hi : ∀ i : Nat, i < n → s (acc i, pI i, x) = some (.inl (acc (i + 1), pI (i + 1), x))) (he : s (acc n, pI n, x) = some (.inr (0, acc n, pI n, x))) : ∀ (m i : Nat), i + m = n → ∀ fuel, m < fuel → gx_it s fuel (acc i, pI i, x) = some (0, acc n, pI n, x) := by
  intro m
  induction m with
  | zero =>
    intro i hin fuel hf
    obtain ⟨fuel, rfl⟩ : ∃ k, fuel = k + 1 := ⟨fuel - 1, by omega⟩
    have : i = n := by omega
    subst this
    rw [it_e he]
  | succ m ih =>
    intro i hin fuel hf
    obtain ⟨fuel, rfl⟩ : ∃ k, fuel = k + 1 := ⟨fuel - 1, by omega⟩
    rw [it_s (hi i (by omega))]
    exact ih (i + 1) (by omega) fuel (by omega)
theorem lp_any {s : Int32 × Int32 × gx_S → Option ((Int32 × Int32 × gx_S) ⊕ (Nat × Int32 × Int32 × gx_S))} {x : gx_S} (n : Nat) (P : Nat → Prop) (p : Prop) (hl : n < 1000) (hi : ∀ (i : Nat) (q : Prop), i < n → s (bI q, pI i, x) = some (.inl (bI (q ∨ P i), pI (i + 1), x))) (he : ∀ q : Prop, s (bI q, pI n, x) = some (.inr (0, bI q, pI n, x))) : gx_it s gx_fuel (bI p, pI 0, x) = some (0, bI (p ∨ ∃ j, j < n ∧ P j), pI n, x) := by
  have h := lp_acc (s := s) (x := x) n (fun i => bI (p ∨ ∃ j, j < i ∧ P j)) (fun i h => by
    show s (bI _, pI i, x) = _
    rw [hi i _ h]
    congr 4
    refine propext ⟨?_, ?_⟩
    · rintro ((q | ⟨j, h1, h2⟩) | q)
      · exact Or.inl q
      · exact Or.inr ⟨j, by omega, h2⟩
      · exact Or.inr ⟨i, by omega, q⟩
    · rintro (q | ⟨j, h1, h2⟩)
      · exact Or.inl (Or.inl q)
      · by_cases e : j = i
        · subst e; exact Or.inr h2
        · exact Or.inl (Or.inr ⟨j, by omega, h2⟩)) (he _) n 0 (by omega) gx_fuel (by unfold gx_fuel; omega)
  have e : bI (p ∨ ∃ j, j < 0 ∧ P j) = bI p := bI_c ⟨fun q => q.elim id (fun ⟨j, h, _⟩ => by omega), Or.inl⟩
  rw [e] at h
  exact h
theorem lp_all {s : Int32 × Int32 × gx_S → Option ((Int32 × Int32 × gx_S) ⊕ (Nat × Int32 × Int32 × gx_S))} {x : gx_S} (n : Nat) (P : Nat → Prop) (p : Prop) (hl : n < 1000) (hi : ∀ (i : Nat) (q : Prop), i < n → s (bI q, pI i, x) = some (.inl (bI (q ∧ P i), pI (i + 1), x))) (he : ∀ q : Prop, s (bI q, pI n, x) = some (.inr (0, bI q, pI n, x))) : gx_it s gx_fuel (bI p, pI 0, x) = some (0, bI (p ∧ ∀ j, j < n → P j), pI n, x) := by
  have h := lp_acc (s := s) (x := x) n (fun i => bI (p ∧ ∀ j, j < i → P j)) (fun i h => by
    show s (bI _, pI i, x) = _
    rw [hi i _ h]
    congr 4
    refine propext ⟨?_, ?_⟩
    · rintro ⟨⟨h1, h2⟩, h3⟩
      refine ⟨h1, fun j hj => ?_⟩
      by_cases e : j = i
      · subst e; exact h3
      · exact h2 j (by omega)
    · rintro ⟨h1, h2⟩
      exact ⟨⟨h1, fun j hj => h2 j (by omega)⟩, h2 i (by omega)⟩) (he _) n 0 (by omega) gx_fuel (by unfold gx_fuel; omega)
  have e : bI (p ∧ ∀ j, j < 0 → P j) = bI p := bI_c ⟨fun q => q.1, fun q => ⟨q, fun j h => by omega⟩⟩
  rw [e] at h
  exact h
/-! answers put together -/
theorem bI_zp {p : Prop} : (bI p = pI 0) ↔ ¬ p := bI_z
theorem cif_n {α : Type} {p : Prop} {a b : α} : cif (¬ p) a b = cif p b a := by
  by_cases h : p
  · rw [cif_t h, cif_f (not_not_intro h)]
  · rw [cif_f h, cif_t h]
theorem cif_tt {α : Type} {a b : α} : cif True a b = a := cif_t trivial
theorem cif_ff {α : Type} {a b : α} : cif False a b = b := cif_f id
theorem cb {p : Prop} {x : gx_S} {a b : Int32} : cif p (some (a, x)) (some (b, x)) = some (cif p a b, x) := by
  by_cases h : p
  · rw [cif_t h, cif_t h]
  · rw [cif_f h, cif_f h]
theorem cl {p : Prop} {x : gx_S} {k a b : Int32} : cif p (some ((.inl (a, k, x)) : (Int32 × Int32 × gx_S) ⊕ (Nat × Int32 × Int32 × gx_S))) (some (.inl (b, k, x))) = some (.inl (cif p a b, k, x)) := by
  by_cases h : p
  · rw [cif_t h, cif_t h]
  · rw [cif_f h, cif_f h]
theorem cv1 {p : Prop} : cif p (pI 1) (pI 0) = bI p := by
  by_cases h : p <;> simp only [cif, bI, h, if_true, if_false] <;> rfl
theorem cv0 {p : Prop} : cif p (pI 0) (pI 1) = bI (¬ p) := by
  by_cases h : p <;> simp only [cif, bI, h, if_true, if_false, not_true, not_false_iff] <;> rfl
theorem cv2 {p q : Prop} : cif p (bI q) (pI 0) = bI (p ∧ q) := by
  by_cases h : p <;> by_cases h2 : q <;> simp only [cif, bI, h, h2, if_true, if_false, and_true, and_false, true_and, false_and] <;> rfl
theorem cv3 {p q : Prop} : cif p (pI 1) (bI q) = bI (p ∨ q) := by
  by_cases h : p <;> by_cases h2 : q <;> simp only [cif, bI, h, h2, if_true, if_false, or_true, or_false, true_or, false_or] <;> rfl
theorem cv4 {p q : Prop} : cif p (pI 0) (bI q) = bI (¬ p ∧ q) := by
  by_cases h : p <;> by_cases h2 : q <;> simp only [cif, bI, h, h2, if_true, if_false, and_true, and_false, true_and, false_and, not_true, not_false_iff] <;> rfl
theorem cv5 {p q : Prop} : cif p (bI q) (pI 1) = bI (¬ p ∨ q) := by
  by_cases h : p <;> by_cases h2 : q <;> simp only [cif, bI, h, h2, if_true, if_false, or_true, or_false, true_or, false_or, not_true, not_false_iff] <;> rfl
theorem cv6 {p q r : Prop} : cif p (bI q) (bI r) = bI ((p ∧ q) ∨ (¬ p ∧ r)) := by
  by_cases h : p <;> by_cases h2 : q <;> by_cases h3 : r <;> simp only [cif, bI, h, h2, h3, if_true, if_false, or_true, or_false, true_or, false_or, and_true, and_false, true_and, false_and, not_true, not_false_iff] <;> rfl
theorem cv7 {α : Type} {p : Prop} {a : α} : cif p a a = a := by
  by_cases h : p
  · rw [cif_t h]
  · rw [cif_f h]
theorem lp_any0 {s : Int32 × Int32 × gx_S → Option ((Int32 × Int32 × gx_S) ⊕ (Nat × Int32 × Int32 × gx_S))} {x : gx_S} (n : Nat) (P : Nat → Prop) (hl : n < 1000) (hi : ∀ (i : Nat) (q : Prop), i < n → s (bI q, pI i, x) = some (.inl (bI (q ∨ P i), pI (i + 1), x))) (he : ∀ q : Prop, s (bI q, pI n, x) = some (.inr (0, bI q, pI n, x))) : gx_it s gx_fuel (pI 0, pI 0, x) = some (0, bI (∃ j, j < n ∧ P j), pI n, x) := by
  have h := lp_any n P False hl hi he
  rw [bI_f id] at h
  rw [bI_c (q := False ∨ ∃ j, j < n ∧ P j) ⟨Or.inr, fun z => z.elim False.elim id⟩]
  exact h
theorem lp_all1 {s : Int32 × Int32 × gx_S → Option ((Int32 × Int32 × gx_S) ⊕ (Nat × Int32 × Int32 × gx_S))} {x : gx_S} (n : Nat) (P : Nat → Prop) (hl : n < 1000) (hi : ∀ (i : Nat) (q : Prop), i < n → s (bI q, pI i, x) = some (.inl (bI (q ∧ P i), pI (i + 1), x))) (he : ∀ q : Prop, s (bI q, pI n, x) = some (.inr (0, bI q, pI n, x))) : gx_it s gx_fuel (pI 1, pI 0, x) = some (0, bI (∀ j, j < n → P j), pI n, x) := by
  have h := lp_all n P True hl hi he
  rw [bI_t trivial] at h
  rw [bI_c (q := True ∧ ∀ j, j < n → P j) ⟨fun z => ⟨trivial, z⟩, fun z => z.2⟩]
  exact h
theorem lp_finc {o : Option (Nat × Int32 × gx_S)} {p : Prop} {x : gx_S} {r0 r1 : Int32} (h : ∃ z, o = some (cif p 0 1, z, x)) : gx_bl o (fun e => cif (e.1 = 0) (some (r0, e.2.2)) (some (r1, e.2.2))) = some (cif p r0 r1, x) := by
  have := lp_fin (r0 := r0) (r1 := r1) h
  simp only [cif_if] at this
  exact this
/-- the tag of a left loop -/
theorem cif_0 {α : Type} {p : Prop} {a b : α} : cif (cif p (0 : Nat) 1 = 0) a b = cif p a b := by
  by_cases h : p
  · rw [cif_t h, cif_t h, cif_t rfl]
  · rw [cif_f h, cif_f h, cif_f (by decide)]
