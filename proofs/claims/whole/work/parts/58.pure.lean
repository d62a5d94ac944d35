/-! what is seen -/
def closed (D : gx_S) (X Y : Nat → Int) (n t : Nat) (a b : Int) : Prop := vA D 0 (9 * b + a).toNat ≠ 0 ∨ ∃ s, s < n ∧ s ≠ t ∧ cov D X Y s a b
/-- every thing below n lies as it must -/
def val (D : gx_S) (X Y : Nat → Int) (n : Nat) : Prop := ∀ t, t < n → 0 ≤ X t ∧ 0 ≤ Y t ∧ lies D X Y t
theorem val_in {D : gx_S} (hg : goodD D) {X Y : Nat → Int} {n : Nat} (hn : (n : Int) ≤ vI D 3) (h : val D X Y n) {t : Nat} (ht : t < n) : 0 ≤ X t ∧ X t + vA D 2 t ≤ vI D 0 ∧ 0 ≤ Y t ∧ Y t + vA D 3 t ≤ vI D 1 := by
  have q := h t ht
  exact ⟨q.1, q.2.2.1.1, q.2.1, q.2.2.1.2.1⟩
theorem val_plc {D : gx_S} (hg : goodD D) {X Y : Nat → Int} {n : Nat} (hn : (n : Int) ≤ vI D 3) (h : val D X Y n) : plc X Y n := by
  intro t ht
  have q := val_in hg hn h ht
  have g := hg.1
  unfold goodG at g
  have z := hg.2.2.1 t (by omega)
  omega
theorem val_gp {D : gx_S} (hg : goodD D) {X Y : Nat → Int} {n : Nat} (h : val D X Y n) {a b : Nat} (hab : b < a) (ha : a < n) : 0 ≤ gp D X Y a b := by
  have q := (h a ha).2.2.2 b hab
  unfold apt at q
  have z := hg.2.2.2.1 (7 * (a : Int) + b).toNat
  omega
theorem val_dis {D : gx_S} (hg : goodD D) {X Y : Nat → Int} {n : Nat} (hn : (n : Int) ≤ vI D 3) (h : val D X Y n) {s t : Nat} (hs : s < n) (ht : t < n) (hst : s ≠ t) {a b : Int} (h1 : cov D X Y s a b) (h2 : cov D X Y t a b) : False := by
  have key : 0 ≤ gp D X Y s t := by
    by_cases e : t < s
    · exact val_gp hg h e hs
    · rw [gp_comm]; exact val_gp hg h (by omega) ht
  unfold gp at key
  unfold cov at h1 h2
  omega
theorem val_wall {D : gx_S} (hg : goodD D) {X Y : Nat → Int} {n : Nat} (h : val D X Y n) {t : Nat} (ht : t < n) {a b : Int} (h1 : cov D X Y t a b) : vA D 0 (9 * b + a).toNat = 0 := by
  unfold cov at h1
  have q := (h t ht).2.2.1.2.2 (b - Y t).toNat (by omega) (a - X t).toNat (by omega)
  rw [Int.toNat_of_nonneg (by omega), Int.toNat_of_nonneg (by omega)] at q
  have e1 : X t + (a - X t) = a := by omega
  have e2 : Y t + (b - Y t) = b := by omega
  rw [e1, e2] at q
  exact q.1
theorem val_open {D : gx_S} (hg : goodD D) {X Y : Nat → Int} {n : Nat} (hn : (n : Int) ≤ vI D 3) (h : val D X Y n) {t : Nat} (ht : t < n) {a b : Int} (h1 : cov D X Y t a b) : ¬ closed D X Y n t a b := by
  rintro (q | ⟨s, hs, hst, hc⟩)
  · exact q (val_wall hg h ht h1)
  · exact val_dis hg hn h hs ht hst hc h1
theorem own_hid {D : gx_S} (hg : goodD D) {X Y : Nat → Int} {n : Nat} (hn : (n : Int) ≤ vI D 3) (h : val D X Y n) {t : Nat} (ht : t < n) (a b : Int) : ∀ m, m ≤ n → ((own D X Y m a b ≠ -1 ∧ own D X Y m a b ≠ t) ↔ closed D X Y m t a b) := by
  intro m
  induction m with
  | zero =>
    intro _
    show ((cif (vA D 0 (9 * b + a).toNat = 0) (-1) (-2) ≠ -1 ∧ cif (vA D 0 (9 * b + a).toNat = 0) (-1) (-2) ≠ (t : Int)) ↔ _)
    by_cases q : vA D 0 (9 * b + a).toNat = 0
    · rw [cif_t q]
      refine ⟨fun z => absurd rfl z.1, ?_⟩
      rintro (z | ⟨s, hs, _⟩)
      · exact absurd q z
      · omega
    · rw [cif_f q]
      exact ⟨fun _ => Or.inl q, fun _ => ⟨by omega, by omega⟩⟩
  | succ m ih =>
    intro hm
    show ((cif (cov D X Y m a b) (m : Int) (own D X Y m a b) ≠ -1 ∧ cif (cov D X Y m a b) (m : Int) (own D X Y m a b) ≠ (t : Int)) ↔ _)
    by_cases q : cov D X Y m a b
    · rw [cif_t q]
      by_cases e : m = t
      · subst e
        refine ⟨fun z => absurd rfl z.2, fun z => ?_⟩
        refine absurd ?_ (val_open hg hn h ht q)
        rcases z with z | ⟨s, hs, z⟩
        · exact Or.inl z
        · exact Or.inr ⟨s, by omega, z⟩
      · exact ⟨fun _ => Or.inr ⟨m, by omega, e, q⟩, fun _ => ⟨by omega, by omega⟩⟩
    · rw [cif_f q, ih (by omega)]
      constructor
      · rintro (z | ⟨s, hs, z⟩)
        · exact Or.inl z
        · exact Or.inr ⟨s, by omega, z⟩
      · rintro (z | ⟨s, hs, z⟩)
        · exact Or.inl z
        · by_cases e : s = m
          · subst e; exact absurd z.2 q
          · exact Or.inr ⟨s, by omega, z⟩
theorem own_free {D : gx_S} {X Y : Nat → Int} (a b : Int) : ∀ m, own D X Y m a b = -1 ↔ (vA D 0 (9 * b + a).toNat = 0 ∧ ∀ s, s < m → ¬ cov D X Y s a b) := by
  intro m
  induction m with
  | zero =>
    show cif (vA D 0 (9 * b + a).toNat = 0) (-1) (-2) = -1 ↔ _
    by_cases q : vA D 0 (9 * b + a).toNat = 0
    · rw [cif_t q]; exact ⟨fun _ => ⟨q, fun s hs => by omega⟩, fun _ => rfl⟩
    · rw [cif_f q]; exact ⟨fun z => by omega, fun z => absurd z.1 q⟩
  | succ m ih =>
    show cif (cov D X Y m a b) (m : Int) (own D X Y m a b) = -1 ↔ _
    by_cases q : cov D X Y m a b
    · rw [cif_t q]; exact ⟨fun z => by omega, fun z => absurd q (z.2 m (by omega))⟩
    · rw [cif_f q, ih]
      refine ⟨fun z => ⟨z.1, fun s hs => ?_⟩, fun z => ⟨z.1, fun s hs => z.2 s (by omega)⟩⟩
      by_cases e : s = m
      · subst e; exact q
      · exact z.2 s (by omega)
def seen (D : gx_S) (X Y : Nat → Int) (n t : Nat) (px py : Int) : Prop := ∀ a b, (px ≤ a ∨ X t ≤ a) → (a ≤ px ∨ a ≤ X t) → (py ≤ b ∨ Y t ≤ b) → (b ≤ py ∨ b ≤ Y t) → ¬ (closed D X Y n t a b ∧ crs (X t - px) (Y t - py) (a - px) (b - py))
theorem e_hides {D x : gx_S} (hD : isD D x) (hg : goodD D) {X Y : Nat → Int} (hO : ∀ a b, inG D a b → vA x 11 (9 * b + a).toNat = own D X Y (vI D 3).toNat a b) (hv : val D X Y (vI D 3).toNat) {t : Nat} (ht : t < (vI D 3).toNat) {a b : Int} (h : inG D a b) : f_Floor_hides (pI a) (pI b) (pI t) x = some (bI (closed D X Y (vI D 3).toNat t a b), x) := by
  have g := hg.1
  unfold goodG at g
  have h' := h
  unfold inG at h'
  have k := own_hid hg (by omega) hv ht a b (vI D 3).toNat (Nat.le_refl _)
  have o := hO a b h
  have l0 := vA_lo x 11 (9 * b + a).toNat
  have l1 := vA_hi x 11 (9 * b + a).toNat
  unfold f_Floor_hides
  rw [e_holds hD (by omega) (by omega) (by omega) (by omega), bI_t h]
  simp (disch := omega) only [gI_p, gA_p, p_l0, p_l1, p_l2, p_l3, p_l4, p_l5, p_l6, p_l7, p_l8, p_l9, p_l15, p_l81, p_l99, p_l1000, p_l20000, p_add, p_sub, p_mul, p_neg, p_lt, p_le, p_eq, p_div, ck_p, nz_p, tn_p, bd_s, bl_s, bx_0, m9, m7, m81, Int.toNat_natCast, e_cellOf, cif_if, cif_f, cif_if, bI_zp, cif_n, cif_tt, cif_ff, cb, cl, cv0, cv1, cv2, cv3, cv4, cv5, cv6, cv7, nb_b]
  rw [bI_c]
  rw [← k, ← o]
  omega
theorem e_isSeen {D x : gx_S} (hD : isD D x) (hg : goodD D) {X Y : Nat → Int} (hO : ∀ a b, inG D a b → vA x 11 (9 * b + a).toNat = own D X Y (vI D 3).toNat a b) (hv : val D X Y (vI D 3).toNat) {t : Nat} (ht : t < (vI D 3).toNat) (hX : vA x 14 t = X t ∧ vA x 15 t = Y t) {px py : Int} (hp : inG D px py) : f_Floor_isSeen (pI t) (pI px) (pI py) x = some (bI (seen D X Y (vI D 3).toNat t px py), x) := by
  have g := hg.1
  unfold goodG at g
  have hp' := hp
  unfold inG at hp'
  have z := hg.2.2.1 t (by omega)
  have hi := val_in hg (by omega) hv ht
  unfold f_Floor_isSeen
  simp (disch := omega) only [gI_p, gA_p, p_l0, p_l1, p_l2, p_l3, p_l4, p_l5, p_l6, p_l7, p_l8, p_l9, p_l15, p_l81, p_l99, p_l1000, p_l20000, p_add, p_sub, p_mul, p_neg, p_lt, p_le, p_eq, p_div, ck_p, nz_p, tn_p, bd_s, bl_s, bx_0, m9, m7, m81, Int.toNat_natCast, hX.1, hX.2, cif_if, cvp, cmn]
  obtain ⟨my, hmy⟩ : ∃ q, min (Y t) py = q := ⟨_, rfl⟩
  obtain ⟨mx, hmx⟩ : ∃ q, min (X t) px = q := ⟨_, rfl⟩
  obtain ⟨My, hMy⟩ : ∃ q, max py (Y t) = q := ⟨_, rfl⟩
  obtain ⟨Mx, hMx⟩ : ∃ q, max px (X t) = q := ⟨_, rfl⟩
  have i1 : 0 ≤ my ∧ my ≤ py ∧ my ≤ Y t ∧ (my = py ∨ my = Y t) := by omega
  have i2 : 0 ≤ mx ∧ mx ≤ px ∧ mx ≤ X t ∧ (mx = px ∨ mx = X t) := by omega
  have i3 : py ≤ My ∧ Y t ≤ My ∧ (My = py ∨ My = Y t) := by omega
  have i4 : px ≤ Mx ∧ X t ≤ Mx ∧ (Mx = px ∨ Mx = X t) := by omega
  rw [hmy]
  refine (lp_finc (lp_ex my (My - my + 1).toNat (fun i : Nat => ∃ j : Nat, j < (Mx - mx + 1).toNat ∧ closed D X Y (vI D 3).toNat t (mx + j) (my + i) ∧ crs (X t - px) (Y t - py) (mx + j - px) (my + i - py)) (by omega) (fun i hin => ?_) ?_)).trans ?_
  · obtain ⟨w, key⟩ := lp_ex (s := s_Floor_isSeen_45 (pI t) (pI px) (pI py) (pI (X t)) (pI (Y t)) (pI (my + i))) (x := x) (k0 := 0) (k1 := 1) mx (Mx - mx + 1).toNat (fun j : Nat => closed D X Y (vI D 3).toNat t (mx + j) (my + i) ∧ crs (X t - px) (Y t - py) (mx + j - px) (my + i - py)) (by omega) (fun j hj => by
      have k1 := e_hides hD hg hO hv ht (a := mx + j) (b := my + i) (by unfold inG; omega)
      have k2 := e_isCrossed (x := x) (ux := mx + j - px) (uy := my + i - py) (dx := X t - px) (dy := Y t - py) (by omega) (by omega) (by omega) (by omega)
      unfold s_Floor_isSeen_45
      simp (disch := omega) only [gI_p, gA_p, p_l0, p_l1, p_l2, p_l3, p_l4, p_l5, p_l6, p_l7, p_l8, p_l9, p_l15, p_l81, p_l99, p_l1000, p_l20000, p_add, p_sub, p_mul, p_neg, p_lt, p_le, p_eq, p_div, ck_p, nz_p, tn_p, bd_s, bl_s, bx_0, m9, m7, m81, Int.toNat_natCast, cif_if, cvp, cmx, hMx, k1, k2, bI_zp, cif_n]
      rw [cif_f (by omega)]
      by_cases q1 : closed D X Y (vI D 3).toNat t (mx + j) (my + i)
      · rw [cif_t q1]
        by_cases q2 : crs (X t - px) (Y t - py) (mx + j - px) (my + i - py)
        · rw [cif_t q2, cif_t ⟨q1, q2⟩]
        · rw [cif_f q2, cif_f (fun z => q2 z.2)]
      · rw [cif_f q1, cif_f (fun z => q1 z.1)]) (by
      unfold s_Floor_isSeen_45
      simp (disch := omega) only [gI_p, gA_p, p_l0, p_l1, p_l2, p_l3, p_l4, p_l5, p_l6, p_l7, p_l8, p_l9, p_l15, p_l81, p_l99, p_l1000, p_l20000, p_add, p_sub, p_mul, p_neg, p_lt, p_le, p_eq, p_div, ck_p, nz_p, tn_p, bd_s, bl_s, bx_0, m9, m7, m81, Int.toNat_natCast, cif_if, cvp, cmx, hMx]
      rw [cif_t (by omega)])
    unfold s_Floor_isSeen_25
    simp (disch := omega) only [gI_p, gA_p, p_l0, p_l1, p_l2, p_l3, p_l4, p_l5, p_l6, p_l7, p_l8, p_l9, p_l15, p_l81, p_l99, p_l1000, p_l20000, p_add, p_sub, p_mul, p_neg, p_lt, p_le, p_eq, p_div, ck_p, nz_p, tn_p, bd_s, bl_s, bx_0, m9, m7, m81, Int.toNat_natCast, cif_if, cvp, cmx, cmn, hMy, hmx, key, cif_0]
    rw [cif_f (by omega)]
    by_cases r : ∃ j : Nat, j < (Mx - mx + 1).toNat ∧ closed D X Y (vI D 3).toNat t (mx + j) (my + i) ∧ crs (X t - px) (Y t - py) (mx + j - px) (my + i - py)
    · rw [cif_t r, cif_t r]
    · rw [cif_f r, cif_f r]
  · unfold s_Floor_isSeen_25
    simp (disch := omega) only [gI_p, gA_p, p_l0, p_l1, p_l2, p_l3, p_l4, p_l5, p_l6, p_l7, p_l8, p_l9, p_l15, p_l81, p_l99, p_l1000, p_l20000, p_add, p_sub, p_mul, p_neg, p_lt, p_le, p_eq, p_div, ck_p, nz_p, tn_p, bd_s, bl_s, bx_0, m9, m7, m81, Int.toNat_natCast, cif_if, cvp, cmx, cmn, hMy]
    rw [cif_t (by omega)]
  · rw [cv0, bI_c]
    unfold seen
    constructor
    · intro n a b h1 h2 h3 h4 h5
      refine n ⟨(b - my).toNat, by omega, (a - mx).toNat, by omega, ?_⟩
      rw [Int.toNat_of_nonneg (by omega), Int.toNat_of_nonneg (by omega), show mx + (a - mx) = a by omega, show my + (b - my) = b by omega]
      exact h5
    · rintro n ⟨i, hi, j, hj, q⟩
      exact n (mx + j) (my + i) (by omega) (by omega) (by omega) (by omega) q
theorem e_isSeen_2 {D x : gx_S} (hD : isD D x) (hg : goodD D) {X Y : Nat → Int} (hO : ∀ a b, inG D a b → vA x 11 (9 * b + a).toNat = own D X Y (vI D 3).toNat a b) (hv : val D X Y (vI D 3).toNat) {t : Nat} (ht : t < (vI D 3).toNat) (hX : vA x 16 t = X t ∧ vA x 17 t = Y t) {px py : Int} (hp : inG D px py) : f_Floor_isSeen_2 (pI t) (pI px) (pI py) x = some (bI (seen D X Y (vI D 3).toNat t px py), x) := by
  have g := hg.1
  unfold goodG at g
  have hp' := hp
  unfold inG at hp'
  have z := hg.2.2.1 t (by omega)
  have hi := val_in hg (by omega) hv ht
  unfold f_Floor_isSeen_2
  simp (disch := omega) only [gI_p, gA_p, p_l0, p_l1, p_l2, p_l3, p_l4, p_l5, p_l6, p_l7, p_l8, p_l9, p_l15, p_l81, p_l99, p_l1000, p_l20000, p_add, p_sub, p_mul, p_neg, p_lt, p_le, p_eq, p_div, ck_p, nz_p, tn_p, bd_s, bl_s, bx_0, m9, m7, m81, Int.toNat_natCast, hX.1, hX.2, cif_if, cvp, cmn]
  obtain ⟨my, hmy⟩ : ∃ q, min (Y t) py = q := ⟨_, rfl⟩
  obtain ⟨mx, hmx⟩ : ∃ q, min (X t) px = q := ⟨_, rfl⟩
  obtain ⟨My, hMy⟩ : ∃ q, max py (Y t) = q := ⟨_, rfl⟩
  obtain ⟨Mx, hMx⟩ : ∃ q, max px (X t) = q := ⟨_, rfl⟩
  have i1 : 0 ≤ my ∧ my ≤ py ∧ my ≤ Y t ∧ (my = py ∨ my = Y t) := by omega
  have i2 : 0 ≤ mx ∧ mx ≤ px ∧ mx ≤ X t ∧ (mx = px ∨ mx = X t) := by omega
  have i3 : py ≤ My ∧ Y t ≤ My ∧ (My = py ∨ My = Y t) := by omega
  have i4 : px ≤ Mx ∧ X t ≤ Mx ∧ (Mx = px ∨ Mx = X t) := by omega
  rw [hmy]
  refine (lp_finc (lp_ex my (My - my + 1).toNat (fun i : Nat => ∃ j : Nat, j < (Mx - mx + 1).toNat ∧ closed D X Y (vI D 3).toNat t (mx + j) (my + i) ∧ crs (X t - px) (Y t - py) (mx + j - px) (my + i - py)) (by omega) (fun i hin => ?_) ?_)).trans ?_
  · obtain ⟨w, key⟩ := lp_ex (s := s_Floor_isSeen_2_45 (pI t) (pI px) (pI py) (pI (X t)) (pI (Y t)) (pI (my + i))) (x := x) (k0 := 0) (k1 := 1) mx (Mx - mx + 1).toNat (fun j : Nat => closed D X Y (vI D 3).toNat t (mx + j) (my + i) ∧ crs (X t - px) (Y t - py) (mx + j - px) (my + i - py)) (by omega) (fun j hj => by
      have k1 := e_hides hD hg hO hv ht (a := mx + j) (b := my + i) (by unfold inG; omega)
      have k2 := e_isCrossed (x := x) (ux := mx + j - px) (uy := my + i - py) (dx := X t - px) (dy := Y t - py) (by omega) (by omega) (by omega) (by omega)
      unfold s_Floor_isSeen_2_45
      simp (disch := omega) only [gI_p, gA_p, p_l0, p_l1, p_l2, p_l3, p_l4, p_l5, p_l6, p_l7, p_l8, p_l9, p_l15, p_l81, p_l99, p_l1000, p_l20000, p_add, p_sub, p_mul, p_neg, p_lt, p_le, p_eq, p_div, ck_p, nz_p, tn_p, bd_s, bl_s, bx_0, m9, m7, m81, Int.toNat_natCast, cif_if, cvp, cmx, hMx, k1, k2, bI_zp, cif_n]
      rw [cif_f (by omega)]
      by_cases q1 : closed D X Y (vI D 3).toNat t (mx + j) (my + i)
      · rw [cif_t q1]
        by_cases q2 : crs (X t - px) (Y t - py) (mx + j - px) (my + i - py)
        · rw [cif_t q2, cif_t ⟨q1, q2⟩]
        · rw [cif_f q2, cif_f (fun z => q2 z.2)]
      · rw [cif_f q1, cif_f (fun z => q1 z.1)]) (by
      unfold s_Floor_isSeen_2_45
      simp (disch := omega) only [gI_p, gA_p, p_l0, p_l1, p_l2, p_l3, p_l4, p_l5, p_l6, p_l7, p_l8, p_l9, p_l15, p_l81, p_l99, p_l1000, p_l20000, p_add, p_sub, p_mul, p_neg, p_lt, p_le, p_eq, p_div, ck_p, nz_p, tn_p, bd_s, bl_s, bx_0, m9, m7, m81, Int.toNat_natCast, cif_if, cvp, cmx, hMx]
      rw [cif_t (by omega)])
    unfold s_Floor_isSeen_2_25
    simp (disch := omega) only [gI_p, gA_p, p_l0, p_l1, p_l2, p_l3, p_l4, p_l5, p_l6, p_l7, p_l8, p_l9, p_l15, p_l81, p_l99, p_l1000, p_l20000, p_add, p_sub, p_mul, p_neg, p_lt, p_le, p_eq, p_div, ck_p, nz_p, tn_p, bd_s, bl_s, bx_0, m9, m7, m81, Int.toNat_natCast, cif_if, cvp, cmx, cmn, hMy, hmx, key, cif_0]
    rw [cif_f (by omega)]
    by_cases r : ∃ j : Nat, j < (Mx - mx + 1).toNat ∧ closed D X Y (vI D 3).toNat t (mx + j) (my + i) ∧ crs (X t - px) (Y t - py) (mx + j - px) (my + i - py)
    · rw [cif_t r, cif_t r]
    · rw [cif_f r, cif_f r]
  · unfold s_Floor_isSeen_2_25
    simp (disch := omega) only [gI_p, gA_p, p_l0, p_l1, p_l2, p_l3, p_l4, p_l5, p_l6, p_l7, p_l8, p_l9, p_l15, p_l81, p_l99, p_l1000, p_l20000, p_add, p_sub, p_mul, p_neg, p_lt, p_le, p_eq, p_div, ck_p, nz_p, tn_p, bd_s, bl_s, bx_0, m9, m7, m81, Int.toNat_natCast, cif_if, cvp, cmx, cmn, hMy]
    rw [cif_t (by omega)]
  · rw [cv0, bI_c]
    unfold seen
    constructor
    · intro n a b h1 h2 h3 h4 h5
      refine n ⟨(b - my).toNat, by omega, (a - mx).toNat, by omega, ?_⟩
      rw [Int.toNat_of_nonneg (by omega), Int.toNat_of_nonneg (by omega), show mx + (a - mx) = a by omega, show my + (b - my) = b by omega]
      exact h5
    · rintro n ⟨i, hi, j, hj, q⟩
      exact n (mx + j) (my + i) (by omega) (by omega) (by omega) (by omega) q
