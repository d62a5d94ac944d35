/-! own words for the functions that methods compute -/
abbrev gx_S : Type := (Nat → Int32) × (Nat → Nat → Int32) × (Nat → Int64)
abbrev gx_E : Type := va_G × (Nat → Nat) × (Nat → ClassId)
abbrev gx_ad (E : gx_E) (i : Nat) : Nat := E.2.1 i
abbrev gx_id (E : gx_E) (i : Nat) : ClassId := E.2.2 i
def gx_0 : gx_S := (fun _ => 0, fun _ _ => 0, fun _ => 0)
def gx_gI (x : gx_S) (k : Nat) : Int32 := x.1 k
def gx_gA (x : gx_S) (k : Nat) : Nat → Int32 := x.2.1 k
def gx_gL (x : gx_S) : Nat → Int64 := x.2.2
def gx_sI (x : gx_S) (k : Nat) (v : Int32) : gx_S := (fun j => if j = k then v else x.1 j, x.2)
def gx_sF (x : gx_S) (k : Nat) (f : Nat → Int32) : gx_S := (x.1, fun j => if j = k then f else x.2.1 j, x.2.2)
def gx_sA (x : gx_S) (k i : Nat) (v : Int32) : gx_S := gx_sF x k (upd (gx_gA x k) i v)
def gx_sL (x : gx_S) (i : Nat) (v : Int64) : gx_S := (x.1, x.2.1, vp_updL x.2.2 i v)
def gx_ck {α : Type} (i : Int32) (N : Nat) (o : Option α) : Option α := if 0 ≤ i ∧ i.toNatClampNeg < N then o else none
def gx_nz {α : Type} (i : Int32) (o : Option α) : Option α := if i = 0 then none else o
def gx_nb {α : Type} (i : Int32) (o : Option α) : Option α := if vp_nar .boolean i = i then o else none
def gx_bd {α β γ : Type} (o : Option (α × β)) (g : α → β → Option γ) : Option γ := match o with
  | none => none
  | some q => g q.1 q.2
def gx_bl {α β : Type} (o : Option α) (g : α → Option β) : Option β := match o with
  | none => none
  | some q => g q
def gx_it {α β : Type} (f : α → Option (α ⊕ β)) : Nat → α → Option β
  | 0, _ => none
  | n + 1, a => match f a with
    | none => none
    | some (.inl a') => gx_it f n a'
    | some (.inr b) => some b
def gx_fuel : Nat := 100000000
def gx_or {α β : Type} (P : α → Prop) (Q : β → Prop) (o : α ⊕ β) : Prop := match o with
  | .inl a => P a
  | .inr b => Q b
theorem gx_ck_some {α : Type} {i : Int32} {N : Nat} {o : Option α} {r : α} (h : gx_ck i N o = some r) : vp_in i N ∧ o = some r := by
  unfold gx_ck at h
  by_cases hc : 0 ≤ i ∧ i.toNatClampNeg < N
  · rw [if_pos hc] at h
    refine ⟨?_, h⟩
    rintro (h1 | h1)
    · exact absurd hc.1 (Int32.not_le.mpr h1)
    · exact absurd hc.2 (Nat.not_lt.mpr h1)
  · rw [if_neg hc] at h
    cases h
theorem gx_nz_some {α : Type} {i : Int32} {o : Option α} {r : α} (h : gx_nz i o = some r) : ¬ i = 0 ∧ o = some r := by
  unfold gx_nz at h
  by_cases hc : i = 0
  · rw [if_pos hc] at h; cases h
  · rw [if_neg hc] at h; exact ⟨hc, h⟩
theorem gx_nb_some {α : Type} {i : Int32} {o : Option α} {r : α} (h : gx_nb i o = some r) : vp_nar .boolean i = i ∧ o = some r := by
  unfold gx_nb at h
  by_cases hc : vp_nar .boolean i = i
  · rw [if_pos hc] at h; exact ⟨hc, h⟩
  · rw [if_neg hc] at h; cases h
theorem gx_bd_some {α β γ : Type} {o : Option (α × β)} {g : α → β → Option γ} {r : γ} (h : gx_bd o g = some r) : ∃ a b, o = some (a, b) ∧ g a b = some r := by
  cases o with
  | none => cases h
  | some q => exact ⟨q.1, q.2, rfl, h⟩
theorem gx_bl_some {α β : Type} {o : Option α} {g : α → Option β} {r : β} (h : gx_bl o g = some r) : ∃ a, o = some a ∧ g a = some r := by
  cases o with
  | none => cases h
  | some q => exact ⟨q, rfl, h⟩
theorem gx_loop {α β : Type} {f : α → Option (α ⊕ β)} {P : α → Prop} {Q : β → Prop} (hs : ∀ a o, f a = some o → gx_or P Q o → P a) : ∀ (n : Nat) (a : α) (b : β), gx_it f n a = some b → Q b → P a := by
  intro n
  induction n with
  | zero => intro a b h; cases h
  | succ n ih =>
    intro a b h hQ
    unfold gx_it at h
    cases hf : f a with
    | none => rw [hf] at h; cases h
    | some o =>
      rw [hf] at h
      cases o with
      | inl a' => exact hs a _ hf (ih a' b h hQ)
      | inr b' => cases h; exact hs a _ hf hQ
theorem gx_narB {r : Int32} (h : vp_nar .boolean r = r) : narrow .boolean (.int r) = .int r := by
  have e : narrow .boolean (.int r) = .int (vp_nar .boolean r) := rfl
  rw [e, h]
theorem gx_ifn {c P Q : Prop} [Decidable c] (h : ¬ c) (hk : if c then P else Q) : Q := by
  rw [if_neg h] at hk
  exact hk
theorem gx_ifp {c P Q : Prop} [Decidable c] (h : c) (hk : if c then P else Q) : P := by
  rw [if_pos h] at hk
  exact hk
def gx_bx (o : Option (Nat × Int32 × gx_S)) (g : Int32 → gx_S → Option (Nat × Int32 × gx_S)) : Option (Nat × Int32 × gx_S) := match o with
  | none => none
  | some q => if q.1 = 0 then g q.2.1 q.2.2 else some (q.1, 0, q.2.2)
theorem gx_bx_some {o : Option (Nat × Int32 × gx_S)} {g : Int32 → gx_S → Option (Nat × Int32 × gx_S)} {c : Nat × Int32 × gx_S} (h : gx_bx o g = some c) : ∃ (j : Nat) (r : Int32) (x : gx_S), o = some (j, r, x) ∧ ((j = 0 ∧ g r x = some c) ∨ (j ≠ 0 ∧ c = (j, 0, x))) := by
  cases o with
  | none => cases h
  | some q =>
    refine ⟨q.1, q.2.1, q.2.2, rfl, ?_⟩
    by_cases hq : q.1 = 0
    · exact Or.inl ⟨hq, (if_pos hq).symm.trans h⟩
    · exact Or.inr ⟨hq, (Option.some.inj ((if_neg hq).symm.trans h)).symm⟩
theorem gx_tlt {a : Int32} (h : a < 0) : a.toInt < 0 := by
  have := Int32.lt_iff_toInt_lt.mp h
  simpa using this
theorem gx_tgt {n : Int} {a b : Int32} (ha : a.toInt = n) (h : a < b) : n < b.toInt := by
  have := Int32.lt_iff_toInt_lt.mp h
  rw [ha] at this
  exact this
theorem gx_tnl {a : Int32} (h : ¬ a < 0) : ¬ a.toInt < 0 := fun q => h (Int32.lt_iff_toInt_lt.mpr (by simpa using q))
theorem gx_tng {n : Int} {a b : Int32} (ha : a.toInt = n) (h : ¬ a < b) : ¬ n < b.toInt := fun q => h (Int32.lt_iff_toInt_lt.mpr (by rw [ha]; exact q))
theorem gx_teq {a b : Int32} {n : Int} (hb : b.toInt = n) (h : a.toInt = n) : a = b := Int32.toInt_inj.mp (h.trans hb.symm)
theorem gx_tne {a b : Int32} {n : Int} (hb : b.toInt = n) (h : ¬ a = b) : ¬ a.toInt = n := fun q => h (gx_teq hb q)
theorem gx_tlast3 {a : Int32} (h1 : ¬ a < 0) (h2 : ¬ 3 < a) (n0 : ¬ a = 0) (n1 : ¬ a = 1) (n2 : ¬ a = 2) : a = 3 := by
  have q1 := gx_tnl h1
  have q2 := gx_tng (n := 3) (a := 3) (by decide) h2
  have p0 := gx_tne (b := 0) (n := 0) (by decide) n0
  have p1 := gx_tne (b := 1) (n := 1) (by decide) n1
  have p2 := gx_tne (b := 2) (n := 2) (by decide) n2
  exact gx_teq (b := 3) (n := 3) (by decide) (by omega)
def gx_bh {β : Type} (o : Option (Nat × Int32 × gx_S)) (g : Int32 → gx_S → Option β) (h : Nat → gx_S → Option β) : Option β := match o with
  | none => none
  | some q => if q.1 = 0 then g q.2.1 q.2.2 else h q.1 q.2.2
theorem gx_bh_some {β : Type} {o : Option (Nat × Int32 × gx_S)} {g : Int32 → gx_S → Option β} {h : Nat → gx_S → Option β} {c : β} (hc : gx_bh o g h = some c) : ∃ (j : Nat) (r : Int32) (x : gx_S), o = some (j, r, x) ∧ ((j = 0 ∧ g r x = some c) ∨ (j ≠ 0 ∧ h j x = some c)) := by
  cases o with
  | none => cases hc
  | some q =>
    refine ⟨q.1, q.2.1, q.2.2, rfl, ?_⟩
    by_cases hq : q.1 = 0
    · exact Or.inl ⟨hq, (if_pos hq).symm.trans hc⟩
    · exact Or.inr ⟨hq, (if_neg hq).symm.trans hc⟩
theorem gx_tlast15 {a : Int32} (h1 : ¬ a < 0) (h2 : ¬ 15 < a) (n0 : ¬ a = 0) (n1 : ¬ a = 1) (n2 : ¬ a = 2) (n3 : ¬ a = 3) (n4 : ¬ a = 4) (n5 : ¬ a = 5) (n6 : ¬ a = 6) (n7 : ¬ a = 7) (n8 : ¬ a = 8) (n9 : ¬ a = 9) (n10 : ¬ a = 10) (n11 : ¬ a = 11) (n12 : ¬ a = 12) (n13 : ¬ a = 13) (n14 : ¬ a = 14) : a = 15 := by
  have q1 := gx_tnl h1
  have q2 := gx_tng (n := 15) (a := 15) (by decide) h2
  have p0 := gx_tne (b := 0) (n := 0) (by decide) n0
  have p1 := gx_tne (b := 1) (n := 1) (by decide) n1
  have p2 := gx_tne (b := 2) (n := 2) (by decide) n2
  have p3 := gx_tne (b := 3) (n := 3) (by decide) n3
  have p4 := gx_tne (b := 4) (n := 4) (by decide) n4
  have p5 := gx_tne (b := 5) (n := 5) (by decide) n5
  have p6 := gx_tne (b := 6) (n := 6) (by decide) n6
  have p7 := gx_tne (b := 7) (n := 7) (by decide) n7
  have p8 := gx_tne (b := 8) (n := 8) (by decide) n8
  have p9 := gx_tne (b := 9) (n := 9) (by decide) n9
  have p10 := gx_tne (b := 10) (n := 10) (by decide) n10
  have p11 := gx_tne (b := 11) (n := 11) (by decide) n11
  have p12 := gx_tne (b := 12) (n := 12) (by decide) n12
  have p13 := gx_tne (b := 13) (n := 13) (by decide) n13
  have p14 := gx_tne (b := 14) (n := 14) (by decide) n14
  exact gx_teq (b := 15) (n := 15) (by decide) (by omega)
def gx_T : List Cond := lw_tbl.filter goodWord
theorem gx_T_good : ∀ w ∈ gx_T, goodWord w = true := fun w h => (List.mem_filter.mp h).2
def gx_NF : List (String × Nat × String × String × String × String) := [("CaseLayout$Search", 77, "CaseLayout$Grid", "width", "I", "CaseLayout"),
  ("CaseLayout$Search", 72, "CaseLayout$Grid", "height", "I", "CaseLayout"),
  ("CaseLayout", 68, "CaseLayout$Grid", "walls", "[Z", "CaseLayout"),
  ("CaseLayout$Floor", 29, "CaseLayout$Grid", "walls", "[Z", "CaseLayout"),
  ("CaseLayout", 88, "CaseLayout$Grid", "classes", "[I", "CaseLayout"),
  ("CaseLayout", 207, "CaseLayout$Grid", "wallCount", "I", "CaseLayout"),
  ("CaseLayout$Layout", 22, "CaseLayout$Things", "widths", "[I", "CaseLayout"),
  ("CaseLayout$Floor", 59, "CaseLayout$Things", "widths", "[I", "CaseLayout"),
  ("CaseLayout$Search", 80, "CaseLayout$Things", "widths", "[I", "CaseLayout"),
  ("CaseLayout$Layout", 31, "CaseLayout$Things", "heights", "[I", "CaseLayout"),
  ("CaseLayout$Floor", 56, "CaseLayout$Things", "heights", "[I", "CaseLayout"),
  ("CaseLayout$Search", 83, "CaseLayout$Things", "heights", "[I", "CaseLayout"),
  ("CaseLayout$Search", 86, "CaseLayout$Things", "classes", "[I", "CaseLayout"),
  ("CaseLayout", 109, "CaseLayout$Things", "gaps", "[I", "CaseLayout"),
  ("CaseLayout$Search", 121, "CaseLayout$Things", "gaps", "[I", "CaseLayout"),
  ("CaseLayout", 116, "CaseLayout$Things", "wishes", "[I", "CaseLayout"),
  ("CaseLayout$Search", 127, "CaseLayout$Things", "wishes", "[I", "CaseLayout"),
  ("CaseLayout$Floor", 41, "CaseLayout$Things", "size", "I", "CaseLayout"),
  ("CaseLayout", 92, "CaseLayout$Things", "size", "I", "CaseLayout"),
  ("CaseLayout$Search", 63, "CaseLayout$Things", "size", "I", "CaseLayout"),
  ("CaseLayout$Search", 156, "CaseLayout$Places", "xs", "[I", "CaseLayout"),
  ("CaseLayout", 194, "CaseLayout$Places", "xs", "[I", "CaseLayout"),
  ("CaseLayout$Search", 157, "CaseLayout$Places", "ys", "[I", "CaseLayout"),
  ("CaseLayout", 195, "CaseLayout$Places", "ys", "[I", "CaseLayout"),
  ("CaseLayout", 139, "CaseLayout$Places", "musts", "[Z", "CaseLayout"),
  ("CaseLayout$Search", 149, "CaseLayout$Places", "musts", "[Z", "CaseLayout"),
  ("CaseLayout", 119, "CaseLayout$Places", "size", "I", "CaseLayout"),
  ("CaseLayout$Search", 146, "CaseLayout$Places", "size", "I", "CaseLayout"),
  ("CaseLayout$Floor", 99, "CaseLayout$Exits", "cells", "[I", "CaseLayout"),
  ("CaseLayout$Floor", 96, "CaseLayout$Exits", "size", "I", "CaseLayout"),
  ("CaseLayout", 142, "CaseLayout$Exits", "size", "I", "CaseLayout"),
  ("CaseLayout$Search", 162, "CaseLayout$Exits", "size", "I", "CaseLayout"),
  ("CaseLayout", 150, "CaseLayout$Exits", "furthest", "I", "CaseLayout"),
  ("CaseLayout$Search", 169, "CaseLayout$Exits", "furthest", "I", "CaseLayout"),
  ("CaseLayout", 204, "CaseLayout$Floor", "steps", "[I", "CaseLayout"),
  ("CaseLayout$Floor", 35, "CaseLayout$Layout", "things", "LCaseLayout$Things;", "CaseLayout"),
  ("CaseLayout$Floor", 50, "CaseLayout$Layout", "xs", "[I", "CaseLayout"),
  ("CaseLayout$Search", 100, "CaseLayout$Layout", "xs", "[I", "CaseLayout"),
  ("CaseLayout", 179, "CaseLayout$Layout", "xs", "[I", "CaseLayout"),
  ("CaseLayout$Floor", 53, "CaseLayout$Layout", "ys", "[I", "CaseLayout"),
  ("CaseLayout$Search", 103, "CaseLayout$Layout", "ys", "[I", "CaseLayout"),
  ("CaseLayout", 184, "CaseLayout$Layout", "ys", "[I", "CaseLayout"),
  ("CaseLayout", 175, "CaseLayout$Search", "best", "LCaseLayout$Layout;", "CaseLayout"),
  ("CaseLayout", 164, "CaseLayout$Search", "nodeCount", "I", "CaseLayout"),
  ("CaseLayout", 187, "CaseLayout$Search", "bestWorth", "I", "CaseLayout")]
def gx_NM : List (String × Nat × MethodName × String) := [("CaseLayout", 24, ⟨"CaseLayout$Things", "<init>", "()V"⟩, "CaseLayout"),
  ("CaseLayout", 31, ⟨"CaseLayout$Places", "<init>", "()V"⟩, "CaseLayout"),
  ("CaseLayout", 38, ⟨"CaseLayout$Exits", "<init>", "()V"⟩, "CaseLayout"),
  ("CaseLayout$Places", 26, ⟨"CaseLayout", "cellOf", "(II)I"⟩, "CaseLayout"),
  ("CaseLayout$Grid", 33, ⟨"CaseLayout", "cellOf", "(II)I"⟩, "CaseLayout"),
  ("CaseLayout$Search", 93, ⟨"CaseLayout", "cellOf", "(II)I"⟩, "CaseLayout"),
  ("CaseLayout$Floor", 66, ⟨"CaseLayout", "cellOf", "(II)I"⟩, "CaseLayout"),
  ("CaseLayout$Search", 153, ⟨"CaseLayout", "sightOf", "(II)I"⟩, "CaseLayout"),
  ("CaseLayout$Search", 124, ⟨"CaseLayout", "pairOf", "(II)I"⟩, "CaseLayout")]
def gx_NC : List (String × String) := [("java/lang/IndexOutOfBoundsException", "java/lang/IndexOutOfBoundsException"), ("java/lang/IllegalArgumentException", "java/lang/IllegalArgumentException"), ("java/lang/IllegalStateException", "java/lang/IllegalStateException")]
def gx_ND : List MethodName := [⟨"java/lang/RuntimeException", "<init>", "()V"⟩, ⟨"java/lang/RuntimeException", "<init>", "(Ljava/lang/String;)V"⟩, ⟨"java/lang/Exception", "<init>", "()V"⟩, ⟨"java/lang/Exception", "<init>", "(Ljava/lang/String;)V"⟩, ⟨"java/lang/Throwable", "<init>", "()V"⟩, ⟨"java/lang/Throwable", "<init>", "(Ljava/lang/String;)V"⟩]
def gx_nc : List (String × String) := [("java/lang/IllegalArgumentException", "java/lang/IllegalStateException"), ("java/lang/IllegalArgumentException", "java/lang/IndexOutOfBoundsException"), ("java/lang/IllegalStateException", "java/lang/IllegalArgumentException"), ("java/lang/IllegalStateException", "java/lang/IndexOutOfBoundsException"), ("java/lang/IndexOutOfBoundsException", "java/lang/IllegalArgumentException"), ("java/lang/IndexOutOfBoundsException", "java/lang/IllegalStateException")]
def gx_str : List (String × Nat × String) := [("CaseLayout", 215, "no such cell"), ("CaseLayout", 225, "out of range"), ("CaseLayout", 98, "there are seven things"), ("CaseLayout", 217, "no such thing"), ("CaseLayout", 221, "a thing and itself are no pair"), ("CaseLayout", 120, "there are eight places"), ("CaseLayout", 124, "the cell is a wall"), ("CaseLayout", 219, "no such place"), ("CaseLayout", 143, "there are six exits"), ("CaseLayout", 145, "the cell is a wall or an exit"), ("CaseLayout", 169, "neither x nor y"), ("CaseLayout", 223, "no layout is found"), ("CaseLayout", 210, "nothing of this kind is counted")]
/-! the world: the class's cells, the reference's, the law's array of one long -/
def T_CaseLayout : u_T := fun k => match k with
  | 0 => ("CaseLayout", "grid", "LCaseLayout$Grid;", true)
  | 1 => ("CaseLayout", "things", "LCaseLayout$Things;", true)
  | 2 => ("CaseLayout", "places", "LCaseLayout$Places;", true)
  | 3 => ("CaseLayout", "exits", "LCaseLayout$Exits;", true)
  | 4 => ("CaseLayout", "floor", "LCaseLayout$Floor;", true)
  | _ => ("CaseLayout", "search", "LCaseLayout$Search;", true)
def ty_CaseLayout : Nat → FieldType := fun k => match k with
  | 0 => .object "CaseLayout$Grid"
  | 1 => .object "CaseLayout$Things"
  | 2 => .object "CaseLayout$Places"
  | 3 => .object "CaseLayout$Exits"
  | 4 => .object "CaseLayout$Floor"
  | _ => .object "CaseLayout$Search"
theorem tn_CaseLayout : ∀ a, a < 6 → ∀ b, b < 6 → a ≠ b → (T_CaseLayout a).2.1 ≠ (T_CaseLayout b).2.1 := by decide +kernel
theorem tk_CaseLayout : ∀ k, k < 6 → parseFieldDescriptor (T_CaseLayout k).2.2.1 = some (ty_CaseLayout k) := by decide +kernel
def T_Grid : u_T := fun k => match k with
  | 0 => ("CaseLayout$Grid", "width", "I", true)
  | 1 => ("CaseLayout$Grid", "height", "I", true)
  | 2 => ("CaseLayout$Grid", "walls", "[Z", true)
  | 3 => ("CaseLayout$Grid", "classes", "[I", true)
  | _ => ("CaseLayout$Grid", "wallCount", "I", false)
def ty_Grid : Nat → FieldType := fun k => match k with
  | 0 => .int
  | 1 => .int
  | 2 => .array .boolean
  | 3 => .array .int
  | _ => .int
theorem tn_Grid : ∀ a, a < 5 → ∀ b, b < 5 → a ≠ b → (T_Grid a).2.1 ≠ (T_Grid b).2.1 := by decide +kernel
theorem tk_Grid : ∀ k, k < 5 → parseFieldDescriptor (T_Grid k).2.2.1 = some (ty_Grid k) := by decide +kernel
def T_Things : u_T := fun k => match k with
  | 0 => ("CaseLayout$Things", "widths", "[I", true)
  | 1 => ("CaseLayout$Things", "heights", "[I", true)
  | 2 => ("CaseLayout$Things", "classes", "[I", true)
  | 3 => ("CaseLayout$Things", "gaps", "[I", true)
  | 4 => ("CaseLayout$Things", "wishes", "[I", true)
  | _ => ("CaseLayout$Things", "size", "I", false)
def ty_Things : Nat → FieldType := fun k => match k with
  | 0 => .array .int
  | 1 => .array .int
  | 2 => .array .int
  | 3 => .array .int
  | 4 => .array .int
  | _ => .int
theorem tn_Things : ∀ a, a < 6 → ∀ b, b < 6 → a ≠ b → (T_Things a).2.1 ≠ (T_Things b).2.1 := by decide +kernel
theorem tk_Things : ∀ k, k < 6 → parseFieldDescriptor (T_Things k).2.2.1 = some (ty_Things k) := by decide +kernel
def T_Places : u_T := fun k => match k with
  | 0 => ("CaseLayout$Places", "xs", "[I", true)
  | 1 => ("CaseLayout$Places", "ys", "[I", true)
  | 2 => ("CaseLayout$Places", "musts", "[Z", true)
  | _ => ("CaseLayout$Places", "size", "I", false)
def ty_Places : Nat → FieldType := fun k => match k with
  | 0 => .array .int
  | 1 => .array .int
  | 2 => .array .boolean
  | _ => .int
theorem tn_Places : ∀ a, a < 4 → ∀ b, b < 4 → a ≠ b → (T_Places a).2.1 ≠ (T_Places b).2.1 := by decide +kernel
theorem tk_Places : ∀ k, k < 4 → parseFieldDescriptor (T_Places k).2.2.1 = some (ty_Places k) := by decide +kernel
def T_Exits : u_T := fun k => match k with
  | 0 => ("CaseLayout$Exits", "cells", "[I", true)
  | 1 => ("CaseLayout$Exits", "size", "I", false)
  | _ => ("CaseLayout$Exits", "furthest", "I", false)
def ty_Exits : Nat → FieldType := fun k => match k with
  | 0 => .array .int
  | 1 => .int
  | _ => .int
theorem tn_Exits : ∀ a, a < 3 → ∀ b, b < 3 → a ≠ b → (T_Exits a).2.1 ≠ (T_Exits b).2.1 := by decide +kernel
theorem tk_Exits : ∀ k, k < 3 → parseFieldDescriptor (T_Exits k).2.2.1 = some (ty_Exits k) := by decide +kernel
def T_Floor : u_T := fun k => match k with
  | 0 => ("CaseLayout$Floor", "grid", "LCaseLayout$Grid;", true)
  | 1 => ("CaseLayout$Floor", "owners", "[I", true)
  | 2 => ("CaseLayout$Floor", "steps", "[I", true)
  | 3 => ("CaseLayout$Floor", "reached", "[I", true)
  | _ => ("CaseLayout$Floor", "reachedCount", "I", false)
def ty_Floor : Nat → FieldType := fun k => match k with
  | 0 => .object "CaseLayout$Grid"
  | 1 => .array .int
  | 2 => .array .int
  | 3 => .array .int
  | _ => .int
theorem tn_Floor : ∀ a, a < 5 → ∀ b, b < 5 → a ≠ b → (T_Floor a).2.1 ≠ (T_Floor b).2.1 := by decide +kernel
theorem tk_Floor : ∀ k, k < 5 → parseFieldDescriptor (T_Floor k).2.2.1 = some (ty_Floor k) := by decide +kernel
def T_Search : u_T := fun k => match k with
  | 0 => ("CaseLayout$Search", "grid", "LCaseLayout$Grid;", true)
  | 1 => ("CaseLayout$Search", "things", "LCaseLayout$Things;", true)
  | 2 => ("CaseLayout$Search", "places", "LCaseLayout$Places;", true)
  | 3 => ("CaseLayout$Search", "exits", "LCaseLayout$Exits;", true)
  | 4 => ("CaseLayout$Search", "floor", "LCaseLayout$Floor;", true)
  | 5 => ("CaseLayout$Search", "trial", "LCaseLayout$Layout;", true)
  | 6 => ("CaseLayout$Search", "best", "LCaseLayout$Layout;", true)
  | 7 => ("CaseLayout$Search", "spots", "[I", true)
  | 8 => ("CaseLayout$Search", "spotCounts", "[I", true)
  | 9 => ("CaseLayout$Search", "limit", "I", false)
  | 10 => ("CaseLayout$Search", "nodeCount", "I", false)
  | _ => ("CaseLayout$Search", "bestWorth", "I", false)
def ty_Search : Nat → FieldType := fun k => match k with
  | 0 => .object "CaseLayout$Grid"
  | 1 => .object "CaseLayout$Things"
  | 2 => .object "CaseLayout$Places"
  | 3 => .object "CaseLayout$Exits"
  | 4 => .object "CaseLayout$Floor"
  | 5 => .object "CaseLayout$Layout"
  | 6 => .object "CaseLayout$Layout"
  | 7 => .array .int
  | 8 => .array .int
  | 9 => .int
  | 10 => .int
  | _ => .int
theorem tn_Search : ∀ a, a < 12 → ∀ b, b < 12 → a ≠ b → (T_Search a).2.1 ≠ (T_Search b).2.1 := by decide +kernel
theorem tk_Search : ∀ k, k < 12 → parseFieldDescriptor (T_Search k).2.2.1 = some (ty_Search k) := by decide +kernel
def T_Layout : u_T := fun k => match k with
  | 0 => ("CaseLayout$Layout", "things", "LCaseLayout$Things;", true)
  | 1 => ("CaseLayout$Layout", "xs", "[I", true)
  | _ => ("CaseLayout$Layout", "ys", "[I", true)
def ty_Layout : Nat → FieldType := fun k => match k with
  | 0 => .object "CaseLayout$Things"
  | 1 => .array .int
  | _ => .array .int
theorem tn_Layout : ∀ a, a < 3 → ∀ b, b < 3 → a ≠ b → (T_Layout a).2.1 ≠ (T_Layout b).2.1 := by decide +kernel
theorem tk_Layout : ∀ k, k < 3 → parseFieldDescriptor (T_Layout k).2.2.1 = some (ty_Layout k) := by decide +kernel
def T_Mod : u_T := fun k => match k with
  | 0 => ("CaseLayoutModel", "thrown", "I", false)
  | 1 => ("CaseLayoutModel", "width", "I", true)
  | 2 => ("CaseLayoutModel", "height", "I", true)
  | 3 => ("CaseLayoutModel", "walls", "[Z", true)
  | 4 => ("CaseLayoutModel", "zones", "[I", true)
  | 5 => ("CaseLayoutModel", "things", "I", false)
  | 6 => ("CaseLayoutModel", "wide", "[I", true)
  | 7 => ("CaseLayoutModel", "high", "[I", true)
  | 8 => ("CaseLayoutModel", "classes", "[I", true)
  | 9 => ("CaseLayoutModel", "apart", "[I", true)
  | 10 => ("CaseLayoutModel", "wishes", "[I", true)
  | 11 => ("CaseLayoutModel", "places", "I", false)
  | 12 => ("CaseLayoutModel", "placeX", "[I", true)
  | 13 => ("CaseLayoutModel", "placeY", "[I", true)
  | 14 => ("CaseLayoutModel", "sees", "[Z", true)
  | 15 => ("CaseLayoutModel", "exits", "I", false)
  | 16 => ("CaseLayoutModel", "exitX", "[I", true)
  | 17 => ("CaseLayoutModel", "exitY", "[I", true)
  | 18 => ("CaseLayoutModel", "most", "I", false)
  | 19 => ("CaseLayoutModel", "atX", "[I", true)
  | 20 => ("CaseLayoutModel", "atY", "[I", true)
  | 21 => ("CaseLayoutModel", "next", "[I", true)
  | 22 => ("CaseLayoutModel", "bestX", "[I", true)
  | 23 => ("CaseLayoutModel", "bestY", "[I", true)
  | 24 => ("CaseLayoutModel", "found", "Z", false)
  | 25 => ("CaseLayoutModel", "worth", "I", false)
  | 26 => ("CaseLayoutModel", "nodes", "I", false)
  | _ => ("CaseLayoutModel", "steps", "[I", true)
def ty_Mod : Nat → FieldType := fun k => match k with
  | 0 => .int
  | 1 => .int
  | 2 => .int
  | 3 => .array .boolean
  | 4 => .array .int
  | 5 => .int
  | 6 => .array .int
  | 7 => .array .int
  | 8 => .array .int
  | 9 => .array .int
  | 10 => .array .int
  | 11 => .int
  | 12 => .array .int
  | 13 => .array .int
  | 14 => .array .boolean
  | 15 => .int
  | 16 => .array .int
  | 17 => .array .int
  | 18 => .int
  | 19 => .array .int
  | 20 => .array .int
  | 21 => .array .int
  | 22 => .array .int
  | 23 => .array .int
  | 24 => .boolean
  | 25 => .int
  | 26 => .int
  | _ => .array .int
theorem tn_Mod : ∀ a, a < 28 → ∀ b, b < 28 → a ≠ b → (T_Mod a).2.1 ≠ (T_Mod b).2.1 := by decide +kernel
theorem tk_Mod : ∀ k, k < 28 → parseFieldDescriptor (T_Mod k).2.2.1 = some (ty_Mod k) := by decide +kernel
abbrev gx_cl : List vw_C := [("CaseLayout", T_CaseLayout, 6), ("CaseLayout$Grid", T_Grid, 5), ("CaseLayout$Things", T_Things, 6), ("CaseLayout$Places", T_Places, 4), ("CaseLayout$Exits", T_Exits, 3), ("CaseLayout$Floor", T_Floor, 5), ("CaseLayout$Search", T_Search, 12), ("CaseLayout$Layout", T_Layout, 3), ("CaseLayoutModel", T_Mod, 28)]
abbrev gx_tys (E : gx_E) : List (ClassId × FieldType) := [(gx_id E 0, .int), (gx_id E 1, .boolean), (gx_id E 2, .long)]
def gx_wd (E : gx_E) (x : gx_S) : va_W := [(gx_ad E 0, .inr (1, [.int (gx_gI x 0), .int (gx_gI x 1), .ref (gx_ad E 1), .ref (gx_ad E 2), .int (gx_gI x 2)])),
  (gx_ad E 1, .inl (gx_id E 1, 81, .inl (gx_gA x 0))),
  (gx_ad E 2, .inl (gx_id E 0, 81, .inl (gx_gA x 1))),
  (gx_ad E 3, .inr (2, [.ref (gx_ad E 4), .ref (gx_ad E 5), .ref (gx_ad E 6), .ref (gx_ad E 7), .ref (gx_ad E 8), .int (gx_gI x 3)])),
  (gx_ad E 4, .inl (gx_id E 0, 7, .inl (gx_gA x 2))),
  (gx_ad E 5, .inl (gx_id E 0, 7, .inl (gx_gA x 3))),
  (gx_ad E 6, .inl (gx_id E 0, 7, .inl (gx_gA x 4))),
  (gx_ad E 7, .inl (gx_id E 0, 49, .inl (gx_gA x 5))),
  (gx_ad E 8, .inl (gx_id E 0, 49, .inl (gx_gA x 6))),
  (gx_ad E 9, .inr (3, [.ref (gx_ad E 10), .ref (gx_ad E 11), .ref (gx_ad E 12), .int (gx_gI x 4)])),
  (gx_ad E 10, .inl (gx_id E 0, 8, .inl (gx_gA x 7))),
  (gx_ad E 11, .inl (gx_id E 0, 8, .inl (gx_gA x 8))),
  (gx_ad E 12, .inl (gx_id E 1, 56, .inl (gx_gA x 9))),
  (gx_ad E 13, .inr (4, [.ref (gx_ad E 14), .int (gx_gI x 5), .int (gx_gI x 6)])),
  (gx_ad E 14, .inl (gx_id E 0, 6, .inl (gx_gA x 10))),
  (gx_ad E 15, .inr (5, [.ref (gx_ad E 0), .ref (gx_ad E 16), .ref (gx_ad E 17), .ref (gx_ad E 18), .int (gx_gI x 7)])),
  (gx_ad E 16, .inl (gx_id E 0, 81, .inl (gx_gA x 11))),
  (gx_ad E 17, .inl (gx_id E 0, 81, .inl (gx_gA x 12))),
  (gx_ad E 18, .inl (gx_id E 0, 81, .inl (gx_gA x 13))),
  (gx_ad E 19, .inr (7, [.ref (gx_ad E 3), .ref (gx_ad E 20), .ref (gx_ad E 21)])),
  (gx_ad E 20, .inl (gx_id E 0, 7, .inl (gx_gA x 14))),
  (gx_ad E 21, .inl (gx_id E 0, 7, .inl (gx_gA x 15))),
  (gx_ad E 22, .inr (7, [.ref (gx_ad E 3), .ref (gx_ad E 23), .ref (gx_ad E 24)])),
  (gx_ad E 23, .inl (gx_id E 0, 7, .inl (gx_gA x 16))),
  (gx_ad E 24, .inl (gx_id E 0, 7, .inl (gx_gA x 17))),
  (gx_ad E 25, .inr (6, [.ref (gx_ad E 0), .ref (gx_ad E 3), .ref (gx_ad E 9), .ref (gx_ad E 13), .ref (gx_ad E 15), .ref (gx_ad E 19), .ref (gx_ad E 22), .ref (gx_ad E 26), .ref (gx_ad E 27), .int (gx_gI x 8), .int (gx_gI x 9), .int (gx_gI x 10)])),
  (gx_ad E 26, .inl (gx_id E 0, 567, .inl (gx_gA x 18))),
  (gx_ad E 27, .inl (gx_id E 0, 7, .inl (gx_gA x 19))),
  (gx_ad E 28, .inr (0, [.ref (gx_ad E 0), .ref (gx_ad E 3), .ref (gx_ad E 9), .ref (gx_ad E 13), .ref (gx_ad E 15), .ref (gx_ad E 25)])),
  (gx_ad E 29, .inr (8, [.int (gx_gI x 11), .int (gx_gI x 12), .int (gx_gI x 13), .ref (gx_ad E 30), .ref (gx_ad E 31), .int (gx_gI x 14), .ref (gx_ad E 32), .ref (gx_ad E 33), .ref (gx_ad E 34), .ref (gx_ad E 35), .ref (gx_ad E 36), .int (gx_gI x 15), .ref (gx_ad E 37), .ref (gx_ad E 38), .ref (gx_ad E 39), .int (gx_gI x 16), .ref (gx_ad E 40), .ref (gx_ad E 41), .int (gx_gI x 17), .ref (gx_ad E 42), .ref (gx_ad E 43), .ref (gx_ad E 44), .ref (gx_ad E 45), .ref (gx_ad E 46), .int (gx_gI x 18), .int (gx_gI x 19), .int (gx_gI x 20), .ref (gx_ad E 47)])),
  (gx_ad E 30, .inl (gx_id E 1, 81, .inl (gx_gA x 20))),
  (gx_ad E 31, .inl (gx_id E 0, 81, .inl (gx_gA x 21))),
  (gx_ad E 32, .inl (gx_id E 0, 7, .inl (gx_gA x 22))),
  (gx_ad E 33, .inl (gx_id E 0, 7, .inl (gx_gA x 23))),
  (gx_ad E 34, .inl (gx_id E 0, 7, .inl (gx_gA x 24))),
  (gx_ad E 35, .inl (gx_id E 0, 49, .inl (gx_gA x 25))),
  (gx_ad E 36, .inl (gx_id E 0, 49, .inl (gx_gA x 26))),
  (gx_ad E 37, .inl (gx_id E 0, 8, .inl (gx_gA x 27))),
  (gx_ad E 38, .inl (gx_id E 0, 8, .inl (gx_gA x 28))),
  (gx_ad E 39, .inl (gx_id E 1, 56, .inl (gx_gA x 29))),
  (gx_ad E 40, .inl (gx_id E 0, 6, .inl (gx_gA x 30))),
  (gx_ad E 41, .inl (gx_id E 0, 6, .inl (gx_gA x 31))),
  (gx_ad E 42, .inl (gx_id E 0, 7, .inl (gx_gA x 32))),
  (gx_ad E 43, .inl (gx_id E 0, 7, .inl (gx_gA x 33))),
  (gx_ad E 44, .inl (gx_id E 0, 8, .inl (gx_gA x 34))),
  (gx_ad E 45, .inl (gx_id E 0, 7, .inl (gx_gA x 35))),
  (gx_ad E 46, .inl (gx_id E 0, 7, .inl (gx_gA x 36))),
  (gx_ad E 47, .inl (gx_id E 0, 81, .inl (gx_gA x 37))),
  (gx_ad E 48, .inl (gx_id E 2, 1, .inr (.inl (gx_gL x))))]
theorem gx_wd_ad (E : gx_E) (x y : gx_S) : (gx_wd E x).map Prod.fst = (gx_wd E y).map Prod.fst := rfl
theorem gx_w0 (E : gx_E) (x : gx_S) : (gx_wd E x)[0]? = some (gx_ad E 0, .inr (1, [.int (gx_gI x 0), .int (gx_gI x 1), .ref (gx_ad E 1), .ref (gx_ad E 2), .int (gx_gI x 2)])) := rfl
theorem gx_p0_0 (E : gx_E) (x : gx_S) (v : Int32) : (gx_wd E x).set 0 (gx_ad E 0, .inr (1, ([.int (gx_gI x 0), .int (gx_gI x 1), .ref (gx_ad E 1), .ref (gx_ad E 2), .int (gx_gI x 2)] : List Value).set 0 (.int v))) = gx_wd E (gx_sI x 0 v) := rfl
theorem gx_p0_1 (E : gx_E) (x : gx_S) (v : Int32) : (gx_wd E x).set 0 (gx_ad E 0, .inr (1, ([.int (gx_gI x 0), .int (gx_gI x 1), .ref (gx_ad E 1), .ref (gx_ad E 2), .int (gx_gI x 2)] : List Value).set 1 (.int v))) = gx_wd E (gx_sI x 1 v) := rfl
theorem gx_p0_4 (E : gx_E) (x : gx_S) (v : Int32) : (gx_wd E x).set 0 (gx_ad E 0, .inr (1, ([.int (gx_gI x 0), .int (gx_gI x 1), .ref (gx_ad E 1), .ref (gx_ad E 2), .int (gx_gI x 2)] : List Value).set 4 (.int v))) = gx_wd E (gx_sI x 2 v) := rfl
theorem gx_w1 (E : gx_E) (x : gx_S) : (gx_wd E x)[1]? = some (gx_ad E 1, .inl (gx_id E 1, 81, .inl (gx_gA x 0))) := rfl
theorem gx_q1 (E : gx_E) (x : gx_S) (i : Nat) (v : Int32) : (gx_wd E x).set 1 (gx_ad E 1, .inl (gx_id E 1, 81, .inl (upd (gx_gA x 0) i v))) = gx_wd E (gx_sA x 0 i v) := rfl
theorem gx_c1 (E : gx_E) (x : gx_S) (f : Nat → Int32) : (gx_wd E x).set 1 (gx_ad E 1, .inl (gx_id E 1, 81, .inl f)) = gx_wd E (gx_sF x 0 f) := rfl
theorem gx_w2 (E : gx_E) (x : gx_S) : (gx_wd E x)[2]? = some (gx_ad E 2, .inl (gx_id E 0, 81, .inl (gx_gA x 1))) := rfl
theorem gx_q2 (E : gx_E) (x : gx_S) (i : Nat) (v : Int32) : (gx_wd E x).set 2 (gx_ad E 2, .inl (gx_id E 0, 81, .inl (upd (gx_gA x 1) i v))) = gx_wd E (gx_sA x 1 i v) := rfl
theorem gx_c2 (E : gx_E) (x : gx_S) (f : Nat → Int32) : (gx_wd E x).set 2 (gx_ad E 2, .inl (gx_id E 0, 81, .inl f)) = gx_wd E (gx_sF x 1 f) := rfl
theorem gx_w3 (E : gx_E) (x : gx_S) : (gx_wd E x)[3]? = some (gx_ad E 3, .inr (2, [.ref (gx_ad E 4), .ref (gx_ad E 5), .ref (gx_ad E 6), .ref (gx_ad E 7), .ref (gx_ad E 8), .int (gx_gI x 3)])) := rfl
theorem gx_p3_5 (E : gx_E) (x : gx_S) (v : Int32) : (gx_wd E x).set 3 (gx_ad E 3, .inr (2, ([.ref (gx_ad E 4), .ref (gx_ad E 5), .ref (gx_ad E 6), .ref (gx_ad E 7), .ref (gx_ad E 8), .int (gx_gI x 3)] : List Value).set 5 (.int v))) = gx_wd E (gx_sI x 3 v) := rfl
theorem gx_w4 (E : gx_E) (x : gx_S) : (gx_wd E x)[4]? = some (gx_ad E 4, .inl (gx_id E 0, 7, .inl (gx_gA x 2))) := rfl
theorem gx_q4 (E : gx_E) (x : gx_S) (i : Nat) (v : Int32) : (gx_wd E x).set 4 (gx_ad E 4, .inl (gx_id E 0, 7, .inl (upd (gx_gA x 2) i v))) = gx_wd E (gx_sA x 2 i v) := rfl
theorem gx_c4 (E : gx_E) (x : gx_S) (f : Nat → Int32) : (gx_wd E x).set 4 (gx_ad E 4, .inl (gx_id E 0, 7, .inl f)) = gx_wd E (gx_sF x 2 f) := rfl
theorem gx_w5 (E : gx_E) (x : gx_S) : (gx_wd E x)[5]? = some (gx_ad E 5, .inl (gx_id E 0, 7, .inl (gx_gA x 3))) := rfl
theorem gx_q5 (E : gx_E) (x : gx_S) (i : Nat) (v : Int32) : (gx_wd E x).set 5 (gx_ad E 5, .inl (gx_id E 0, 7, .inl (upd (gx_gA x 3) i v))) = gx_wd E (gx_sA x 3 i v) := rfl
theorem gx_c5 (E : gx_E) (x : gx_S) (f : Nat → Int32) : (gx_wd E x).set 5 (gx_ad E 5, .inl (gx_id E 0, 7, .inl f)) = gx_wd E (gx_sF x 3 f) := rfl
theorem gx_w6 (E : gx_E) (x : gx_S) : (gx_wd E x)[6]? = some (gx_ad E 6, .inl (gx_id E 0, 7, .inl (gx_gA x 4))) := rfl
theorem gx_q6 (E : gx_E) (x : gx_S) (i : Nat) (v : Int32) : (gx_wd E x).set 6 (gx_ad E 6, .inl (gx_id E 0, 7, .inl (upd (gx_gA x 4) i v))) = gx_wd E (gx_sA x 4 i v) := rfl
theorem gx_c6 (E : gx_E) (x : gx_S) (f : Nat → Int32) : (gx_wd E x).set 6 (gx_ad E 6, .inl (gx_id E 0, 7, .inl f)) = gx_wd E (gx_sF x 4 f) := rfl
theorem gx_w7 (E : gx_E) (x : gx_S) : (gx_wd E x)[7]? = some (gx_ad E 7, .inl (gx_id E 0, 49, .inl (gx_gA x 5))) := rfl
theorem gx_q7 (E : gx_E) (x : gx_S) (i : Nat) (v : Int32) : (gx_wd E x).set 7 (gx_ad E 7, .inl (gx_id E 0, 49, .inl (upd (gx_gA x 5) i v))) = gx_wd E (gx_sA x 5 i v) := rfl
theorem gx_c7 (E : gx_E) (x : gx_S) (f : Nat → Int32) : (gx_wd E x).set 7 (gx_ad E 7, .inl (gx_id E 0, 49, .inl f)) = gx_wd E (gx_sF x 5 f) := rfl
theorem gx_w8 (E : gx_E) (x : gx_S) : (gx_wd E x)[8]? = some (gx_ad E 8, .inl (gx_id E 0, 49, .inl (gx_gA x 6))) := rfl
theorem gx_q8 (E : gx_E) (x : gx_S) (i : Nat) (v : Int32) : (gx_wd E x).set 8 (gx_ad E 8, .inl (gx_id E 0, 49, .inl (upd (gx_gA x 6) i v))) = gx_wd E (gx_sA x 6 i v) := rfl
theorem gx_c8 (E : gx_E) (x : gx_S) (f : Nat → Int32) : (gx_wd E x).set 8 (gx_ad E 8, .inl (gx_id E 0, 49, .inl f)) = gx_wd E (gx_sF x 6 f) := rfl
theorem gx_w9 (E : gx_E) (x : gx_S) : (gx_wd E x)[9]? = some (gx_ad E 9, .inr (3, [.ref (gx_ad E 10), .ref (gx_ad E 11), .ref (gx_ad E 12), .int (gx_gI x 4)])) := rfl
theorem gx_p9_3 (E : gx_E) (x : gx_S) (v : Int32) : (gx_wd E x).set 9 (gx_ad E 9, .inr (3, ([.ref (gx_ad E 10), .ref (gx_ad E 11), .ref (gx_ad E 12), .int (gx_gI x 4)] : List Value).set 3 (.int v))) = gx_wd E (gx_sI x 4 v) := rfl
theorem gx_w10 (E : gx_E) (x : gx_S) : (gx_wd E x)[10]? = some (gx_ad E 10, .inl (gx_id E 0, 8, .inl (gx_gA x 7))) := rfl
theorem gx_q10 (E : gx_E) (x : gx_S) (i : Nat) (v : Int32) : (gx_wd E x).set 10 (gx_ad E 10, .inl (gx_id E 0, 8, .inl (upd (gx_gA x 7) i v))) = gx_wd E (gx_sA x 7 i v) := rfl
theorem gx_c10 (E : gx_E) (x : gx_S) (f : Nat → Int32) : (gx_wd E x).set 10 (gx_ad E 10, .inl (gx_id E 0, 8, .inl f)) = gx_wd E (gx_sF x 7 f) := rfl
theorem gx_w11 (E : gx_E) (x : gx_S) : (gx_wd E x)[11]? = some (gx_ad E 11, .inl (gx_id E 0, 8, .inl (gx_gA x 8))) := rfl
theorem gx_q11 (E : gx_E) (x : gx_S) (i : Nat) (v : Int32) : (gx_wd E x).set 11 (gx_ad E 11, .inl (gx_id E 0, 8, .inl (upd (gx_gA x 8) i v))) = gx_wd E (gx_sA x 8 i v) := rfl
theorem gx_c11 (E : gx_E) (x : gx_S) (f : Nat → Int32) : (gx_wd E x).set 11 (gx_ad E 11, .inl (gx_id E 0, 8, .inl f)) = gx_wd E (gx_sF x 8 f) := rfl
theorem gx_w12 (E : gx_E) (x : gx_S) : (gx_wd E x)[12]? = some (gx_ad E 12, .inl (gx_id E 1, 56, .inl (gx_gA x 9))) := rfl
theorem gx_q12 (E : gx_E) (x : gx_S) (i : Nat) (v : Int32) : (gx_wd E x).set 12 (gx_ad E 12, .inl (gx_id E 1, 56, .inl (upd (gx_gA x 9) i v))) = gx_wd E (gx_sA x 9 i v) := rfl
theorem gx_c12 (E : gx_E) (x : gx_S) (f : Nat → Int32) : (gx_wd E x).set 12 (gx_ad E 12, .inl (gx_id E 1, 56, .inl f)) = gx_wd E (gx_sF x 9 f) := rfl
theorem gx_w13 (E : gx_E) (x : gx_S) : (gx_wd E x)[13]? = some (gx_ad E 13, .inr (4, [.ref (gx_ad E 14), .int (gx_gI x 5), .int (gx_gI x 6)])) := rfl
theorem gx_p13_1 (E : gx_E) (x : gx_S) (v : Int32) : (gx_wd E x).set 13 (gx_ad E 13, .inr (4, ([.ref (gx_ad E 14), .int (gx_gI x 5), .int (gx_gI x 6)] : List Value).set 1 (.int v))) = gx_wd E (gx_sI x 5 v) := rfl
theorem gx_p13_2 (E : gx_E) (x : gx_S) (v : Int32) : (gx_wd E x).set 13 (gx_ad E 13, .inr (4, ([.ref (gx_ad E 14), .int (gx_gI x 5), .int (gx_gI x 6)] : List Value).set 2 (.int v))) = gx_wd E (gx_sI x 6 v) := rfl
theorem gx_w14 (E : gx_E) (x : gx_S) : (gx_wd E x)[14]? = some (gx_ad E 14, .inl (gx_id E 0, 6, .inl (gx_gA x 10))) := rfl
theorem gx_q14 (E : gx_E) (x : gx_S) (i : Nat) (v : Int32) : (gx_wd E x).set 14 (gx_ad E 14, .inl (gx_id E 0, 6, .inl (upd (gx_gA x 10) i v))) = gx_wd E (gx_sA x 10 i v) := rfl
theorem gx_c14 (E : gx_E) (x : gx_S) (f : Nat → Int32) : (gx_wd E x).set 14 (gx_ad E 14, .inl (gx_id E 0, 6, .inl f)) = gx_wd E (gx_sF x 10 f) := rfl
theorem gx_w15 (E : gx_E) (x : gx_S) : (gx_wd E x)[15]? = some (gx_ad E 15, .inr (5, [.ref (gx_ad E 0), .ref (gx_ad E 16), .ref (gx_ad E 17), .ref (gx_ad E 18), .int (gx_gI x 7)])) := rfl
theorem gx_p15_4 (E : gx_E) (x : gx_S) (v : Int32) : (gx_wd E x).set 15 (gx_ad E 15, .inr (5, ([.ref (gx_ad E 0), .ref (gx_ad E 16), .ref (gx_ad E 17), .ref (gx_ad E 18), .int (gx_gI x 7)] : List Value).set 4 (.int v))) = gx_wd E (gx_sI x 7 v) := rfl
theorem gx_w16 (E : gx_E) (x : gx_S) : (gx_wd E x)[16]? = some (gx_ad E 16, .inl (gx_id E 0, 81, .inl (gx_gA x 11))) := rfl
theorem gx_q16 (E : gx_E) (x : gx_S) (i : Nat) (v : Int32) : (gx_wd E x).set 16 (gx_ad E 16, .inl (gx_id E 0, 81, .inl (upd (gx_gA x 11) i v))) = gx_wd E (gx_sA x 11 i v) := rfl
theorem gx_c16 (E : gx_E) (x : gx_S) (f : Nat → Int32) : (gx_wd E x).set 16 (gx_ad E 16, .inl (gx_id E 0, 81, .inl f)) = gx_wd E (gx_sF x 11 f) := rfl
theorem gx_w17 (E : gx_E) (x : gx_S) : (gx_wd E x)[17]? = some (gx_ad E 17, .inl (gx_id E 0, 81, .inl (gx_gA x 12))) := rfl
theorem gx_q17 (E : gx_E) (x : gx_S) (i : Nat) (v : Int32) : (gx_wd E x).set 17 (gx_ad E 17, .inl (gx_id E 0, 81, .inl (upd (gx_gA x 12) i v))) = gx_wd E (gx_sA x 12 i v) := rfl
theorem gx_c17 (E : gx_E) (x : gx_S) (f : Nat → Int32) : (gx_wd E x).set 17 (gx_ad E 17, .inl (gx_id E 0, 81, .inl f)) = gx_wd E (gx_sF x 12 f) := rfl
theorem gx_w18 (E : gx_E) (x : gx_S) : (gx_wd E x)[18]? = some (gx_ad E 18, .inl (gx_id E 0, 81, .inl (gx_gA x 13))) := rfl
theorem gx_q18 (E : gx_E) (x : gx_S) (i : Nat) (v : Int32) : (gx_wd E x).set 18 (gx_ad E 18, .inl (gx_id E 0, 81, .inl (upd (gx_gA x 13) i v))) = gx_wd E (gx_sA x 13 i v) := rfl
theorem gx_c18 (E : gx_E) (x : gx_S) (f : Nat → Int32) : (gx_wd E x).set 18 (gx_ad E 18, .inl (gx_id E 0, 81, .inl f)) = gx_wd E (gx_sF x 13 f) := rfl
theorem gx_w19 (E : gx_E) (x : gx_S) : (gx_wd E x)[19]? = some (gx_ad E 19, .inr (7, [.ref (gx_ad E 3), .ref (gx_ad E 20), .ref (gx_ad E 21)])) := rfl
theorem gx_w20 (E : gx_E) (x : gx_S) : (gx_wd E x)[20]? = some (gx_ad E 20, .inl (gx_id E 0, 7, .inl (gx_gA x 14))) := rfl
theorem gx_q20 (E : gx_E) (x : gx_S) (i : Nat) (v : Int32) : (gx_wd E x).set 20 (gx_ad E 20, .inl (gx_id E 0, 7, .inl (upd (gx_gA x 14) i v))) = gx_wd E (gx_sA x 14 i v) := rfl
theorem gx_c20 (E : gx_E) (x : gx_S) (f : Nat → Int32) : (gx_wd E x).set 20 (gx_ad E 20, .inl (gx_id E 0, 7, .inl f)) = gx_wd E (gx_sF x 14 f) := rfl
theorem gx_w21 (E : gx_E) (x : gx_S) : (gx_wd E x)[21]? = some (gx_ad E 21, .inl (gx_id E 0, 7, .inl (gx_gA x 15))) := rfl
theorem gx_q21 (E : gx_E) (x : gx_S) (i : Nat) (v : Int32) : (gx_wd E x).set 21 (gx_ad E 21, .inl (gx_id E 0, 7, .inl (upd (gx_gA x 15) i v))) = gx_wd E (gx_sA x 15 i v) := rfl
theorem gx_c21 (E : gx_E) (x : gx_S) (f : Nat → Int32) : (gx_wd E x).set 21 (gx_ad E 21, .inl (gx_id E 0, 7, .inl f)) = gx_wd E (gx_sF x 15 f) := rfl
theorem gx_w22 (E : gx_E) (x : gx_S) : (gx_wd E x)[22]? = some (gx_ad E 22, .inr (7, [.ref (gx_ad E 3), .ref (gx_ad E 23), .ref (gx_ad E 24)])) := rfl
theorem gx_w23 (E : gx_E) (x : gx_S) : (gx_wd E x)[23]? = some (gx_ad E 23, .inl (gx_id E 0, 7, .inl (gx_gA x 16))) := rfl
theorem gx_q23 (E : gx_E) (x : gx_S) (i : Nat) (v : Int32) : (gx_wd E x).set 23 (gx_ad E 23, .inl (gx_id E 0, 7, .inl (upd (gx_gA x 16) i v))) = gx_wd E (gx_sA x 16 i v) := rfl
theorem gx_c23 (E : gx_E) (x : gx_S) (f : Nat → Int32) : (gx_wd E x).set 23 (gx_ad E 23, .inl (gx_id E 0, 7, .inl f)) = gx_wd E (gx_sF x 16 f) := rfl
theorem gx_w24 (E : gx_E) (x : gx_S) : (gx_wd E x)[24]? = some (gx_ad E 24, .inl (gx_id E 0, 7, .inl (gx_gA x 17))) := rfl
theorem gx_q24 (E : gx_E) (x : gx_S) (i : Nat) (v : Int32) : (gx_wd E x).set 24 (gx_ad E 24, .inl (gx_id E 0, 7, .inl (upd (gx_gA x 17) i v))) = gx_wd E (gx_sA x 17 i v) := rfl
theorem gx_c24 (E : gx_E) (x : gx_S) (f : Nat → Int32) : (gx_wd E x).set 24 (gx_ad E 24, .inl (gx_id E 0, 7, .inl f)) = gx_wd E (gx_sF x 17 f) := rfl
theorem gx_w25 (E : gx_E) (x : gx_S) : (gx_wd E x)[25]? = some (gx_ad E 25, .inr (6, [.ref (gx_ad E 0), .ref (gx_ad E 3), .ref (gx_ad E 9), .ref (gx_ad E 13), .ref (gx_ad E 15), .ref (gx_ad E 19), .ref (gx_ad E 22), .ref (gx_ad E 26), .ref (gx_ad E 27), .int (gx_gI x 8), .int (gx_gI x 9), .int (gx_gI x 10)])) := rfl
theorem gx_p25_9 (E : gx_E) (x : gx_S) (v : Int32) : (gx_wd E x).set 25 (gx_ad E 25, .inr (6, ([.ref (gx_ad E 0), .ref (gx_ad E 3), .ref (gx_ad E 9), .ref (gx_ad E 13), .ref (gx_ad E 15), .ref (gx_ad E 19), .ref (gx_ad E 22), .ref (gx_ad E 26), .ref (gx_ad E 27), .int (gx_gI x 8), .int (gx_gI x 9), .int (gx_gI x 10)] : List Value).set 9 (.int v))) = gx_wd E (gx_sI x 8 v) := rfl
theorem gx_p25_10 (E : gx_E) (x : gx_S) (v : Int32) : (gx_wd E x).set 25 (gx_ad E 25, .inr (6, ([.ref (gx_ad E 0), .ref (gx_ad E 3), .ref (gx_ad E 9), .ref (gx_ad E 13), .ref (gx_ad E 15), .ref (gx_ad E 19), .ref (gx_ad E 22), .ref (gx_ad E 26), .ref (gx_ad E 27), .int (gx_gI x 8), .int (gx_gI x 9), .int (gx_gI x 10)] : List Value).set 10 (.int v))) = gx_wd E (gx_sI x 9 v) := rfl
theorem gx_p25_11 (E : gx_E) (x : gx_S) (v : Int32) : (gx_wd E x).set 25 (gx_ad E 25, .inr (6, ([.ref (gx_ad E 0), .ref (gx_ad E 3), .ref (gx_ad E 9), .ref (gx_ad E 13), .ref (gx_ad E 15), .ref (gx_ad E 19), .ref (gx_ad E 22), .ref (gx_ad E 26), .ref (gx_ad E 27), .int (gx_gI x 8), .int (gx_gI x 9), .int (gx_gI x 10)] : List Value).set 11 (.int v))) = gx_wd E (gx_sI x 10 v) := rfl
theorem gx_w26 (E : gx_E) (x : gx_S) : (gx_wd E x)[26]? = some (gx_ad E 26, .inl (gx_id E 0, 567, .inl (gx_gA x 18))) := rfl
theorem gx_q26 (E : gx_E) (x : gx_S) (i : Nat) (v : Int32) : (gx_wd E x).set 26 (gx_ad E 26, .inl (gx_id E 0, 567, .inl (upd (gx_gA x 18) i v))) = gx_wd E (gx_sA x 18 i v) := rfl
theorem gx_c26 (E : gx_E) (x : gx_S) (f : Nat → Int32) : (gx_wd E x).set 26 (gx_ad E 26, .inl (gx_id E 0, 567, .inl f)) = gx_wd E (gx_sF x 18 f) := rfl
theorem gx_w27 (E : gx_E) (x : gx_S) : (gx_wd E x)[27]? = some (gx_ad E 27, .inl (gx_id E 0, 7, .inl (gx_gA x 19))) := rfl
theorem gx_q27 (E : gx_E) (x : gx_S) (i : Nat) (v : Int32) : (gx_wd E x).set 27 (gx_ad E 27, .inl (gx_id E 0, 7, .inl (upd (gx_gA x 19) i v))) = gx_wd E (gx_sA x 19 i v) := rfl
theorem gx_c27 (E : gx_E) (x : gx_S) (f : Nat → Int32) : (gx_wd E x).set 27 (gx_ad E 27, .inl (gx_id E 0, 7, .inl f)) = gx_wd E (gx_sF x 19 f) := rfl
theorem gx_w28 (E : gx_E) (x : gx_S) : (gx_wd E x)[28]? = some (gx_ad E 28, .inr (0, [.ref (gx_ad E 0), .ref (gx_ad E 3), .ref (gx_ad E 9), .ref (gx_ad E 13), .ref (gx_ad E 15), .ref (gx_ad E 25)])) := rfl
theorem gx_w29 (E : gx_E) (x : gx_S) : (gx_wd E x)[29]? = some (gx_ad E 29, .inr (8, [.int (gx_gI x 11), .int (gx_gI x 12), .int (gx_gI x 13), .ref (gx_ad E 30), .ref (gx_ad E 31), .int (gx_gI x 14), .ref (gx_ad E 32), .ref (gx_ad E 33), .ref (gx_ad E 34), .ref (gx_ad E 35), .ref (gx_ad E 36), .int (gx_gI x 15), .ref (gx_ad E 37), .ref (gx_ad E 38), .ref (gx_ad E 39), .int (gx_gI x 16), .ref (gx_ad E 40), .ref (gx_ad E 41), .int (gx_gI x 17), .ref (gx_ad E 42), .ref (gx_ad E 43), .ref (gx_ad E 44), .ref (gx_ad E 45), .ref (gx_ad E 46), .int (gx_gI x 18), .int (gx_gI x 19), .int (gx_gI x 20), .ref (gx_ad E 47)])) := rfl
theorem gx_p29_0 (E : gx_E) (x : gx_S) (v : Int32) : (gx_wd E x).set 29 (gx_ad E 29, .inr (8, ([.int (gx_gI x 11), .int (gx_gI x 12), .int (gx_gI x 13), .ref (gx_ad E 30), .ref (gx_ad E 31), .int (gx_gI x 14), .ref (gx_ad E 32), .ref (gx_ad E 33), .ref (gx_ad E 34), .ref (gx_ad E 35), .ref (gx_ad E 36), .int (gx_gI x 15), .ref (gx_ad E 37), .ref (gx_ad E 38), .ref (gx_ad E 39), .int (gx_gI x 16), .ref (gx_ad E 40), .ref (gx_ad E 41), .int (gx_gI x 17), .ref (gx_ad E 42), .ref (gx_ad E 43), .ref (gx_ad E 44), .ref (gx_ad E 45), .ref (gx_ad E 46), .int (gx_gI x 18), .int (gx_gI x 19), .int (gx_gI x 20), .ref (gx_ad E 47)] : List Value).set 0 (.int v))) = gx_wd E (gx_sI x 11 v) := rfl
theorem gx_p29_1 (E : gx_E) (x : gx_S) (v : Int32) : (gx_wd E x).set 29 (gx_ad E 29, .inr (8, ([.int (gx_gI x 11), .int (gx_gI x 12), .int (gx_gI x 13), .ref (gx_ad E 30), .ref (gx_ad E 31), .int (gx_gI x 14), .ref (gx_ad E 32), .ref (gx_ad E 33), .ref (gx_ad E 34), .ref (gx_ad E 35), .ref (gx_ad E 36), .int (gx_gI x 15), .ref (gx_ad E 37), .ref (gx_ad E 38), .ref (gx_ad E 39), .int (gx_gI x 16), .ref (gx_ad E 40), .ref (gx_ad E 41), .int (gx_gI x 17), .ref (gx_ad E 42), .ref (gx_ad E 43), .ref (gx_ad E 44), .ref (gx_ad E 45), .ref (gx_ad E 46), .int (gx_gI x 18), .int (gx_gI x 19), .int (gx_gI x 20), .ref (gx_ad E 47)] : List Value).set 1 (.int v))) = gx_wd E (gx_sI x 12 v) := rfl
theorem gx_p29_2 (E : gx_E) (x : gx_S) (v : Int32) : (gx_wd E x).set 29 (gx_ad E 29, .inr (8, ([.int (gx_gI x 11), .int (gx_gI x 12), .int (gx_gI x 13), .ref (gx_ad E 30), .ref (gx_ad E 31), .int (gx_gI x 14), .ref (gx_ad E 32), .ref (gx_ad E 33), .ref (gx_ad E 34), .ref (gx_ad E 35), .ref (gx_ad E 36), .int (gx_gI x 15), .ref (gx_ad E 37), .ref (gx_ad E 38), .ref (gx_ad E 39), .int (gx_gI x 16), .ref (gx_ad E 40), .ref (gx_ad E 41), .int (gx_gI x 17), .ref (gx_ad E 42), .ref (gx_ad E 43), .ref (gx_ad E 44), .ref (gx_ad E 45), .ref (gx_ad E 46), .int (gx_gI x 18), .int (gx_gI x 19), .int (gx_gI x 20), .ref (gx_ad E 47)] : List Value).set 2 (.int v))) = gx_wd E (gx_sI x 13 v) := rfl
theorem gx_p29_5 (E : gx_E) (x : gx_S) (v : Int32) : (gx_wd E x).set 29 (gx_ad E 29, .inr (8, ([.int (gx_gI x 11), .int (gx_gI x 12), .int (gx_gI x 13), .ref (gx_ad E 30), .ref (gx_ad E 31), .int (gx_gI x 14), .ref (gx_ad E 32), .ref (gx_ad E 33), .ref (gx_ad E 34), .ref (gx_ad E 35), .ref (gx_ad E 36), .int (gx_gI x 15), .ref (gx_ad E 37), .ref (gx_ad E 38), .ref (gx_ad E 39), .int (gx_gI x 16), .ref (gx_ad E 40), .ref (gx_ad E 41), .int (gx_gI x 17), .ref (gx_ad E 42), .ref (gx_ad E 43), .ref (gx_ad E 44), .ref (gx_ad E 45), .ref (gx_ad E 46), .int (gx_gI x 18), .int (gx_gI x 19), .int (gx_gI x 20), .ref (gx_ad E 47)] : List Value).set 5 (.int v))) = gx_wd E (gx_sI x 14 v) := rfl
theorem gx_p29_11 (E : gx_E) (x : gx_S) (v : Int32) : (gx_wd E x).set 29 (gx_ad E 29, .inr (8, ([.int (gx_gI x 11), .int (gx_gI x 12), .int (gx_gI x 13), .ref (gx_ad E 30), .ref (gx_ad E 31), .int (gx_gI x 14), .ref (gx_ad E 32), .ref (gx_ad E 33), .ref (gx_ad E 34), .ref (gx_ad E 35), .ref (gx_ad E 36), .int (gx_gI x 15), .ref (gx_ad E 37), .ref (gx_ad E 38), .ref (gx_ad E 39), .int (gx_gI x 16), .ref (gx_ad E 40), .ref (gx_ad E 41), .int (gx_gI x 17), .ref (gx_ad E 42), .ref (gx_ad E 43), .ref (gx_ad E 44), .ref (gx_ad E 45), .ref (gx_ad E 46), .int (gx_gI x 18), .int (gx_gI x 19), .int (gx_gI x 20), .ref (gx_ad E 47)] : List Value).set 11 (.int v))) = gx_wd E (gx_sI x 15 v) := rfl
theorem gx_p29_15 (E : gx_E) (x : gx_S) (v : Int32) : (gx_wd E x).set 29 (gx_ad E 29, .inr (8, ([.int (gx_gI x 11), .int (gx_gI x 12), .int (gx_gI x 13), .ref (gx_ad E 30), .ref (gx_ad E 31), .int (gx_gI x 14), .ref (gx_ad E 32), .ref (gx_ad E 33), .ref (gx_ad E 34), .ref (gx_ad E 35), .ref (gx_ad E 36), .int (gx_gI x 15), .ref (gx_ad E 37), .ref (gx_ad E 38), .ref (gx_ad E 39), .int (gx_gI x 16), .ref (gx_ad E 40), .ref (gx_ad E 41), .int (gx_gI x 17), .ref (gx_ad E 42), .ref (gx_ad E 43), .ref (gx_ad E 44), .ref (gx_ad E 45), .ref (gx_ad E 46), .int (gx_gI x 18), .int (gx_gI x 19), .int (gx_gI x 20), .ref (gx_ad E 47)] : List Value).set 15 (.int v))) = gx_wd E (gx_sI x 16 v) := rfl
theorem gx_p29_18 (E : gx_E) (x : gx_S) (v : Int32) : (gx_wd E x).set 29 (gx_ad E 29, .inr (8, ([.int (gx_gI x 11), .int (gx_gI x 12), .int (gx_gI x 13), .ref (gx_ad E 30), .ref (gx_ad E 31), .int (gx_gI x 14), .ref (gx_ad E 32), .ref (gx_ad E 33), .ref (gx_ad E 34), .ref (gx_ad E 35), .ref (gx_ad E 36), .int (gx_gI x 15), .ref (gx_ad E 37), .ref (gx_ad E 38), .ref (gx_ad E 39), .int (gx_gI x 16), .ref (gx_ad E 40), .ref (gx_ad E 41), .int (gx_gI x 17), .ref (gx_ad E 42), .ref (gx_ad E 43), .ref (gx_ad E 44), .ref (gx_ad E 45), .ref (gx_ad E 46), .int (gx_gI x 18), .int (gx_gI x 19), .int (gx_gI x 20), .ref (gx_ad E 47)] : List Value).set 18 (.int v))) = gx_wd E (gx_sI x 17 v) := rfl
theorem gx_p29_24 (E : gx_E) (x : gx_S) (v : Int32) : (gx_wd E x).set 29 (gx_ad E 29, .inr (8, ([.int (gx_gI x 11), .int (gx_gI x 12), .int (gx_gI x 13), .ref (gx_ad E 30), .ref (gx_ad E 31), .int (gx_gI x 14), .ref (gx_ad E 32), .ref (gx_ad E 33), .ref (gx_ad E 34), .ref (gx_ad E 35), .ref (gx_ad E 36), .int (gx_gI x 15), .ref (gx_ad E 37), .ref (gx_ad E 38), .ref (gx_ad E 39), .int (gx_gI x 16), .ref (gx_ad E 40), .ref (gx_ad E 41), .int (gx_gI x 17), .ref (gx_ad E 42), .ref (gx_ad E 43), .ref (gx_ad E 44), .ref (gx_ad E 45), .ref (gx_ad E 46), .int (gx_gI x 18), .int (gx_gI x 19), .int (gx_gI x 20), .ref (gx_ad E 47)] : List Value).set 24 (.int v))) = gx_wd E (gx_sI x 18 v) := rfl
theorem gx_p29_25 (E : gx_E) (x : gx_S) (v : Int32) : (gx_wd E x).set 29 (gx_ad E 29, .inr (8, ([.int (gx_gI x 11), .int (gx_gI x 12), .int (gx_gI x 13), .ref (gx_ad E 30), .ref (gx_ad E 31), .int (gx_gI x 14), .ref (gx_ad E 32), .ref (gx_ad E 33), .ref (gx_ad E 34), .ref (gx_ad E 35), .ref (gx_ad E 36), .int (gx_gI x 15), .ref (gx_ad E 37), .ref (gx_ad E 38), .ref (gx_ad E 39), .int (gx_gI x 16), .ref (gx_ad E 40), .ref (gx_ad E 41), .int (gx_gI x 17), .ref (gx_ad E 42), .ref (gx_ad E 43), .ref (gx_ad E 44), .ref (gx_ad E 45), .ref (gx_ad E 46), .int (gx_gI x 18), .int (gx_gI x 19), .int (gx_gI x 20), .ref (gx_ad E 47)] : List Value).set 25 (.int v))) = gx_wd E (gx_sI x 19 v) := rfl
theorem gx_p29_26 (E : gx_E) (x : gx_S) (v : Int32) : (gx_wd E x).set 29 (gx_ad E 29, .inr (8, ([.int (gx_gI x 11), .int (gx_gI x 12), .int (gx_gI x 13), .ref (gx_ad E 30), .ref (gx_ad E 31), .int (gx_gI x 14), .ref (gx_ad E 32), .ref (gx_ad E 33), .ref (gx_ad E 34), .ref (gx_ad E 35), .ref (gx_ad E 36), .int (gx_gI x 15), .ref (gx_ad E 37), .ref (gx_ad E 38), .ref (gx_ad E 39), .int (gx_gI x 16), .ref (gx_ad E 40), .ref (gx_ad E 41), .int (gx_gI x 17), .ref (gx_ad E 42), .ref (gx_ad E 43), .ref (gx_ad E 44), .ref (gx_ad E 45), .ref (gx_ad E 46), .int (gx_gI x 18), .int (gx_gI x 19), .int (gx_gI x 20), .ref (gx_ad E 47)] : List Value).set 26 (.int v))) = gx_wd E (gx_sI x 20 v) := rfl
theorem gx_w30 (E : gx_E) (x : gx_S) : (gx_wd E x)[30]? = some (gx_ad E 30, .inl (gx_id E 1, 81, .inl (gx_gA x 20))) := rfl
theorem gx_q30 (E : gx_E) (x : gx_S) (i : Nat) (v : Int32) : (gx_wd E x).set 30 (gx_ad E 30, .inl (gx_id E 1, 81, .inl (upd (gx_gA x 20) i v))) = gx_wd E (gx_sA x 20 i v) := rfl
theorem gx_c30 (E : gx_E) (x : gx_S) (f : Nat → Int32) : (gx_wd E x).set 30 (gx_ad E 30, .inl (gx_id E 1, 81, .inl f)) = gx_wd E (gx_sF x 20 f) := rfl
theorem gx_w31 (E : gx_E) (x : gx_S) : (gx_wd E x)[31]? = some (gx_ad E 31, .inl (gx_id E 0, 81, .inl (gx_gA x 21))) := rfl
theorem gx_q31 (E : gx_E) (x : gx_S) (i : Nat) (v : Int32) : (gx_wd E x).set 31 (gx_ad E 31, .inl (gx_id E 0, 81, .inl (upd (gx_gA x 21) i v))) = gx_wd E (gx_sA x 21 i v) := rfl
theorem gx_c31 (E : gx_E) (x : gx_S) (f : Nat → Int32) : (gx_wd E x).set 31 (gx_ad E 31, .inl (gx_id E 0, 81, .inl f)) = gx_wd E (gx_sF x 21 f) := rfl
theorem gx_w32 (E : gx_E) (x : gx_S) : (gx_wd E x)[32]? = some (gx_ad E 32, .inl (gx_id E 0, 7, .inl (gx_gA x 22))) := rfl
theorem gx_q32 (E : gx_E) (x : gx_S) (i : Nat) (v : Int32) : (gx_wd E x).set 32 (gx_ad E 32, .inl (gx_id E 0, 7, .inl (upd (gx_gA x 22) i v))) = gx_wd E (gx_sA x 22 i v) := rfl
theorem gx_c32 (E : gx_E) (x : gx_S) (f : Nat → Int32) : (gx_wd E x).set 32 (gx_ad E 32, .inl (gx_id E 0, 7, .inl f)) = gx_wd E (gx_sF x 22 f) := rfl
theorem gx_w33 (E : gx_E) (x : gx_S) : (gx_wd E x)[33]? = some (gx_ad E 33, .inl (gx_id E 0, 7, .inl (gx_gA x 23))) := rfl
theorem gx_q33 (E : gx_E) (x : gx_S) (i : Nat) (v : Int32) : (gx_wd E x).set 33 (gx_ad E 33, .inl (gx_id E 0, 7, .inl (upd (gx_gA x 23) i v))) = gx_wd E (gx_sA x 23 i v) := rfl
theorem gx_c33 (E : gx_E) (x : gx_S) (f : Nat → Int32) : (gx_wd E x).set 33 (gx_ad E 33, .inl (gx_id E 0, 7, .inl f)) = gx_wd E (gx_sF x 23 f) := rfl
theorem gx_w34 (E : gx_E) (x : gx_S) : (gx_wd E x)[34]? = some (gx_ad E 34, .inl (gx_id E 0, 7, .inl (gx_gA x 24))) := rfl
theorem gx_q34 (E : gx_E) (x : gx_S) (i : Nat) (v : Int32) : (gx_wd E x).set 34 (gx_ad E 34, .inl (gx_id E 0, 7, .inl (upd (gx_gA x 24) i v))) = gx_wd E (gx_sA x 24 i v) := rfl
theorem gx_c34 (E : gx_E) (x : gx_S) (f : Nat → Int32) : (gx_wd E x).set 34 (gx_ad E 34, .inl (gx_id E 0, 7, .inl f)) = gx_wd E (gx_sF x 24 f) := rfl
theorem gx_w35 (E : gx_E) (x : gx_S) : (gx_wd E x)[35]? = some (gx_ad E 35, .inl (gx_id E 0, 49, .inl (gx_gA x 25))) := rfl
theorem gx_q35 (E : gx_E) (x : gx_S) (i : Nat) (v : Int32) : (gx_wd E x).set 35 (gx_ad E 35, .inl (gx_id E 0, 49, .inl (upd (gx_gA x 25) i v))) = gx_wd E (gx_sA x 25 i v) := rfl
theorem gx_c35 (E : gx_E) (x : gx_S) (f : Nat → Int32) : (gx_wd E x).set 35 (gx_ad E 35, .inl (gx_id E 0, 49, .inl f)) = gx_wd E (gx_sF x 25 f) := rfl
theorem gx_w36 (E : gx_E) (x : gx_S) : (gx_wd E x)[36]? = some (gx_ad E 36, .inl (gx_id E 0, 49, .inl (gx_gA x 26))) := rfl
theorem gx_q36 (E : gx_E) (x : gx_S) (i : Nat) (v : Int32) : (gx_wd E x).set 36 (gx_ad E 36, .inl (gx_id E 0, 49, .inl (upd (gx_gA x 26) i v))) = gx_wd E (gx_sA x 26 i v) := rfl
theorem gx_c36 (E : gx_E) (x : gx_S) (f : Nat → Int32) : (gx_wd E x).set 36 (gx_ad E 36, .inl (gx_id E 0, 49, .inl f)) = gx_wd E (gx_sF x 26 f) := rfl
theorem gx_w37 (E : gx_E) (x : gx_S) : (gx_wd E x)[37]? = some (gx_ad E 37, .inl (gx_id E 0, 8, .inl (gx_gA x 27))) := rfl
theorem gx_q37 (E : gx_E) (x : gx_S) (i : Nat) (v : Int32) : (gx_wd E x).set 37 (gx_ad E 37, .inl (gx_id E 0, 8, .inl (upd (gx_gA x 27) i v))) = gx_wd E (gx_sA x 27 i v) := rfl
theorem gx_c37 (E : gx_E) (x : gx_S) (f : Nat → Int32) : (gx_wd E x).set 37 (gx_ad E 37, .inl (gx_id E 0, 8, .inl f)) = gx_wd E (gx_sF x 27 f) := rfl
theorem gx_w38 (E : gx_E) (x : gx_S) : (gx_wd E x)[38]? = some (gx_ad E 38, .inl (gx_id E 0, 8, .inl (gx_gA x 28))) := rfl
theorem gx_q38 (E : gx_E) (x : gx_S) (i : Nat) (v : Int32) : (gx_wd E x).set 38 (gx_ad E 38, .inl (gx_id E 0, 8, .inl (upd (gx_gA x 28) i v))) = gx_wd E (gx_sA x 28 i v) := rfl
theorem gx_c38 (E : gx_E) (x : gx_S) (f : Nat → Int32) : (gx_wd E x).set 38 (gx_ad E 38, .inl (gx_id E 0, 8, .inl f)) = gx_wd E (gx_sF x 28 f) := rfl
theorem gx_w39 (E : gx_E) (x : gx_S) : (gx_wd E x)[39]? = some (gx_ad E 39, .inl (gx_id E 1, 56, .inl (gx_gA x 29))) := rfl
theorem gx_q39 (E : gx_E) (x : gx_S) (i : Nat) (v : Int32) : (gx_wd E x).set 39 (gx_ad E 39, .inl (gx_id E 1, 56, .inl (upd (gx_gA x 29) i v))) = gx_wd E (gx_sA x 29 i v) := rfl
theorem gx_c39 (E : gx_E) (x : gx_S) (f : Nat → Int32) : (gx_wd E x).set 39 (gx_ad E 39, .inl (gx_id E 1, 56, .inl f)) = gx_wd E (gx_sF x 29 f) := rfl
theorem gx_w40 (E : gx_E) (x : gx_S) : (gx_wd E x)[40]? = some (gx_ad E 40, .inl (gx_id E 0, 6, .inl (gx_gA x 30))) := rfl
theorem gx_q40 (E : gx_E) (x : gx_S) (i : Nat) (v : Int32) : (gx_wd E x).set 40 (gx_ad E 40, .inl (gx_id E 0, 6, .inl (upd (gx_gA x 30) i v))) = gx_wd E (gx_sA x 30 i v) := rfl
theorem gx_c40 (E : gx_E) (x : gx_S) (f : Nat → Int32) : (gx_wd E x).set 40 (gx_ad E 40, .inl (gx_id E 0, 6, .inl f)) = gx_wd E (gx_sF x 30 f) := rfl
theorem gx_w41 (E : gx_E) (x : gx_S) : (gx_wd E x)[41]? = some (gx_ad E 41, .inl (gx_id E 0, 6, .inl (gx_gA x 31))) := rfl
theorem gx_q41 (E : gx_E) (x : gx_S) (i : Nat) (v : Int32) : (gx_wd E x).set 41 (gx_ad E 41, .inl (gx_id E 0, 6, .inl (upd (gx_gA x 31) i v))) = gx_wd E (gx_sA x 31 i v) := rfl
theorem gx_c41 (E : gx_E) (x : gx_S) (f : Nat → Int32) : (gx_wd E x).set 41 (gx_ad E 41, .inl (gx_id E 0, 6, .inl f)) = gx_wd E (gx_sF x 31 f) := rfl
theorem gx_w42 (E : gx_E) (x : gx_S) : (gx_wd E x)[42]? = some (gx_ad E 42, .inl (gx_id E 0, 7, .inl (gx_gA x 32))) := rfl
theorem gx_q42 (E : gx_E) (x : gx_S) (i : Nat) (v : Int32) : (gx_wd E x).set 42 (gx_ad E 42, .inl (gx_id E 0, 7, .inl (upd (gx_gA x 32) i v))) = gx_wd E (gx_sA x 32 i v) := rfl
theorem gx_c42 (E : gx_E) (x : gx_S) (f : Nat → Int32) : (gx_wd E x).set 42 (gx_ad E 42, .inl (gx_id E 0, 7, .inl f)) = gx_wd E (gx_sF x 32 f) := rfl
theorem gx_w43 (E : gx_E) (x : gx_S) : (gx_wd E x)[43]? = some (gx_ad E 43, .inl (gx_id E 0, 7, .inl (gx_gA x 33))) := rfl
theorem gx_q43 (E : gx_E) (x : gx_S) (i : Nat) (v : Int32) : (gx_wd E x).set 43 (gx_ad E 43, .inl (gx_id E 0, 7, .inl (upd (gx_gA x 33) i v))) = gx_wd E (gx_sA x 33 i v) := rfl
theorem gx_c43 (E : gx_E) (x : gx_S) (f : Nat → Int32) : (gx_wd E x).set 43 (gx_ad E 43, .inl (gx_id E 0, 7, .inl f)) = gx_wd E (gx_sF x 33 f) := rfl
theorem gx_w44 (E : gx_E) (x : gx_S) : (gx_wd E x)[44]? = some (gx_ad E 44, .inl (gx_id E 0, 8, .inl (gx_gA x 34))) := rfl
theorem gx_q44 (E : gx_E) (x : gx_S) (i : Nat) (v : Int32) : (gx_wd E x).set 44 (gx_ad E 44, .inl (gx_id E 0, 8, .inl (upd (gx_gA x 34) i v))) = gx_wd E (gx_sA x 34 i v) := rfl
theorem gx_c44 (E : gx_E) (x : gx_S) (f : Nat → Int32) : (gx_wd E x).set 44 (gx_ad E 44, .inl (gx_id E 0, 8, .inl f)) = gx_wd E (gx_sF x 34 f) := rfl
theorem gx_w45 (E : gx_E) (x : gx_S) : (gx_wd E x)[45]? = some (gx_ad E 45, .inl (gx_id E 0, 7, .inl (gx_gA x 35))) := rfl
theorem gx_q45 (E : gx_E) (x : gx_S) (i : Nat) (v : Int32) : (gx_wd E x).set 45 (gx_ad E 45, .inl (gx_id E 0, 7, .inl (upd (gx_gA x 35) i v))) = gx_wd E (gx_sA x 35 i v) := rfl
theorem gx_c45 (E : gx_E) (x : gx_S) (f : Nat → Int32) : (gx_wd E x).set 45 (gx_ad E 45, .inl (gx_id E 0, 7, .inl f)) = gx_wd E (gx_sF x 35 f) := rfl
theorem gx_w46 (E : gx_E) (x : gx_S) : (gx_wd E x)[46]? = some (gx_ad E 46, .inl (gx_id E 0, 7, .inl (gx_gA x 36))) := rfl
theorem gx_q46 (E : gx_E) (x : gx_S) (i : Nat) (v : Int32) : (gx_wd E x).set 46 (gx_ad E 46, .inl (gx_id E 0, 7, .inl (upd (gx_gA x 36) i v))) = gx_wd E (gx_sA x 36 i v) := rfl
theorem gx_c46 (E : gx_E) (x : gx_S) (f : Nat → Int32) : (gx_wd E x).set 46 (gx_ad E 46, .inl (gx_id E 0, 7, .inl f)) = gx_wd E (gx_sF x 36 f) := rfl
theorem gx_w47 (E : gx_E) (x : gx_S) : (gx_wd E x)[47]? = some (gx_ad E 47, .inl (gx_id E 0, 81, .inl (gx_gA x 37))) := rfl
theorem gx_q47 (E : gx_E) (x : gx_S) (i : Nat) (v : Int32) : (gx_wd E x).set 47 (gx_ad E 47, .inl (gx_id E 0, 81, .inl (upd (gx_gA x 37) i v))) = gx_wd E (gx_sA x 37 i v) := rfl
theorem gx_c47 (E : gx_E) (x : gx_S) (f : Nat → Int32) : (gx_wd E x).set 47 (gx_ad E 47, .inl (gx_id E 0, 81, .inl f)) = gx_wd E (gx_sF x 37 f) := rfl
theorem gx_w48 (E : gx_E) (x : gx_S) : (gx_wd E x)[48]? = some (gx_ad E 48, .inl (gx_id E 2, 1, .inr (.inl (gx_gL x)))) := rfl
theorem gx_q48 (E : gx_E) (x : gx_S) (i : Nat) (v : Int64) : (gx_wd E x).set 48 (gx_ad E 48, .inl (gx_id E 2, 1, .inr (.inl (vp_updL (gx_gL x) i v)))) = gx_wd E (gx_sL x i v) := rfl
