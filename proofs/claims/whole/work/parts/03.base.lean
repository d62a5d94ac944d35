/-! what is carried beside the cells: words of the nest, Throwable's two statics, the texts of the throws -/
def gx_Z (C n d : String) (A : Nat → Prop) (U : State) (H : Heap) : Prop := ∃ (c : ClassId) (k : Class) (i : Nat) (f : Field) (a : Nat) (cell : Cell) (v : Value), U.vm.findClass C = some c ∧ U.fieldFound? C n d = some (c, k, i, f) ∧ f.isStatic = true ∧ k.statics = some a ∧ H[a]? = some cell ∧ cell.vm.isStatics = true ∧ cell.cls = c ∧ f.slot < cell.slots.size ∧ k.staticTypes[f.slot]? = some f.type ∧ cell.slots[f.slot]? = some v ∧ v.isRef = true ∧ ¬ A a
theorem gx_Z.moved {C n d : String} {A : Nat → Prop} {u U : State} {H : Heap} (hvm : u.vm.Alike U.vm) (h : gx_Z C n d A u H) : gx_Z C n d A U H := by
  obtain ⟨c, k, i, f, a, cell, v, h0, h1, h2, h3, h4, h5, h6, h7, h8, h9⟩ := h
  obtain ⟨k', hi', he⟩ := State.fieldFound?_setVm hvm h1
  exact ⟨c, k', i, f, a, cell, v, by rw [hvm.findClass]; exact h0, hi', h2, by rw [he]; exact h3, h4, h5, h6, h7, by rw [he]; exact h8, h9⟩
theorem gx_Z.kept {C n d : String} {A : Nat → Prop} {U : State} {H H1 : Heap} (h : gx_Z C n d A U H) (hq : ∀ a : Nat, a < H.size → ¬ A a → H1[a]? = H[a]?) : gx_Z C n d A U H1 := by
  obtain ⟨c, k, i, f, a, cell, v, h0, h1, h2, h3, h4, h5, h6, h7, h8, h9, h10, h11⟩ := h
  exact ⟨c, k, i, f, a, cell, v, h0, h1, h2, h3, by rw [hq a (Array.getElem?_eq_some_iff.mp h4).1 h11]; exact h4, h5, h6, h7, h8, h9, h10, h11⟩
theorem gx_Z.lays {C n d : String} {A : Nat → Prop} {s : State} {args : Array Value} (h : gx_Z C n d A s s.heap) : (Cond.laysStatic C n d).before args s = true := by
  obtain ⟨c, k, i, f, a, cell, v, h0, h1, h2, h3, h4, h5, h6, h7, h8, -⟩ := h
  exact Cond.laysStatic_of h0 h1 h2 h3 h4 h5 h6 h7 h8
theorem gx_Z.isref {C n d : String} {A : Nat → Prop} {s : State} {args : Array Value} (h : gx_Z C n d A s s.heap) : (Cond.isRef (.static C n d)).before args s = true := by
  obtain ⟨c, k, i, f, a, cell, v, h0, h1, h2, h3, h4, h5, h6, h7, h8, h9, h10, -⟩ := h
  have ev : (Term.static C n d).eval args s none [] s = some v := by
    simp [Term.eval, State.fieldNamed?, h1, h2, h3, h4, h5, h9]
  have e2 : (Cond.isRef (.static C n d)).before args s = (Cond.isRef (.static C n d)).holds args s none s [] := rfl
  rw [e2]
  cases v <;> simp_all [Cond.holds, Cond.value, Value.isRef]
def gx_X (_E : gx_E) (A : Nat → Prop) (U : State) : Prop := gx_Z "java/lang/Throwable" "UNASSIGNED_STACK" "[Ljava/lang/StackTraceElement;" A U U.heap ∧ gx_Z "java/lang/Throwable" "SUPPRESSED_SENTINEL" "Ljava/util/List;" A U U.heap ∧ (∀ q ∈ gx_str, ∃ a, vk_R q.1 q.2.1 q.2.2 a U) ∧ ∀ q ∈ gx_nc, va_Nc q.1 q.2 U
theorem gx_X.same {E : gx_E} {A : Nat → Prop} {u U : State} (hv : U.vm = u.vm) (hh : U.heap = u.heap) (h : gx_X E A u) : gx_X E A U := by
  have ha : u.vm.Alike U.vm := by rw [hv]; exact Vm.Alike.refl _
  unfold gx_X
  rw [hh]
  exact ⟨gx_Z.moved ha h.1, gx_Z.moved ha h.2.1, fun q hq => by obtain ⟨a, z⟩ := h.2.2.1 q hq; exact ⟨a, vk_R.same hv z⟩, fun q hq => (h.2.2.2 q hq).moved ha⟩
theorem gx_X.moved {E : gx_E} {A : Nat → Prop} {s U : State} (hW : s.WarmedH U.vm) (hk : ∀ a : Nat, a < s.heap.size → ¬ A a → U.heap[a]? = s.heap[a]?) (h : gx_X E A s) : gx_X E A U :=
  ⟨gx_Z.kept (gx_Z.moved hW.alike h.1) hk, gx_Z.kept (gx_Z.moved hW.alike h.2.1) hk, fun q hq => by obtain ⟨a, z⟩ := h.2.2.1 q hq; exact ⟨a, vk_R.warm hW z⟩, fun q hq => (h.2.2.2 q hq).moved hW.alike⟩
def gx_NW : List Cond := (gx_NF.map (fun q => .fieldLinkNest q.1 q.2.1 q.2.2.1 q.2.2.2.1 q.2.2.2.2.1 q.2.2.2.2.2) ++ gx_NM.map (fun q => .methodLinkNest q.1 q.2.1 q.2.2.1 q.2.2.2)) ++ (gx_NC.map (fun q => .castable q.1 q.2) ++ gx_ND.map (fun q => .declares q))
theorem gx_NW_same {u U : State} {w : Cond} (hv : U.vm = u.vm) (hw : w ∈ gx_NW) (h : va_Nw w u) : va_Nw w U := by
  rcases List.mem_append.mp hw with hw | hw
  · rcases List.mem_append.mp hw with hw | hw
    · obtain ⟨q, -, rfl⟩ := List.mem_map.mp hw
      exact va_Nw.same rfl hv.symm h
    · obtain ⟨q, -, rfl⟩ := List.mem_map.mp hw
      exact va_Nw.same rfl hv.symm h
  · rcases List.mem_append.mp hw with hw | hw
    · obtain ⟨q, -, rfl⟩ := List.mem_map.mp hw
      exact va_Nw.same rfl hv.symm h
    · obtain ⟨q, -, rfl⟩ := List.mem_map.mp hw
      exact va_Nw.same rfl hv.symm h
theorem gx_NW_warm {s U : State} {w : Cond} (hW : s.WarmedH U.vm) (hw : w ∈ gx_NW) (h : va_Nw w s) : va_Nw w U := by
  rcases List.mem_append.mp hw with hw | hw
  · rcases List.mem_append.mp hw with hw | hw
    · obtain ⟨q, -, rfl⟩ := List.mem_map.mp hw
      exact va_Nw.warmF hW h
    · obtain ⟨q, -, rfl⟩ := List.mem_map.mp hw
      exact va_Nw.warmM hW h
  · rcases List.mem_append.mp hw with hw | hw
    · obtain ⟨q, -, rfl⟩ := List.mem_map.mp hw
      exact va_Nw.warmC hW h
    · obtain ⟨q, -, rfl⟩ := List.mem_map.mp hw
      exact va_Nw.warmD hW h
/-! own base: the machine's points (K), the world told by a state x (gx_wd E x), a frame condition f on the heap -/
abbrev gx_K : Type := Program × Launch × Env × Room × State × MethodId × Array Value × List Frame × Method × Code × (State → Prop)
abbrev gx_K.p (K : gx_K) : Program := K.1
abbrev gx_K.l (K : gx_K) : Launch := K.2.1
abbrev gx_K.e (K : gx_K) : Env := K.2.2.1
abbrev gx_K.R (K : gx_K) : Room := K.2.2.2.1
abbrev gx_K.s (K : gx_K) : State := K.2.2.2.2.1
abbrev gx_K.m (K : gx_K) : MethodId := K.2.2.2.2.2.1
abbrev gx_K.args (K : gx_K) : Array Value := K.2.2.2.2.2.2.1
abbrev gx_K.below (K : gx_K) : List Frame := K.2.2.2.2.2.2.2.1
abbrev gx_K.meth (K : gx_K) : Method := K.2.2.2.2.2.2.2.2.1
abbrev gx_K.c (K : gx_K) : Code := K.2.2.2.2.2.2.2.2.2.1
abbrev gx_K.Q (K : gx_K) : State → Prop := K.2.2.2.2.2.2.2.2.2.2
/-- the world's own addresses -/
def gx_in (E : gx_E) : Nat → Prop := fun q => ∃ (k : Nat) (e : va_E), (gx_wd E gx_0)[k]? = some (q, e)
/-- what every method is given beside its cells -/
def gx_U (E : gx_E) (U : State) : Prop := va_K E.1 gx_cl (gx_tys E) U ∧ (∀ w ∈ gx_NW, va_Nw w U) ∧ va_D (fun _ => True) (gx_wd E gx_0) ∧ gx_X E (gx_in E) U
/-- old cells that aren't the world's stay; nothing old is written -/
def gx_A (E : gx_E) (sz : Nat) : Nat → Prop := va_A (gx_wd E gx_0) sz
def gx_B (sz : Nat) : Nat → Prop := fun q => sz ≤ q
/-- writes the world; w = true. writes nothing old; w = false -/
def gx_AB (w : Bool) (E : gx_E) (sz : Nat) : Nat → Prop := match w with
  | true => gx_A E sz
  | false => gx_B sz
def gx_W (K : gx_K) (H : Heap) (locs : List Loc) (n k : Nat) (g : JFrame) : Prop := W K.p K.l K.e K.R K.s K.m K.args K.below K.meth K.c H locs n k K.Q g
def gx_G (K : gx_K) (E : gx_E) (A : Nat → Prop) (n k : Nat) (x : gx_S) (pc : Nat) (lv : List (Nat × Value)) (st : List Value) : Prop :=
  ∀ (H : Heap) (locs : List Loc) (ls : Array Slot), va_P E.1 gx_cl (gx_wd E x) H → va_S A K.s.heap H locs → lv_has ls K.c.maxLocals lv → gx_W K H locs n k (F0 K.m pc ls st)
/-- what stays over a whole method -/
def gx_C (K : gx_K) (E : gx_E) (own : String) (cc : ByteArray) (nL : Nat) : Prop :=
  K.p.tables.exec = Jvm.exec ∧ K.c.code = cc ∧ K.c.maxLocals = nL ∧ K.s.vm.findClass own = some K.m.cls ∧ (∀ w ∈ gx_T, w.before K.args K.s = true) ∧ gx_U E K.s
section GX
variable {K : gx_K} {E : gx_E} {A : Nat → Prop} {n k nL : Nat} {x : gx_S} {pc : Nat} {lv : List (Nat × Value)} {st : List Value} {own : String} {cc : ByteArray}
theorem gx_C.ex (C : gx_C K E own cc nL) : K.p.tables.exec = Jvm.exec := C.1
theorem gx_C.bc (C : gx_C K E own cc nL) : K.c.code = cc := C.2.1
theorem gx_C.ml (C : gx_C K E own cc nL) : K.c.maxLocals = nL := C.2.2.1
theorem gx_C.ow (C : gx_C K E own cc nL) : K.s.vm.findClass own = some K.m.cls := C.2.2.2.1
theorem gx_C.ts (C : gx_C K E own cc nL) : ∀ w ∈ gx_T, w.before K.args K.s = true := C.2.2.2.2.1
theorem gx_C.uu (C : gx_C K E own cc nL) : gx_U E K.s := C.2.2.2.2.2
theorem gx_C.nw (C : gx_C K E own cc nL) : ∀ w ∈ gx_NW, va_Nw w K.s := C.uu.2.1
theorem gx_C.kk (C : gx_C K E own cc nL) : va_K E.1 gx_cl (gx_tys E) K.s := C.uu.1
/-- apartness speaks of the addresses alone -/
theorem gx_Dof {A : Nat → Prop} {w1 w2 : va_W} (h : va_D A w1) (e : w2.map Prod.fst = w1.map Prod.fst) : va_D A w2 := by
  have key : ∀ (i : Nat) (q : Nat × va_E), w2[i]? = some q → ∃ q1 : Nat × va_E, w1[i]? = some q1 ∧ q1.1 = q.1 := by
    intro i q hq
    have h1 : (w2.map Prod.fst)[i]? = some q.1 := by rw [List.getElem?_map, hq]; rfl
    rw [e, List.getElem?_map] at h1
    cases hw : w1[i]? with
    | none => rw [hw] at h1; cases h1
    | some q1 => rw [hw] at h1; exact ⟨q1, rfl, Option.some.inj h1⟩
  refine ⟨fun i j a b ha hb hab => ?_, fun i q hq => ?_⟩
  · obtain ⟨a1, e1, f1⟩ := key i a ha
    obtain ⟨b1, e2, f2⟩ := key j b hb
    exact h.1 i j a1 b1 e1 e2 (by rw [f1, f2]; exact hab)
  · obtain ⟨q1, e1, f1⟩ := key i q hq
    rw [← f1]; exact h.2 i q1 e1
theorem gx_C.dd (C : gx_C K E own cc nL) (y : gx_S) : va_D (gx_AB true E K.s.heap.size) (gx_wd E y) :=
  gx_Dof (w1 := gx_wd E gx_0) ⟨C.uu.2.2.1.1, fun i q hq => Or.inl ⟨i, q.2, hq⟩⟩ (gx_wd_ad E y gx_0)
/-- from 'nothing old written yet' to 'the world may be written' -/
theorem gx_toF (kk : gx_G K E (gx_AB true E K.s.heap.size) n k x pc lv st) : gx_G K E (gx_AB false E K.s.heap.size) n k x pc lv st :=
  fun H locs ls hP hF hl => kk H locs ls hP ⟨hF.1, fun q h h2 => hF.2.1 q h (fun z => h2 (Or.inr z)), fun q h => Or.inr (hF.2.2 q h)⟩ hl
theorem gx_widen {n' k' : Nat} (h1 : n ≤ n') (h2 : k ≤ k') (kk : gx_G K E A n' k' x pc lv st) : gx_G K E A n k x pc lv st :=
  fun H locs ls hP hF hl => W.widen h1 h2 (kk H locs ls hP hF hl)
theorem gx_lv {lv' : List (Nat × Value)} (ks : List Nat) (h : lv_pick lv ks = lv') (kk : gx_G K E A n k x pc lv' st) : gx_G K E A n k x pc lv st :=
  fun H locs ls hP hF hl => kk H locs ls hP hF (lv_sub hl ks h)

theorem gx_iconst (C : gx_C K E own cc nL) {z : Int} {v : Int32} (d : decode cc pc = .ok (.iconst z, 1)) (hv : Int32.ofInt z = v)
    (kk : gx_G K E A n k x (pc + 1) lv (.int v :: st)) : gx_G K E A n k x pc lv (st) :=
  fun H locs ls hP hF hl => lv_iconst C.ex C.bc d hv (kk H locs ls hP hF hl)
theorem gx_bipush (C : gx_C K E own cc nL) {z : Int} {v : Int32} (d : decode cc pc = .ok (.bipush z, 2)) (hv : (Int8.ofInt z).toInt32 = v)
    (kk : gx_G K E A n k x (pc + 2) lv (.int v :: st)) : gx_G K E A n k x pc lv (st) :=
  fun H locs ls hP hF hl => lv_bipush C.ex C.bc d hv (kk H locs ls hP hF hl)
theorem gx_sipush (C : gx_C K E own cc nL) {z : Int} {v : Int32} (d : decode cc pc = .ok (.sipush z, 3)) (hv : (Int16.ofInt z).toInt32 = v)
    (kk : gx_G K E A n k x (pc + 3) lv (.int v :: st)) : gx_G K E A n k x pc lv (st) :=
  fun H locs ls hP hF hl => lv_sipush C.ex C.bc d hv (kk H locs ls hP hF hl)
theorem gx_lconst (C : gx_C K E own cc nL) {z : Fin 2} {v : Int64} (d : decode cc pc = .ok (.lconst z, 1)) (hv : Int64.ofNat (z : Nat) = v)
    (kk : gx_G K E A n k x (pc + 1) lv (.long v :: st)) : gx_G K E A n k x pc lv (st) :=
  fun H locs ls hP hF hl => lv_lconst C.ex C.bc d hv (kk H locs ls hP hF hl)
theorem gx_iload_n (C : gx_C K E own cc nL) {q : Fin 4} {i : Nat} {v : Int32} (j : Nat) (d : decode cc pc = .ok (.iload_n q, 1)) (hi : (q : Nat) = i) (hj : lv[j]? = some (i, .int v))
    (kk : gx_G K E A n k x (pc + 1) lv (.int v :: st)) : gx_G K E A n k x pc lv (st) :=
  fun H locs ls hP hF hl => lv_iload_n C.ex C.bc d hi (lv_at hl j hj) (kk H locs ls hP hF hl)
theorem gx_iload (C : gx_C K E own cc nL) {i : Nat} {v : Int32} (j : Nat) (d : decode cc pc = .ok (.iload i, 2)) (hj : lv[j]? = some (i, .int v))
    (kk : gx_G K E A n k x (pc + 2) lv (.int v :: st)) : gx_G K E A n k x pc lv (st) :=
  fun H locs ls hP hF hl => lv_iload C.ex C.bc d (lv_at hl j hj) (kk H locs ls hP hF hl)
theorem gx_istore_n (C : gx_C K E own cc nL) {q : Fin 4} {i : Nat} {v : Int32} {lv' : List (Nat × Value)} (d : decode cc pc = .ok (.istore_n q, 1)) (hi : (q : Nat) = i) (hn : i < nL) (hv : (i, Value.int v) :: lv.filter (fun q => !(q.1 == i) && !(q.1 + 1 == i && q.2.category == 2)) = lv')
    (kk : gx_G K E A n k x (pc + 1) lv' st) : gx_G K E A n k x pc lv (.int v :: st) :=
  fun H locs ls hP hF hl => lv_istore_n C.ex C.bc d hi hl (by rw [C.ml]; exact hn) hv (fun ls' hl' => kk H locs ls' hP hF hl')
theorem gx_istore (C : gx_C K E own cc nL) {i : Nat} {v : Int32} {lv' : List (Nat × Value)} (d : decode cc pc = .ok (.istore i, 2)) (hn : i < nL) (hv : (i, Value.int v) :: lv.filter (fun q => !(q.1 == i) && !(q.1 + 1 == i && q.2.category == 2)) = lv')
    (kk : gx_G K E A n k x (pc + 2) lv' st) : gx_G K E A n k x pc lv (.int v :: st) :=
  fun H locs ls hP hF hl => lv_istore C.ex C.bc d hl (by rw [C.ml]; exact hn) hv (fun ls' hl' => kk H locs ls' hP hF hl')
theorem gx_aload_n (C : gx_C K E own cc nL) {q : Fin 4} {i : Nat} {v : Nat} (j : Nat) (d : decode cc pc = .ok (.aload_n q, 1)) (hi : (q : Nat) = i) (hj : lv[j]? = some (i, .ref v))
    (kk : gx_G K E A n k x (pc + 1) lv (.ref v :: st)) : gx_G K E A n k x pc lv (st) :=
  fun H locs ls hP hF hl => lv_aload_n C.ex C.bc d hi (lv_at hl j hj) (kk H locs ls hP hF hl)
theorem gx_aload (C : gx_C K E own cc nL) {i : Nat} {v : Nat} (j : Nat) (d : decode cc pc = .ok (.aload i, 2)) (hj : lv[j]? = some (i, .ref v))
    (kk : gx_G K E A n k x (pc + 2) lv (.ref v :: st)) : gx_G K E A n k x pc lv (st) :=
  fun H locs ls hP hF hl => lv_aload C.ex C.bc d (lv_at hl j hj) (kk H locs ls hP hF hl)
theorem gx_astore_n (C : gx_C K E own cc nL) {q : Fin 4} {i : Nat} {v : Nat} {lv' : List (Nat × Value)} (d : decode cc pc = .ok (.astore_n q, 1)) (hi : (q : Nat) = i) (hn : i < nL) (hv : (i, Value.ref v) :: lv.filter (fun q => !(q.1 == i) && !(q.1 + 1 == i && q.2.category == 2)) = lv')
    (kk : gx_G K E A n k x (pc + 1) lv' st) : gx_G K E A n k x pc lv (.ref v :: st) :=
  fun H locs ls hP hF hl => lv_astore_n C.ex C.bc d hi hl (by rw [C.ml]; exact hn) hv (fun ls' hl' => kk H locs ls' hP hF hl')
theorem gx_astore (C : gx_C K E own cc nL) {i : Nat} {v : Nat} {lv' : List (Nat × Value)} (d : decode cc pc = .ok (.astore i, 2)) (hn : i < nL) (hv : (i, Value.ref v) :: lv.filter (fun q => !(q.1 == i) && !(q.1 + 1 == i && q.2.category == 2)) = lv')
    (kk : gx_G K E A n k x (pc + 2) lv' st) : gx_G K E A n k x pc lv (.ref v :: st) :=
  fun H locs ls hP hF hl => lv_astore C.ex C.bc d hl (by rw [C.ml]; exact hn) hv (fun ls' hl' => kk H locs ls' hP hF hl')
theorem gx_lload_n (C : gx_C K E own cc nL) {q : Fin 4} {i : Nat} {v : Int64} (j : Nat) (d : decode cc pc = .ok (.lload_n q, 1)) (hi : (q : Nat) = i) (hj : lv[j]? = some (i, .long v))
    (kk : gx_G K E A n k x (pc + 1) lv (.long v :: st)) : gx_G K E A n k x pc lv (st) :=
  fun H locs ls hP hF hl => lv_lload_n C.ex C.bc d hi (lv_at hl j hj) (kk H locs ls hP hF hl)
theorem gx_lload (C : gx_C K E own cc nL) {i : Nat} {v : Int64} (j : Nat) (d : decode cc pc = .ok (.lload i, 2)) (hj : lv[j]? = some (i, .long v))
    (kk : gx_G K E A n k x (pc + 2) lv (.long v :: st)) : gx_G K E A n k x pc lv (st) :=
  fun H locs ls hP hF hl => lv_lload C.ex C.bc d (lv_at hl j hj) (kk H locs ls hP hF hl)
theorem gx_lstore_n (C : gx_C K E own cc nL) {q : Fin 4} {i : Nat} {v : Int64} {lv' : List (Nat × Value)} (d : decode cc pc = .ok (.lstore_n q, 1)) (hi : (q : Nat) = i) (hn : i + 1 < nL) (hv : (i, Value.long v) :: lv.filter (fun q => !(q.1 == i) && (!(q.1 == i + 1) && !(q.1 + 1 == i && q.2.category == 2))) = lv')
    (kk : gx_G K E A n k x (pc + 1) lv' st) : gx_G K E A n k x pc lv (.long v :: st) :=
  fun H locs ls hP hF hl => lv_lstore_n C.ex C.bc d hi hl (by rw [C.ml]; exact hn) hv (fun ls' hl' => kk H locs ls' hP hF hl')
theorem gx_lstore (C : gx_C K E own cc nL) {i : Nat} {v : Int64} {lv' : List (Nat × Value)} (d : decode cc pc = .ok (.lstore i, 2)) (hn : i + 1 < nL) (hv : (i, Value.long v) :: lv.filter (fun q => !(q.1 == i) && (!(q.1 == i + 1) && !(q.1 + 1 == i && q.2.category == 2))) = lv')
    (kk : gx_G K E A n k x (pc + 2) lv' st) : gx_G K E A n k x pc lv (.long v :: st) :=
  fun H locs ls hP hF hl => lv_lstore C.ex C.bc d hl (by rw [C.ml]; exact hn) hv (fun ls' hl' => kk H locs ls' hP hF hl')
theorem gx_iinc (C : gx_C K E own cc nL) {i : Nat} {z : Int} {a v : Int32} {lv' : List (Nat × Value)} (j : Nat) (d : decode cc pc = .ok (.iinc i z, 3)) (hj : lv[j]? = some (i, .int a)) (hv : a + Int32.ofInt z = v) (hn : i < nL) (hl' : (i, Value.int v) :: lv.filter (fun q => !(q.1 == i) && !(q.1 + 1 == i && q.2.category == 2)) = lv')
    (kk : gx_G K E A n k x (pc + 3) lv' st) : gx_G K E A n k x pc lv st :=
  fun H locs ls hP hF hl => lv_iinc C.ex C.bc d hl hj hv (by rw [C.ml]; exact hn) hl' (fun ls2 hl2 => kk H locs ls2 hP hF hl2)
theorem gx_iadd (C : gx_C K E own cc nL) {a b : Int32} (d : decode cc pc = .ok (.iadd, 1)) 
    (kk : gx_G K E A n k x (pc + 1) lv (.int (a + b) :: st)) : gx_G K E A n k x pc lv (.int b :: .int a :: st) :=
  fun H locs ls hP hF hl => lv_iadd C.ex C.bc d (kk H locs ls hP hF hl)
theorem gx_isub (C : gx_C K E own cc nL) {a b : Int32} (d : decode cc pc = .ok (.isub, 1)) 
    (kk : gx_G K E A n k x (pc + 1) lv (.int (a - b) :: st)) : gx_G K E A n k x pc lv (.int b :: .int a :: st) :=
  fun H locs ls hP hF hl => lv_isub C.ex C.bc d (kk H locs ls hP hF hl)
theorem gx_imul (C : gx_C K E own cc nL) {a b : Int32} (d : decode cc pc = .ok (.imul, 1)) 
    (kk : gx_G K E A n k x (pc + 1) lv (.int (a * b) :: st)) : gx_G K E A n k x pc lv (.int b :: .int a :: st) :=
  fun H locs ls hP hF hl => lv_imul C.ex C.bc d (kk H locs ls hP hF hl)
theorem gx_iand (C : gx_C K E own cc nL) {a b : Int32} (d : decode cc pc = .ok (.iand, 1)) 
    (kk : gx_G K E A n k x (pc + 1) lv (.int (a &&& b) :: st)) : gx_G K E A n k x pc lv (.int b :: .int a :: st) :=
  fun H locs ls hP hF hl => lv_iand C.ex C.bc d (kk H locs ls hP hF hl)
theorem gx_ior (C : gx_C K E own cc nL) {a b : Int32} (d : decode cc pc = .ok (.ior, 1)) 
    (kk : gx_G K E A n k x (pc + 1) lv (.int (a ||| b) :: st)) : gx_G K E A n k x pc lv (.int b :: .int a :: st) :=
  fun H locs ls hP hF hl => lv_ior C.ex C.bc d (kk H locs ls hP hF hl)
theorem gx_ixor (C : gx_C K E own cc nL) {a b : Int32} (d : decode cc pc = .ok (.ixor, 1)) 
    (kk : gx_G K E A n k x (pc + 1) lv (.int (a ^^^ b) :: st)) : gx_G K E A n k x pc lv (.int b :: .int a :: st) :=
  fun H locs ls hP hF hl => lv_ixor C.ex C.bc d (kk H locs ls hP hF hl)
theorem gx_ishl (C : gx_C K E own cc nL) {a b : Int32} (d : decode cc pc = .ok (.ishl, 1)) 
    (kk : gx_G K E A n k x (pc + 1) lv (.int (a <<< (b &&& 31)) :: st)) : gx_G K E A n k x pc lv (.int b :: .int a :: st) :=
  fun H locs ls hP hF hl => lv_ishl C.ex C.bc d (kk H locs ls hP hF hl)
theorem gx_ishr (C : gx_C K E own cc nL) {a b : Int32} (d : decode cc pc = .ok (.ishr, 1)) 
    (kk : gx_G K E A n k x (pc + 1) lv (.int (a >>> (b &&& 31)) :: st)) : gx_G K E A n k x pc lv (.int b :: .int a :: st) :=
  fun H locs ls hP hF hl => lv_ishr C.ex C.bc d (kk H locs ls hP hF hl)
theorem gx_idiv (C : gx_C K E own cc nL) {a b : Int32} (d : decode cc pc = .ok (.idiv, 1)) (hb : ¬ b = 0)
    (kk : gx_G K E A n k x (pc + 1) lv (.int (a / b) :: st)) : gx_G K E A n k x pc lv (.int b :: .int a :: st) :=
  fun H locs ls hP hF hl => lv_idiv C.ex C.bc d hb (kk H locs ls hP hF hl)
theorem gx_irem (C : gx_C K E own cc nL) {a b : Int32} (d : decode cc pc = .ok (.irem, 1)) (hb : ¬ b = 0)
    (kk : gx_G K E A n k x (pc + 1) lv (.int (a - a / b * b) :: st)) : gx_G K E A n k x pc lv (.int b :: .int a :: st) :=
  fun H locs ls hP hF hl => lv_irem C.ex C.bc d hb (kk H locs ls hP hF hl)
theorem gx_ineg (C : gx_C K E own cc nL) {a : Int32} (d : decode cc pc = .ok (.ineg, 1)) 
    (kk : gx_G K E A n k x (pc + 1) lv (.int (-a) :: st)) : gx_G K E A n k x pc lv (.int a :: st) :=
  fun H locs ls hP hF hl => lv_ineg C.ex C.bc d (kk H locs ls hP hF hl)
theorem gx_iushr (C : gx_C K E own cc nL) {a b v : Int32} (d : decode cc pc = .ok (.iushr, 1)) (hv : (a.toUInt32 >>> (b.toUInt32 &&& Int32.toUInt32 31)).toInt32 = v)
    (kk : gx_G K E A n k x (pc + 1) lv (.int v :: st)) : gx_G K E A n k x pc lv (.int b :: .int a :: st) :=
  fun H locs ls hP hF hl => lv_iushr C.ex C.bc d hv (kk H locs ls hP hF hl)
theorem gx_i2l (C : gx_C K E own cc nL) {a : Int32} {v : Int64} (d : decode cc pc = .ok (.i2l, 1)) (hv : a.toInt64 = v)
    (kk : gx_G K E A n k x (pc + 1) lv (.long v :: st)) : gx_G K E A n k x pc lv (.int a :: st) :=
  fun H locs ls hP hF hl => lv_i2l C.ex C.bc d hv (kk H locs ls hP hF hl)
theorem gx_l2i (C : gx_C K E own cc nL) {a : Int64} {v : Int32} (d : decode cc pc = .ok (.l2i, 1)) (hv : a.toInt32 = v)
    (kk : gx_G K E A n k x (pc + 1) lv (.int v :: st)) : gx_G K E A n k x pc lv (.long a :: st) :=
  fun H locs ls hP hF hl => lv_l2i C.ex C.bc d hv (kk H locs ls hP hF hl)
theorem gx_ladd (C : gx_C K E own cc nL) {a b : Int64} (d : decode cc pc = .ok (.ladd, 1)) 
    (kk : gx_G K E A n k x (pc + 1) lv (.long (a + b) :: st)) : gx_G K E A n k x pc lv (.long b :: .long a :: st) :=
  fun H locs ls hP hF hl => lv_ladd C.ex C.bc d (kk H locs ls hP hF hl)
theorem gx_lsub (C : gx_C K E own cc nL) {a b : Int64} (d : decode cc pc = .ok (.lsub, 1)) 
    (kk : gx_G K E A n k x (pc + 1) lv (.long (a - b) :: st)) : gx_G K E A n k x pc lv (.long b :: .long a :: st) :=
  fun H locs ls hP hF hl => lv_lsub C.ex C.bc d (kk H locs ls hP hF hl)
theorem gx_lmul (C : gx_C K E own cc nL) {a b : Int64} (d : decode cc pc = .ok (.lmul, 1)) 
    (kk : gx_G K E A n k x (pc + 1) lv (.long (a * b) :: st)) : gx_G K E A n k x pc lv (.long b :: .long a :: st) :=
  fun H locs ls hP hF hl => lv_lmul C.ex C.bc d (kk H locs ls hP hF hl)
theorem gx_land (C : gx_C K E own cc nL) {a b : Int64} (d : decode cc pc = .ok (.land, 1)) 
    (kk : gx_G K E A n k x (pc + 1) lv (.long (a &&& b) :: st)) : gx_G K E A n k x pc lv (.long b :: .long a :: st) :=
  fun H locs ls hP hF hl => lv_land C.ex C.bc d (kk H locs ls hP hF hl)
theorem gx_lor (C : gx_C K E own cc nL) {a b : Int64} (d : decode cc pc = .ok (.lor, 1)) 
    (kk : gx_G K E A n k x (pc + 1) lv (.long (a ||| b) :: st)) : gx_G K E A n k x pc lv (.long b :: .long a :: st) :=
  fun H locs ls hP hF hl => lv_lor C.ex C.bc d (kk H locs ls hP hF hl)
theorem gx_lxor (C : gx_C K E own cc nL) {a b : Int64} (d : decode cc pc = .ok (.lxor, 1)) 
    (kk : gx_G K E A n k x (pc + 1) lv (.long (a ^^^ b) :: st)) : gx_G K E A n k x pc lv (.long b :: .long a :: st) :=
  fun H locs ls hP hF hl => lv_lxor C.ex C.bc d (kk H locs ls hP hF hl)
theorem gx_lcmp (C : gx_C K E own cc nL) {a b : Int64} (d : decode cc pc = .ok (.lcmp, 1)) 
    (kk : gx_G K E A n k x (pc + 1) lv (.int (lg_cmp a b) :: st)) : gx_G K E A n k x pc lv (.long b :: .long a :: st) :=
  fun H locs ls hP hF hl => W.lcmp C.ex C.bc d (kk H locs ls hP hF hl)
theorem gx_dup (C : gx_C K E own cc nL) {a : Value} (d : decode cc pc = .ok (.dup, 1)) (ha : a.category = 1)
    (kk : gx_G K E A n k x (pc + 1) lv (a :: a :: st)) : gx_G K E A n k x pc lv (a :: st) :=
  fun H locs ls hP hF hl => lv_dup C.ex C.bc d ha (kk H locs ls hP hF hl)
theorem gx_pop (C : gx_C K E own cc nL) {a : Value} (d : decode cc pc = .ok (.pop, 1)) (ha : a.category = 1)
    (kk : gx_G K E A n k x (pc + 1) lv (st)) : gx_G K E A n k x pc lv (a :: st) :=
  fun H locs ls hP hF hl => lv_pop C.ex C.bc d ha (kk H locs ls hP hF hl)
theorem gx_dup_x1 (C : gx_C K E own cc nL) {a b : Value} (d : decode cc pc = .ok (.dup_x1, 1)) (ha : a.category = 1) (hb : b.category = 1)
    (kk : gx_G K E A n k x (pc + 1) lv (a :: b :: a :: st)) : gx_G K E A n k x pc lv (a :: b :: st) :=
  fun H locs ls hP hF hl => lv_dup_x1 C.ex C.bc d ha hb (kk H locs ls hP hF hl)
theorem gx_dup_x2 (C : gx_C K E own cc nL) {a b c : Value} (d : decode cc pc = .ok (.dup_x2, 1)) (ha : a.category = 1) (hb : b.category = 1) (hc : c.category = 1)
    (kk : gx_G K E A n k x (pc + 1) lv (a :: b :: c :: a :: st)) : gx_G K E A n k x pc lv (a :: b :: c :: st) :=
  fun H locs ls hP hF hl => lv_dup_x2 C.ex C.bc d ha hb hc (kk H locs ls hP hF hl)
theorem gx_dup2 (C : gx_C K E own cc nL) {a b : Value} (d : decode cc pc = .ok (.dup2, 1)) (ha : a.category = 1) (hb : b.category = 1)
    (kk : gx_G K E A n k x (pc + 1) lv (a :: b :: a :: b :: st)) : gx_G K E A n k x pc lv (a :: b :: st) :=
  fun H locs ls hP hF hl => lv_dup2_11 C.ex C.bc d ha hb (kk H locs ls hP hF hl)
theorem gx_if_eq (C : gx_C K E own cc nL) {a : Int32} {off : Int} {tgt : Nat} (d : decode cc pc = .ok (.ifCond .eq off, 3)) (ht : (pc : Int) + off = (tgt : Int))
    (kt : a = 0 → gx_G K E A n k x tgt lv st) (kf : ¬ a = 0 → gx_G K E A n k x (pc + 3) lv st) : gx_G K E A n k x pc lv (.int a :: st) :=
  fun H locs ls hP hF hl => lv_if_eq C.ex C.bc d ht (fun h => kt h H locs ls hP hF hl) (fun h => kf h H locs ls hP hF hl)
theorem gx_icmp_eq (C : gx_C K E own cc nL) {a b : Int32} {off : Int} {tgt : Nat} (d : decode cc pc = .ok (.if_icmp .eq off, 3)) (ht : (pc : Int) + off = (tgt : Int))
    (kt : a = b → gx_G K E A n k x tgt lv st) (kf : ¬ a = b → gx_G K E A n k x (pc + 3) lv st) : gx_G K E A n k x pc lv (.int b :: .int a :: st) :=
  fun H locs ls hP hF hl => lv_icmp_eq C.ex C.bc d ht (fun h => kt h H locs ls hP hF hl) (fun h => kf h H locs ls hP hF hl)
theorem gx_if_ne (C : gx_C K E own cc nL) {a : Int32} {off : Int} {tgt : Nat} (d : decode cc pc = .ok (.ifCond .ne off, 3)) (ht : (pc : Int) + off = (tgt : Int))
    (kt : ¬ a = 0 → gx_G K E A n k x tgt lv st) (kf : a = 0 → gx_G K E A n k x (pc + 3) lv st) : gx_G K E A n k x pc lv (.int a :: st) :=
  fun H locs ls hP hF hl => lv_if_ne C.ex C.bc d ht (fun h => kt h H locs ls hP hF hl) (fun h => kf h H locs ls hP hF hl)
theorem gx_icmp_ne (C : gx_C K E own cc nL) {a b : Int32} {off : Int} {tgt : Nat} (d : decode cc pc = .ok (.if_icmp .ne off, 3)) (ht : (pc : Int) + off = (tgt : Int))
    (kt : ¬ a = b → gx_G K E A n k x tgt lv st) (kf : a = b → gx_G K E A n k x (pc + 3) lv st) : gx_G K E A n k x pc lv (.int b :: .int a :: st) :=
  fun H locs ls hP hF hl => lv_icmp_ne C.ex C.bc d ht (fun h => kt h H locs ls hP hF hl) (fun h => kf h H locs ls hP hF hl)
theorem gx_if_lt (C : gx_C K E own cc nL) {a : Int32} {off : Int} {tgt : Nat} (d : decode cc pc = .ok (.ifCond .lt off, 3)) (ht : (pc : Int) + off = (tgt : Int))
    (kt : a < 0 → gx_G K E A n k x tgt lv st) (kf : ¬ a < 0 → gx_G K E A n k x (pc + 3) lv st) : gx_G K E A n k x pc lv (.int a :: st) :=
  fun H locs ls hP hF hl => lv_if_lt C.ex C.bc d ht (fun h => kt h H locs ls hP hF hl) (fun h => kf h H locs ls hP hF hl)
theorem gx_icmp_lt (C : gx_C K E own cc nL) {a b : Int32} {off : Int} {tgt : Nat} (d : decode cc pc = .ok (.if_icmp .lt off, 3)) (ht : (pc : Int) + off = (tgt : Int))
    (kt : a < b → gx_G K E A n k x tgt lv st) (kf : ¬ a < b → gx_G K E A n k x (pc + 3) lv st) : gx_G K E A n k x pc lv (.int b :: .int a :: st) :=
  fun H locs ls hP hF hl => lv_icmp_lt C.ex C.bc d ht (fun h => kt h H locs ls hP hF hl) (fun h => kf h H locs ls hP hF hl)
theorem gx_if_ge (C : gx_C K E own cc nL) {a : Int32} {off : Int} {tgt : Nat} (d : decode cc pc = .ok (.ifCond .ge off, 3)) (ht : (pc : Int) + off = (tgt : Int))
    (kt : 0 ≤ a → gx_G K E A n k x tgt lv st) (kf : ¬ 0 ≤ a → gx_G K E A n k x (pc + 3) lv st) : gx_G K E A n k x pc lv (.int a :: st) :=
  fun H locs ls hP hF hl => lv_if_ge C.ex C.bc d ht (fun h => kt h H locs ls hP hF hl) (fun h => kf h H locs ls hP hF hl)
theorem gx_icmp_ge (C : gx_C K E own cc nL) {a b : Int32} {off : Int} {tgt : Nat} (d : decode cc pc = .ok (.if_icmp .ge off, 3)) (ht : (pc : Int) + off = (tgt : Int))
    (kt : b ≤ a → gx_G K E A n k x tgt lv st) (kf : ¬ b ≤ a → gx_G K E A n k x (pc + 3) lv st) : gx_G K E A n k x pc lv (.int b :: .int a :: st) :=
  fun H locs ls hP hF hl => lv_icmp_ge C.ex C.bc d ht (fun h => kt h H locs ls hP hF hl) (fun h => kf h H locs ls hP hF hl)
theorem gx_if_gt (C : gx_C K E own cc nL) {a : Int32} {off : Int} {tgt : Nat} (d : decode cc pc = .ok (.ifCond .gt off, 3)) (ht : (pc : Int) + off = (tgt : Int))
    (kt : 0 < a → gx_G K E A n k x tgt lv st) (kf : ¬ 0 < a → gx_G K E A n k x (pc + 3) lv st) : gx_G K E A n k x pc lv (.int a :: st) :=
  fun H locs ls hP hF hl => lv_if_gt C.ex C.bc d ht (fun h => kt h H locs ls hP hF hl) (fun h => kf h H locs ls hP hF hl)
theorem gx_icmp_gt (C : gx_C K E own cc nL) {a b : Int32} {off : Int} {tgt : Nat} (d : decode cc pc = .ok (.if_icmp .gt off, 3)) (ht : (pc : Int) + off = (tgt : Int))
    (kt : b < a → gx_G K E A n k x tgt lv st) (kf : ¬ b < a → gx_G K E A n k x (pc + 3) lv st) : gx_G K E A n k x pc lv (.int b :: .int a :: st) :=
  fun H locs ls hP hF hl => lv_icmp_gt C.ex C.bc d ht (fun h => kt h H locs ls hP hF hl) (fun h => kf h H locs ls hP hF hl)
theorem gx_if_le (C : gx_C K E own cc nL) {a : Int32} {off : Int} {tgt : Nat} (d : decode cc pc = .ok (.ifCond .le off, 3)) (ht : (pc : Int) + off = (tgt : Int))
    (kt : a ≤ 0 → gx_G K E A n k x tgt lv st) (kf : ¬ a ≤ 0 → gx_G K E A n k x (pc + 3) lv st) : gx_G K E A n k x pc lv (.int a :: st) :=
  fun H locs ls hP hF hl => lv_if_le C.ex C.bc d ht (fun h => kt h H locs ls hP hF hl) (fun h => kf h H locs ls hP hF hl)
theorem gx_icmp_le (C : gx_C K E own cc nL) {a b : Int32} {off : Int} {tgt : Nat} (d : decode cc pc = .ok (.if_icmp .le off, 3)) (ht : (pc : Int) + off = (tgt : Int))
    (kt : a ≤ b → gx_G K E A n k x tgt lv st) (kf : ¬ a ≤ b → gx_G K E A n k x (pc + 3) lv st) : gx_G K E A n k x pc lv (.int b :: .int a :: st) :=
  fun H locs ls hP hF hl => lv_icmp_le C.ex C.bc d ht (fun h => kt h H locs ls hP hF hl) (fun h => kf h H locs ls hP hF hl)
theorem gx_goto (C : gx_C K E own cc nL) {off : Int} {tgt : Nat} (d : decode cc pc = .ok (.goto off, 3)) (ht : (pc : Int) + off = (tgt : Int)) (kk : gx_G K E A n k x tgt lv st) : gx_G K E A n k x pc lv st :=
  fun H locs ls hP hF hl => lv_goto C.ex C.bc d ht (kk H locs ls hP hF hl)
theorem gx_tabOut (C : gx_C K E own cc nL) {dflt lo hi : Int} {offs : Array Int} {len : Nat} {a : Int32} {tgt : Nat} (d : decode cc pc = .ok (.tableswitch dflt lo hi offs, len)) (h : a.toInt < lo ∨ hi < a.toInt) (ht : (pc : Int) + dflt = (tgt : Int))
    (kk : gx_G K E A n k x tgt lv st) : gx_G K E A n k x pc lv (.int a :: st) :=
  fun H locs ls hP hF hl => lv_tableOut C.ex C.bc d h ht (kk H locs ls hP hF hl)
theorem gx_tabIn (C : gx_C K E own cc nL) {dflt lo hi : Int} {offs : Array Int} {len : Nat} {a : Int32} {off : Int} {tgt : Nat} (d : decode cc pc = .ok (.tableswitch dflt lo hi offs, len)) (h1 : ¬ a.toInt < lo) (h2 : ¬ hi < a.toInt) (ho : offs[(a.toInt - lo).toNat]? = some off) (ht : (pc : Int) + off = (tgt : Int))
    (kk : gx_G K E A n k x tgt lv st) : gx_G K E A n k x pc lv (.int a :: st) :=
  fun H locs ls hP hF hl => lv_tableIn C.ex C.bc d h1 h2 ho ht (kk H locs ls hP hF hl)
theorem gx_ldc (C : gx_C K E own cc nL) {index : Nat} {v : Int32} (hc : (Jvm.Cond.constant own index v).before K.args K.s = true) (d : decode cc pc = .ok (.ldc index, 2)) (kk : gx_G K E A n k x (pc + 2) lv (.int v :: st)) : gx_G K E A n k x pc lv st :=
  fun H locs ls hP hF hl => lv_ldc C.ex C.bc C.ow hc d (kk H locs ls hP hF hl)
end GX
